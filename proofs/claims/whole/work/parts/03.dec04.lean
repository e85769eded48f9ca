theorem dX9_init_0 : decode cX9_init 0 = .ok (.aload_n 0, 1) := by decide +kernel
theorem dX9_init_1 : decode cX9_init 1 = .ok (.invokespecial 3, 3) := by decide +kernel
theorem dX9_init_4 : decode cX9_init 4 = .ok (.aload_n 0, 1) := by decide +kernel
theorem dX9_init_5 : decode cX9_init 5 = .ok (.new 9, 3) := by decide +kernel
theorem dX9_init_8 : decode cX9_init 8 = .ok (.dup, 1) := by decide +kernel
theorem dX9_init_9 : decode cX9_init 9 = .ok (.sipush 1400, 3) := by decide +kernel
theorem dX9_init_12 : decode cX9_init 12 = .ok (.invokespecial 11, 3) := by decide +kernel
theorem dX9_init_15 : decode cX9_init 15 = .ok (.putfield 14, 3) := by decide +kernel
theorem dX9_init_18 : decode cX9_init 18 = .ok (.aload_n 0, 1) := by decide +kernel
theorem dX9_init_19 : decode cX9_init 19 = .ok (.new 9, 3) := by decide +kernel
theorem dX9_init_22 : decode cX9_init 22 = .ok (.dup, 1) := by decide +kernel
theorem dX9_init_23 : decode cX9_init 23 = .ok (.sipush 200, 3) := by decide +kernel
theorem dX9_init_26 : decode cX9_init 26 = .ok (.invokespecial 11, 3) := by decide +kernel
theorem dX9_init_29 : decode cX9_init 29 = .ok (.putfield 18, 3) := by decide +kernel
theorem dX9_init_32 : decode cX9_init 32 = .ok (.aload_n 0, 1) := by decide +kernel
theorem dX9_init_33 : decode cX9_init 33 = .ok (.new 21, 3) := by decide +kernel
theorem dX9_init_36 : decode cX9_init 36 = .ok (.dup, 1) := by decide +kernel
theorem dX9_init_37 : decode cX9_init 37 = .ok (.aload_n 0, 1) := by decide +kernel
theorem dX9_init_38 : decode cX9_init 38 = .ok (.getfield 14, 3) := by decide +kernel
theorem dX9_init_41 : decode cX9_init 41 = .ok (.invokespecial 23, 3) := by decide +kernel
theorem dX9_init_44 : decode cX9_init 44 = .ok (.putfield 26, 3) := by decide +kernel
theorem dX9_init_47 : decode cX9_init 47 = .ok (.aload_n 0, 1) := by decide +kernel
theorem dX9_init_48 : decode cX9_init 48 = .ok (.new 30, 3) := by decide +kernel
theorem dX9_init_51 : decode cX9_init 51 = .ok (.dup, 1) := by decide +kernel
theorem dX9_init_52 : decode cX9_init 52 = .ok (.invokespecial 32, 3) := by decide +kernel
theorem dX9_init_55 : decode cX9_init 55 = .ok (.putfield 33, 3) := by decide +kernel
theorem dX9_init_58 : decode cX9_init 58 = .ok (.aload_n 0, 1) := by decide +kernel
theorem dX9_init_59 : decode cX9_init 59 = .ok (.new 37, 3) := by decide +kernel
theorem dX9_init_62 : decode cX9_init 62 = .ok (.dup, 1) := by decide +kernel
theorem dX9_init_63 : decode cX9_init 63 = .ok (.invokespecial 39, 3) := by decide +kernel
theorem dX9_init_66 : decode cX9_init 66 = .ok (.putfield 40, 3) := by decide +kernel
theorem dX9_init_69 : decode cX9_init 69 = .ok (.aload_n 0, 1) := by decide +kernel
theorem dX9_init_70 : decode cX9_init 70 = .ok (.new 44, 3) := by decide +kernel
theorem dX9_init_73 : decode cX9_init 73 = .ok (.dup, 1) := by decide +kernel
theorem dX9_init_74 : decode cX9_init 74 = .ok (.invokespecial 46, 3) := by decide +kernel
theorem dX9_init_77 : decode cX9_init 77 = .ok (.putfield 47, 3) := by decide +kernel
theorem dX9_init_80 : decode cX9_init 80 = .ok (.aload_n 0, 1) := by decide +kernel
theorem dX9_init_81 : decode cX9_init 81 = .ok (.new 51, 3) := by decide +kernel
theorem dX9_init_84 : decode cX9_init 84 = .ok (.dup, 1) := by decide +kernel
theorem dX9_init_85 : decode cX9_init 85 = .ok (.invokespecial 53, 3) := by decide +kernel
theorem dX9_init_88 : decode cX9_init 88 = .ok (.putfield 54, 3) := by decide +kernel
theorem dX9_init_91 : decode cX9_init 91 = .ok (.return_, 1) := by decide +kernel
theorem dX9_append_0 : decode cX9_append 0 = .ok (.aload_n 0, 1) := by decide +kernel
theorem dX9_append_1 : decode cX9_append 1 = .ok (.getfield 14, 3) := by decide +kernel
theorem dX9_append_4 : decode cX9_append 4 = .ok (.getfield 58, 3) := by decide +kernel
theorem dX9_append_7 : decode cX9_append 7 = .ok (.bipush 20, 2) := by decide +kernel
theorem dX9_append_9 : decode cX9_append 9 = .ok (.iadd, 1) := by decide +kernel
theorem dX9_append_10 : decode cX9_append 10 = .ok (.sipush 1400, 3) := by decide +kernel
theorem dX9_append_13 : decode cX9_append 13 = .ok (.if_icmp .le 13, 3) := by decide +kernel
theorem dX9_append_16 : decode cX9_append 16 = .ok (.new 62, 3) := by decide +kernel
theorem dX9_append_19 : decode cX9_append 19 = .ok (.dup, 1) := by decide +kernel
theorem dX9_append_20 : decode cX9_append 20 = .ok (.ldc 64, 2) := by decide +kernel
theorem dX9_append_22 : decode cX9_append 22 = .ok (.invokespecial 66, 3) := by decide +kernel
theorem dX9_append_25 : decode cX9_append 25 = .ok (.athrow, 1) := by decide +kernel
theorem dX9_append_26 : decode cX9_append 26 = .ok (.aload_n 0, 1) := by decide +kernel
theorem dX9_append_27 : decode cX9_append 27 = .ok (.getfield 14, 3) := by decide +kernel
theorem dX9_append_30 : decode cX9_append 30 = .ok (.iload_n 1, 1) := by decide +kernel
theorem dX9_append_31 : decode cX9_append 31 = .ok (.invokevirtual 69, 3) := by decide +kernel
theorem dX9_append_34 : decode cX9_append 34 = .ok (.aload_n 0, 1) := by decide +kernel
theorem dX9_append_35 : decode cX9_append 35 = .ok (.getfield 14, 3) := by decide +kernel
theorem dX9_append_38 : decode cX9_append 38 = .ok (.iload_n 2, 1) := by decide +kernel
theorem dX9_append_39 : decode cX9_append 39 = .ok (.invokevirtual 69, 3) := by decide +kernel
theorem dX9_append_42 : decode cX9_append 42 = .ok (.aload_n 0, 1) := by decide +kernel
theorem dX9_append_43 : decode cX9_append 43 = .ok (.getfield 14, 3) := by decide +kernel
theorem dX9_append_46 : decode cX9_append 46 = .ok (.iload_n 3, 1) := by decide +kernel
theorem dX9_append_47 : decode cX9_append 47 = .ok (.invokevirtual 69, 3) := by decide +kernel
theorem dX9_append_50 : decode cX9_append 50 = .ok (.aload_n 0, 1) := by decide +kernel
theorem dX9_append_51 : decode cX9_append 51 = .ok (.getfield 14, 3) := by decide +kernel
theorem dX9_append_54 : decode cX9_append 54 = .ok (.iload 4, 2) := by decide +kernel
theorem dX9_append_56 : decode cX9_append 56 = .ok (.invokevirtual 69, 3) := by decide +kernel
theorem dX9_append_59 : decode cX9_append 59 = .ok (.aload_n 0, 1) := by decide +kernel
theorem dX9_append_60 : decode cX9_append 60 = .ok (.getfield 14, 3) := by decide +kernel
theorem dX9_append_63 : decode cX9_append 63 = .ok (.iload 5, 2) := by decide +kernel
theorem dX9_append_65 : decode cX9_append 65 = .ok (.invokevirtual 69, 3) := by decide +kernel
theorem dX9_append_68 : decode cX9_append 68 = .ok (.aload_n 0, 1) := by decide +kernel
theorem dX9_append_69 : decode cX9_append 69 = .ok (.getfield 14, 3) := by decide +kernel
theorem dX9_append_72 : decode cX9_append 72 = .ok (.getfield 58, 3) := by decide +kernel
theorem dX9_append_75 : decode cX9_append 75 = .ok (.ireturn, 1) := by decide +kernel
theorem dX9_truncate_0 : decode cX9_truncate 0 = .ok (.iload_n 1, 1) := by decide +kernel
theorem dX9_truncate_1 : decode cX9_truncate 1 = .ok (.ifCond .lt 18, 3) := by decide +kernel
theorem dX9_truncate_4 : decode cX9_truncate 4 = .ok (.iload_n 1, 1) := by decide +kernel
theorem dX9_truncate_5 : decode cX9_truncate 5 = .ok (.aload_n 0, 1) := by decide +kernel
theorem dX9_truncate_6 : decode cX9_truncate 6 = .ok (.getfield 14, 3) := by decide +kernel
theorem dX9_truncate_9 : decode cX9_truncate 9 = .ok (.getfield 58, 3) := by decide +kernel
theorem dX9_truncate_12 : decode cX9_truncate 12 = .ok (.if_icmp .gt 7, 3) := by decide +kernel
theorem dX9_truncate_15 : decode cX9_truncate 15 = .ok (.iconst 1, 1) := by decide +kernel
theorem dX9_truncate_16 : decode cX9_truncate 16 = .ok (.goto 4, 3) := by decide +kernel
theorem dX9_truncate_19 : decode cX9_truncate 19 = .ok (.iconst 0, 1) := by decide +kernel
theorem dX9_truncate_20 : decode cX9_truncate 20 = .ok (.invokestatic 72, 3) := by decide +kernel
theorem dX9_truncate_23 : decode cX9_truncate 23 = .ok (.aload_n 0, 1) := by decide +kernel
theorem dX9_truncate_24 : decode cX9_truncate 24 = .ok (.getfield 14, 3) := by decide +kernel
theorem dX9_truncate_27 : decode cX9_truncate 27 = .ok (.iload_n 1, 1) := by decide +kernel
theorem dX9_truncate_28 : decode cX9_truncate 28 = .ok (.invokevirtual 76, 3) := by decide +kernel
theorem dX9_truncate_31 : decode cX9_truncate 31 = .ok (.return_, 1) := by decide +kernel
theorem dX9_load_0 : decode cX9_load 0 = .ok (.aload_n 0, 1) := by decide +kernel
theorem dX9_load_1 : decode cX9_load 1 = .ok (.getfield 26, 3) := by decide +kernel
theorem dX9_load_4 : decode cX9_load 4 = .ok (.invokevirtual 79, 3) := by decide +kernel
theorem dX9_load_7 : decode cX9_load 7 = .ok (.istore_n 1, 1) := by decide +kernel
theorem dX9_load_8 : decode cX9_load 8 = .ok (.aload_n 0, 1) := by decide +kernel
theorem dX9_load_9 : decode cX9_load 9 = .ok (.getfield 14, 3) := by decide +kernel
theorem dX9_load_12 : decode cX9_load 12 = .ok (.iconst 0, 1) := by decide +kernel
theorem dX9_load_13 : decode cX9_load 13 = .ok (.invokevirtual 76, 3) := by decide +kernel
theorem dX9_load_16 : decode cX9_load 16 = .ok (.iload_n 1, 1) := by decide +kernel
theorem dX9_load_17 : decode cX9_load 17 = .ok (.ifCond .ne 6, 3) := by decide +kernel
theorem dX9_load_20 : decode cX9_load 20 = .ok (.bipush (-4), 2) := by decide +kernel
theorem dX9_load_22 : decode cX9_load 22 = .ok (.ireturn, 1) := by decide +kernel
theorem dX9_load_23 : decode cX9_load 23 = .ok (.aload_n 0, 1) := by decide +kernel
theorem dX9_load_24 : decode cX9_load 24 = .ok (.getfield 54, 3) := by decide +kernel
theorem dX9_load_27 : decode cX9_load 27 = .ok (.aload_n 0, 1) := by decide +kernel
theorem dX9_load_28 : decode cX9_load 28 = .ok (.getfield 33, 3) := by decide +kernel
theorem dX9_load_31 : decode cX9_load 31 = .ok (.invokevirtual 83, 3) := by decide +kernel
theorem dX9_load_34 : decode cX9_load 34 = .ok (.aload_n 0, 1) := by decide +kernel
theorem dX9_load_35 : decode cX9_load 35 = .ok (.getfield 33, 3) := by decide +kernel
theorem dX9_load_38 : decode cX9_load 38 = .ok (.aload_n 0, 1) := by decide +kernel
theorem dX9_load_39 : decode cX9_load 39 = .ok (.getfield 26, 3) := by decide +kernel
theorem dX9_load_42 : decode cX9_load 42 = .ok (.getfield 87, 3) := by decide +kernel
theorem dX9_load_45 : decode cX9_load 45 = .ok (.invokevirtual 88, 3) := by decide +kernel
theorem dX9_load_48 : decode cX9_load 48 = .ok (.aload_n 0, 1) := by decide +kernel
theorem dX9_load_49 : decode cX9_load 49 = .ok (.getfield 33, 3) := by decide +kernel
theorem dX9_load_52 : decode cX9_load 52 = .ok (.getfield 91, 3) := by decide +kernel
theorem dX9_load_55 : decode cX9_load 55 = .ok (.getfield 95, 3) := by decide +kernel
theorem dX9_load_58 : decode cX9_load 58 = .ok (.ireturn, 1) := by decide +kernel
theorem dX9_errorCode_0 : decode cX9_errorCode 0 = .ok (.aload_n 0, 1) := by decide +kernel
theorem dX9_errorCode_1 : decode cX9_errorCode 1 = .ok (.getfield 26, 3) := by decide +kernel
theorem dX9_errorCode_4 : decode cX9_errorCode 4 = .ok (.getfield 98, 3) := by decide +kernel
theorem dX9_errorCode_7 : decode cX9_errorCode 7 = .ok (.ireturn, 1) := by decide +kernel
theorem dX9_errorPosition_0 : decode cX9_errorPosition 0 = .ok (.aload_n 0, 1) := by decide +kernel
theorem dX9_errorPosition_1 : decode cX9_errorPosition 1 = .ok (.getfield 26, 3) := by decide +kernel
theorem dX9_errorPosition_4 : decode cX9_errorPosition 4 = .ok (.getfield 98, 3) := by decide +kernel
theorem dX9_errorPosition_7 : decode cX9_errorPosition 7 = .ok (.ifCond .ne 7, 3) := by decide +kernel
theorem dX9_errorPosition_10 : decode cX9_errorPosition 10 = .ok (.iconst (-1), 1) := by decide +kernel
theorem dX9_errorPosition_11 : decode cX9_errorPosition 11 = .ok (.goto 10, 3) := by decide +kernel
theorem dX9_errorPosition_14 : decode cX9_errorPosition 14 = .ok (.aload_n 0, 1) := by decide +kernel
theorem dX9_errorPosition_15 : decode cX9_errorPosition 15 = .ok (.getfield 26, 3) := by decide +kernel
theorem dX9_errorPosition_18 : decode cX9_errorPosition 18 = .ok (.getfield 101, 3) := by decide +kernel
theorem dX9_errorPosition_21 : decode cX9_errorPosition 21 = .ok (.ireturn, 1) := by decide +kernel
theorem dX9_find_0 : decode cX9_find 0 = .ok (.iload_n 1, 1) := by decide +kernel
theorem dX9_find_1 : decode cX9_find 1 = .ok (.invokestatic 104, 3) := by decide +kernel
theorem dX9_find_4 : decode cX9_find 4 = .ok (.invokestatic 72, 3) := by decide +kernel
theorem dX9_find_7 : decode cX9_find 7 = .ok (.aload_n 0, 1) := by decide +kernel
theorem dX9_find_8 : decode cX9_find 8 = .ok (.getfield 14, 3) := by decide +kernel
theorem dX9_find_11 : decode cX9_find 11 = .ok (.iconst 0, 1) := by decide +kernel
theorem dX9_find_12 : decode cX9_find 12 = .ok (.aload_n 0, 1) := by decide +kernel
theorem dX9_find_13 : decode cX9_find 13 = .ok (.getfield 14, 3) := by decide +kernel
theorem dX9_find_16 : decode cX9_find 16 = .ok (.getfield 58, 3) := by decide +kernel
theorem dX9_find_19 : decode cX9_find 19 = .ok (.invokevirtual 108, 3) := by decide +kernel
theorem dX9_find_22 : decode cX9_find 22 = .ok (.istore_n 2, 1) := by decide +kernel
theorem dX9_find_23 : decode cX9_find 23 = .ok (.aload_n 0, 1) := by decide +kernel
theorem dX9_find_24 : decode cX9_find 24 = .ok (.getfield 14, 3) := by decide +kernel
theorem dX9_find_27 : decode cX9_find 27 = .ok (.iconst 0, 1) := by decide +kernel
theorem dX9_find_28 : decode cX9_find 28 = .ok (.invokevirtual 76, 3) := by decide +kernel
theorem dX9_find_31 : decode cX9_find 31 = .ok (.iload_n 2, 1) := by decide +kernel
theorem dX9_find_32 : decode cX9_find 32 = .ok (.ifCond .ne 7, 3) := by decide +kernel
theorem dX9_find_35 : decode cX9_find 35 = .ok (.iconst (-1), 1) := by decide +kernel
theorem dX9_find_36 : decode cX9_find 36 = .ok (.goto 15, 3) := by decide +kernel
theorem dX9_find_39 : decode cX9_find 39 = .ok (.aload_n 0, 1) := by decide +kernel
theorem dX9_find_40 : decode cX9_find 40 = .ok (.getfield 33, 3) := by decide +kernel
theorem dX9_find_43 : decode cX9_find 43 = .ok (.iload_n 1, 1) := by decide +kernel
theorem dX9_find_44 : decode cX9_find 44 = .ok (.invokevirtual 112, 3) := by decide +kernel
theorem dX9_find_47 : decode cX9_find 47 = .ok (.iload_n 2, 1) := by decide +kernel
theorem dX9_find_48 : decode cX9_find 48 = .ok (.invokevirtual 116, 3) := by decide +kernel
theorem dX9_find_51 : decode cX9_find 51 = .ok (.ireturn, 1) := by decide +kernel
theorem dX9_count_0 : decode cX9_count 0 = .ok (.iload_n 1, 1) := by decide +kernel
theorem dX9_count_1 : decode cX9_count 1 = .ok (.invokestatic 104, 3) := by decide +kernel
theorem dX9_count_4 : decode cX9_count 4 = .ok (.invokestatic 72, 3) := by decide +kernel
theorem dX9_count_7 : decode cX9_count 7 = .ok (.aload_n 0, 1) := by decide +kernel
theorem dX9_count_8 : decode cX9_count 8 = .ok (.getfield 33, 3) := by decide +kernel
theorem dX9_count_11 : decode cX9_count 11 = .ok (.iload_n 1, 1) := by decide +kernel
theorem dX9_count_12 : decode cX9_count 12 = .ok (.invokevirtual 112, 3) := by decide +kernel
theorem dX9_count_15 : decode cX9_count 15 = .ok (.getfield 95, 3) := by decide +kernel
theorem dX9_count_18 : decode cX9_count 18 = .ok (.ireturn, 1) := by decide +kernel
theorem dX9_node_0 : decode cX9_node 0 = .ok (.aload_n 0, 1) := by decide +kernel
theorem dX9_node_1 : decode cX9_node 1 = .ok (.iload_n 1, 1) := by decide +kernel
theorem dX9_node_2 : decode cX9_node 2 = .ok (.invokevirtual 120, 3) := by decide +kernel
theorem dX9_node_5 : decode cX9_node 5 = .ok (.iload_n 2, 1) := by decide +kernel
theorem dX9_node_6 : decode cX9_node 6 = .ok (.ifCond .lt 13, 3) := by decide +kernel
theorem dX9_node_9 : decode cX9_node 9 = .ok (.iload_n 2, 1) := by decide +kernel
theorem dX9_node_10 : decode cX9_node 10 = .ok (.bipush 6, 2) := by decide +kernel
theorem dX9_node_12 : decode cX9_node 12 = .ok (.if_icmp .gt 7, 3) := by decide +kernel
theorem dX9_node_15 : decode cX9_node 15 = .ok (.iconst 1, 1) := by decide +kernel
theorem dX9_node_16 : decode cX9_node 16 = .ok (.goto 4, 3) := by decide +kernel
theorem dX9_node_19 : decode cX9_node 19 = .ok (.iconst 0, 1) := by decide +kernel
theorem dX9_node_20 : decode cX9_node 20 = .ok (.invokestatic 72, 3) := by decide +kernel
theorem dX9_node_23 : decode cX9_node 23 = .ok (.aload_n 0, 1) := by decide +kernel
theorem dX9_node_24 : decode cX9_node 24 = .ok (.getfield 33, 3) := by decide +kernel
theorem dX9_node_27 : decode cX9_node 27 = .ok (.getfield 123, 3) := by decide +kernel
theorem dX9_node_30 : decode cX9_node 30 = .ok (.iload_n 1, 1) := by decide +kernel
theorem dX9_node_31 : decode cX9_node 31 = .ok (.iload_n 2, 1) := by decide +kernel
theorem dX9_node_32 : decode cX9_node 32 = .ok (.invokevirtual 126, 3) := by decide +kernel
theorem dX9_node_35 : decode cX9_node 35 = .ok (.ireturn, 1) := by decide +kernel
theorem dX9_groupsOn_0 : decode cX9_groupsOn 0 = .ok (.aload_n 0, 1) := by decide +kernel
theorem dX9_groupsOn_1 : decode cX9_groupsOn 1 = .ok (.iload_n 1, 1) := by decide +kernel
theorem dX9_groupsOn_2 : decode cX9_groupsOn 2 = .ok (.invokevirtual 120, 3) := by decide +kernel
theorem dX9_groupsOn_5 : decode cX9_groupsOn 5 = .ok (.iconst 0, 1) := by decide +kernel
theorem dX9_groupsOn_6 : decode cX9_groupsOn 6 = .ok (.istore_n 2, 1) := by decide +kernel
theorem dX9_groupsOn_7 : decode cX9_groupsOn 7 = .ok (.iconst 0, 1) := by decide +kernel
theorem dX9_groupsOn_8 : decode cX9_groupsOn 8 = .ok (.istore_n 3, 1) := by decide +kernel
theorem dX9_groupsOn_9 : decode cX9_groupsOn 9 = .ok (.iload_n 3, 1) := by decide +kernel
theorem dX9_groupsOn_10 : decode cX9_groupsOn 10 = .ok (.aload_n 0, 1) := by decide +kernel
theorem dX9_groupsOn_11 : decode cX9_groupsOn 11 = .ok (.getfield 33, 3) := by decide +kernel
theorem dX9_groupsOn_14 : decode cX9_groupsOn 14 = .ok (.getfield 91, 3) := by decide +kernel
theorem dX9_groupsOn_17 : decode cX9_groupsOn 17 = .ok (.getfield 95, 3) := by decide +kernel
theorem dX9_groupsOn_20 : decode cX9_groupsOn 20 = .ok (.if_icmp .ge 30, 3) := by decide +kernel
theorem dX9_groupsOn_23 : decode cX9_groupsOn 23 = .ok (.aload_n 0, 1) := by decide +kernel
theorem dX9_groupsOn_24 : decode cX9_groupsOn 24 = .ok (.getfield 33, 3) := by decide +kernel
theorem dX9_groupsOn_27 : decode cX9_groupsOn 27 = .ok (.iload_n 3, 1) := by decide +kernel
theorem dX9_groupsOn_28 : decode cX9_groupsOn 28 = .ok (.invokevirtual 129, 3) := by decide +kernel
theorem dX9_groupsOn_31 : decode cX9_groupsOn 31 = .ok (.iload_n 1, 1) := by decide +kernel
theorem dX9_groupsOn_32 : decode cX9_groupsOn 32 = .ok (.invokestatic 132, 3) := by decide +kernel
theorem dX9_groupsOn_35 : decode cX9_groupsOn 35 = .ok (.ifCond .eq 9, 3) := by decide +kernel
theorem dX9_groupsOn_38 : decode cX9_groupsOn 38 = .ok (.iload_n 2, 1) := by decide +kernel
theorem dX9_groupsOn_39 : decode cX9_groupsOn 39 = .ok (.iconst 1, 1) := by decide +kernel
theorem dX9_groupsOn_40 : decode cX9_groupsOn 40 = .ok (.iload_n 3, 1) := by decide +kernel
theorem dX9_groupsOn_41 : decode cX9_groupsOn 41 = .ok (.ishl, 1) := by decide +kernel
theorem dX9_groupsOn_42 : decode cX9_groupsOn 42 = .ok (.ior, 1) := by decide +kernel
theorem dX9_groupsOn_43 : decode cX9_groupsOn 43 = .ok (.istore_n 2, 1) := by decide +kernel
theorem dX9_groupsOn_44 : decode cX9_groupsOn 44 = .ok (.iinc 3 1, 3) := by decide +kernel
theorem dX9_groupsOn_47 : decode cX9_groupsOn 47 = .ok (.goto (-38), 3) := by decide +kernel
theorem dX9_groupsOn_50 : decode cX9_groupsOn 50 = .ok (.iload_n 2, 1) := by decide +kernel
theorem dX9_groupsOn_51 : decode cX9_groupsOn 51 = .ok (.ireturn, 1) := by decide +kernel
theorem dX9_nodeFrom_0 : decode cX9_nodeFrom 0 = .ok (.iload_n 1, 1) := by decide +kernel
theorem dX9_nodeFrom_1 : decode cX9_nodeFrom 1 = .ok (.ifCond .lt 14, 3) := by decide +kernel
theorem dX9_nodeFrom_4 : decode cX9_nodeFrom 4 = .ok (.iload_n 1, 1) := by decide +kernel
theorem dX9_nodeFrom_5 : decode cX9_nodeFrom 5 = .ok (.sipush 10000, 3) := by decide +kernel
theorem dX9_nodeFrom_8 : decode cX9_nodeFrom 8 = .ok (.if_icmp .ge 7, 3) := by decide +kernel
theorem dX9_nodeFrom_11 : decode cX9_nodeFrom 11 = .ok (.iconst 1, 1) := by decide +kernel
theorem dX9_nodeFrom_12 : decode cX9_nodeFrom 12 = .ok (.goto 4, 3) := by decide +kernel
theorem dX9_nodeFrom_15 : decode cX9_nodeFrom 15 = .ok (.iconst 0, 1) := by decide +kernel
theorem dX9_nodeFrom_16 : decode cX9_nodeFrom 16 = .ok (.invokestatic 72, 3) := by decide +kernel
theorem dX9_nodeFrom_19 : decode cX9_nodeFrom 19 = .ok (.iconst (-1), 1) := by decide +kernel
theorem dX9_nodeFrom_20 : decode cX9_nodeFrom 20 = .ok (.istore_n 2, 1) := by decide +kernel
theorem dX9_nodeFrom_21 : decode cX9_nodeFrom 21 = .ok (.iconst 0, 1) := by decide +kernel
theorem dX9_nodeFrom_22 : decode cX9_nodeFrom 22 = .ok (.istore_n 3, 1) := by decide +kernel
theorem dX9_nodeFrom_23 : decode cX9_nodeFrom 23 = .ok (.iload_n 3, 1) := by decide +kernel
theorem dX9_nodeFrom_24 : decode cX9_nodeFrom 24 = .ok (.aload_n 0, 1) := by decide +kernel
theorem dX9_nodeFrom_25 : decode cX9_nodeFrom 25 = .ok (.getfield 33, 3) := by decide +kernel
theorem dX9_nodeFrom_28 : decode cX9_nodeFrom 28 = .ok (.getfield 123, 3) := by decide +kernel
theorem dX9_nodeFrom_31 : decode cX9_nodeFrom 31 = .ok (.getfield 95, 3) := by decide +kernel
theorem dX9_nodeFrom_34 : decode cX9_nodeFrom 34 = .ok (.if_icmp .ge 37, 3) := by decide +kernel
theorem dX9_nodeFrom_37 : decode cX9_nodeFrom 37 = .ok (.iload_n 2, 1) := by decide +kernel
theorem dX9_nodeFrom_38 : decode cX9_nodeFrom 38 = .ok (.iconst (-1), 1) := by decide +kernel
theorem dX9_nodeFrom_39 : decode cX9_nodeFrom 39 = .ok (.if_icmp .eq 24, 3) := by decide +kernel
theorem dX9_nodeFrom_42 : decode cX9_nodeFrom 42 = .ok (.aload_n 0, 1) := by decide +kernel
theorem dX9_nodeFrom_43 : decode cX9_nodeFrom 43 = .ok (.getfield 33, 3) := by decide +kernel
theorem dX9_nodeFrom_46 : decode cX9_nodeFrom 46 = .ok (.iload_n 3, 1) := by decide +kernel
theorem dX9_nodeFrom_47 : decode cX9_nodeFrom 47 = .ok (.iload_n 1, 1) := by decide +kernel
theorem dX9_nodeFrom_48 : decode cX9_nodeFrom 48 = .ok (.invokevirtual 136, 3) := by decide +kernel
theorem dX9_nodeFrom_51 : decode cX9_nodeFrom 51 = .ok (.aload_n 0, 1) := by decide +kernel
theorem dX9_nodeFrom_52 : decode cX9_nodeFrom 52 = .ok (.getfield 33, 3) := by decide +kernel
theorem dX9_nodeFrom_55 : decode cX9_nodeFrom 55 = .ok (.iload_n 2, 1) := by decide +kernel
theorem dX9_nodeFrom_56 : decode cX9_nodeFrom 56 = .ok (.iload_n 1, 1) := by decide +kernel
theorem dX9_nodeFrom_57 : decode cX9_nodeFrom 57 = .ok (.invokevirtual 136, 3) := by decide +kernel
theorem dX9_nodeFrom_60 : decode cX9_nodeFrom 60 = .ok (.if_icmp .ge 5, 3) := by decide +kernel
theorem dX9_nodeFrom_63 : decode cX9_nodeFrom 63 = .ok (.iload_n 3, 1) := by decide +kernel
theorem dX9_nodeFrom_64 : decode cX9_nodeFrom 64 = .ok (.istore_n 2, 1) := by decide +kernel
theorem dX9_nodeFrom_65 : decode cX9_nodeFrom 65 = .ok (.iinc 3 1, 3) := by decide +kernel
theorem dX9_nodeFrom_68 : decode cX9_nodeFrom 68 = .ok (.goto (-45), 3) := by decide +kernel
theorem dX9_nodeFrom_71 : decode cX9_nodeFrom 71 = .ok (.iload_n 2, 1) := by decide +kernel
theorem dX9_nodeFrom_72 : decode cX9_nodeFrom 72 = .ok (.ireturn, 1) := by decide +kernel
theorem dX9_clockwise_0 : decode cX9_clockwise 0 = .ok (.aload_n 0, 1) := by decide +kernel
theorem dX9_clockwise_1 : decode cX9_clockwise 1 = .ok (.iload_n 1, 1) := by decide +kernel
theorem dX9_clockwise_2 : decode cX9_clockwise 2 = .ok (.invokevirtual 120, 3) := by decide +kernel
theorem dX9_clockwise_5 : decode cX9_clockwise 5 = .ok (.aload_n 0, 1) := by decide +kernel
theorem dX9_clockwise_6 : decode cX9_clockwise 6 = .ok (.iload_n 2, 1) := by decide +kernel
theorem dX9_clockwise_7 : decode cX9_clockwise 7 = .ok (.invokevirtual 120, 3) := by decide +kernel
theorem dX9_clockwise_10 : decode cX9_clockwise 10 = .ok (.aload_n 0, 1) := by decide +kernel
theorem dX9_clockwise_11 : decode cX9_clockwise 11 = .ok (.getfield 33, 3) := by decide +kernel
theorem dX9_clockwise_14 : decode cX9_clockwise 14 = .ok (.iload_n 2, 1) := by decide +kernel
theorem dX9_clockwise_15 : decode cX9_clockwise 15 = .ok (.aload_n 0, 1) := by decide +kernel
theorem dX9_clockwise_16 : decode cX9_clockwise 16 = .ok (.getfield 33, 3) := by decide +kernel
theorem dX9_clockwise_19 : decode cX9_clockwise 19 = .ok (.getfield 123, 3) := by decide +kernel
theorem dX9_clockwise_22 : decode cX9_clockwise 22 = .ok (.iload_n 1, 1) := by decide +kernel
theorem dX9_clockwise_23 : decode cX9_clockwise 23 = .ok (.iconst 0, 1) := by decide +kernel
theorem dX9_clockwise_24 : decode cX9_clockwise 24 = .ok (.invokevirtual 126, 3) := by decide +kernel
theorem dX9_clockwise_27 : decode cX9_clockwise 27 = .ok (.invokevirtual 136, 3) := by decide +kernel
theorem dX9_clockwise_30 : decode cX9_clockwise 30 = .ok (.ireturn, 1) := by decide +kernel
theorem dX9_zoneShards_0 : decode cX9_zoneShards 0 = .ok (.iload_n 1, 1) := by decide +kernel
theorem dX9_zoneShards_1 : decode cX9_zoneShards 1 = .ok (.ifCond .lt 13, 3) := by decide +kernel
theorem dX9_zoneShards_4 : decode cX9_zoneShards 4 = .ok (.iload_n 1, 1) := by decide +kernel
theorem dX9_zoneShards_5 : decode cX9_zoneShards 5 = .ok (.bipush 10, 2) := by decide +kernel
theorem dX9_zoneShards_7 : decode cX9_zoneShards 7 = .ok (.if_icmp .ge 7, 3) := by decide +kernel
theorem dX9_zoneShards_10 : decode cX9_zoneShards 10 = .ok (.iconst 1, 1) := by decide +kernel
theorem dX9_zoneShards_11 : decode cX9_zoneShards 11 = .ok (.goto 4, 3) := by decide +kernel
theorem dX9_zoneShards_14 : decode cX9_zoneShards 14 = .ok (.iconst 0, 1) := by decide +kernel
theorem dX9_zoneShards_15 : decode cX9_zoneShards 15 = .ok (.invokestatic 72, 3) := by decide +kernel
theorem dX9_zoneShards_18 : decode cX9_zoneShards 18 = .ok (.iconst 0, 1) := by decide +kernel
theorem dX9_zoneShards_19 : decode cX9_zoneShards 19 = .ok (.istore_n 2, 1) := by decide +kernel
theorem dX9_zoneShards_20 : decode cX9_zoneShards 20 = .ok (.iconst 0, 1) := by decide +kernel
theorem dX9_zoneShards_21 : decode cX9_zoneShards 21 = .ok (.istore_n 3, 1) := by decide +kernel
theorem dX9_zoneShards_22 : decode cX9_zoneShards 22 = .ok (.iload_n 3, 1) := by decide +kernel
theorem dX9_zoneShards_23 : decode cX9_zoneShards 23 = .ok (.aload_n 0, 1) := by decide +kernel
theorem dX9_zoneShards_24 : decode cX9_zoneShards 24 = .ok (.getfield 33, 3) := by decide +kernel
theorem dX9_zoneShards_27 : decode cX9_zoneShards 27 = .ok (.getfield 123, 3) := by decide +kernel
theorem dX9_zoneShards_30 : decode cX9_zoneShards 30 = .ok (.getfield 95, 3) := by decide +kernel
theorem dX9_zoneShards_33 : decode cX9_zoneShards 33 = .ok (.if_icmp .ge 40, 3) := by decide +kernel
theorem dX9_zoneShards_36 : decode cX9_zoneShards 36 = .ok (.aload_n 0, 1) := by decide +kernel
theorem dX9_zoneShards_37 : decode cX9_zoneShards 37 = .ok (.getfield 33, 3) := by decide +kernel
theorem dX9_zoneShards_40 : decode cX9_zoneShards 40 = .ok (.getfield 123, 3) := by decide +kernel
theorem dX9_zoneShards_43 : decode cX9_zoneShards 43 = .ok (.iload_n 3, 1) := by decide +kernel
theorem dX9_zoneShards_44 : decode cX9_zoneShards 44 = .ok (.iconst 1, 1) := by decide +kernel
theorem dX9_zoneShards_45 : decode cX9_zoneShards 45 = .ok (.invokevirtual 126, 3) := by decide +kernel
theorem dX9_zoneShards_48 : decode cX9_zoneShards 48 = .ok (.iload_n 1, 1) := by decide +kernel
theorem dX9_zoneShards_49 : decode cX9_zoneShards 49 = .ok (.if_icmp .ne 18, 3) := by decide +kernel
theorem dX9_zoneShards_52 : decode cX9_zoneShards 52 = .ok (.iload_n 2, 1) := by decide +kernel
theorem dX9_zoneShards_53 : decode cX9_zoneShards 53 = .ok (.aload_n 0, 1) := by decide +kernel
theorem dX9_zoneShards_54 : decode cX9_zoneShards 54 = .ok (.getfield 33, 3) := by decide +kernel
theorem dX9_zoneShards_57 : decode cX9_zoneShards 57 = .ok (.getfield 123, 3) := by decide +kernel
theorem dX9_zoneShards_60 : decode cX9_zoneShards 60 = .ok (.iload_n 3, 1) := by decide +kernel
theorem dX9_zoneShards_61 : decode cX9_zoneShards 61 = .ok (.iconst 4, 1) := by decide +kernel
theorem dX9_zoneShards_62 : decode cX9_zoneShards 62 = .ok (.invokevirtual 126, 3) := by decide +kernel
theorem dX9_zoneShards_65 : decode cX9_zoneShards 65 = .ok (.iadd, 1) := by decide +kernel
theorem dX9_zoneShards_66 : decode cX9_zoneShards 66 = .ok (.istore_n 2, 1) := by decide +kernel
theorem dX9_zoneShards_67 : decode cX9_zoneShards 67 = .ok (.iinc 3 1, 3) := by decide +kernel
theorem dX9_zoneShards_70 : decode cX9_zoneShards 70 = .ok (.goto (-48), 3) := by decide +kernel
theorem dX9_zoneShards_73 : decode cX9_zoneShards 73 = .ok (.iload_n 2, 1) := by decide +kernel
theorem dX9_zoneShards_74 : decode cX9_zoneShards 74 = .ok (.ireturn, 1) := by decide +kernel
theorem dX9_tenant_0 : decode cX9_tenant 0 = .ok (.aload_n 0, 1) := by decide +kernel
theorem dX9_tenant_1 : decode cX9_tenant 1 = .ok (.iload_n 1, 1) := by decide +kernel
theorem dX9_tenant_2 : decode cX9_tenant 2 = .ok (.invokevirtual 139, 3) := by decide +kernel
theorem dX9_tenant_5 : decode cX9_tenant 5 = .ok (.iload_n 2, 1) := by decide +kernel
theorem dX9_tenant_6 : decode cX9_tenant 6 = .ok (.ifCond .lt 12, 3) := by decide +kernel
theorem dX9_tenant_9 : decode cX9_tenant 9 = .ok (.iload_n 2, 1) := by decide +kernel
theorem dX9_tenant_10 : decode cX9_tenant 10 = .ok (.iconst 4, 1) := by decide +kernel
theorem dX9_tenant_11 : decode cX9_tenant 11 = .ok (.if_icmp .gt 7, 3) := by decide +kernel
theorem dX9_tenant_14 : decode cX9_tenant 14 = .ok (.iconst 1, 1) := by decide +kernel
theorem dX9_tenant_15 : decode cX9_tenant 15 = .ok (.goto 4, 3) := by decide +kernel
theorem dX9_tenant_18 : decode cX9_tenant 18 = .ok (.iconst 0, 1) := by decide +kernel
theorem dX9_tenant_19 : decode cX9_tenant 19 = .ok (.invokestatic 72, 3) := by decide +kernel
theorem dX9_tenant_22 : decode cX9_tenant 22 = .ok (.aload_n 0, 1) := by decide +kernel
theorem dX9_tenant_23 : decode cX9_tenant 23 = .ok (.getfield 33, 3) := by decide +kernel
theorem dX9_tenant_26 : decode cX9_tenant 26 = .ok (.getfield 142, 3) := by decide +kernel
theorem dX9_tenant_29 : decode cX9_tenant 29 = .ok (.iload_n 1, 1) := by decide +kernel
theorem dX9_tenant_30 : decode cX9_tenant 30 = .ok (.iload_n 2, 1) := by decide +kernel
theorem dX9_tenant_31 : decode cX9_tenant 31 = .ok (.invokevirtual 126, 3) := by decide +kernel
theorem dX9_tenant_34 : decode cX9_tenant 34 = .ok (.ireturn, 1) := by decide +kernel
theorem dX9_share_0 : decode cX9_share 0 = .ok (.aload_n 0, 1) := by decide +kernel
theorem dX9_share_1 : decode cX9_share 1 = .ok (.iload_n 1, 1) := by decide +kernel
theorem dX9_share_2 : decode cX9_share 2 = .ok (.invokevirtual 139, 3) := by decide +kernel
theorem dX9_share_5 : decode cX9_share 5 = .ok (.lconst 0, 1) := by decide +kernel
theorem dX9_share_6 : decode cX9_share 6 = .ok (.lstore_n 2, 1) := by decide +kernel
theorem dX9_share_7 : decode cX9_share 7 = .ok (.iconst 0, 1) := by decide +kernel
theorem dX9_share_8 : decode cX9_share 8 = .ok (.istore 4, 2) := by decide +kernel
theorem dX9_share_10 : decode cX9_share 10 = .ok (.iload 4, 2) := by decide +kernel
theorem dX9_share_12 : decode cX9_share 12 = .ok (.aload_n 0, 1) := by decide +kernel
theorem dX9_share_13 : decode cX9_share 13 = .ok (.getfield 33, 3) := by decide +kernel
theorem dX9_share_16 : decode cX9_share 16 = .ok (.getfield 142, 3) := by decide +kernel
theorem dX9_share_19 : decode cX9_share 19 = .ok (.getfield 95, 3) := by decide +kernel
theorem dX9_share_22 : decode cX9_share 22 = .ok (.if_icmp .ge 26, 3) := by decide +kernel
theorem dX9_share_25 : decode cX9_share 25 = .ok (.lload_n 2, 1) := by decide +kernel
theorem dX9_share_26 : decode cX9_share 26 = .ok (.aload_n 0, 1) := by decide +kernel
theorem dX9_share_27 : decode cX9_share 27 = .ok (.getfield 33, 3) := by decide +kernel
theorem dX9_share_30 : decode cX9_share 30 = .ok (.getfield 142, 3) := by decide +kernel
theorem dX9_share_33 : decode cX9_share 33 = .ok (.iload 4, 2) := by decide +kernel
theorem dX9_share_35 : decode cX9_share 35 = .ok (.iconst 3, 1) := by decide +kernel
theorem dX9_share_36 : decode cX9_share 36 = .ok (.invokevirtual 126, 3) := by decide +kernel
theorem dX9_share_39 : decode cX9_share 39 = .ok (.i2l, 1) := by decide +kernel
theorem dX9_share_40 : decode cX9_share 40 = .ok (.ladd, 1) := by decide +kernel
theorem dX9_share_41 : decode cX9_share 41 = .ok (.lstore_n 2, 1) := by decide +kernel
theorem dX9_share_42 : decode cX9_share 42 = .ok (.iinc 4 1, 3) := by decide +kernel
theorem dX9_share_45 : decode cX9_share 45 = .ok (.goto (-35), 3) := by decide +kernel
theorem dX9_share_48 : decode cX9_share 48 = .ok (.lload_n 2, 1) := by decide +kernel
theorem dX9_share_49 : decode cX9_share 49 = .ok (.lconst 0, 1) := by decide +kernel
theorem dX9_share_50 : decode cX9_share 50 = .ok (.lcmp, 1) := by decide +kernel
theorem dX9_share_51 : decode cX9_share 51 = .ok (.ifCond .ne 7, 3) := by decide +kernel
theorem dX9_share_54 : decode cX9_share 54 = .ok (.dconst 0, 1) := by decide +kernel
theorem dX9_share_55 : decode cX9_share 55 = .ok (.goto 19, 3) := by decide +kernel
theorem dX9_share_58 : decode cX9_share 58 = .ok (.aload_n 0, 1) := by decide +kernel
theorem dX9_share_59 : decode cX9_share 59 = .ok (.getfield 33, 3) := by decide +kernel
theorem dX9_share_62 : decode cX9_share 62 = .ok (.getfield 142, 3) := by decide +kernel
theorem dX9_share_65 : decode cX9_share 65 = .ok (.iload_n 1, 1) := by decide +kernel
theorem dX9_share_66 : decode cX9_share 66 = .ok (.iconst 3, 1) := by decide +kernel
theorem dX9_share_67 : decode cX9_share 67 = .ok (.invokevirtual 126, 3) := by decide +kernel
theorem dX9_share_70 : decode cX9_share 70 = .ok (.i2d, 1) := by decide +kernel
theorem dX9_share_71 : decode cX9_share 71 = .ok (.lload_n 2, 1) := by decide +kernel
theorem dX9_share_72 : decode cX9_share 72 = .ok (.l2d, 1) := by decide +kernel
theorem dX9_share_73 : decode cX9_share 73 = .ok (.ddiv, 1) := by decide +kernel
theorem dX9_share_74 : decode cX9_share 74 = .ok (.dreturn, 1) := by decide +kernel
theorem dX9_group_0 : decode cX9_group 0 = .ok (.aload_n 0, 1) := by decide +kernel
theorem dX9_group_1 : decode cX9_group 1 = .ok (.iload_n 1, 1) := by decide +kernel
theorem dX9_group_2 : decode cX9_group 2 = .ok (.invokevirtual 145, 3) := by decide +kernel
theorem dX9_group_5 : decode cX9_group 5 = .ok (.iload_n 2, 1) := by decide +kernel
theorem dX9_group_6 : decode cX9_group 6 = .ok (.ifCond .lt 13, 3) := by decide +kernel
theorem dX9_group_9 : decode cX9_group 9 = .ok (.iload_n 2, 1) := by decide +kernel
theorem dX9_group_10 : decode cX9_group 10 = .ok (.bipush 8, 2) := by decide +kernel
theorem dX9_group_12 : decode cX9_group 12 = .ok (.if_icmp .gt 7, 3) := by decide +kernel
theorem dX9_group_15 : decode cX9_group 15 = .ok (.iconst 1, 1) := by decide +kernel
theorem dX9_group_16 : decode cX9_group 16 = .ok (.goto 4, 3) := by decide +kernel
theorem dX9_group_19 : decode cX9_group 19 = .ok (.iconst 0, 1) := by decide +kernel
theorem dX9_group_20 : decode cX9_group 20 = .ok (.invokestatic 72, 3) := by decide +kernel
theorem dX9_group_23 : decode cX9_group 23 = .ok (.iload_n 2, 1) := by decide +kernel
theorem dX9_group_24 : decode cX9_group 24 = .ok (.bipush 8, 2) := by decide +kernel
theorem dX9_group_26 : decode cX9_group 26 = .ok (.if_icmp .ne 14, 3) := by decide +kernel
theorem dX9_group_29 : decode cX9_group 29 = .ok (.aload_n 0, 1) := by decide +kernel
theorem dX9_group_30 : decode cX9_group 30 = .ok (.getfield 33, 3) := by decide +kernel
theorem dX9_group_33 : decode cX9_group 33 = .ok (.iload_n 1, 1) := by decide +kernel
theorem dX9_group_34 : decode cX9_group 34 = .ok (.invokevirtual 148, 3) := by decide +kernel
theorem dX9_group_37 : decode cX9_group 37 = .ok (.goto 15, 3) := by decide +kernel
theorem dX9_group_40 : decode cX9_group 40 = .ok (.aload_n 0, 1) := by decide +kernel
theorem dX9_group_41 : decode cX9_group 41 = .ok (.getfield 33, 3) := by decide +kernel
theorem dX9_group_44 : decode cX9_group 44 = .ok (.getfield 91, 3) := by decide +kernel
theorem dX9_group_47 : decode cX9_group 47 = .ok (.iload_n 1, 1) := by decide +kernel
theorem dX9_group_48 : decode cX9_group 48 = .ok (.iload_n 2, 1) := by decide +kernel
theorem dX9_group_49 : decode cX9_group 49 = .ok (.invokevirtual 126, 3) := by decide +kernel
theorem dX9_group_52 : decode cX9_group 52 = .ok (.ireturn, 1) := by decide +kernel
theorem dX9_nodeOf_0 : decode cX9_nodeOf 0 = .ok (.aload_n 0, 1) := by decide +kernel
theorem dX9_nodeOf_1 : decode cX9_nodeOf 1 = .ok (.iload_n 1, 1) := by decide +kernel
theorem dX9_nodeOf_2 : decode cX9_nodeOf 2 = .ok (.iload_n 2, 1) := by decide +kernel
theorem dX9_nodeOf_3 : decode cX9_nodeOf 3 = .ok (.invokevirtual 151, 3) := by decide +kernel
theorem dX9_nodeOf_6 : decode cX9_nodeOf 6 = .ok (.aload_n 0, 1) := by decide +kernel
theorem dX9_nodeOf_7 : decode cX9_nodeOf 7 = .ok (.getfield 33, 3) := by decide +kernel
theorem dX9_nodeOf_10 : decode cX9_nodeOf 10 = .ok (.iload_n 1, 1) := by decide +kernel
theorem dX9_nodeOf_11 : decode cX9_nodeOf 11 = .ok (.iload_n 2, 1) := by decide +kernel
theorem dX9_nodeOf_12 : decode cX9_nodeOf 12 = .ok (.invokevirtual 155, 3) := by decide +kernel
theorem dX9_nodeOf_15 : decode cX9_nodeOf 15 = .ok (.ireturn, 1) := by decide +kernel
theorem dX9_missing_0 : decode cX9_missing 0 = .ok (.aload_n 0, 1) := by decide +kernel
theorem dX9_missing_1 : decode cX9_missing 1 = .ok (.iload_n 1, 1) := by decide +kernel
theorem dX9_missing_2 : decode cX9_missing 2 = .ok (.invokevirtual 145, 3) := by decide +kernel
theorem dX9_missing_5 : decode cX9_missing 5 = .ok (.aload_n 0, 1) := by decide +kernel
theorem dX9_missing_6 : decode cX9_missing 6 = .ok (.getfield 33, 3) := by decide +kernel
theorem dX9_missing_9 : decode cX9_missing 9 = .ok (.iload_n 1, 1) := by decide +kernel
theorem dX9_missing_10 : decode cX9_missing 10 = .ok (.invokevirtual 158, 3) := by decide +kernel
theorem dX9_missing_13 : decode cX9_missing 13 = .ok (.ireturn, 1) := by decide +kernel
theorem dX9_zonesOf_0 : decode cX9_zonesOf 0 = .ok (.aload_n 0, 1) := by decide +kernel
theorem dX9_zonesOf_1 : decode cX9_zonesOf 1 = .ok (.iload_n 1, 1) := by decide +kernel
theorem dX9_zonesOf_2 : decode cX9_zonesOf 2 = .ok (.invokevirtual 145, 3) := by decide +kernel
theorem dX9_zonesOf_5 : decode cX9_zonesOf 5 = .ok (.aload_n 0, 1) := by decide +kernel
theorem dX9_zonesOf_6 : decode cX9_zonesOf 6 = .ok (.getfield 33, 3) := by decide +kernel
theorem dX9_zonesOf_9 : decode cX9_zonesOf 9 = .ok (.iload_n 1, 1) := by decide +kernel
theorem dX9_zonesOf_10 : decode cX9_zonesOf 10 = .ok (.aload_n 0, 1) := by decide +kernel
theorem dX9_zonesOf_11 : decode cX9_zonesOf 11 = .ok (.getfield 33, 3) := by decide +kernel
theorem dX9_zonesOf_14 : decode cX9_zonesOf 14 = .ok (.iload_n 1, 1) := by decide +kernel
theorem dX9_zonesOf_15 : decode cX9_zonesOf 15 = .ok (.iconst 0, 1) := by decide +kernel
theorem dX9_zonesOf_16 : decode cX9_zonesOf 16 = .ok (.invokevirtual 161, 3) := by decide +kernel
theorem dX9_zonesOf_19 : decode cX9_zonesOf 19 = .ok (.invokevirtual 164, 3) := by decide +kernel
theorem dX9_zonesOf_22 : decode cX9_zonesOf 22 = .ok (.invokestatic 167, 3) := by decide +kernel
theorem dX9_zonesOf_25 : decode cX9_zonesOf 25 = .ok (.ireturn, 1) := by decide +kernel
theorem dX9_damaged_0 : decode cX9_damaged 0 = .ok (.aload_n 0, 1) := by decide +kernel
theorem dX9_damaged_1 : decode cX9_damaged 1 = .ok (.getfield 33, 3) := by decide +kernel
theorem dX9_damaged_4 : decode cX9_damaged 4 = .ok (.invokevirtual 172, 3) := by decide +kernel
theorem dX9_damaged_7 : decode cX9_damaged 7 = .ok (.ireturn, 1) := by decide +kernel
theorem dX9_lost_0 : decode cX9_lost 0 = .ok (.aload_n 0, 1) := by decide +kernel
theorem dX9_lost_1 : decode cX9_lost 1 = .ok (.getfield 33, 3) := by decide +kernel
theorem dX9_lost_4 : decode cX9_lost 4 = .ok (.iconst 0, 1) := by decide +kernel
theorem dX9_lost_5 : decode cX9_lost 5 = .ok (.invokevirtual 176, 3) := by decide +kernel
theorem dX9_lost_8 : decode cX9_lost 8 = .ok (.ireturn, 1) := by decide +kernel
theorem dX9_loss_0 : decode cX9_loss 0 = .ok (.aload_n 0, 1) := by decide +kernel
theorem dX9_loss_1 : decode cX9_loss 1 = .ok (.iload_n 1, 1) := by decide +kernel
theorem dX9_loss_2 : decode cX9_loss 2 = .ok (.invokevirtual 145, 3) := by decide +kernel
theorem dX9_loss_5 : decode cX9_loss 5 = .ok (.aload_n 0, 1) := by decide +kernel
theorem dX9_loss_6 : decode cX9_loss 6 = .ok (.getfield 40, 3) := by decide +kernel
theorem dX9_loss_9 : decode cX9_loss 9 = .ok (.getfield 179, 3) := by decide +kernel
theorem dX9_loss_12 : decode cX9_loss 12 = .ok (.aload_n 0, 1) := by decide +kernel
theorem dX9_loss_13 : decode cX9_loss 13 = .ok (.getfield 33, 3) := by decide +kernel
theorem dX9_loss_16 : decode cX9_loss 16 = .ok (.iload_n 1, 1) := by decide +kernel
theorem dX9_loss_17 : decode cX9_loss 17 = .ok (.iconst 0, 1) := by decide +kernel
theorem dX9_loss_18 : decode cX9_loss 18 = .ok (.invokevirtual 183, 3) := by decide +kernel
theorem dX9_loss_21 : decode cX9_loss 21 = .ok (.ireturn, 1) := by decide +kernel
theorem dX9_lossWithout_0 : decode cX9_lossWithout 0 = .ok (.aload_n 0, 1) := by decide +kernel
theorem dX9_lossWithout_1 : decode cX9_lossWithout 1 = .ok (.iload_n 1, 1) := by decide +kernel
theorem dX9_lossWithout_2 : decode cX9_lossWithout 2 = .ok (.invokevirtual 145, 3) := by decide +kernel
theorem dX9_lossWithout_5 : decode cX9_lossWithout 5 = .ok (.aload_n 0, 1) := by decide +kernel
theorem dX9_lossWithout_6 : decode cX9_lossWithout 6 = .ok (.iload_n 2, 1) := by decide +kernel
theorem dX9_lossWithout_7 : decode cX9_lossWithout 7 = .ok (.invokevirtual 120, 3) := by decide +kernel
theorem dX9_lossWithout_10 : decode cX9_lossWithout 10 = .ok (.aload_n 0, 1) := by decide +kernel
theorem dX9_lossWithout_11 : decode cX9_lossWithout 11 = .ok (.getfield 40, 3) := by decide +kernel
theorem dX9_lossWithout_14 : decode cX9_lossWithout 14 = .ok (.getfield 179, 3) := by decide +kernel
theorem dX9_lossWithout_17 : decode cX9_lossWithout 17 = .ok (.aload_n 0, 1) := by decide +kernel
theorem dX9_lossWithout_18 : decode cX9_lossWithout 18 = .ok (.getfield 33, 3) := by decide +kernel
theorem dX9_lossWithout_21 : decode cX9_lossWithout 21 = .ok (.iload_n 1, 1) := by decide +kernel
theorem dX9_lossWithout_22 : decode cX9_lossWithout 22 = .ok (.iconst 1, 1) := by decide +kernel
theorem dX9_lossWithout_23 : decode cX9_lossWithout 23 = .ok (.iload_n 2, 1) := by decide +kernel
theorem dX9_lossWithout_24 : decode cX9_lossWithout 24 = .ok (.ishl, 1) := by decide +kernel
theorem dX9_lossWithout_25 : decode cX9_lossWithout 25 = .ok (.invokevirtual 183, 3) := by decide +kernel
theorem dX9_lossWithout_28 : decode cX9_lossWithout 28 = .ok (.ireturn, 1) := by decide +kernel
theorem dX9_expectedLoss_0 : decode cX9_expectedLoss 0 = .ok (.dconst 0, 1) := by decide +kernel
theorem dX9_expectedLoss_1 : decode cX9_expectedLoss 1 = .ok (.dstore_n 1, 1) := by decide +kernel
theorem dX9_expectedLoss_2 : decode cX9_expectedLoss 2 = .ok (.iconst 0, 1) := by decide +kernel
theorem dX9_expectedLoss_3 : decode cX9_expectedLoss 3 = .ok (.istore_n 3, 1) := by decide +kernel
theorem dX9_expectedLoss_4 : decode cX9_expectedLoss 4 = .ok (.iload_n 3, 1) := by decide +kernel
theorem dX9_expectedLoss_5 : decode cX9_expectedLoss 5 = .ok (.aload_n 0, 1) := by decide +kernel
theorem dX9_expectedLoss_6 : decode cX9_expectedLoss 6 = .ok (.getfield 33, 3) := by decide +kernel
theorem dX9_expectedLoss_9 : decode cX9_expectedLoss 9 = .ok (.getfield 91, 3) := by decide +kernel
theorem dX9_expectedLoss_12 : decode cX9_expectedLoss 12 = .ok (.getfield 95, 3) := by decide +kernel
theorem dX9_expectedLoss_15 : decode cX9_expectedLoss 15 = .ok (.if_icmp .ge 23, 3) := by decide +kernel
theorem dX9_expectedLoss_18 : decode cX9_expectedLoss 18 = .ok (.dload_n 1, 1) := by decide +kernel
theorem dX9_expectedLoss_19 : decode cX9_expectedLoss 19 = .ok (.aload_n 0, 1) := by decide +kernel
theorem dX9_expectedLoss_20 : decode cX9_expectedLoss 20 = .ok (.iload_n 3, 1) := by decide +kernel
theorem dX9_expectedLoss_21 : decode cX9_expectedLoss 21 = .ok (.iconst 0, 1) := by decide +kernel
theorem dX9_expectedLoss_22 : decode cX9_expectedLoss 22 = .ok (.invokevirtual 189, 3) := by decide +kernel
theorem dX9_expectedLoss_25 : decode cX9_expectedLoss 25 = .ok (.l2d, 1) := by decide +kernel
theorem dX9_expectedLoss_26 : decode cX9_expectedLoss 26 = .ok (.ldc2_w 193, 3) := by decide +kernel
theorem dX9_expectedLoss_29 : decode cX9_expectedLoss 29 = .ok (.ddiv, 1) := by decide +kernel
theorem dX9_expectedLoss_30 : decode cX9_expectedLoss 30 = .ok (.dadd, 1) := by decide +kernel
theorem dX9_expectedLoss_31 : decode cX9_expectedLoss 31 = .ok (.dstore_n 1, 1) := by decide +kernel
theorem dX9_expectedLoss_32 : decode cX9_expectedLoss 32 = .ok (.iinc 3 1, 3) := by decide +kernel
theorem dX9_expectedLoss_35 : decode cX9_expectedLoss 35 = .ok (.goto (-31), 3) := by decide +kernel
theorem dX9_expectedLoss_38 : decode cX9_expectedLoss 38 = .ok (.dload_n 1, 1) := by decide +kernel
theorem dX9_expectedLoss_39 : decode cX9_expectedLoss 39 = .ok (.dreturn, 1) := by decide +kernel
theorem dX9_worstNode_0 : decode cX9_worstNode 0 = .ok (.iconst (-1), 1) := by decide +kernel
theorem dX9_worstNode_1 : decode cX9_worstNode 1 = .ok (.istore_n 1, 1) := by decide +kernel
theorem dX9_worstNode_2 : decode cX9_worstNode 2 = .ok (.lconst 0, 1) := by decide +kernel
theorem dX9_worstNode_3 : decode cX9_worstNode 3 = .ok (.lstore_n 2, 1) := by decide +kernel
theorem dX9_worstNode_4 : decode cX9_worstNode 4 = .ok (.iconst 0, 1) := by decide +kernel
theorem dX9_worstNode_5 : decode cX9_worstNode 5 = .ok (.istore 4, 2) := by decide +kernel
theorem dX9_worstNode_7 : decode cX9_worstNode 7 = .ok (.iload 4, 2) := by decide +kernel
theorem dX9_worstNode_9 : decode cX9_worstNode 9 = .ok (.aload_n 0, 1) := by decide +kernel
theorem dX9_worstNode_10 : decode cX9_worstNode 10 = .ok (.getfield 33, 3) := by decide +kernel
theorem dX9_worstNode_13 : decode cX9_worstNode 13 = .ok (.getfield 123, 3) := by decide +kernel
theorem dX9_worstNode_16 : decode cX9_worstNode 16 = .ok (.getfield 95, 3) := by decide +kernel
theorem dX9_worstNode_19 : decode cX9_worstNode 19 = .ok (.if_icmp .ge 54, 3) := by decide +kernel
theorem dX9_worstNode_22 : decode cX9_worstNode 22 = .ok (.aload_n 0, 1) := by decide +kernel
theorem dX9_worstNode_23 : decode cX9_worstNode 23 = .ok (.getfield 33, 3) := by decide +kernel
theorem dX9_worstNode_26 : decode cX9_worstNode 26 = .ok (.getfield 123, 3) := by decide +kernel
theorem dX9_worstNode_29 : decode cX9_worstNode 29 = .ok (.iload 4, 2) := by decide +kernel
theorem dX9_worstNode_31 : decode cX9_worstNode 31 = .ok (.iconst 5, 1) := by decide +kernel
theorem dX9_worstNode_32 : decode cX9_worstNode 32 = .ok (.invokevirtual 126, 3) := by decide +kernel
theorem dX9_worstNode_35 : decode cX9_worstNode 35 = .ok (.iconst 1, 1) := by decide +kernel
theorem dX9_worstNode_36 : decode cX9_worstNode 36 = .ok (.if_icmp .eq 31, 3) := by decide +kernel
theorem dX9_worstNode_39 : decode cX9_worstNode 39 = .ok (.aload_n 0, 1) := by decide +kernel
theorem dX9_worstNode_40 : decode cX9_worstNode 40 = .ok (.iconst 1, 1) := by decide +kernel
theorem dX9_worstNode_41 : decode cX9_worstNode 41 = .ok (.iload 4, 2) := by decide +kernel
theorem dX9_worstNode_43 : decode cX9_worstNode 43 = .ok (.ishl, 1) := by decide +kernel
theorem dX9_worstNode_44 : decode cX9_worstNode 44 = .ok (.invokevirtual 195, 3) := by decide +kernel
theorem dX9_worstNode_47 : decode cX9_worstNode 47 = .ok (.lstore 5, 2) := by decide +kernel
theorem dX9_worstNode_49 : decode cX9_worstNode 49 = .ok (.iload_n 1, 1) := by decide +kernel
theorem dX9_worstNode_50 : decode cX9_worstNode 50 = .ok (.iconst (-1), 1) := by decide +kernel
theorem dX9_worstNode_51 : decode cX9_worstNode 51 = .ok (.if_icmp .eq 10, 3) := by decide +kernel
theorem dX9_worstNode_54 : decode cX9_worstNode 54 = .ok (.lload 5, 2) := by decide +kernel
theorem dX9_worstNode_56 : decode cX9_worstNode 56 = .ok (.lload_n 2, 1) := by decide +kernel
theorem dX9_worstNode_57 : decode cX9_worstNode 57 = .ok (.lcmp, 1) := by decide +kernel
theorem dX9_worstNode_58 : decode cX9_worstNode 58 = .ok (.ifCond .le 9, 3) := by decide +kernel
theorem dX9_worstNode_61 : decode cX9_worstNode 61 = .ok (.iload 4, 2) := by decide +kernel
theorem dX9_worstNode_63 : decode cX9_worstNode 63 = .ok (.istore_n 1, 1) := by decide +kernel
theorem dX9_worstNode_64 : decode cX9_worstNode 64 = .ok (.lload 5, 2) := by decide +kernel
theorem dX9_worstNode_66 : decode cX9_worstNode 66 = .ok (.lstore_n 2, 1) := by decide +kernel
theorem dX9_worstNode_67 : decode cX9_worstNode 67 = .ok (.iinc 4 1, 3) := by decide +kernel
theorem dX9_worstNode_70 : decode cX9_worstNode 70 = .ok (.goto (-63), 3) := by decide +kernel
theorem dX9_worstNode_73 : decode cX9_worstNode 73 = .ok (.iload_n 1, 1) := by decide +kernel
theorem dX9_worstNode_74 : decode cX9_worstNode 74 = .ok (.ireturn, 1) := by decide +kernel
theorem dX9_offer_0 : decode cX9_offer 0 = .ok (.aload_n 0, 1) := by decide +kernel
theorem dX9_offer_1 : decode cX9_offer 1 = .ok (.iload_n 1, 1) := by decide +kernel
theorem dX9_offer_2 : decode cX9_offer 2 = .ok (.invokevirtual 145, 3) := by decide +kernel
theorem dX9_offer_5 : decode cX9_offer 5 = .ok (.aload_n 0, 1) := by decide +kernel
theorem dX9_offer_6 : decode cX9_offer 6 = .ok (.getfield 40, 3) := by decide +kernel
theorem dX9_offer_9 : decode cX9_offer 9 = .ok (.aload_n 0, 1) := by decide +kernel
theorem dX9_offer_10 : decode cX9_offer 10 = .ok (.getfield 33, 3) := by decide +kernel
theorem dX9_offer_13 : decode cX9_offer 13 = .ok (.iload_n 1, 1) := by decide +kernel
theorem dX9_offer_14 : decode cX9_offer 14 = .ok (.invokevirtual 199, 3) := by decide +kernel
theorem dX9_offer_17 : decode cX9_offer 17 = .ok (.ireturn, 1) := by decide +kernel
theorem dX9_bids_0 : decode cX9_bids 0 = .ok (.aload_n 0, 1) := by decide +kernel
theorem dX9_bids_1 : decode cX9_bids 1 = .ok (.iload_n 1, 1) := by decide +kernel
theorem dX9_bids_2 : decode cX9_bids 2 = .ok (.invokevirtual 145, 3) := by decide +kernel
theorem dX9_bids_5 : decode cX9_bids 5 = .ok (.aload_n 0, 1) := by decide +kernel
theorem dX9_bids_6 : decode cX9_bids 6 = .ok (.getfield 40, 3) := by decide +kernel
theorem dX9_bids_9 : decode cX9_bids 9 = .ok (.aload_n 0, 1) := by decide +kernel
theorem dX9_bids_10 : decode cX9_bids 10 = .ok (.getfield 33, 3) := by decide +kernel
theorem dX9_bids_13 : decode cX9_bids 13 = .ok (.iload_n 1, 1) := by decide +kernel
theorem dX9_bids_14 : decode cX9_bids 14 = .ok (.invokevirtual 203, 3) := by decide +kernel
theorem dX9_bids_17 : decode cX9_bids 17 = .ok (.ifCond .le 7, 3) := by decide +kernel
theorem dX9_bids_20 : decode cX9_bids 20 = .ok (.iconst 1, 1) := by decide +kernel
theorem dX9_bids_21 : decode cX9_bids 21 = .ok (.goto 4, 3) := by decide +kernel
theorem dX9_bids_24 : decode cX9_bids 24 = .ok (.iconst 0, 1) := by decide +kernel
theorem dX9_bids_25 : decode cX9_bids 25 = .ok (.ireturn, 1) := by decide +kernel
theorem dX9_target_0 : decode cX9_target 0 = .ok (.aload_n 0, 1) := by decide +kernel
theorem dX9_target_1 : decode cX9_target 1 = .ok (.iload_n 1, 1) := by decide +kernel
theorem dX9_target_2 : decode cX9_target 2 = .ok (.invokevirtual 145, 3) := by decide +kernel
theorem dX9_target_5 : decode cX9_target 5 = .ok (.aload_n 0, 1) := by decide +kernel
theorem dX9_target_6 : decode cX9_target 6 = .ok (.getfield 33, 3) := by decide +kernel
theorem dX9_target_9 : decode cX9_target 9 = .ok (.iload_n 1, 1) := by decide +kernel
theorem dX9_target_10 : decode cX9_target 10 = .ok (.invokevirtual 206, 3) := by decide +kernel
theorem dX9_target_13 : decode cX9_target 13 = .ok (.ireturn, 1) := by decide +kernel
theorem dX9_bidder_0 : decode cX9_bidder 0 = .ok (.iload_n 1, 1) := by decide +kernel
theorem dX9_bidder_1 : decode cX9_bidder 1 = .ok (.ifCond .lt 7, 3) := by decide +kernel
theorem dX9_bidder_4 : decode cX9_bidder 4 = .ok (.iconst 1, 1) := by decide +kernel
theorem dX9_bidder_5 : decode cX9_bidder 5 = .ok (.goto 4, 3) := by decide +kernel
theorem dX9_bidder_8 : decode cX9_bidder 8 = .ok (.iconst 0, 1) := by decide +kernel
theorem dX9_bidder_9 : decode cX9_bidder 9 = .ok (.invokestatic 72, 3) := by decide +kernel
theorem dX9_bidder_12 : decode cX9_bidder 12 = .ok (.aload_n 0, 1) := by decide +kernel
theorem dX9_bidder_13 : decode cX9_bidder 13 = .ok (.getfield 40, 3) := by decide +kernel
theorem dX9_bidder_16 : decode cX9_bidder 16 = .ok (.aload_n 0, 1) := by decide +kernel
theorem dX9_bidder_17 : decode cX9_bidder 17 = .ok (.getfield 33, 3) := by decide +kernel
theorem dX9_bidder_20 : decode cX9_bidder 20 = .ok (.invokevirtual 209, 3) := by decide +kernel
theorem dX9_bidder_23 : decode cX9_bidder 23 = .ok (.iload_n 1, 1) := by decide +kernel
theorem dX9_bidder_24 : decode cX9_bidder 24 = .ok (.aload_n 0, 1) := by decide +kernel
theorem dX9_bidder_25 : decode cX9_bidder 25 = .ok (.getfield 40, 3) := by decide +kernel
theorem dX9_bidder_28 : decode cX9_bidder 28 = .ok (.getfield 212, 3) := by decide +kernel
theorem dX9_bidder_31 : decode cX9_bidder 31 = .ok (.getfield 95, 3) := by decide +kernel
theorem dX9_bidder_34 : decode cX9_bidder 34 = .ok (.if_icmp .ge 18, 3) := by decide +kernel
theorem dX9_bidder_37 : decode cX9_bidder 37 = .ok (.aload_n 0, 1) := by decide +kernel
theorem dX9_bidder_38 : decode cX9_bidder 38 = .ok (.getfield 40, 3) := by decide +kernel
theorem dX9_bidder_41 : decode cX9_bidder 41 = .ok (.getfield 212, 3) := by decide +kernel
theorem dX9_bidder_44 : decode cX9_bidder 44 = .ok (.iload_n 1, 1) := by decide +kernel
theorem dX9_bidder_45 : decode cX9_bidder 45 = .ok (.iconst 0, 1) := by decide +kernel
theorem dX9_bidder_46 : decode cX9_bidder 46 = .ok (.invokevirtual 126, 3) := by decide +kernel
theorem dX9_bidder_49 : decode cX9_bidder 49 = .ok (.goto 4, 3) := by decide +kernel
theorem dX9_bidder_52 : decode cX9_bidder 52 = .ok (.iconst (-1), 1) := by decide +kernel
theorem dX9_bidder_53 : decode cX9_bidder 53 = .ok (.ireturn, 1) := by decide +kernel
theorem dX9_outcome_0 : decode cX9_outcome 0 = .ok (.aload_n 0, 1) := by decide +kernel
theorem dX9_outcome_1 : decode cX9_outcome 1 = .ok (.iload_n 1, 1) := by decide +kernel
theorem dX9_outcome_2 : decode cX9_outcome 2 = .ok (.invokevirtual 145, 3) := by decide +kernel
theorem dX9_outcome_5 : decode cX9_outcome 5 = .ok (.iload_n 2, 1) := by decide +kernel
theorem dX9_outcome_6 : decode cX9_outcome 6 = .ok (.ifCond .eq 8, 3) := by decide +kernel
theorem dX9_outcome_9 : decode cX9_outcome 9 = .ok (.iload_n 2, 1) := by decide +kernel
theorem dX9_outcome_10 : decode cX9_outcome 10 = .ok (.iconst 1, 1) := by decide +kernel
theorem dX9_outcome_11 : decode cX9_outcome 11 = .ok (.if_icmp .ne 7, 3) := by decide +kernel
theorem dX9_outcome_14 : decode cX9_outcome 14 = .ok (.iconst 1, 1) := by decide +kernel
theorem dX9_outcome_15 : decode cX9_outcome 15 = .ok (.goto 4, 3) := by decide +kernel
theorem dX9_outcome_18 : decode cX9_outcome 18 = .ok (.iconst 0, 1) := by decide +kernel
theorem dX9_outcome_19 : decode cX9_outcome 19 = .ok (.invokestatic 72, 3) := by decide +kernel
theorem dX9_outcome_22 : decode cX9_outcome 22 = .ok (.aload_n 0, 1) := by decide +kernel
theorem dX9_outcome_23 : decode cX9_outcome 23 = .ok (.getfield 40, 3) := by decide +kernel
theorem dX9_outcome_26 : decode cX9_outcome 26 = .ok (.aload_n 0, 1) := by decide +kernel
theorem dX9_outcome_27 : decode cX9_outcome 27 = .ok (.getfield 33, 3) := by decide +kernel
theorem dX9_outcome_30 : decode cX9_outcome 30 = .ok (.invokevirtual 209, 3) := by decide +kernel
theorem dX9_outcome_33 : decode cX9_outcome 33 = .ok (.aload_n 0, 1) := by decide +kernel
theorem dX9_outcome_34 : decode cX9_outcome 34 = .ok (.getfield 40, 3) := by decide +kernel
theorem dX9_outcome_37 : decode cX9_outcome 37 = .ok (.getfield 212, 3) := by decide +kernel
theorem dX9_outcome_40 : decode cX9_outcome 40 = .ok (.aload_n 0, 1) := by decide +kernel
theorem dX9_outcome_41 : decode cX9_outcome 41 = .ok (.getfield 40, 3) := by decide +kernel
theorem dX9_outcome_44 : decode cX9_outcome 44 = .ok (.getfield 212, 3) := by decide +kernel
theorem dX9_outcome_47 : decode cX9_outcome 47 = .ok (.iconst 0, 1) := by decide +kernel
theorem dX9_outcome_48 : decode cX9_outcome 48 = .ok (.iload_n 1, 1) := by decide +kernel
theorem dX9_outcome_49 : decode cX9_outcome 49 = .ok (.invokevirtual 215, 3) := by decide +kernel
theorem dX9_outcome_52 : decode cX9_outcome 52 = .ok (.iload_n 2, 1) := by decide +kernel
theorem dX9_outcome_53 : decode cX9_outcome 53 = .ok (.ifCond .ne 7, 3) := by decide +kernel
theorem dX9_outcome_56 : decode cX9_outcome 56 = .ok (.iconst 2, 1) := by decide +kernel
theorem dX9_outcome_57 : decode cX9_outcome 57 = .ok (.goto 4, 3) := by decide +kernel
theorem dX9_outcome_60 : decode cX9_outcome 60 = .ok (.iconst 3, 1) := by decide +kernel
theorem dX9_outcome_61 : decode cX9_outcome 61 = .ok (.invokevirtual 126, 3) := by decide +kernel
theorem dX9_outcome_64 : decode cX9_outcome 64 = .ok (.ireturn, 1) := by decide +kernel
theorem dX9_clearingPrice_0 : decode cX9_clearingPrice 0 = .ok (.aload_n 0, 1) := by decide +kernel
theorem dX9_clearingPrice_1 : decode cX9_clearingPrice 1 = .ok (.getfield 40, 3) := by decide +kernel
theorem dX9_clearingPrice_4 : decode cX9_clearingPrice 4 = .ok (.aload_n 0, 1) := by decide +kernel
theorem dX9_clearingPrice_5 : decode cX9_clearingPrice 5 = .ok (.getfield 33, 3) := by decide +kernel
theorem dX9_clearingPrice_8 : decode cX9_clearingPrice 8 = .ok (.invokevirtual 209, 3) := by decide +kernel
theorem dX9_clearingPrice_11 : decode cX9_clearingPrice 11 = .ok (.aload_n 0, 1) := by decide +kernel
theorem dX9_clearingPrice_12 : decode cX9_clearingPrice 12 = .ok (.getfield 40, 3) := by decide +kernel
theorem dX9_clearingPrice_15 : decode cX9_clearingPrice 15 = .ok (.getfield 218, 3) := by decide +kernel
theorem dX9_clearingPrice_18 : decode cX9_clearingPrice 18 = .ok (.ireturn, 1) := by decide +kernel
theorem dX9_bandwidth_0 : decode cX9_bandwidth 0 = .ok (.aload_n 0, 1) := by decide +kernel
theorem dX9_bandwidth_1 : decode cX9_bandwidth 1 = .ok (.getfield 33, 3) := by decide +kernel
theorem dX9_bandwidth_4 : decode cX9_bandwidth 4 = .ok (.invokevirtual 221, 3) := by decide +kernel
theorem dX9_bandwidth_7 : decode cX9_bandwidth 7 = .ok (.ireturn, 1) := by decide +kernel
theorem dX9_nextRound_0 : decode cX9_nextRound 0 = .ok (.aload_n 0, 1) := by decide +kernel
theorem dX9_nextRound_1 : decode cX9_nextRound 1 = .ok (.getfield 33, 3) := by decide +kernel
theorem dX9_nextRound_4 : decode cX9_nextRound 4 = .ok (.getfield 224, 3) := by decide +kernel
theorem dX9_nextRound_7 : decode cX9_nextRound 7 = .ok (.ireturn, 1) := by decide +kernel
theorem dX9_fail_0 : decode cX9_fail 0 = .ok (.aload_n 0, 1) := by decide +kernel
theorem dX9_fail_1 : decode cX9_fail 1 = .ok (.iload_n 1, 1) := by decide +kernel
theorem dX9_fail_2 : decode cX9_fail 2 = .ok (.invokevirtual 120, 3) := by decide +kernel
theorem dX9_fail_5 : decode cX9_fail 5 = .ok (.aload_n 0, 1) := by decide +kernel
theorem dX9_fail_6 : decode cX9_fail 6 = .ok (.getfield 33, 3) := by decide +kernel
theorem dX9_fail_9 : decode cX9_fail 9 = .ok (.getfield 123, 3) := by decide +kernel
theorem dX9_fail_12 : decode cX9_fail 12 = .ok (.iload_n 1, 1) := by decide +kernel
theorem dX9_fail_13 : decode cX9_fail 13 = .ok (.iconst 5, 1) := by decide +kernel
theorem dX9_fail_14 : decode cX9_fail 14 = .ok (.invokevirtual 126, 3) := by decide +kernel
theorem dX9_fail_17 : decode cX9_fail 17 = .ok (.iconst 1, 1) := by decide +kernel
theorem dX9_fail_18 : decode cX9_fail 18 = .ok (.if_icmp .eq 7, 3) := by decide +kernel
theorem dX9_fail_21 : decode cX9_fail 21 = .ok (.iconst 1, 1) := by decide +kernel
theorem dX9_fail_22 : decode cX9_fail 22 = .ok (.goto 4, 3) := by decide +kernel
theorem dX9_fail_25 : decode cX9_fail 25 = .ok (.iconst 0, 1) := by decide +kernel
theorem dX9_fail_26 : decode cX9_fail 26 = .ok (.invokestatic 227, 3) := by decide +kernel
theorem dX9_fail_29 : decode cX9_fail 29 = .ok (.aload_n 0, 1) := by decide +kernel
theorem dX9_fail_30 : decode cX9_fail 30 = .ok (.getfield 54, 3) := by decide +kernel
theorem dX9_fail_33 : decode cX9_fail 33 = .ok (.aload_n 0, 1) := by decide +kernel
theorem dX9_fail_34 : decode cX9_fail 34 = .ok (.getfield 33, 3) := by decide +kernel
theorem dX9_fail_37 : decode cX9_fail 37 = .ok (.invokevirtual 83, 3) := by decide +kernel
theorem dX9_fail_40 : decode cX9_fail 40 = .ok (.aload_n 0, 1) := by decide +kernel
theorem dX9_fail_41 : decode cX9_fail 41 = .ok (.getfield 33, 3) := by decide +kernel
theorem dX9_fail_44 : decode cX9_fail 44 = .ok (.iconst 0, 1) := by decide +kernel
theorem dX9_fail_45 : decode cX9_fail 45 = .ok (.invokevirtual 176, 3) := by decide +kernel
theorem dX9_fail_48 : decode cX9_fail 48 = .ok (.istore_n 2, 1) := by decide +kernel
theorem dX9_fail_49 : decode cX9_fail 49 = .ok (.aload_n 0, 1) := by decide +kernel
theorem dX9_fail_50 : decode cX9_fail 50 = .ok (.getfield 33, 3) := by decide +kernel
theorem dX9_fail_53 : decode cX9_fail 53 = .ok (.iload_n 1, 1) := by decide +kernel
theorem dX9_fail_54 : decode cX9_fail 54 = .ok (.iconst 1, 1) := by decide +kernel
theorem dX9_fail_55 : decode cX9_fail 55 = .ok (.invokevirtual 230, 3) := by decide +kernel
theorem dX9_fail_58 : decode cX9_fail 58 = .ok (.aload_n 0, 1) := by decide +kernel
theorem dX9_fail_59 : decode cX9_fail 59 = .ok (.getfield 33, 3) := by decide +kernel
theorem dX9_fail_62 : decode cX9_fail 62 = .ok (.iconst 0, 1) := by decide +kernel
theorem dX9_fail_63 : decode cX9_fail 63 = .ok (.invokevirtual 176, 3) := by decide +kernel
theorem dX9_fail_66 : decode cX9_fail 66 = .ok (.iload_n 2, 1) := by decide +kernel
theorem dX9_fail_67 : decode cX9_fail 67 = .ok (.iconst (-1), 1) := by decide +kernel
theorem dX9_fail_68 : decode cX9_fail 68 = .ok (.ixor, 1) := by decide +kernel
theorem dX9_fail_69 : decode cX9_fail 69 = .ok (.iand, 1) := by decide +kernel
theorem dX9_fail_70 : decode cX9_fail 70 = .ok (.ireturn, 1) := by decide +kernel
theorem dX9_recover_0 : decode cX9_recover 0 = .ok (.aload_n 0, 1) := by decide +kernel
theorem dX9_recover_1 : decode cX9_recover 1 = .ok (.iload_n 1, 1) := by decide +kernel
theorem dX9_recover_2 : decode cX9_recover 2 = .ok (.invokevirtual 120, 3) := by decide +kernel
theorem dX9_recover_5 : decode cX9_recover 5 = .ok (.aload_n 0, 1) := by decide +kernel
theorem dX9_recover_6 : decode cX9_recover 6 = .ok (.getfield 33, 3) := by decide +kernel
theorem dX9_recover_9 : decode cX9_recover 9 = .ok (.getfield 123, 3) := by decide +kernel
theorem dX9_recover_12 : decode cX9_recover 12 = .ok (.iload_n 1, 1) := by decide +kernel
theorem dX9_recover_13 : decode cX9_recover 13 = .ok (.iconst 5, 1) := by decide +kernel
theorem dX9_recover_14 : decode cX9_recover 14 = .ok (.invokevirtual 126, 3) := by decide +kernel
theorem dX9_recover_17 : decode cX9_recover 17 = .ok (.iconst 1, 1) := by decide +kernel
theorem dX9_recover_18 : decode cX9_recover 18 = .ok (.if_icmp .ne 7, 3) := by decide +kernel
theorem dX9_recover_21 : decode cX9_recover 21 = .ok (.iconst 1, 1) := by decide +kernel
theorem dX9_recover_22 : decode cX9_recover 22 = .ok (.goto 4, 3) := by decide +kernel
theorem dX9_recover_25 : decode cX9_recover 25 = .ok (.iconst 0, 1) := by decide +kernel
theorem dX9_recover_26 : decode cX9_recover 26 = .ok (.invokestatic 227, 3) := by decide +kernel
theorem dX9_recover_29 : decode cX9_recover 29 = .ok (.aload_n 0, 1) := by decide +kernel
theorem dX9_recover_30 : decode cX9_recover 30 = .ok (.getfield 54, 3) := by decide +kernel
theorem dX9_recover_33 : decode cX9_recover 33 = .ok (.aload_n 0, 1) := by decide +kernel
theorem dX9_recover_34 : decode cX9_recover 34 = .ok (.getfield 33, 3) := by decide +kernel
theorem dX9_recover_37 : decode cX9_recover 37 = .ok (.invokevirtual 83, 3) := by decide +kernel
theorem dX9_recover_40 : decode cX9_recover 40 = .ok (.aload_n 0, 1) := by decide +kernel
theorem dX9_recover_41 : decode cX9_recover 41 = .ok (.getfield 33, 3) := by decide +kernel
theorem dX9_recover_44 : decode cX9_recover 44 = .ok (.iconst 0, 1) := by decide +kernel
theorem dX9_recover_45 : decode cX9_recover 45 = .ok (.invokevirtual 176, 3) := by decide +kernel
theorem dX9_recover_48 : decode cX9_recover 48 = .ok (.istore_n 2, 1) := by decide +kernel
theorem dX9_recover_49 : decode cX9_recover 49 = .ok (.aload_n 0, 1) := by decide +kernel
theorem dX9_recover_50 : decode cX9_recover 50 = .ok (.getfield 33, 3) := by decide +kernel
theorem dX9_recover_53 : decode cX9_recover 53 = .ok (.iload_n 1, 1) := by decide +kernel
theorem dX9_recover_54 : decode cX9_recover 54 = .ok (.iconst 0, 1) := by decide +kernel
theorem dX9_recover_55 : decode cX9_recover 55 = .ok (.invokevirtual 230, 3) := by decide +kernel
theorem dX9_recover_58 : decode cX9_recover 58 = .ok (.iload_n 2, 1) := by decide +kernel
theorem dX9_recover_59 : decode cX9_recover 59 = .ok (.aload_n 0, 1) := by decide +kernel
theorem dX9_recover_60 : decode cX9_recover 60 = .ok (.getfield 33, 3) := by decide +kernel
theorem dX9_recover_63 : decode cX9_recover 63 = .ok (.iconst 0, 1) := by decide +kernel
theorem dX9_recover_64 : decode cX9_recover 64 = .ok (.invokevirtual 176, 3) := by decide +kernel
theorem dX9_recover_67 : decode cX9_recover 67 = .ok (.iconst (-1), 1) := by decide +kernel
theorem dX9_recover_68 : decode cX9_recover 68 = .ok (.ixor, 1) := by decide +kernel
theorem dX9_recover_69 : decode cX9_recover 69 = .ok (.iand, 1) := by decide +kernel
theorem dX9_recover_70 : decode cX9_recover 70 = .ok (.ireturn, 1) := by decide +kernel
theorem dX9_drain_0 : decode cX9_drain 0 = .ok (.aload_n 0, 1) := by decide +kernel
theorem dX9_drain_1 : decode cX9_drain 1 = .ok (.iload_n 1, 1) := by decide +kernel
theorem dX9_drain_2 : decode cX9_drain 2 = .ok (.invokevirtual 120, 3) := by decide +kernel
theorem dX9_drain_5 : decode cX9_drain 5 = .ok (.aload_n 0, 1) := by decide +kernel
theorem dX9_drain_6 : decode cX9_drain 6 = .ok (.getfield 33, 3) := by decide +kernel
theorem dX9_drain_9 : decode cX9_drain 9 = .ok (.getfield 123, 3) := by decide +kernel
theorem dX9_drain_12 : decode cX9_drain 12 = .ok (.iload_n 1, 1) := by decide +kernel
theorem dX9_drain_13 : decode cX9_drain 13 = .ok (.iconst 5, 1) := by decide +kernel
theorem dX9_drain_14 : decode cX9_drain 14 = .ok (.invokevirtual 126, 3) := by decide +kernel
theorem dX9_drain_17 : decode cX9_drain 17 = .ok (.iload_n 2, 1) := by decide +kernel
theorem dX9_drain_18 : decode cX9_drain 18 = .ok (.ifCond .eq 7, 3) := by decide +kernel
theorem dX9_drain_21 : decode cX9_drain 21 = .ok (.iconst 0, 1) := by decide +kernel
theorem dX9_drain_22 : decode cX9_drain 22 = .ok (.goto 4, 3) := by decide +kernel
theorem dX9_drain_25 : decode cX9_drain 25 = .ok (.iconst 2, 1) := by decide +kernel
theorem dX9_drain_26 : decode cX9_drain 26 = .ok (.if_icmp .ne 7, 3) := by decide +kernel
theorem dX9_drain_29 : decode cX9_drain 29 = .ok (.iconst 1, 1) := by decide +kernel
theorem dX9_drain_30 : decode cX9_drain 30 = .ok (.goto 4, 3) := by decide +kernel
theorem dX9_drain_33 : decode cX9_drain 33 = .ok (.iconst 0, 1) := by decide +kernel
theorem dX9_drain_34 : decode cX9_drain 34 = .ok (.invokestatic 227, 3) := by decide +kernel
theorem dX9_drain_37 : decode cX9_drain 37 = .ok (.aload_n 0, 1) := by decide +kernel
theorem dX9_drain_38 : decode cX9_drain 38 = .ok (.getfield 54, 3) := by decide +kernel
theorem dX9_drain_41 : decode cX9_drain 41 = .ok (.aload_n 0, 1) := by decide +kernel
theorem dX9_drain_42 : decode cX9_drain 42 = .ok (.getfield 33, 3) := by decide +kernel
theorem dX9_drain_45 : decode cX9_drain 45 = .ok (.invokevirtual 83, 3) := by decide +kernel
theorem dX9_drain_48 : decode cX9_drain 48 = .ok (.aload_n 0, 1) := by decide +kernel
theorem dX9_drain_49 : decode cX9_drain 49 = .ok (.getfield 33, 3) := by decide +kernel
theorem dX9_drain_52 : decode cX9_drain 52 = .ok (.iload_n 1, 1) := by decide +kernel
theorem dX9_drain_53 : decode cX9_drain 53 = .ok (.iload_n 2, 1) := by decide +kernel
theorem dX9_drain_54 : decode cX9_drain 54 = .ok (.ifCond .eq 7, 3) := by decide +kernel
theorem dX9_drain_57 : decode cX9_drain 57 = .ok (.iconst 2, 1) := by decide +kernel
theorem dX9_drain_58 : decode cX9_drain 58 = .ok (.goto 4, 3) := by decide +kernel
theorem dX9_drain_61 : decode cX9_drain 61 = .ok (.iconst 0, 1) := by decide +kernel
theorem dX9_drain_62 : decode cX9_drain 62 = .ok (.invokevirtual 230, 3) := by decide +kernel
theorem dX9_drain_65 : decode cX9_drain 65 = .ok (.aload_n 0, 1) := by decide +kernel
theorem dX9_drain_66 : decode cX9_drain 66 = .ok (.getfield 33, 3) := by decide +kernel
theorem dX9_drain_69 : decode cX9_drain 69 = .ok (.getfield 123, 3) := by decide +kernel
theorem dX9_drain_72 : decode cX9_drain 72 = .ok (.iload_n 1, 1) := by decide +kernel
theorem dX9_drain_73 : decode cX9_drain 73 = .ok (.iconst 4, 1) := by decide +kernel
theorem dX9_drain_74 : decode cX9_drain 74 = .ok (.invokevirtual 126, 3) := by decide +kernel
theorem dX9_drain_77 : decode cX9_drain 77 = .ok (.ireturn, 1) := by decide +kernel
theorem dX9_round_0 : decode cX9_round 0 = .ok (.aload_n 0, 1) := by decide +kernel
theorem dX9_round_1 : decode cX9_round 1 = .ok (.getfield 54, 3) := by decide +kernel
theorem dX9_round_4 : decode cX9_round 4 = .ok (.aload_n 0, 1) := by decide +kernel
theorem dX9_round_5 : decode cX9_round 5 = .ok (.getfield 33, 3) := by decide +kernel
theorem dX9_round_8 : decode cX9_round 8 = .ok (.invokevirtual 83, 3) := by decide +kernel
theorem dX9_round_11 : decode cX9_round 11 = .ok (.aload_n 0, 1) := by decide +kernel
theorem dX9_round_12 : decode cX9_round 12 = .ok (.getfield 40, 3) := by decide +kernel
theorem dX9_round_15 : decode cX9_round 15 = .ok (.aload_n 0, 1) := by decide +kernel
theorem dX9_round_16 : decode cX9_round 16 = .ok (.getfield 33, 3) := by decide +kernel
theorem dX9_round_19 : decode cX9_round 19 = .ok (.invokevirtual 209, 3) := by decide +kernel
theorem dX9_round_22 : decode cX9_round 22 = .ok (.aload_n 0, 1) := by decide +kernel
theorem dX9_round_23 : decode cX9_round 23 = .ok (.getfield 40, 3) := by decide +kernel
theorem dX9_round_26 : decode cX9_round 26 = .ok (.aload_n 0, 1) := by decide +kernel
theorem dX9_round_27 : decode cX9_round 27 = .ok (.getfield 33, 3) := by decide +kernel
theorem dX9_round_30 : decode cX9_round 30 = .ok (.invokevirtual 233, 3) := by decide +kernel
theorem dX9_round_33 : decode cX9_round 33 = .ok (.aload_n 0, 1) := by decide +kernel
theorem dX9_round_34 : decode cX9_round 34 = .ok (.getfield 40, 3) := by decide +kernel
theorem dX9_round_37 : decode cX9_round 37 = .ok (.getfield 236, 3) := by decide +kernel
theorem dX9_round_40 : decode cX9_round 40 = .ok (.ireturn, 1) := by decide +kernel
theorem dX9_rounds_0 : decode cX9_rounds 0 = .ok (.iload_n 1, 1) := by decide +kernel
theorem dX9_rounds_1 : decode cX9_rounds 1 = .ok (.iconst 1, 1) := by decide +kernel
theorem dX9_rounds_2 : decode cX9_rounds 2 = .ok (.if_icmp .lt 13, 3) := by decide +kernel
theorem dX9_rounds_5 : decode cX9_rounds 5 = .ok (.iload_n 1, 1) := by decide +kernel
theorem dX9_rounds_6 : decode cX9_rounds 6 = .ok (.bipush 100, 2) := by decide +kernel
theorem dX9_rounds_8 : decode cX9_rounds 8 = .ok (.if_icmp .gt 7, 3) := by decide +kernel
theorem dX9_rounds_11 : decode cX9_rounds 11 = .ok (.iconst 1, 1) := by decide +kernel
theorem dX9_rounds_12 : decode cX9_rounds 12 = .ok (.goto 4, 3) := by decide +kernel
theorem dX9_rounds_15 : decode cX9_rounds 15 = .ok (.iconst 0, 1) := by decide +kernel
theorem dX9_rounds_16 : decode cX9_rounds 16 = .ok (.invokestatic 72, 3) := by decide +kernel
theorem dX9_rounds_19 : decode cX9_rounds 19 = .ok (.aload_n 0, 1) := by decide +kernel
theorem dX9_rounds_20 : decode cX9_rounds 20 = .ok (.getfield 54, 3) := by decide +kernel
theorem dX9_rounds_23 : decode cX9_rounds 23 = .ok (.aload_n 0, 1) := by decide +kernel
theorem dX9_rounds_24 : decode cX9_rounds 24 = .ok (.getfield 33, 3) := by decide +kernel
theorem dX9_rounds_27 : decode cX9_rounds 27 = .ok (.invokevirtual 83, 3) := by decide +kernel
theorem dX9_rounds_30 : decode cX9_rounds 30 = .ok (.iconst 0, 1) := by decide +kernel
theorem dX9_rounds_31 : decode cX9_rounds 31 = .ok (.istore_n 2, 1) := by decide +kernel
theorem dX9_rounds_32 : decode cX9_rounds 32 = .ok (.iconst 0, 1) := by decide +kernel
theorem dX9_rounds_33 : decode cX9_rounds 33 = .ok (.istore_n 3, 1) := by decide +kernel
theorem dX9_rounds_34 : decode cX9_rounds 34 = .ok (.iload_n 3, 1) := by decide +kernel
theorem dX9_rounds_35 : decode cX9_rounds 35 = .ok (.iload_n 1, 1) := by decide +kernel
theorem dX9_rounds_36 : decode cX9_rounds 36 = .ok (.if_icmp .ge 41, 3) := by decide +kernel
theorem dX9_rounds_39 : decode cX9_rounds 39 = .ok (.aload_n 0, 1) := by decide +kernel
theorem dX9_rounds_40 : decode cX9_rounds 40 = .ok (.getfield 40, 3) := by decide +kernel
theorem dX9_rounds_43 : decode cX9_rounds 43 = .ok (.aload_n 0, 1) := by decide +kernel
theorem dX9_rounds_44 : decode cX9_rounds 44 = .ok (.getfield 33, 3) := by decide +kernel
theorem dX9_rounds_47 : decode cX9_rounds 47 = .ok (.invokevirtual 209, 3) := by decide +kernel
theorem dX9_rounds_50 : decode cX9_rounds 50 = .ok (.aload_n 0, 1) := by decide +kernel
theorem dX9_rounds_51 : decode cX9_rounds 51 = .ok (.getfield 40, 3) := by decide +kernel
theorem dX9_rounds_54 : decode cX9_rounds 54 = .ok (.aload_n 0, 1) := by decide +kernel
theorem dX9_rounds_55 : decode cX9_rounds 55 = .ok (.getfield 33, 3) := by decide +kernel
theorem dX9_rounds_58 : decode cX9_rounds 58 = .ok (.invokevirtual 233, 3) := by decide +kernel
theorem dX9_rounds_61 : decode cX9_rounds 61 = .ok (.iload_n 2, 1) := by decide +kernel
theorem dX9_rounds_62 : decode cX9_rounds 62 = .ok (.aload_n 0, 1) := by decide +kernel
theorem dX9_rounds_63 : decode cX9_rounds 63 = .ok (.getfield 40, 3) := by decide +kernel
theorem dX9_rounds_66 : decode cX9_rounds 66 = .ok (.getfield 239, 3) := by decide +kernel
theorem dX9_rounds_69 : decode cX9_rounds 69 = .ok (.iadd, 1) := by decide +kernel
theorem dX9_rounds_70 : decode cX9_rounds 70 = .ok (.istore_n 2, 1) := by decide +kernel
theorem dX9_rounds_71 : decode cX9_rounds 71 = .ok (.iinc 3 1, 3) := by decide +kernel
theorem dX9_rounds_74 : decode cX9_rounds 74 = .ok (.goto (-40), 3) := by decide +kernel
theorem dX9_rounds_77 : decode cX9_rounds 77 = .ok (.iload_n 2, 1) := by decide +kernel
theorem dX9_rounds_78 : decode cX9_rounds 78 = .ok (.ireturn, 1) := by decide +kernel
theorem dX9_setRisk_0 : decode cX9_setRisk 0 = .ok (.aload_n 0, 1) := by decide +kernel
theorem dX9_setRisk_1 : decode cX9_setRisk 1 = .ok (.iload_n 1, 1) := by decide +kernel
theorem dX9_setRisk_2 : decode cX9_setRisk 2 = .ok (.invokevirtual 120, 3) := by decide +kernel
theorem dX9_setRisk_5 : decode cX9_setRisk 5 = .ok (.iload_n 2, 1) := by decide +kernel
theorem dX9_setRisk_6 : decode cX9_setRisk 6 = .ok (.ifCond .lt 14, 3) := by decide +kernel
theorem dX9_setRisk_9 : decode cX9_setRisk 9 = .ok (.iload_n 2, 1) := by decide +kernel
theorem dX9_setRisk_10 : decode cX9_setRisk 10 = .ok (.sipush 1000, 3) := by decide +kernel
theorem dX9_setRisk_13 : decode cX9_setRisk 13 = .ok (.if_icmp .ge 7, 3) := by decide +kernel
theorem dX9_setRisk_16 : decode cX9_setRisk 16 = .ok (.iconst 1, 1) := by decide +kernel
theorem dX9_setRisk_17 : decode cX9_setRisk 17 = .ok (.goto 4, 3) := by decide +kernel
theorem dX9_setRisk_20 : decode cX9_setRisk 20 = .ok (.iconst 0, 1) := by decide +kernel
theorem dX9_setRisk_21 : decode cX9_setRisk 21 = .ok (.invokestatic 72, 3) := by decide +kernel
theorem dX9_setRisk_24 : decode cX9_setRisk 24 = .ok (.aload_n 0, 1) := by decide +kernel
theorem dX9_setRisk_25 : decode cX9_setRisk 25 = .ok (.getfield 54, 3) := by decide +kernel
theorem dX9_setRisk_28 : decode cX9_setRisk 28 = .ok (.aload_n 0, 1) := by decide +kernel
theorem dX9_setRisk_29 : decode cX9_setRisk 29 = .ok (.getfield 33, 3) := by decide +kernel
theorem dX9_setRisk_32 : decode cX9_setRisk 32 = .ok (.invokevirtual 83, 3) := by decide +kernel
theorem dX9_setRisk_35 : decode cX9_setRisk 35 = .ok (.aload_n 0, 1) := by decide +kernel
theorem dX9_setRisk_36 : decode cX9_setRisk 36 = .ok (.getfield 33, 3) := by decide +kernel
theorem dX9_setRisk_39 : decode cX9_setRisk 39 = .ok (.getfield 123, 3) := by decide +kernel
theorem dX9_setRisk_42 : decode cX9_setRisk 42 = .ok (.iload_n 1, 1) := by decide +kernel
theorem dX9_setRisk_43 : decode cX9_setRisk 43 = .ok (.iconst 2, 1) := by decide +kernel
theorem dX9_setRisk_44 : decode cX9_setRisk 44 = .ok (.invokevirtual 126, 3) := by decide +kernel
theorem dX9_setRisk_47 : decode cX9_setRisk 47 = .ok (.istore_n 3, 1) := by decide +kernel
theorem dX9_setRisk_48 : decode cX9_setRisk 48 = .ok (.aload_n 0, 1) := by decide +kernel
theorem dX9_setRisk_49 : decode cX9_setRisk 49 = .ok (.getfield 33, 3) := by decide +kernel
theorem dX9_setRisk_52 : decode cX9_setRisk 52 = .ok (.getfield 123, 3) := by decide +kernel
theorem dX9_setRisk_55 : decode cX9_setRisk 55 = .ok (.iload_n 1, 1) := by decide +kernel
theorem dX9_setRisk_56 : decode cX9_setRisk 56 = .ok (.iconst 2, 1) := by decide +kernel
theorem dX9_setRisk_57 : decode cX9_setRisk 57 = .ok (.iload_n 2, 1) := by decide +kernel
theorem dX9_setRisk_58 : decode cX9_setRisk 58 = .ok (.invokevirtual 242, 3) := by decide +kernel
theorem dX9_setRisk_61 : decode cX9_setRisk 61 = .ok (.iload_n 3, 1) := by decide +kernel
theorem dX9_setRisk_62 : decode cX9_setRisk 62 = .ok (.ireturn, 1) := by decide +kernel
theorem dX9_setBandwidth_0 : decode cX9_setBandwidth 0 = .ok (.iload_n 1, 1) := by decide +kernel
theorem dX9_setBandwidth_1 : decode cX9_setBandwidth 1 = .ok (.iconst 1, 1) := by decide +kernel
theorem dX9_setBandwidth_2 : decode cX9_setBandwidth 2 = .ok (.if_icmp .lt 13, 3) := by decide +kernel
theorem dX9_setBandwidth_5 : decode cX9_setBandwidth 5 = .ok (.iload_n 1, 1) := by decide +kernel
theorem dX9_setBandwidth_6 : decode cX9_setBandwidth 6 = .ok (.ldc 246, 2) := by decide +kernel
theorem dX9_setBandwidth_8 : decode cX9_setBandwidth 8 = .ok (.if_icmp .gt 7, 3) := by decide +kernel
theorem dX9_setBandwidth_11 : decode cX9_setBandwidth 11 = .ok (.iconst 1, 1) := by decide +kernel
theorem dX9_setBandwidth_12 : decode cX9_setBandwidth 12 = .ok (.goto 4, 3) := by decide +kernel
theorem dX9_setBandwidth_15 : decode cX9_setBandwidth 15 = .ok (.iconst 0, 1) := by decide +kernel
theorem dX9_setBandwidth_16 : decode cX9_setBandwidth 16 = .ok (.invokestatic 72, 3) := by decide +kernel
theorem dX9_setBandwidth_19 : decode cX9_setBandwidth 19 = .ok (.aload_n 0, 1) := by decide +kernel
theorem dX9_setBandwidth_20 : decode cX9_setBandwidth 20 = .ok (.getfield 54, 3) := by decide +kernel
theorem dX9_setBandwidth_23 : decode cX9_setBandwidth 23 = .ok (.aload_n 0, 1) := by decide +kernel
theorem dX9_setBandwidth_24 : decode cX9_setBandwidth 24 = .ok (.getfield 33, 3) := by decide +kernel
theorem dX9_setBandwidth_27 : decode cX9_setBandwidth 27 = .ok (.invokevirtual 83, 3) := by decide +kernel
theorem dX9_setBandwidth_30 : decode cX9_setBandwidth 30 = .ok (.aload_n 0, 1) := by decide +kernel
theorem dX9_setBandwidth_31 : decode cX9_setBandwidth 31 = .ok (.getfield 33, 3) := by decide +kernel
theorem dX9_setBandwidth_34 : decode cX9_setBandwidth 34 = .ok (.getfield 247, 3) := by decide +kernel
theorem dX9_setBandwidth_37 : decode cX9_setBandwidth 37 = .ok (.istore_n 2, 1) := by decide +kernel
theorem dX9_setBandwidth_38 : decode cX9_setBandwidth 38 = .ok (.aload_n 0, 1) := by decide +kernel
theorem dX9_setBandwidth_39 : decode cX9_setBandwidth 39 = .ok (.getfield 33, 3) := by decide +kernel
theorem dX9_setBandwidth_42 : decode cX9_setBandwidth 42 = .ok (.iload_n 1, 1) := by decide +kernel
theorem dX9_setBandwidth_43 : decode cX9_setBandwidth 43 = .ok (.putfield 247, 3) := by decide +kernel
theorem dX9_setBandwidth_46 : decode cX9_setBandwidth 46 = .ok (.iload_n 2, 1) := by decide +kernel
theorem dX9_setBandwidth_47 : decode cX9_setBandwidth 47 = .ok (.ireturn, 1) := by decide +kernel
theorem dX9_setRule_0 : decode cX9_setRule 0 = .ok (.iload_n 1, 1) := by decide +kernel
theorem dX9_setRule_1 : decode cX9_setRule 1 = .ok (.ifCond .lt 12, 3) := by decide +kernel
theorem dX9_setRule_4 : decode cX9_setRule 4 = .ok (.iload_n 1, 1) := by decide +kernel
theorem dX9_setRule_5 : decode cX9_setRule 5 = .ok (.iconst 2, 1) := by decide +kernel
theorem dX9_setRule_6 : decode cX9_setRule 6 = .ok (.if_icmp .gt 7, 3) := by decide +kernel
theorem dX9_setRule_9 : decode cX9_setRule 9 = .ok (.iconst 1, 1) := by decide +kernel
theorem dX9_setRule_10 : decode cX9_setRule 10 = .ok (.goto 4, 3) := by decide +kernel
theorem dX9_setRule_13 : decode cX9_setRule 13 = .ok (.iconst 0, 1) := by decide +kernel
theorem dX9_setRule_14 : decode cX9_setRule 14 = .ok (.invokestatic 72, 3) := by decide +kernel
theorem dX9_setRule_17 : decode cX9_setRule 17 = .ok (.aload_n 0, 1) := by decide +kernel
theorem dX9_setRule_18 : decode cX9_setRule 18 = .ok (.getfield 54, 3) := by decide +kernel
theorem dX9_setRule_21 : decode cX9_setRule 21 = .ok (.aload_n 0, 1) := by decide +kernel
theorem dX9_setRule_22 : decode cX9_setRule 22 = .ok (.getfield 33, 3) := by decide +kernel
theorem dX9_setRule_25 : decode cX9_setRule 25 = .ok (.invokevirtual 83, 3) := by decide +kernel
theorem dX9_setRule_28 : decode cX9_setRule 28 = .ok (.aload_n 0, 1) := by decide +kernel
theorem dX9_setRule_29 : decode cX9_setRule 29 = .ok (.getfield 33, 3) := by decide +kernel
theorem dX9_setRule_32 : decode cX9_setRule 32 = .ok (.getfield 250, 3) := by decide +kernel
theorem dX9_setRule_35 : decode cX9_setRule 35 = .ok (.istore_n 2, 1) := by decide +kernel
theorem dX9_setRule_36 : decode cX9_setRule 36 = .ok (.aload_n 0, 1) := by decide +kernel
theorem dX9_setRule_37 : decode cX9_setRule 37 = .ok (.getfield 33, 3) := by decide +kernel
theorem dX9_setRule_40 : decode cX9_setRule 40 = .ok (.iload_n 1, 1) := by decide +kernel
theorem dX9_setRule_41 : decode cX9_setRule 41 = .ok (.putfield 250, 3) := by decide +kernel
theorem dX9_setRule_44 : decode cX9_setRule 44 = .ok (.iload_n 2, 1) := by decide +kernel
theorem dX9_setRule_45 : decode cX9_setRule 45 = .ok (.ireturn, 1) := by decide +kernel
theorem dX9_grant_0 : decode cX9_grant 0 = .ok (.aload_n 0, 1) := by decide +kernel
theorem dX9_grant_1 : decode cX9_grant 1 = .ok (.iload_n 1, 1) := by decide +kernel
theorem dX9_grant_2 : decode cX9_grant 2 = .ok (.invokevirtual 139, 3) := by decide +kernel
theorem dX9_grant_5 : decode cX9_grant 5 = .ok (.iload_n 2, 1) := by decide +kernel
theorem dX9_grant_6 : decode cX9_grant 6 = .ok (.iconst 1, 1) := by decide +kernel
theorem dX9_grant_7 : decode cX9_grant 7 = .ok (.if_icmp .lt 13, 3) := by decide +kernel
theorem dX9_grant_10 : decode cX9_grant 10 = .ok (.iload_n 2, 1) := by decide +kernel
theorem dX9_grant_11 : decode cX9_grant 11 = .ok (.ldc 253, 2) := by decide +kernel
theorem dX9_grant_13 : decode cX9_grant 13 = .ok (.if_icmp .gt 7, 3) := by decide +kernel
theorem dX9_grant_16 : decode cX9_grant 16 = .ok (.iconst 1, 1) := by decide +kernel
theorem dX9_grant_17 : decode cX9_grant 17 = .ok (.goto 4, 3) := by decide +kernel
theorem dX9_grant_20 : decode cX9_grant 20 = .ok (.iconst 0, 1) := by decide +kernel
theorem dX9_grant_21 : decode cX9_grant 21 = .ok (.invokestatic 72, 3) := by decide +kernel
theorem dX9_grant_24 : decode cX9_grant 24 = .ok (.aload_n 0, 1) := by decide +kernel
theorem dX9_grant_25 : decode cX9_grant 25 = .ok (.getfield 33, 3) := by decide +kernel
theorem dX9_grant_28 : decode cX9_grant 28 = .ok (.getfield 142, 3) := by decide +kernel
theorem dX9_grant_31 : decode cX9_grant 31 = .ok (.iload_n 1, 1) := by decide +kernel
theorem dX9_grant_32 : decode cX9_grant 32 = .ok (.iconst 2, 1) := by decide +kernel
theorem dX9_grant_33 : decode cX9_grant 33 = .ok (.invokevirtual 126, 3) := by decide +kernel
theorem dX9_grant_36 : decode cX9_grant 36 = .ok (.iload_n 2, 1) := by decide +kernel
theorem dX9_grant_37 : decode cX9_grant 37 = .ok (.iadd, 1) := by decide +kernel
theorem dX9_grant_38 : decode cX9_grant 38 = .ok (.istore_n 3, 1) := by decide +kernel
theorem dX9_grant_39 : decode cX9_grant 39 = .ok (.iload_n 3, 1) := by decide +kernel
theorem dX9_grant_40 : decode cX9_grant 40 = .ok (.ldc 254, 2) := by decide +kernel
theorem dX9_grant_42 : decode cX9_grant 42 = .ok (.if_icmp .gt 7, 3) := by decide +kernel
theorem dX9_grant_45 : decode cX9_grant 45 = .ok (.iconst 1, 1) := by decide +kernel
theorem dX9_grant_46 : decode cX9_grant 46 = .ok (.goto 4, 3) := by decide +kernel
theorem dX9_grant_49 : decode cX9_grant 49 = .ok (.iconst 0, 1) := by decide +kernel
theorem dX9_grant_50 : decode cX9_grant 50 = .ok (.invokestatic 227, 3) := by decide +kernel
theorem dX9_grant_53 : decode cX9_grant 53 = .ok (.aload_n 0, 1) := by decide +kernel
theorem dX9_grant_54 : decode cX9_grant 54 = .ok (.getfield 54, 3) := by decide +kernel
theorem dX9_grant_57 : decode cX9_grant 57 = .ok (.aload_n 0, 1) := by decide +kernel
theorem dX9_grant_58 : decode cX9_grant 58 = .ok (.getfield 33, 3) := by decide +kernel
theorem dX9_grant_61 : decode cX9_grant 61 = .ok (.invokevirtual 83, 3) := by decide +kernel
theorem dX9_grant_64 : decode cX9_grant 64 = .ok (.aload_n 0, 1) := by decide +kernel
theorem dX9_grant_65 : decode cX9_grant 65 = .ok (.getfield 33, 3) := by decide +kernel
theorem dX9_grant_68 : decode cX9_grant 68 = .ok (.getfield 142, 3) := by decide +kernel
theorem dX9_grant_71 : decode cX9_grant 71 = .ok (.iload_n 1, 1) := by decide +kernel
theorem dX9_grant_72 : decode cX9_grant 72 = .ok (.iconst 2, 1) := by decide +kernel
theorem dX9_grant_73 : decode cX9_grant 73 = .ok (.iload_n 3, 1) := by decide +kernel
theorem dX9_grant_74 : decode cX9_grant 74 = .ok (.invokevirtual 242, 3) := by decide +kernel
theorem dX9_grant_77 : decode cX9_grant 77 = .ok (.iload_n 3, 1) := by decide +kernel
theorem dX9_grant_78 : decode cX9_grant 78 = .ok (.ireturn, 1) := by decide +kernel
theorem dX9_move_0 : decode cX9_move 0 = .ok (.aload_n 0, 1) := by decide +kernel
theorem dX9_move_1 : decode cX9_move 1 = .ok (.iload_n 1, 1) := by decide +kernel
theorem dX9_move_2 : decode cX9_move 2 = .ok (.iload_n 2, 1) := by decide +kernel
theorem dX9_move_3 : decode cX9_move 3 = .ok (.invokevirtual 151, 3) := by decide +kernel
theorem dX9_move_6 : decode cX9_move 6 = .ok (.aload_n 0, 1) := by decide +kernel
theorem dX9_move_7 : decode cX9_move 7 = .ok (.iload_n 3, 1) := by decide +kernel
theorem dX9_move_8 : decode cX9_move 8 = .ok (.invokevirtual 120, 3) := by decide +kernel
theorem dX9_move_11 : decode cX9_move 11 = .ok (.aload_n 0, 1) := by decide +kernel
theorem dX9_move_12 : decode cX9_move 12 = .ok (.getfield 33, 3) := by decide +kernel
theorem dX9_move_15 : decode cX9_move 15 = .ok (.iload_n 1, 1) := by decide +kernel
theorem dX9_move_16 : decode cX9_move 16 = .ok (.invokevirtual 158, 3) := by decide +kernel
theorem dX9_move_19 : decode cX9_move 19 = .ok (.iload_n 2, 1) := by decide +kernel
theorem dX9_move_20 : decode cX9_move 20 = .ok (.invokestatic 132, 3) := by decide +kernel
theorem dX9_move_23 : decode cX9_move 23 = .ok (.ifCond .ne 26, 3) := by decide +kernel
theorem dX9_move_26 : decode cX9_move 26 = .ok (.aload_n 0, 1) := by decide +kernel
theorem dX9_move_27 : decode cX9_move 27 = .ok (.getfield 33, 3) := by decide +kernel
theorem dX9_move_30 : decode cX9_move 30 = .ok (.iload_n 3, 1) := by decide +kernel
theorem dX9_move_31 : decode cX9_move 31 = .ok (.aload_n 0, 1) := by decide +kernel
theorem dX9_move_32 : decode cX9_move 32 = .ok (.getfield 33, 3) := by decide +kernel
theorem dX9_move_35 : decode cX9_move 35 = .ok (.iload_n 1, 1) := by decide +kernel
theorem dX9_move_36 : decode cX9_move 36 = .ok (.invokevirtual 129, 3) := by decide +kernel
theorem dX9_move_39 : decode cX9_move 39 = .ok (.invokevirtual 255, 3) := by decide +kernel
theorem dX9_move_42 : decode cX9_move 42 = .ok (.ifCond .eq 7, 3) := by decide +kernel
theorem dX9_move_45 : decode cX9_move 45 = .ok (.iconst 1, 1) := by decide +kernel
theorem dX9_move_46 : decode cX9_move 46 = .ok (.goto 4, 3) := by decide +kernel
theorem dX9_move_49 : decode cX9_move 49 = .ok (.iconst 0, 1) := by decide +kernel
theorem dX9_move_50 : decode cX9_move 50 = .ok (.invokestatic 227, 3) := by decide +kernel
theorem dX9_move_53 : decode cX9_move 53 = .ok (.aload_n 0, 1) := by decide +kernel
theorem dX9_move_54 : decode cX9_move 54 = .ok (.getfield 54, 3) := by decide +kernel
theorem dX9_move_57 : decode cX9_move 57 = .ok (.aload_n 0, 1) := by decide +kernel
theorem dX9_move_58 : decode cX9_move 58 = .ok (.getfield 33, 3) := by decide +kernel
theorem dX9_move_61 : decode cX9_move 61 = .ok (.invokevirtual 83, 3) := by decide +kernel
theorem dX9_move_64 : decode cX9_move 64 = .ok (.aload_n 0, 1) := by decide +kernel
theorem dX9_move_65 : decode cX9_move 65 = .ok (.getfield 33, 3) := by decide +kernel
theorem dX9_move_68 : decode cX9_move 68 = .ok (.iload_n 1, 1) := by decide +kernel
theorem dX9_move_69 : decode cX9_move 69 = .ok (.iload_n 2, 1) := by decide +kernel
theorem dX9_move_70 : decode cX9_move 70 = .ok (.invokevirtual 155, 3) := by decide +kernel
theorem dX9_move_73 : decode cX9_move 73 = .ok (.istore 4, 2) := by decide +kernel
theorem dX9_move_75 : decode cX9_move 75 = .ok (.aload_n 0, 1) := by decide +kernel
theorem dX9_move_76 : decode cX9_move 76 = .ok (.getfield 33, 3) := by decide +kernel
theorem dX9_move_79 : decode cX9_move 79 = .ok (.iload_n 1, 1) := by decide +kernel
theorem dX9_move_80 : decode cX9_move 80 = .ok (.iload_n 2, 1) := by decide +kernel
theorem dX9_move_81 : decode cX9_move 81 = .ok (.iload_n 3, 1) := by decide +kernel
theorem dX9_move_82 : decode cX9_move 82 = .ok (.invokevirtual 258, 3) := by decide +kernel
theorem dX9_move_85 : decode cX9_move 85 = .ok (.iload 4, 2) := by decide +kernel
theorem dX9_move_87 : decode cX9_move 87 = .ok (.ireturn, 1) := by decide +kernel
theorem dX9_lostBy_0 : decode cX9_lostBy 0 = .ok (.iload_n 1, 1) := by decide +kernel
theorem dX9_lostBy_1 : decode cX9_lostBy 1 = .ok (.aload_n 0, 1) := by decide +kernel
theorem dX9_lostBy_2 : decode cX9_lostBy 2 = .ok (.getfield 33, 3) := by decide +kernel
theorem dX9_lostBy_5 : decode cX9_lostBy 5 = .ok (.invokevirtual 261, 3) := by decide +kernel
theorem dX9_lostBy_8 : decode cX9_lostBy 8 = .ok (.iconst (-1), 1) := by decide +kernel
theorem dX9_lostBy_9 : decode cX9_lostBy 9 = .ok (.ixor, 1) := by decide +kernel
theorem dX9_lostBy_10 : decode cX9_lostBy 10 = .ok (.iand, 1) := by decide +kernel
theorem dX9_lostBy_11 : decode cX9_lostBy 11 = .ok (.ifCond .ne 7, 3) := by decide +kernel
theorem dX9_lostBy_14 : decode cX9_lostBy 14 = .ok (.iconst 1, 1) := by decide +kernel
theorem dX9_lostBy_15 : decode cX9_lostBy 15 = .ok (.goto 4, 3) := by decide +kernel
theorem dX9_lostBy_18 : decode cX9_lostBy 18 = .ok (.iconst 0, 1) := by decide +kernel
theorem dX9_lostBy_19 : decode cX9_lostBy 19 = .ok (.invokestatic 72, 3) := by decide +kernel
theorem dX9_lostBy_22 : decode cX9_lostBy 22 = .ok (.aload_n 0, 1) := by decide +kernel
theorem dX9_lostBy_23 : decode cX9_lostBy 23 = .ok (.getfield 33, 3) := by decide +kernel
theorem dX9_lostBy_26 : decode cX9_lostBy 26 = .ok (.iload_n 1, 1) := by decide +kernel
theorem dX9_lostBy_27 : decode cX9_lostBy 27 = .ok (.invokevirtual 176, 3) := by decide +kernel
theorem dX9_lostBy_30 : decode cX9_lostBy 30 = .ok (.ireturn, 1) := by decide +kernel
theorem dX9_fewestFailures_0 : decode cX9_fewestFailures 0 = .ok (.iconst (-1), 1) := by decide +kernel
theorem dX9_fewestFailures_1 : decode cX9_fewestFailures 1 = .ok (.istore_n 1, 1) := by decide +kernel
theorem dX9_fewestFailures_2 : decode cX9_fewestFailures 2 = .ok (.iconst 0, 1) := by decide +kernel
theorem dX9_fewestFailures_3 : decode cX9_fewestFailures 3 = .ok (.istore_n 2, 1) := by decide +kernel
theorem dX9_fewestFailures_4 : decode cX9_fewestFailures 4 = .ok (.iload_n 2, 1) := by decide +kernel
theorem dX9_fewestFailures_5 : decode cX9_fewestFailures 5 = .ok (.aload_n 0, 1) := by decide +kernel
theorem dX9_fewestFailures_6 : decode cX9_fewestFailures 6 = .ok (.getfield 33, 3) := by decide +kernel
theorem dX9_fewestFailures_9 : decode cX9_fewestFailures 9 = .ok (.getfield 91, 3) := by decide +kernel
theorem dX9_fewestFailures_12 : decode cX9_fewestFailures 12 = .ok (.getfield 95, 3) := by decide +kernel
theorem dX9_fewestFailures_15 : decode cX9_fewestFailures 15 = .ok (.if_icmp .ge 34, 3) := by decide +kernel
theorem dX9_fewestFailures_18 : decode cX9_fewestFailures 18 = .ok (.aload_n 0, 1) := by decide +kernel
theorem dX9_fewestFailures_19 : decode cX9_fewestFailures 19 = .ok (.getfield 33, 3) := by decide +kernel
theorem dX9_fewestFailures_22 : decode cX9_fewestFailures 22 = .ok (.iload_n 2, 1) := by decide +kernel
theorem dX9_fewestFailures_23 : decode cX9_fewestFailures 23 = .ok (.invokevirtual 264, 3) := by decide +kernel
theorem dX9_fewestFailures_26 : decode cX9_fewestFailures 26 = .ok (.istore_n 3, 1) := by decide +kernel
theorem dX9_fewestFailures_27 : decode cX9_fewestFailures 27 = .ok (.iload_n 3, 1) := by decide +kernel
theorem dX9_fewestFailures_28 : decode cX9_fewestFailures 28 = .ok (.ifCond .le 15, 3) := by decide +kernel
theorem dX9_fewestFailures_31 : decode cX9_fewestFailures 31 = .ok (.iload_n 1, 1) := by decide +kernel
theorem dX9_fewestFailures_32 : decode cX9_fewestFailures 32 = .ok (.iconst (-1), 1) := by decide +kernel
theorem dX9_fewestFailures_33 : decode cX9_fewestFailures 33 = .ok (.if_icmp .eq 8, 3) := by decide +kernel
theorem dX9_fewestFailures_36 : decode cX9_fewestFailures 36 = .ok (.iload_n 3, 1) := by decide +kernel
theorem dX9_fewestFailures_37 : decode cX9_fewestFailures 37 = .ok (.iload_n 1, 1) := by decide +kernel
theorem dX9_fewestFailures_38 : decode cX9_fewestFailures 38 = .ok (.if_icmp .ge 5, 3) := by decide +kernel
theorem dX9_fewestFailures_41 : decode cX9_fewestFailures 41 = .ok (.iload_n 3, 1) := by decide +kernel
theorem dX9_fewestFailures_42 : decode cX9_fewestFailures 42 = .ok (.istore_n 1, 1) := by decide +kernel
theorem dX9_fewestFailures_43 : decode cX9_fewestFailures 43 = .ok (.iinc 2 1, 3) := by decide +kernel
theorem dX9_fewestFailures_46 : decode cX9_fewestFailures 46 = .ok (.goto (-42), 3) := by decide +kernel
theorem dX9_fewestFailures_49 : decode cX9_fewestFailures 49 = .ok (.iload_n 1, 1) := by decide +kernel
theorem dX9_fewestFailures_50 : decode cX9_fewestFailures 50 = .ok (.ireturn, 1) := by decide +kernel
theorem dX9_fewestFailuresSet_0 : decode cX9_fewestFailuresSet 0 = .ok (.aload_n 0, 1) := by decide +kernel
theorem dX9_fewestFailuresSet_1 : decode cX9_fewestFailuresSet 1 = .ok (.invokevirtual 267, 3) := by decide +kernel
theorem dX9_fewestFailuresSet_4 : decode cX9_fewestFailuresSet 4 = .ok (.istore_n 1, 1) := by decide +kernel
theorem dX9_fewestFailuresSet_5 : decode cX9_fewestFailuresSet 5 = .ok (.iconst (-1), 1) := by decide +kernel
theorem dX9_fewestFailuresSet_6 : decode cX9_fewestFailuresSet 6 = .ok (.istore_n 2, 1) := by decide +kernel
theorem dX9_fewestFailuresSet_7 : decode cX9_fewestFailuresSet 7 = .ok (.iconst 0, 1) := by decide +kernel
theorem dX9_fewestFailuresSet_8 : decode cX9_fewestFailuresSet 8 = .ok (.istore_n 3, 1) := by decide +kernel
theorem dX9_fewestFailuresSet_9 : decode cX9_fewestFailuresSet 9 = .ok (.iload_n 3, 1) := by decide +kernel
theorem dX9_fewestFailuresSet_10 : decode cX9_fewestFailuresSet 10 = .ok (.aload_n 0, 1) := by decide +kernel
theorem dX9_fewestFailuresSet_11 : decode cX9_fewestFailuresSet 11 = .ok (.getfield 33, 3) := by decide +kernel
theorem dX9_fewestFailuresSet_14 : decode cX9_fewestFailuresSet 14 = .ok (.getfield 91, 3) := by decide +kernel
theorem dX9_fewestFailuresSet_17 : decode cX9_fewestFailuresSet 17 = .ok (.getfield 95, 3) := by decide +kernel
theorem dX9_fewestFailuresSet_20 : decode cX9_fewestFailuresSet 20 = .ok (.if_icmp .ge 54, 3) := by decide +kernel
theorem dX9_fewestFailuresSet_23 : decode cX9_fewestFailuresSet 23 = .ok (.iload_n 1, 1) := by decide +kernel
theorem dX9_fewestFailuresSet_24 : decode cX9_fewestFailuresSet 24 = .ok (.iconst (-1), 1) := by decide +kernel
theorem dX9_fewestFailuresSet_25 : decode cX9_fewestFailuresSet 25 = .ok (.if_icmp .eq 43, 3) := by decide +kernel
theorem dX9_fewestFailuresSet_28 : decode cX9_fewestFailuresSet 28 = .ok (.aload_n 0, 1) := by decide +kernel
theorem dX9_fewestFailuresSet_29 : decode cX9_fewestFailuresSet 29 = .ok (.getfield 33, 3) := by decide +kernel
theorem dX9_fewestFailuresSet_32 : decode cX9_fewestFailuresSet 32 = .ok (.iload_n 3, 1) := by decide +kernel
theorem dX9_fewestFailuresSet_33 : decode cX9_fewestFailuresSet 33 = .ok (.invokevirtual 264, 3) := by decide +kernel
theorem dX9_fewestFailuresSet_36 : decode cX9_fewestFailuresSet 36 = .ok (.iload_n 1, 1) := by decide +kernel
theorem dX9_fewestFailuresSet_37 : decode cX9_fewestFailuresSet 37 = .ok (.if_icmp .ne 31, 3) := by decide +kernel
theorem dX9_fewestFailuresSet_40 : decode cX9_fewestFailuresSet 40 = .ok (.aload_n 0, 1) := by decide +kernel
theorem dX9_fewestFailuresSet_41 : decode cX9_fewestFailuresSet 41 = .ok (.getfield 33, 3) := by decide +kernel
theorem dX9_fewestFailuresSet_44 : decode cX9_fewestFailuresSet 44 = .ok (.iload_n 3, 1) := by decide +kernel
theorem dX9_fewestFailuresSet_45 : decode cX9_fewestFailuresSet 45 = .ok (.invokevirtual 270, 3) := by decide +kernel
theorem dX9_fewestFailuresSet_48 : decode cX9_fewestFailuresSet 48 = .ok (.iload_n 1, 1) := by decide +kernel
theorem dX9_fewestFailuresSet_49 : decode cX9_fewestFailuresSet 49 = .ok (.invokestatic 273, 3) := by decide +kernel
theorem dX9_fewestFailuresSet_52 : decode cX9_fewestFailuresSet 52 = .ok (.istore 4, 2) := by decide +kernel
theorem dX9_fewestFailuresSet_54 : decode cX9_fewestFailuresSet 54 = .ok (.iload_n 2, 1) := by decide +kernel
theorem dX9_fewestFailuresSet_55 : decode cX9_fewestFailuresSet 55 = .ok (.iconst (-1), 1) := by decide +kernel
theorem dX9_fewestFailuresSet_56 : decode cX9_fewestFailuresSet 56 = .ok (.if_icmp .eq 9, 3) := by decide +kernel
theorem dX9_fewestFailuresSet_59 : decode cX9_fewestFailuresSet 59 = .ok (.iload 4, 2) := by decide +kernel
theorem dX9_fewestFailuresSet_61 : decode cX9_fewestFailuresSet 61 = .ok (.iload_n 2, 1) := by decide +kernel
theorem dX9_fewestFailuresSet_62 : decode cX9_fewestFailuresSet 62 = .ok (.if_icmp .ge 6, 3) := by decide +kernel
theorem dX9_fewestFailuresSet_65 : decode cX9_fewestFailuresSet 65 = .ok (.iload 4, 2) := by decide +kernel
theorem dX9_fewestFailuresSet_67 : decode cX9_fewestFailuresSet 67 = .ok (.istore_n 2, 1) := by decide +kernel
theorem dX9_fewestFailuresSet_68 : decode cX9_fewestFailuresSet 68 = .ok (.iinc 3 1, 3) := by decide +kernel
theorem dX9_fewestFailuresSet_71 : decode cX9_fewestFailuresSet 71 = .ok (.goto (-62), 3) := by decide +kernel
theorem dX9_fewestFailuresSet_74 : decode cX9_fewestFailuresSet 74 = .ok (.iload_n 2, 1) := by decide +kernel
theorem dX9_fewestFailuresSet_75 : decode cX9_fewestFailuresSet 75 = .ok (.ireturn, 1) := by decide +kernel
theorem dX9_roundsToRepair_0 : decode cX9_roundsToRepair 0 = .ok (.aload_n 0, 1) := by decide +kernel
theorem dX9_roundsToRepair_1 : decode cX9_roundsToRepair 1 = .ok (.iload_n 1, 1) := by decide +kernel
theorem dX9_roundsToRepair_2 : decode cX9_roundsToRepair 2 = .ok (.invokevirtual 145, 3) := by decide +kernel
theorem dX9_roundsToRepair_5 : decode cX9_roundsToRepair 5 = .ok (.aload_n 0, 1) := by decide +kernel
theorem dX9_roundsToRepair_6 : decode cX9_roundsToRepair 6 = .ok (.getfield 47, 3) := by decide +kernel
theorem dX9_roundsToRepair_9 : decode cX9_roundsToRepair 9 = .ok (.aload_n 0, 1) := by decide +kernel
theorem dX9_roundsToRepair_10 : decode cX9_roundsToRepair 10 = .ok (.getfield 33, 3) := by decide +kernel
theorem dX9_roundsToRepair_13 : decode cX9_roundsToRepair 13 = .ok (.iconst 1, 1) := by decide +kernel
theorem dX9_roundsToRepair_14 : decode cX9_roundsToRepair 14 = .ok (.iload_n 1, 1) := by decide +kernel
theorem dX9_roundsToRepair_15 : decode cX9_roundsToRepair 15 = .ok (.ishl, 1) := by decide +kernel
theorem dX9_roundsToRepair_16 : decode cX9_roundsToRepair 16 = .ok (.invokevirtual 276, 3) := by decide +kernel
theorem dX9_roundsToRepair_19 : decode cX9_roundsToRepair 19 = .ok (.ireturn, 1) := by decide +kernel
theorem dX9_roundsToCalm_0 : decode cX9_roundsToCalm 0 = .ok (.aload_n 0, 1) := by decide +kernel
theorem dX9_roundsToCalm_1 : decode cX9_roundsToCalm 1 = .ok (.getfield 47, 3) := by decide +kernel
theorem dX9_roundsToCalm_4 : decode cX9_roundsToCalm 4 = .ok (.aload_n 0, 1) := by decide +kernel
theorem dX9_roundsToCalm_5 : decode cX9_roundsToCalm 5 = .ok (.getfield 33, 3) := by decide +kernel
theorem dX9_roundsToCalm_8 : decode cX9_roundsToCalm 8 = .ok (.aload_n 0, 1) := by decide +kernel
theorem dX9_roundsToCalm_9 : decode cX9_roundsToCalm 9 = .ok (.getfield 33, 3) := by decide +kernel
theorem dX9_roundsToCalm_12 : decode cX9_roundsToCalm 12 = .ok (.invokevirtual 279, 3) := by decide +kernel
theorem dX9_roundsToCalm_15 : decode cX9_roundsToCalm 15 = .ok (.invokevirtual 276, 3) := by decide +kernel
theorem dX9_roundsToCalm_18 : decode cX9_roundsToCalm 18 = .ok (.ireturn, 1) := by decide +kernel
theorem dX9_soldIn_0 : decode cX9_soldIn 0 = .ok (.iload_n 1, 1) := by decide +kernel
theorem dX9_soldIn_1 : decode cX9_soldIn 1 = .ok (.ifCond .lt 14, 3) := by decide +kernel
theorem dX9_soldIn_4 : decode cX9_soldIn 4 = .ok (.iload_n 1, 1) := by decide +kernel
theorem dX9_soldIn_5 : decode cX9_soldIn 5 = .ok (.sipush 300, 3) := by decide +kernel
theorem dX9_soldIn_8 : decode cX9_soldIn 8 = .ok (.if_icmp .gt 7, 3) := by decide +kernel
theorem dX9_soldIn_11 : decode cX9_soldIn 11 = .ok (.iconst 1, 1) := by decide +kernel
theorem dX9_soldIn_12 : decode cX9_soldIn 12 = .ok (.goto 4, 3) := by decide +kernel
theorem dX9_soldIn_15 : decode cX9_soldIn 15 = .ok (.iconst 0, 1) := by decide +kernel
theorem dX9_soldIn_16 : decode cX9_soldIn 16 = .ok (.invokestatic 72, 3) := by decide +kernel
theorem dX9_soldIn_19 : decode cX9_soldIn 19 = .ok (.aload_n 0, 1) := by decide +kernel
theorem dX9_soldIn_20 : decode cX9_soldIn 20 = .ok (.getfield 47, 3) := by decide +kernel
theorem dX9_soldIn_23 : decode cX9_soldIn 23 = .ok (.aload_n 0, 1) := by decide +kernel
theorem dX9_soldIn_24 : decode cX9_soldIn 24 = .ok (.getfield 33, 3) := by decide +kernel
theorem dX9_soldIn_27 : decode cX9_soldIn 27 = .ok (.iload_n 1, 1) := by decide +kernel
theorem dX9_soldIn_28 : decode cX9_soldIn 28 = .ok (.invokevirtual 282, 3) := by decide +kernel
theorem dX9_soldIn_31 : decode cX9_soldIn 31 = .ok (.aload_n 0, 1) := by decide +kernel
theorem dX9_soldIn_32 : decode cX9_soldIn 32 = .ok (.getfield 47, 3) := by decide +kernel
theorem dX9_soldIn_35 : decode cX9_soldIn 35 = .ok (.getfield 286, 3) := by decide +kernel
theorem dX9_soldIn_38 : decode cX9_soldIn 38 = .ok (.ireturn, 1) := by decide +kernel
theorem dX9_purseAfter_0 : decode cX9_purseAfter 0 = .ok (.aload_n 0, 1) := by decide +kernel
theorem dX9_purseAfter_1 : decode cX9_purseAfter 1 = .ok (.iload_n 1, 1) := by decide +kernel
theorem dX9_purseAfter_2 : decode cX9_purseAfter 2 = .ok (.invokevirtual 139, 3) := by decide +kernel
theorem dX9_purseAfter_5 : decode cX9_purseAfter 5 = .ok (.iload_n 2, 1) := by decide +kernel
theorem dX9_purseAfter_6 : decode cX9_purseAfter 6 = .ok (.ifCond .lt 14, 3) := by decide +kernel
theorem dX9_purseAfter_9 : decode cX9_purseAfter 9 = .ok (.iload_n 2, 1) := by decide +kernel
theorem dX9_purseAfter_10 : decode cX9_purseAfter 10 = .ok (.sipush 300, 3) := by decide +kernel
theorem dX9_purseAfter_13 : decode cX9_purseAfter 13 = .ok (.if_icmp .gt 7, 3) := by decide +kernel
theorem dX9_purseAfter_16 : decode cX9_purseAfter 16 = .ok (.iconst 1, 1) := by decide +kernel
theorem dX9_purseAfter_17 : decode cX9_purseAfter 17 = .ok (.goto 4, 3) := by decide +kernel
theorem dX9_purseAfter_20 : decode cX9_purseAfter 20 = .ok (.iconst 0, 1) := by decide +kernel
theorem dX9_purseAfter_21 : decode cX9_purseAfter 21 = .ok (.invokestatic 72, 3) := by decide +kernel
theorem dX9_purseAfter_24 : decode cX9_purseAfter 24 = .ok (.aload_n 0, 1) := by decide +kernel
theorem dX9_purseAfter_25 : decode cX9_purseAfter 25 = .ok (.getfield 47, 3) := by decide +kernel
theorem dX9_purseAfter_28 : decode cX9_purseAfter 28 = .ok (.aload_n 0, 1) := by decide +kernel
theorem dX9_purseAfter_29 : decode cX9_purseAfter 29 = .ok (.getfield 33, 3) := by decide +kernel
theorem dX9_purseAfter_32 : decode cX9_purseAfter 32 = .ok (.iload_n 2, 1) := by decide +kernel
theorem dX9_purseAfter_33 : decode cX9_purseAfter 33 = .ok (.invokevirtual 282, 3) := by decide +kernel
theorem dX9_purseAfter_36 : decode cX9_purseAfter 36 = .ok (.aload_n 0, 1) := by decide +kernel
theorem dX9_purseAfter_37 : decode cX9_purseAfter 37 = .ok (.getfield 47, 3) := by decide +kernel
theorem dX9_purseAfter_40 : decode cX9_purseAfter 40 = .ok (.getfield 287, 3) := by decide +kernel
theorem dX9_purseAfter_43 : decode cX9_purseAfter 43 = .ok (.getfield 142, 3) := by decide +kernel
theorem dX9_purseAfter_46 : decode cX9_purseAfter 46 = .ok (.iload_n 1, 1) := by decide +kernel
theorem dX9_purseAfter_47 : decode cX9_purseAfter 47 = .ok (.iconst 2, 1) := by decide +kernel
theorem dX9_purseAfter_48 : decode cX9_purseAfter 48 = .ok (.invokevirtual 126, 3) := by decide +kernel
theorem dX9_purseAfter_51 : decode cX9_purseAfter 51 = .ok (.ireturn, 1) := by decide +kernel
theorem dX9_paidUntilCalm_0 : decode cX9_paidUntilCalm 0 = .ok (.aload_n 0, 1) := by decide +kernel
theorem dX9_paidUntilCalm_1 : decode cX9_paidUntilCalm 1 = .ok (.getfield 47, 3) := by decide +kernel
theorem dX9_paidUntilCalm_4 : decode cX9_paidUntilCalm 4 = .ok (.aload_n 0, 1) := by decide +kernel
theorem dX9_paidUntilCalm_5 : decode cX9_paidUntilCalm 5 = .ok (.getfield 33, 3) := by decide +kernel
theorem dX9_paidUntilCalm_8 : decode cX9_paidUntilCalm 8 = .ok (.aload_n 0, 1) := by decide +kernel
theorem dX9_paidUntilCalm_9 : decode cX9_paidUntilCalm 9 = .ok (.getfield 33, 3) := by decide +kernel
theorem dX9_paidUntilCalm_12 : decode cX9_paidUntilCalm 12 = .ok (.invokevirtual 279, 3) := by decide +kernel
theorem dX9_paidUntilCalm_15 : decode cX9_paidUntilCalm 15 = .ok (.invokevirtual 276, 3) := by decide +kernel
theorem dX9_paidUntilCalm_18 : decode cX9_paidUntilCalm 18 = .ok (.iconst (-1), 1) := by decide +kernel
theorem dX9_paidUntilCalm_19 : decode cX9_paidUntilCalm 19 = .ok (.if_icmp .eq 7, 3) := by decide +kernel
theorem dX9_paidUntilCalm_22 : decode cX9_paidUntilCalm 22 = .ok (.iconst 1, 1) := by decide +kernel
theorem dX9_paidUntilCalm_23 : decode cX9_paidUntilCalm 23 = .ok (.goto 4, 3) := by decide +kernel
theorem dX9_paidUntilCalm_26 : decode cX9_paidUntilCalm 26 = .ok (.iconst 0, 1) := by decide +kernel
theorem dX9_paidUntilCalm_27 : decode cX9_paidUntilCalm 27 = .ok (.istore_n 1, 1) := by decide +kernel
theorem dX9_paidUntilCalm_28 : decode cX9_paidUntilCalm 28 = .ok (.iload_n 1, 1) := by decide +kernel
theorem dX9_paidUntilCalm_29 : decode cX9_paidUntilCalm 29 = .ok (.ifCond .eq 20, 3) := by decide +kernel
theorem dX9_paidUntilCalm_32 : decode cX9_paidUntilCalm 32 = .ok (.aload_n 0, 1) := by decide +kernel
theorem dX9_paidUntilCalm_33 : decode cX9_paidUntilCalm 33 = .ok (.getfield 47, 3) := by decide +kernel
theorem dX9_paidUntilCalm_36 : decode cX9_paidUntilCalm 36 = .ok (.getfield 290, 3) := by decide +kernel
theorem dX9_paidUntilCalm_39 : decode cX9_paidUntilCalm 39 = .ok (.ldc2_w 294, 3) := by decide +kernel
theorem dX9_paidUntilCalm_42 : decode cX9_paidUntilCalm 42 = .ok (.invokestatic 296, 3) := by decide +kernel
theorem dX9_paidUntilCalm_45 : decode cX9_paidUntilCalm 45 = .ok (.l2i, 1) := by decide +kernel
theorem dX9_paidUntilCalm_46 : decode cX9_paidUntilCalm 46 = .ok (.goto 4, 3) := by decide +kernel
theorem dX9_paidUntilCalm_49 : decode cX9_paidUntilCalm 49 = .ok (.iconst (-1), 1) := by decide +kernel
theorem dX9_paidUntilCalm_50 : decode cX9_paidUntilCalm 50 = .ok (.ireturn, 1) := by decide +kernel
theorem dX9_historySize_0 : decode cX9_historySize 0 = .ok (.aload_n 0, 1) := by decide +kernel
theorem dX9_historySize_1 : decode cX9_historySize 1 = .ok (.getfield 33, 3) := by decide +kernel
theorem dX9_historySize_4 : decode cX9_historySize 4 = .ok (.getfield 302, 3) := by decide +kernel
theorem dX9_historySize_7 : decode cX9_historySize 7 = .ok (.getfield 95, 3) := by decide +kernel
theorem dX9_historySize_10 : decode cX9_historySize 10 = .ok (.ireturn, 1) := by decide +kernel
theorem dX9_history_0 : decode cX9_history 0 = .ok (.aload_n 0, 1) := by decide +kernel
theorem dX9_history_1 : decode cX9_history 1 = .ok (.getfield 33, 3) := by decide +kernel
theorem dX9_history_4 : decode cX9_history 4 = .ok (.getfield 302, 3) := by decide +kernel
theorem dX9_history_7 : decode cX9_history 7 = .ok (.iload_n 1, 1) := by decide +kernel
theorem dX9_history_8 : decode cX9_history 8 = .ok (.invokevirtual 305, 3) := by decide +kernel
theorem dX9_history_11 : decode cX9_history 11 = .ok (.invokestatic 308, 3) := by decide +kernel
theorem dX9_history_14 : decode cX9_history 14 = .ok (.iload_n 2, 1) := by decide +kernel
theorem dX9_history_15 : decode cX9_history 15 = .ok (.ifCond .lt 12, 3) := by decide +kernel
theorem dX9_history_18 : decode cX9_history 18 = .ok (.iload_n 2, 1) := by decide +kernel
theorem dX9_history_19 : decode cX9_history 19 = .ok (.iconst 4, 1) := by decide +kernel
theorem dX9_history_20 : decode cX9_history 20 = .ok (.if_icmp .gt 7, 3) := by decide +kernel
theorem dX9_history_23 : decode cX9_history 23 = .ok (.iconst 1, 1) := by decide +kernel
theorem dX9_history_24 : decode cX9_history 24 = .ok (.goto 4, 3) := by decide +kernel
theorem dX9_history_27 : decode cX9_history 27 = .ok (.iconst 0, 1) := by decide +kernel
theorem dX9_history_28 : decode cX9_history 28 = .ok (.invokestatic 72, 3) := by decide +kernel
theorem dX9_history_31 : decode cX9_history 31 = .ok (.aload_n 0, 1) := by decide +kernel
theorem dX9_history_32 : decode cX9_history 32 = .ok (.getfield 33, 3) := by decide +kernel
theorem dX9_history_35 : decode cX9_history 35 = .ok (.getfield 302, 3) := by decide +kernel
theorem dX9_history_38 : decode cX9_history 38 = .ok (.iload_n 1, 1) := by decide +kernel
theorem dX9_history_39 : decode cX9_history 39 = .ok (.iload_n 2, 1) := by decide +kernel
theorem dX9_history_40 : decode cX9_history 40 = .ok (.invokevirtual 126, 3) := by decide +kernel
theorem dX9_history_43 : decode cX9_history 43 = .ok (.ireturn, 1) := by decide +kernel
theorem dX9_meanPrice_0 : decode cX9_meanPrice 0 = .ok (.iload_n 1, 1) := by decide +kernel
theorem dX9_meanPrice_1 : decode cX9_meanPrice 1 = .ok (.iconst 1, 1) := by decide +kernel
theorem dX9_meanPrice_2 : decode cX9_meanPrice 2 = .ok (.if_icmp .lt 13, 3) := by decide +kernel
theorem dX9_meanPrice_5 : decode cX9_meanPrice 5 = .ok (.iload_n 1, 1) := by decide +kernel
theorem dX9_meanPrice_6 : decode cX9_meanPrice 6 = .ok (.bipush 40, 2) := by decide +kernel
theorem dX9_meanPrice_8 : decode cX9_meanPrice 8 = .ok (.if_icmp .gt 7, 3) := by decide +kernel
theorem dX9_meanPrice_11 : decode cX9_meanPrice 11 = .ok (.iconst 1, 1) := by decide +kernel
theorem dX9_meanPrice_12 : decode cX9_meanPrice 12 = .ok (.goto 4, 3) := by decide +kernel
theorem dX9_meanPrice_15 : decode cX9_meanPrice 15 = .ok (.iconst 0, 1) := by decide +kernel
theorem dX9_meanPrice_16 : decode cX9_meanPrice 16 = .ok (.invokestatic 72, 3) := by decide +kernel
theorem dX9_meanPrice_19 : decode cX9_meanPrice 19 = .ok (.aload_n 0, 1) := by decide +kernel
theorem dX9_meanPrice_20 : decode cX9_meanPrice 20 = .ok (.invokevirtual 311, 3) := by decide +kernel
theorem dX9_meanPrice_23 : decode cX9_meanPrice 23 = .ok (.aload_n 0, 1) := by decide +kernel
theorem dX9_meanPrice_24 : decode cX9_meanPrice 24 = .ok (.getfield 33, 3) := by decide +kernel
theorem dX9_meanPrice_27 : decode cX9_meanPrice 27 = .ok (.getfield 302, 3) := by decide +kernel
theorem dX9_meanPrice_30 : decode cX9_meanPrice 30 = .ok (.getfield 95, 3) := by decide +kernel
theorem dX9_meanPrice_33 : decode cX9_meanPrice 33 = .ok (.istore_n 2, 1) := by decide +kernel
theorem dX9_meanPrice_34 : decode cX9_meanPrice 34 = .ok (.iload_n 1, 1) := by decide +kernel
theorem dX9_meanPrice_35 : decode cX9_meanPrice 35 = .ok (.iload_n 2, 1) := by decide +kernel
theorem dX9_meanPrice_36 : decode cX9_meanPrice 36 = .ok (.invokestatic 314, 3) := by decide +kernel
theorem dX9_meanPrice_39 : decode cX9_meanPrice 39 = .ok (.istore_n 3, 1) := by decide +kernel
theorem dX9_meanPrice_40 : decode cX9_meanPrice 40 = .ok (.iconst 0, 1) := by decide +kernel
theorem dX9_meanPrice_41 : decode cX9_meanPrice 41 = .ok (.istore 4, 2) := by decide +kernel
theorem dX9_meanPrice_43 : decode cX9_meanPrice 43 = .ok (.iload_n 2, 1) := by decide +kernel
theorem dX9_meanPrice_44 : decode cX9_meanPrice 44 = .ok (.iload_n 3, 1) := by decide +kernel
theorem dX9_meanPrice_45 : decode cX9_meanPrice 45 = .ok (.isub, 1) := by decide +kernel
theorem dX9_meanPrice_46 : decode cX9_meanPrice 46 = .ok (.istore 5, 2) := by decide +kernel
theorem dX9_meanPrice_48 : decode cX9_meanPrice 48 = .ok (.iload 5, 2) := by decide +kernel
theorem dX9_meanPrice_50 : decode cX9_meanPrice 50 = .ok (.iload_n 2, 1) := by decide +kernel
theorem dX9_meanPrice_51 : decode cX9_meanPrice 51 = .ok (.if_icmp .ge 27, 3) := by decide +kernel
theorem dX9_meanPrice_54 : decode cX9_meanPrice 54 = .ok (.iload 4, 2) := by decide +kernel
theorem dX9_meanPrice_56 : decode cX9_meanPrice 56 = .ok (.aload_n 0, 1) := by decide +kernel
theorem dX9_meanPrice_57 : decode cX9_meanPrice 57 = .ok (.getfield 33, 3) := by decide +kernel
theorem dX9_meanPrice_60 : decode cX9_meanPrice 60 = .ok (.getfield 302, 3) := by decide +kernel
theorem dX9_meanPrice_63 : decode cX9_meanPrice 63 = .ok (.iload 5, 2) := by decide +kernel
theorem dX9_meanPrice_65 : decode cX9_meanPrice 65 = .ok (.iconst 2, 1) := by decide +kernel
theorem dX9_meanPrice_66 : decode cX9_meanPrice 66 = .ok (.invokevirtual 126, 3) := by decide +kernel
theorem dX9_meanPrice_69 : decode cX9_meanPrice 69 = .ok (.iadd, 1) := by decide +kernel
theorem dX9_meanPrice_70 : decode cX9_meanPrice 70 = .ok (.istore 4, 2) := by decide +kernel
theorem dX9_meanPrice_72 : decode cX9_meanPrice 72 = .ok (.iinc 5 1, 3) := by decide +kernel
theorem dX9_meanPrice_75 : decode cX9_meanPrice 75 = .ok (.goto (-27), 3) := by decide +kernel
theorem dX9_meanPrice_78 : decode cX9_meanPrice 78 = .ok (.iload_n 3, 1) := by decide +kernel
theorem dX9_meanPrice_79 : decode cX9_meanPrice 79 = .ok (.ifCond .ne 7, 3) := by decide +kernel
theorem dX9_meanPrice_82 : decode cX9_meanPrice 82 = .ok (.dconst 0, 1) := by decide +kernel
theorem dX9_meanPrice_83 : decode cX9_meanPrice 83 = .ok (.goto 9, 3) := by decide +kernel
theorem dX9_meanPrice_86 : decode cX9_meanPrice 86 = .ok (.iload 4, 2) := by decide +kernel
theorem dX9_meanPrice_88 : decode cX9_meanPrice 88 = .ok (.i2d, 1) := by decide +kernel
theorem dX9_meanPrice_89 : decode cX9_meanPrice 89 = .ok (.iload_n 3, 1) := by decide +kernel
theorem dX9_meanPrice_90 : decode cX9_meanPrice 90 = .ok (.i2d, 1) := by decide +kernel
theorem dX9_meanPrice_91 : decode cX9_meanPrice 91 = .ok (.ddiv, 1) := by decide +kernel
theorem dX9_meanPrice_92 : decode cX9_meanPrice 92 = .ok (.dreturn, 1) := by decide +kernel
theorem dX9_dearestRound_0 : decode cX9_dearestRound 0 = .ok (.aload_n 0, 1) := by decide +kernel
theorem dX9_dearestRound_1 : decode cX9_dearestRound 1 = .ok (.invokevirtual 311, 3) := by decide +kernel
theorem dX9_dearestRound_4 : decode cX9_dearestRound 4 = .ok (.iconst 0, 1) := by decide +kernel
theorem dX9_dearestRound_5 : decode cX9_dearestRound 5 = .ok (.istore_n 1, 1) := by decide +kernel
theorem dX9_dearestRound_6 : decode cX9_dearestRound 6 = .ok (.iconst 1, 1) := by decide +kernel
theorem dX9_dearestRound_7 : decode cX9_dearestRound 7 = .ok (.istore_n 2, 1) := by decide +kernel
theorem dX9_dearestRound_8 : decode cX9_dearestRound 8 = .ok (.iload_n 2, 1) := by decide +kernel
theorem dX9_dearestRound_9 : decode cX9_dearestRound 9 = .ok (.aload_n 0, 1) := by decide +kernel
theorem dX9_dearestRound_10 : decode cX9_dearestRound 10 = .ok (.getfield 33, 3) := by decide +kernel
theorem dX9_dearestRound_13 : decode cX9_dearestRound 13 = .ok (.getfield 302, 3) := by decide +kernel
theorem dX9_dearestRound_16 : decode cX9_dearestRound 16 = .ok (.getfield 95, 3) := by decide +kernel
theorem dX9_dearestRound_19 : decode cX9_dearestRound 19 = .ok (.if_icmp .ge 38, 3) := by decide +kernel
theorem dX9_dearestRound_22 : decode cX9_dearestRound 22 = .ok (.aload_n 0, 1) := by decide +kernel
theorem dX9_dearestRound_23 : decode cX9_dearestRound 23 = .ok (.getfield 33, 3) := by decide +kernel
theorem dX9_dearestRound_26 : decode cX9_dearestRound 26 = .ok (.getfield 302, 3) := by decide +kernel
theorem dX9_dearestRound_29 : decode cX9_dearestRound 29 = .ok (.iload_n 2, 1) := by decide +kernel
theorem dX9_dearestRound_30 : decode cX9_dearestRound 30 = .ok (.iconst 2, 1) := by decide +kernel
theorem dX9_dearestRound_31 : decode cX9_dearestRound 31 = .ok (.invokevirtual 126, 3) := by decide +kernel
theorem dX9_dearestRound_34 : decode cX9_dearestRound 34 = .ok (.aload_n 0, 1) := by decide +kernel
theorem dX9_dearestRound_35 : decode cX9_dearestRound 35 = .ok (.getfield 33, 3) := by decide +kernel
theorem dX9_dearestRound_38 : decode cX9_dearestRound 38 = .ok (.getfield 302, 3) := by decide +kernel
theorem dX9_dearestRound_41 : decode cX9_dearestRound 41 = .ok (.iload_n 1, 1) := by decide +kernel
theorem dX9_dearestRound_42 : decode cX9_dearestRound 42 = .ok (.iconst 2, 1) := by decide +kernel
theorem dX9_dearestRound_43 : decode cX9_dearestRound 43 = .ok (.invokevirtual 126, 3) := by decide +kernel
theorem dX9_dearestRound_46 : decode cX9_dearestRound 46 = .ok (.if_icmp .le 5, 3) := by decide +kernel
theorem dX9_dearestRound_49 : decode cX9_dearestRound 49 = .ok (.iload_n 2, 1) := by decide +kernel
theorem dX9_dearestRound_50 : decode cX9_dearestRound 50 = .ok (.istore_n 1, 1) := by decide +kernel
theorem dX9_dearestRound_51 : decode cX9_dearestRound 51 = .ok (.iinc 2 1, 3) := by decide +kernel
theorem dX9_dearestRound_54 : decode cX9_dearestRound 54 = .ok (.goto (-46), 3) := by decide +kernel
theorem dX9_dearestRound_57 : decode cX9_dearestRound 57 = .ok (.iload_n 1, 1) := by decide +kernel
theorem dX9_dearestRound_58 : decode cX9_dearestRound 58 = .ok (.ireturn, 1) := by decide +kernel
theorem dX9_longestRise_0 : decode cX9_longestRise 0 = .ok (.iconst 0, 1) := by decide +kernel
theorem dX9_longestRise_1 : decode cX9_longestRise 1 = .ok (.istore_n 1, 1) := by decide +kernel
theorem dX9_longestRise_2 : decode cX9_longestRise 2 = .ok (.iconst 0, 1) := by decide +kernel
theorem dX9_longestRise_3 : decode cX9_longestRise 3 = .ok (.istore_n 2, 1) := by decide +kernel
theorem dX9_longestRise_4 : decode cX9_longestRise 4 = .ok (.iconst 0, 1) := by decide +kernel
theorem dX9_longestRise_5 : decode cX9_longestRise 5 = .ok (.istore_n 3, 1) := by decide +kernel
theorem dX9_longestRise_6 : decode cX9_longestRise 6 = .ok (.iload_n 3, 1) := by decide +kernel
theorem dX9_longestRise_7 : decode cX9_longestRise 7 = .ok (.aload_n 0, 1) := by decide +kernel
theorem dX9_longestRise_8 : decode cX9_longestRise 8 = .ok (.getfield 33, 3) := by decide +kernel
theorem dX9_longestRise_11 : decode cX9_longestRise 11 = .ok (.getfield 302, 3) := by decide +kernel
theorem dX9_longestRise_14 : decode cX9_longestRise 14 = .ok (.getfield 95, 3) := by decide +kernel
theorem dX9_longestRise_17 : decode cX9_longestRise 17 = .ok (.if_icmp .ge 68, 3) := by decide +kernel
theorem dX9_longestRise_20 : decode cX9_longestRise 20 = .ok (.iload_n 3, 1) := by decide +kernel
theorem dX9_longestRise_21 : decode cX9_longestRise 21 = .ok (.ifCond .le 36, 3) := by decide +kernel
theorem dX9_longestRise_24 : decode cX9_longestRise 24 = .ok (.aload_n 0, 1) := by decide +kernel
theorem dX9_longestRise_25 : decode cX9_longestRise 25 = .ok (.getfield 33, 3) := by decide +kernel
theorem dX9_longestRise_28 : decode cX9_longestRise 28 = .ok (.getfield 302, 3) := by decide +kernel
theorem dX9_longestRise_31 : decode cX9_longestRise 31 = .ok (.iload_n 3, 1) := by decide +kernel
theorem dX9_longestRise_32 : decode cX9_longestRise 32 = .ok (.iconst 2, 1) := by decide +kernel
theorem dX9_longestRise_33 : decode cX9_longestRise 33 = .ok (.invokevirtual 126, 3) := by decide +kernel
theorem dX9_longestRise_36 : decode cX9_longestRise 36 = .ok (.aload_n 0, 1) := by decide +kernel
theorem dX9_longestRise_37 : decode cX9_longestRise 37 = .ok (.getfield 33, 3) := by decide +kernel
theorem dX9_longestRise_40 : decode cX9_longestRise 40 = .ok (.getfield 302, 3) := by decide +kernel
theorem dX9_longestRise_43 : decode cX9_longestRise 43 = .ok (.iload_n 3, 1) := by decide +kernel
theorem dX9_longestRise_44 : decode cX9_longestRise 44 = .ok (.iconst 1, 1) := by decide +kernel
theorem dX9_longestRise_45 : decode cX9_longestRise 45 = .ok (.isub, 1) := by decide +kernel
theorem dX9_longestRise_46 : decode cX9_longestRise 46 = .ok (.iconst 2, 1) := by decide +kernel
theorem dX9_longestRise_47 : decode cX9_longestRise 47 = .ok (.invokevirtual 126, 3) := by decide +kernel
theorem dX9_longestRise_50 : decode cX9_longestRise 50 = .ok (.if_icmp .le 7, 3) := by decide +kernel
theorem dX9_longestRise_53 : decode cX9_longestRise 53 = .ok (.iconst 1, 1) := by decide +kernel
theorem dX9_longestRise_54 : decode cX9_longestRise 54 = .ok (.goto 4, 3) := by decide +kernel
theorem dX9_longestRise_57 : decode cX9_longestRise 57 = .ok (.iconst 0, 1) := by decide +kernel
theorem dX9_longestRise_58 : decode cX9_longestRise 58 = .ok (.istore 4, 2) := by decide +kernel
theorem dX9_longestRise_60 : decode cX9_longestRise 60 = .ok (.iload 4, 2) := by decide +kernel
theorem dX9_longestRise_62 : decode cX9_longestRise 62 = .ok (.ifCond .eq 9, 3) := by decide +kernel
theorem dX9_longestRise_65 : decode cX9_longestRise 65 = .ok (.iload_n 2, 1) := by decide +kernel
theorem dX9_longestRise_66 : decode cX9_longestRise 66 = .ok (.iconst 1, 1) := by decide +kernel
theorem dX9_longestRise_67 : decode cX9_longestRise 67 = .ok (.iadd, 1) := by decide +kernel
theorem dX9_longestRise_68 : decode cX9_longestRise 68 = .ok (.goto 4, 3) := by decide +kernel
theorem dX9_longestRise_71 : decode cX9_longestRise 71 = .ok (.iconst 1, 1) := by decide +kernel
theorem dX9_longestRise_72 : decode cX9_longestRise 72 = .ok (.istore_n 2, 1) := by decide +kernel
theorem dX9_longestRise_73 : decode cX9_longestRise 73 = .ok (.iload_n 1, 1) := by decide +kernel
theorem dX9_longestRise_74 : decode cX9_longestRise 74 = .ok (.iload_n 2, 1) := by decide +kernel
theorem dX9_longestRise_75 : decode cX9_longestRise 75 = .ok (.invokestatic 316, 3) := by decide +kernel
theorem dX9_longestRise_78 : decode cX9_longestRise 78 = .ok (.istore_n 1, 1) := by decide +kernel
theorem dX9_longestRise_79 : decode cX9_longestRise 79 = .ok (.iinc 3 1, 3) := by decide +kernel
theorem dX9_longestRise_82 : decode cX9_longestRise 82 = .ok (.goto (-76), 3) := by decide +kernel
theorem dX9_longestRise_85 : decode cX9_longestRise 85 = .ok (.iload_n 1, 1) := by decide +kernel
theorem dX9_longestRise_86 : decode cX9_longestRise 86 = .ok (.ireturn, 1) := by decide +kernel
theorem dX9_undo_0 : decode cX9_undo 0 = .ok (.aload_n 0, 1) := by decide +kernel
theorem dX9_undo_1 : decode cX9_undo 1 = .ok (.getfield 54, 3) := by decide +kernel
theorem dX9_undo_4 : decode cX9_undo 4 = .ok (.getfield 319, 3) := by decide +kernel
theorem dX9_undo_7 : decode cX9_undo 7 = .ok (.ifCond .le 7, 3) := by decide +kernel
theorem dX9_undo_10 : decode cX9_undo 10 = .ok (.iconst 1, 1) := by decide +kernel
theorem dX9_undo_11 : decode cX9_undo 11 = .ok (.goto 4, 3) := by decide +kernel
theorem dX9_undo_14 : decode cX9_undo 14 = .ok (.iconst 0, 1) := by decide +kernel
theorem dX9_undo_15 : decode cX9_undo 15 = .ok (.invokestatic 227, 3) := by decide +kernel
theorem dX9_undo_18 : decode cX9_undo 18 = .ok (.aload_n 0, 1) := by decide +kernel
theorem dX9_undo_19 : decode cX9_undo 19 = .ok (.getfield 54, 3) := by decide +kernel
theorem dX9_undo_22 : decode cX9_undo 22 = .ok (.aload_n 0, 1) := by decide +kernel
theorem dX9_undo_23 : decode cX9_undo 23 = .ok (.getfield 33, 3) := by decide +kernel
theorem dX9_undo_26 : decode cX9_undo 26 = .ok (.invokevirtual 320, 3) := by decide +kernel
theorem dX9_undo_29 : decode cX9_undo 29 = .ok (.aload_n 0, 1) := by decide +kernel
theorem dX9_undo_30 : decode cX9_undo 30 = .ok (.getfield 54, 3) := by decide +kernel
theorem dX9_undo_33 : decode cX9_undo 33 = .ok (.getfield 319, 3) := by decide +kernel
theorem dX9_undo_36 : decode cX9_undo 36 = .ok (.ireturn, 1) := by decide +kernel
theorem dX9_undoCount_0 : decode cX9_undoCount 0 = .ok (.aload_n 0, 1) := by decide +kernel
theorem dX9_undoCount_1 : decode cX9_undoCount 1 = .ok (.getfield 54, 3) := by decide +kernel
theorem dX9_undoCount_4 : decode cX9_undoCount 4 = .ok (.getfield 319, 3) := by decide +kernel
theorem dX9_undoCount_7 : decode cX9_undoCount 7 = .ok (.ireturn, 1) := by decide +kernel
theorem dX9_writeBids_0 : decode cX9_writeBids 0 = .ok (.aload_n 0, 1) := by decide +kernel
theorem dX9_writeBids_1 : decode cX9_writeBids 1 = .ok (.getfield 40, 3) := by decide +kernel
theorem dX9_writeBids_4 : decode cX9_writeBids 4 = .ok (.aload_n 0, 1) := by decide +kernel
theorem dX9_writeBids_5 : decode cX9_writeBids 5 = .ok (.getfield 33, 3) := by decide +kernel
theorem dX9_writeBids_8 : decode cX9_writeBids 8 = .ok (.invokevirtual 209, 3) := by decide +kernel
theorem dX9_writeBids_11 : decode cX9_writeBids 11 = .ok (.aload_n 0, 1) := by decide +kernel
theorem dX9_writeBids_12 : decode cX9_writeBids 12 = .ok (.getfield 18, 3) := by decide +kernel
theorem dX9_writeBids_15 : decode cX9_writeBids 15 = .ok (.iconst 0, 1) := by decide +kernel
theorem dX9_writeBids_16 : decode cX9_writeBids 16 = .ok (.invokevirtual 76, 3) := by decide +kernel
theorem dX9_writeBids_19 : decode cX9_writeBids 19 = .ok (.iconst 0, 1) := by decide +kernel
theorem dX9_writeBids_20 : decode cX9_writeBids 20 = .ok (.istore_n 1, 1) := by decide +kernel
theorem dX9_writeBids_21 : decode cX9_writeBids 21 = .ok (.iload_n 1, 1) := by decide +kernel
theorem dX9_writeBids_22 : decode cX9_writeBids 22 = .ok (.aload_n 0, 1) := by decide +kernel
theorem dX9_writeBids_23 : decode cX9_writeBids 23 = .ok (.getfield 40, 3) := by decide +kernel
theorem dX9_writeBids_26 : decode cX9_writeBids 26 = .ok (.getfield 212, 3) := by decide +kernel
theorem dX9_writeBids_29 : decode cX9_writeBids 29 = .ok (.getfield 95, 3) := by decide +kernel
theorem dX9_writeBids_32 : decode cX9_writeBids 32 = .ok (.if_icmp .ge 101, 3) := by decide +kernel
theorem dX9_writeBids_35 : decode cX9_writeBids 35 = .ok (.aload_n 0, 1) := by decide +kernel
theorem dX9_writeBids_36 : decode cX9_writeBids 36 = .ok (.getfield 40, 3) := by decide +kernel
theorem dX9_writeBids_39 : decode cX9_writeBids 39 = .ok (.getfield 212, 3) := by decide +kernel
theorem dX9_writeBids_42 : decode cX9_writeBids 42 = .ok (.iload_n 1, 1) := by decide +kernel
theorem dX9_writeBids_43 : decode cX9_writeBids 43 = .ok (.iconst 0, 1) := by decide +kernel
theorem dX9_writeBids_44 : decode cX9_writeBids 44 = .ok (.invokevirtual 126, 3) := by decide +kernel
theorem dX9_writeBids_47 : decode cX9_writeBids 47 = .ok (.istore_n 2, 1) := by decide +kernel
theorem dX9_writeBids_48 : decode cX9_writeBids 48 = .ok (.aload_n 0, 1) := by decide +kernel
theorem dX9_writeBids_49 : decode cX9_writeBids 49 = .ok (.getfield 18, 3) := by decide +kernel
theorem dX9_writeBids_52 : decode cX9_writeBids 52 = .ok (.aload_n 0, 1) := by decide +kernel
theorem dX9_writeBids_53 : decode cX9_writeBids 53 = .ok (.getfield 33, 3) := by decide +kernel
theorem dX9_writeBids_56 : decode cX9_writeBids 56 = .ok (.getfield 91, 3) := by decide +kernel
theorem dX9_writeBids_59 : decode cX9_writeBids 59 = .ok (.iload_n 2, 1) := by decide +kernel
theorem dX9_writeBids_60 : decode cX9_writeBids 60 = .ok (.invokevirtual 323, 3) := by decide +kernel
theorem dX9_writeBids_63 : decode cX9_writeBids 63 = .ok (.invokevirtual 326, 3) := by decide +kernel
theorem dX9_writeBids_66 : decode cX9_writeBids 66 = .ok (.aload_n 0, 1) := by decide +kernel
theorem dX9_writeBids_67 : decode cX9_writeBids 67 = .ok (.getfield 18, 3) := by decide +kernel
theorem dX9_writeBids_70 : decode cX9_writeBids 70 = .ok (.bipush 58, 2) := by decide +kernel
theorem dX9_writeBids_72 : decode cX9_writeBids 72 = .ok (.invokevirtual 329, 3) := by decide +kernel
theorem dX9_writeBids_75 : decode cX9_writeBids 75 = .ok (.aload_n 0, 1) := by decide +kernel
theorem dX9_writeBids_76 : decode cX9_writeBids 76 = .ok (.getfield 18, 3) := by decide +kernel
theorem dX9_writeBids_79 : decode cX9_writeBids 79 = .ok (.aload_n 0, 1) := by decide +kernel
theorem dX9_writeBids_80 : decode cX9_writeBids 80 = .ok (.getfield 40, 3) := by decide +kernel
theorem dX9_writeBids_83 : decode cX9_writeBids 83 = .ok (.getfield 212, 3) := by decide +kernel
theorem dX9_writeBids_86 : decode cX9_writeBids 86 = .ok (.iload_n 1, 1) := by decide +kernel
theorem dX9_writeBids_87 : decode cX9_writeBids 87 = .ok (.iconst 1, 1) := by decide +kernel
theorem dX9_writeBids_88 : decode cX9_writeBids 88 = .ok (.invokevirtual 126, 3) := by decide +kernel
theorem dX9_writeBids_91 : decode cX9_writeBids 91 = .ok (.invokevirtual 332, 3) := by decide +kernel
theorem dX9_writeBids_94 : decode cX9_writeBids 94 = .ok (.aload_n 0, 1) := by decide +kernel
theorem dX9_writeBids_95 : decode cX9_writeBids 95 = .ok (.getfield 18, 3) := by decide +kernel
theorem dX9_writeBids_98 : decode cX9_writeBids 98 = .ok (.bipush 47, 2) := by decide +kernel
theorem dX9_writeBids_100 : decode cX9_writeBids 100 = .ok (.invokevirtual 329, 3) := by decide +kernel
theorem dX9_writeBids_103 : decode cX9_writeBids 103 = .ok (.aload_n 0, 1) := by decide +kernel
theorem dX9_writeBids_104 : decode cX9_writeBids 104 = .ok (.getfield 18, 3) := by decide +kernel
theorem dX9_writeBids_107 : decode cX9_writeBids 107 = .ok (.aload_n 0, 1) := by decide +kernel
theorem dX9_writeBids_108 : decode cX9_writeBids 108 = .ok (.getfield 33, 3) := by decide +kernel
theorem dX9_writeBids_111 : decode cX9_writeBids 111 = .ok (.iload_n 2, 1) := by decide +kernel
theorem dX9_writeBids_112 : decode cX9_writeBids 112 = .ok (.invokevirtual 148, 3) := by decide +kernel
theorem dX9_writeBids_115 : decode cX9_writeBids 115 = .ok (.invokevirtual 332, 3) := by decide +kernel
theorem dX9_writeBids_118 : decode cX9_writeBids 118 = .ok (.aload_n 0, 1) := by decide +kernel
theorem dX9_writeBids_119 : decode cX9_writeBids 119 = .ok (.getfield 18, 3) := by decide +kernel
theorem dX9_writeBids_122 : decode cX9_writeBids 122 = .ok (.bipush 10, 2) := by decide +kernel
theorem dX9_writeBids_124 : decode cX9_writeBids 124 = .ok (.invokevirtual 329, 3) := by decide +kernel
theorem dX9_writeBids_127 : decode cX9_writeBids 127 = .ok (.iinc 1 1, 3) := by decide +kernel
theorem dX9_writeBids_130 : decode cX9_writeBids 130 = .ok (.goto (-109), 3) := by decide +kernel
theorem dX9_writeBids_133 : decode cX9_writeBids 133 = .ok (.aload_n 0, 1) := by decide +kernel
theorem dX9_writeBids_134 : decode cX9_writeBids 134 = .ok (.getfield 18, 3) := by decide +kernel
theorem dX9_writeBids_137 : decode cX9_writeBids 137 = .ok (.getfield 58, 3) := by decide +kernel
theorem dX9_writeBids_140 : decode cX9_writeBids 140 = .ok (.ireturn, 1) := by decide +kernel
theorem dX9_outputByte_0 : decode cX9_outputByte 0 = .ok (.iload_n 1, 1) := by decide +kernel
theorem dX9_outputByte_1 : decode cX9_outputByte 1 = .ok (.ifCond .lt 18, 3) := by decide +kernel
theorem dX9_outputByte_4 : decode cX9_outputByte 4 = .ok (.iload_n 1, 1) := by decide +kernel
theorem dX9_outputByte_5 : decode cX9_outputByte 5 = .ok (.aload_n 0, 1) := by decide +kernel
theorem dX9_outputByte_6 : decode cX9_outputByte 6 = .ok (.getfield 18, 3) := by decide +kernel
theorem dX9_outputByte_9 : decode cX9_outputByte 9 = .ok (.getfield 58, 3) := by decide +kernel
theorem dX9_outputByte_12 : decode cX9_outputByte 12 = .ok (.if_icmp .ge 7, 3) := by decide +kernel
theorem dX9_outputByte_15 : decode cX9_outputByte 15 = .ok (.iconst 1, 1) := by decide +kernel
theorem dX9_outputByte_16 : decode cX9_outputByte 16 = .ok (.goto 4, 3) := by decide +kernel
theorem dX9_outputByte_19 : decode cX9_outputByte 19 = .ok (.iconst 0, 1) := by decide +kernel
theorem dX9_outputByte_20 : decode cX9_outputByte 20 = .ok (.invokestatic 308, 3) := by decide +kernel
theorem dX9_outputByte_23 : decode cX9_outputByte 23 = .ok (.aload_n 0, 1) := by decide +kernel
theorem dX9_outputByte_24 : decode cX9_outputByte 24 = .ok (.getfield 18, 3) := by decide +kernel
theorem dX9_outputByte_27 : decode cX9_outputByte 27 = .ok (.iload_n 1, 1) := by decide +kernel
theorem dX9_outputByte_28 : decode cX9_outputByte 28 = .ok (.invokevirtual 335, 3) := by decide +kernel
theorem dX9_outputByte_31 : decode cX9_outputByte 31 = .ok (.ireturn, 1) := by decide +kernel
theorem dX9_needNode_0 : decode cX9_needNode 0 = .ok (.aload_n 0, 1) := by decide +kernel
theorem dX9_needNode_1 : decode cX9_needNode 1 = .ok (.getfield 33, 3) := by decide +kernel
theorem dX9_needNode_4 : decode cX9_needNode 4 = .ok (.getfield 123, 3) := by decide +kernel
theorem dX9_needNode_7 : decode cX9_needNode 7 = .ok (.iload_n 1, 1) := by decide +kernel
theorem dX9_needNode_8 : decode cX9_needNode 8 = .ok (.invokevirtual 305, 3) := by decide +kernel
theorem dX9_needNode_11 : decode cX9_needNode 11 = .ok (.invokestatic 308, 3) := by decide +kernel
theorem dX9_needNode_14 : decode cX9_needNode 14 = .ok (.return_, 1) := by decide +kernel
theorem dX9_needTenant_0 : decode cX9_needTenant 0 = .ok (.aload_n 0, 1) := by decide +kernel
theorem dX9_needTenant_1 : decode cX9_needTenant 1 = .ok (.getfield 33, 3) := by decide +kernel
theorem dX9_needTenant_4 : decode cX9_needTenant 4 = .ok (.getfield 142, 3) := by decide +kernel
theorem dX9_needTenant_7 : decode cX9_needTenant 7 = .ok (.iload_n 1, 1) := by decide +kernel
theorem dX9_needTenant_8 : decode cX9_needTenant 8 = .ok (.invokevirtual 305, 3) := by decide +kernel
theorem dX9_needTenant_11 : decode cX9_needTenant 11 = .ok (.invokestatic 308, 3) := by decide +kernel
theorem dX9_needTenant_14 : decode cX9_needTenant 14 = .ok (.return_, 1) := by decide +kernel
theorem dX9_needGroup_0 : decode cX9_needGroup 0 = .ok (.aload_n 0, 1) := by decide +kernel
theorem dX9_needGroup_1 : decode cX9_needGroup 1 = .ok (.getfield 33, 3) := by decide +kernel
theorem dX9_needGroup_4 : decode cX9_needGroup 4 = .ok (.getfield 91, 3) := by decide +kernel
theorem dX9_needGroup_7 : decode cX9_needGroup 7 = .ok (.iload_n 1, 1) := by decide +kernel
theorem dX9_needGroup_8 : decode cX9_needGroup 8 = .ok (.invokevirtual 305, 3) := by decide +kernel
theorem dX9_needGroup_11 : decode cX9_needGroup 11 = .ok (.invokestatic 308, 3) := by decide +kernel
theorem dX9_needGroup_14 : decode cX9_needGroup 14 = .ok (.return_, 1) := by decide +kernel
theorem dX9_needShard_0 : decode cX9_needShard 0 = .ok (.aload_n 0, 1) := by decide +kernel
theorem dX9_needShard_1 : decode cX9_needShard 1 = .ok (.iload_n 1, 1) := by decide +kernel
theorem dX9_needShard_2 : decode cX9_needShard 2 = .ok (.invokevirtual 145, 3) := by decide +kernel
theorem dX9_needShard_5 : decode cX9_needShard 5 = .ok (.iload_n 2, 1) := by decide +kernel
theorem dX9_needShard_6 : decode cX9_needShard 6 = .ok (.ifCond .lt 24, 3) := by decide +kernel
theorem dX9_needShard_9 : decode cX9_needShard 9 = .ok (.iload_n 2, 1) := by decide +kernel
theorem dX9_needShard_10 : decode cX9_needShard 10 = .ok (.aload_n 0, 1) := by decide +kernel
theorem dX9_needShard_11 : decode cX9_needShard 11 = .ok (.getfield 33, 3) := by decide +kernel
theorem dX9_needShard_14 : decode cX9_needShard 14 = .ok (.getfield 91, 3) := by decide +kernel
theorem dX9_needShard_17 : decode cX9_needShard 17 = .ok (.iload_n 1, 1) := by decide +kernel
theorem dX9_needShard_18 : decode cX9_needShard 18 = .ok (.bipush 9, 2) := by decide +kernel
theorem dX9_needShard_20 : decode cX9_needShard 20 = .ok (.invokevirtual 126, 3) := by decide +kernel
theorem dX9_needShard_23 : decode cX9_needShard 23 = .ok (.if_icmp .ge 7, 3) := by decide +kernel
theorem dX9_needShard_26 : decode cX9_needShard 26 = .ok (.iconst 1, 1) := by decide +kernel
theorem dX9_needShard_27 : decode cX9_needShard 27 = .ok (.goto 4, 3) := by decide +kernel
theorem dX9_needShard_30 : decode cX9_needShard 30 = .ok (.iconst 0, 1) := by decide +kernel
theorem dX9_needShard_31 : decode cX9_needShard 31 = .ok (.invokestatic 308, 3) := by decide +kernel
theorem dX9_needShard_34 : decode cX9_needShard 34 = .ok (.return_, 1) := by decide +kernel
theorem dX9_needHistory_0 : decode cX9_needHistory 0 = .ok (.aload_n 0, 1) := by decide +kernel
theorem dX9_needHistory_1 : decode cX9_needHistory 1 = .ok (.getfield 33, 3) := by decide +kernel
theorem dX9_needHistory_4 : decode cX9_needHistory 4 = .ok (.getfield 302, 3) := by decide +kernel
theorem dX9_needHistory_7 : decode cX9_needHistory 7 = .ok (.getfield 95, 3) := by decide +kernel
theorem dX9_needHistory_10 : decode cX9_needHistory 10 = .ok (.ifCond .ne 14, 3) := by decide +kernel
theorem dX9_needHistory_13 : decode cX9_needHistory 13 = .ok (.new 338, 3) := by decide +kernel
theorem dX9_needHistory_16 : decode cX9_needHistory 16 = .ok (.dup, 1) := by decide +kernel
theorem dX9_needHistory_17 : decode cX9_needHistory 17 = .ok (.ldc_w 340, 3) := by decide +kernel
theorem dX9_needHistory_20 : decode cX9_needHistory 20 = .ok (.invokespecial 342, 3) := by decide +kernel
theorem dX9_needHistory_23 : decode cX9_needHistory 23 = .ok (.athrow, 1) := by decide +kernel
theorem dX9_needHistory_24 : decode cX9_needHistory 24 = .ok (.return_, 1) := by decide +kernel
theorem dX9_needIndex_0 : decode cX9_needIndex 0 = .ok (.iload_n 0, 1) := by decide +kernel
theorem dX9_needIndex_1 : decode cX9_needIndex 1 = .ok (.ifCond .ne 14, 3) := by decide +kernel
theorem dX9_needIndex_4 : decode cX9_needIndex 4 = .ok (.new 343, 3) := by decide +kernel
theorem dX9_needIndex_7 : decode cX9_needIndex 7 = .ok (.dup, 1) := by decide +kernel
theorem dX9_needIndex_8 : decode cX9_needIndex 8 = .ok (.ldc_w 345, 3) := by decide +kernel
theorem dX9_needIndex_11 : decode cX9_needIndex 11 = .ok (.invokespecial 347, 3) := by decide +kernel
theorem dX9_needIndex_14 : decode cX9_needIndex 14 = .ok (.athrow, 1) := by decide +kernel
theorem dX9_needIndex_15 : decode cX9_needIndex 15 = .ok (.return_, 1) := by decide +kernel
theorem dX9_needArgument_0 : decode cX9_needArgument 0 = .ok (.iload_n 0, 1) := by decide +kernel
theorem dX9_needArgument_1 : decode cX9_needArgument 1 = .ok (.ifCond .ne 14, 3) := by decide +kernel
theorem dX9_needArgument_4 : decode cX9_needArgument 4 = .ok (.new 348, 3) := by decide +kernel
theorem dX9_needArgument_7 : decode cX9_needArgument 7 = .ok (.dup, 1) := by decide +kernel
theorem dX9_needArgument_8 : decode cX9_needArgument 8 = .ok (.ldc_w 350, 3) := by decide +kernel
theorem dX9_needArgument_11 : decode cX9_needArgument 11 = .ok (.invokespecial 352, 3) := by decide +kernel
theorem dX9_needArgument_14 : decode cX9_needArgument 14 = .ok (.athrow, 1) := by decide +kernel
theorem dX9_needArgument_15 : decode cX9_needArgument 15 = .ok (.return_, 1) := by decide +kernel
theorem dX9_needState_0 : decode cX9_needState 0 = .ok (.iload_n 0, 1) := by decide +kernel
theorem dX9_needState_1 : decode cX9_needState 1 = .ok (.ifCond .ne 14, 3) := by decide +kernel
theorem dX9_needState_4 : decode cX9_needState 4 = .ok (.new 62, 3) := by decide +kernel
theorem dX9_needState_7 : decode cX9_needState 7 = .ok (.dup, 1) := by decide +kernel
theorem dX9_needState_8 : decode cX9_needState 8 = .ok (.ldc_w 353, 3) := by decide +kernel
theorem dX9_needState_11 : decode cX9_needState 11 = .ok (.invokespecial 66, 3) := by decide +kernel
theorem dX9_needState_14 : decode cX9_needState 14 = .ok (.athrow, 1) := by decide +kernel
theorem dX9_needState_15 : decode cX9_needState 15 = .ok (.return_, 1) := by decide +kernel
theorem dX9_isKind_0 : decode cX9_isKind 0 = .ok (.iload_n 0, 1) := by decide +kernel
theorem dX9_isKind_1 : decode cX9_isKind 1 = .ok (.ifCond .lt 12, 3) := by decide +kernel
theorem dX9_isKind_4 : decode cX9_isKind 4 = .ok (.iload_n 0, 1) := by decide +kernel
theorem dX9_isKind_5 : decode cX9_isKind 5 = .ok (.iconst 2, 1) := by decide +kernel
theorem dX9_isKind_6 : decode cX9_isKind 6 = .ok (.if_icmp .gt 7, 3) := by decide +kernel
theorem dX9_isKind_9 : decode cX9_isKind 9 = .ok (.iconst 1, 1) := by decide +kernel
theorem dX9_isKind_10 : decode cX9_isKind 10 = .ok (.goto 4, 3) := by decide +kernel
theorem dX9_isKind_13 : decode cX9_isKind 13 = .ok (.iconst 0, 1) := by decide +kernel
theorem dX9_isKind_14 : decode cX9_isKind 14 = .ok (.ireturn, 1) := by decide +kernel
theorem dX9_isIn_0 : decode cX9_isIn 0 = .ok (.iload_n 0, 1) := by decide +kernel
theorem dX9_isIn_1 : decode cX9_isIn 1 = .ok (.iload_n 1, 1) := by decide +kernel
theorem dX9_isIn_2 : decode cX9_isIn 2 = .ok (.ishr, 1) := by decide +kernel
theorem dX9_isIn_3 : decode cX9_isIn 3 = .ok (.iconst 1, 1) := by decide +kernel
theorem dX9_isIn_4 : decode cX9_isIn 4 = .ok (.iand, 1) := by decide +kernel
theorem dX9_isIn_5 : decode cX9_isIn 5 = .ok (.ifCond .eq 7, 3) := by decide +kernel
theorem dX9_isIn_8 : decode cX9_isIn 8 = .ok (.iconst 1, 1) := by decide +kernel
theorem dX9_isIn_9 : decode cX9_isIn 9 = .ok (.goto 4, 3) := by decide +kernel
theorem dX9_isIn_12 : decode cX9_isIn 12 = .ok (.iconst 0, 1) := by decide +kernel
theorem dX9_isIn_13 : decode cX9_isIn 13 = .ok (.ireturn, 1) := by decide +kernel
theorem dX9_lowestOf_0 : decode cX9_lowestOf 0 = .ok (.iload_n 0, 1) := by decide +kernel
theorem dX9_lowestOf_1 : decode cX9_lowestOf 1 = .ok (.iload_n 0, 1) := by decide +kernel
theorem dX9_lowestOf_2 : decode cX9_lowestOf 2 = .ok (.ineg, 1) := by decide +kernel
theorem dX9_lowestOf_3 : decode cX9_lowestOf 3 = .ok (.iand, 1) := by decide +kernel
theorem dX9_lowestOf_4 : decode cX9_lowestOf 4 = .ok (.iconst 1, 1) := by decide +kernel
theorem dX9_lowestOf_5 : decode cX9_lowestOf 5 = .ok (.isub, 1) := by decide +kernel
theorem dX9_lowestOf_6 : decode cX9_lowestOf 6 = .ok (.invokestatic 167, 3) := by decide +kernel
theorem dX9_lowestOf_9 : decode cX9_lowestOf 9 = .ok (.ireturn, 1) := by decide +kernel
theorem dX9_lowestBits_0 : decode cX9_lowestBits 0 = .ok (.iload_n 0, 1) := by decide +kernel
theorem dX9_lowestBits_1 : decode cX9_lowestBits 1 = .ok (.istore_n 2, 1) := by decide +kernel
theorem dX9_lowestBits_2 : decode cX9_lowestBits 2 = .ok (.iconst 0, 1) := by decide +kernel
theorem dX9_lowestBits_3 : decode cX9_lowestBits 3 = .ok (.istore_n 3, 1) := by decide +kernel
theorem dX9_lowestBits_4 : decode cX9_lowestBits 4 = .ok (.iconst 0, 1) := by decide +kernel
theorem dX9_lowestBits_5 : decode cX9_lowestBits 5 = .ok (.istore 4, 2) := by decide +kernel
theorem dX9_lowestBits_7 : decode cX9_lowestBits 7 = .ok (.iload 4, 2) := by decide +kernel
theorem dX9_lowestBits_9 : decode cX9_lowestBits 9 = .ok (.iload_n 1, 1) := by decide +kernel
theorem dX9_lowestBits_10 : decode cX9_lowestBits 10 = .ok (.if_icmp .ge 22, 3) := by decide +kernel
theorem dX9_lowestBits_13 : decode cX9_lowestBits 13 = .ok (.iload_n 3, 1) := by decide +kernel
theorem dX9_lowestBits_14 : decode cX9_lowestBits 14 = .ok (.iload_n 2, 1) := by decide +kernel
theorem dX9_lowestBits_15 : decode cX9_lowestBits 15 = .ok (.iload_n 2, 1) := by decide +kernel
theorem dX9_lowestBits_16 : decode cX9_lowestBits 16 = .ok (.ineg, 1) := by decide +kernel
theorem dX9_lowestBits_17 : decode cX9_lowestBits 17 = .ok (.iand, 1) := by decide +kernel
theorem dX9_lowestBits_18 : decode cX9_lowestBits 18 = .ok (.ior, 1) := by decide +kernel
theorem dX9_lowestBits_19 : decode cX9_lowestBits 19 = .ok (.istore_n 3, 1) := by decide +kernel
theorem dX9_lowestBits_20 : decode cX9_lowestBits 20 = .ok (.iload_n 2, 1) := by decide +kernel
theorem dX9_lowestBits_21 : decode cX9_lowestBits 21 = .ok (.iload_n 2, 1) := by decide +kernel
theorem dX9_lowestBits_22 : decode cX9_lowestBits 22 = .ok (.iconst 1, 1) := by decide +kernel
theorem dX9_lowestBits_23 : decode cX9_lowestBits 23 = .ok (.isub, 1) := by decide +kernel
theorem dX9_lowestBits_24 : decode cX9_lowestBits 24 = .ok (.iand, 1) := by decide +kernel
theorem dX9_lowestBits_25 : decode cX9_lowestBits 25 = .ok (.istore_n 2, 1) := by decide +kernel
theorem dX9_lowestBits_26 : decode cX9_lowestBits 26 = .ok (.iinc 4 1, 3) := by decide +kernel
theorem dX9_lowestBits_29 : decode cX9_lowestBits 29 = .ok (.goto (-22), 3) := by decide +kernel
theorem dX9_lowestBits_32 : decode cX9_lowestBits 32 = .ok (.iload_n 3, 1) := by decide +kernel
theorem dX9_lowestBits_33 : decode cX9_lowestBits 33 = .ok (.ireturn, 1) := by decide +kernel
theorem dX9_valueAtRisk_0 : decode cX9_valueAtRisk 0 = .ok (.aload_n 0, 1) := by decide +kernel
theorem dX9_valueAtRisk_1 : decode cX9_valueAtRisk 1 = .ok (.getfield 33, 3) := by decide +kernel
theorem dX9_valueAtRisk_4 : decode cX9_valueAtRisk 4 = .ok (.getfield 91, 3) := by decide +kernel
theorem dX9_valueAtRisk_7 : decode cX9_valueAtRisk 7 = .ok (.iload_n 1, 1) := by decide +kernel
theorem dX9_valueAtRisk_8 : decode cX9_valueAtRisk 8 = .ok (.iconst 5, 1) := by decide +kernel
theorem dX9_valueAtRisk_9 : decode cX9_valueAtRisk 9 = .ok (.invokevirtual 126, 3) := by decide +kernel
theorem dX9_valueAtRisk_12 : decode cX9_valueAtRisk 12 = .ok (.i2l, 1) := by decide +kernel
theorem dX9_valueAtRisk_13 : decode cX9_valueAtRisk 13 = .ok (.aload_n 0, 1) := by decide +kernel
theorem dX9_valueAtRisk_14 : decode cX9_valueAtRisk 14 = .ok (.getfield 40, 3) := by decide +kernel
theorem dX9_valueAtRisk_17 : decode cX9_valueAtRisk 17 = .ok (.getfield 179, 3) := by decide +kernel
theorem dX9_valueAtRisk_20 : decode cX9_valueAtRisk 20 = .ok (.aload_n 0, 1) := by decide +kernel
theorem dX9_valueAtRisk_21 : decode cX9_valueAtRisk 21 = .ok (.getfield 33, 3) := by decide +kernel
theorem dX9_valueAtRisk_24 : decode cX9_valueAtRisk 24 = .ok (.iload_n 1, 1) := by decide +kernel
theorem dX9_valueAtRisk_25 : decode cX9_valueAtRisk 25 = .ok (.iload_n 2, 1) := by decide +kernel
theorem dX9_valueAtRisk_26 : decode cX9_valueAtRisk 26 = .ok (.invokevirtual 183, 3) := by decide +kernel
theorem dX9_valueAtRisk_29 : decode cX9_valueAtRisk 29 = .ok (.i2l, 1) := by decide +kernel
theorem dX9_valueAtRisk_30 : decode cX9_valueAtRisk 30 = .ok (.lmul, 1) := by decide +kernel
theorem dX9_valueAtRisk_31 : decode cX9_valueAtRisk 31 = .ok (.lreturn, 1) := by decide +kernel
theorem dX9_allValueAtRisk_0 : decode cX9_allValueAtRisk 0 = .ok (.lconst 0, 1) := by decide +kernel
theorem dX9_allValueAtRisk_1 : decode cX9_allValueAtRisk 1 = .ok (.lstore_n 2, 1) := by decide +kernel
theorem dX9_allValueAtRisk_2 : decode cX9_allValueAtRisk 2 = .ok (.iconst 0, 1) := by decide +kernel
theorem dX9_allValueAtRisk_3 : decode cX9_allValueAtRisk 3 = .ok (.istore 4, 2) := by decide +kernel
theorem dX9_allValueAtRisk_5 : decode cX9_allValueAtRisk 5 = .ok (.iload 4, 2) := by decide +kernel
theorem dX9_allValueAtRisk_7 : decode cX9_allValueAtRisk 7 = .ok (.aload_n 0, 1) := by decide +kernel
theorem dX9_allValueAtRisk_8 : decode cX9_allValueAtRisk 8 = .ok (.getfield 33, 3) := by decide +kernel
theorem dX9_allValueAtRisk_11 : decode cX9_allValueAtRisk 11 = .ok (.getfield 91, 3) := by decide +kernel
theorem dX9_allValueAtRisk_14 : decode cX9_allValueAtRisk 14 = .ok (.getfield 95, 3) := by decide +kernel
theorem dX9_allValueAtRisk_17 : decode cX9_allValueAtRisk 17 = .ok (.if_icmp .ge 19, 3) := by decide +kernel
theorem dX9_allValueAtRisk_20 : decode cX9_allValueAtRisk 20 = .ok (.lload_n 2, 1) := by decide +kernel
theorem dX9_allValueAtRisk_21 : decode cX9_allValueAtRisk 21 = .ok (.aload_n 0, 1) := by decide +kernel
theorem dX9_allValueAtRisk_22 : decode cX9_allValueAtRisk 22 = .ok (.iload 4, 2) := by decide +kernel
theorem dX9_allValueAtRisk_24 : decode cX9_allValueAtRisk 24 = .ok (.iload_n 1, 1) := by decide +kernel
theorem dX9_allValueAtRisk_25 : decode cX9_allValueAtRisk 25 = .ok (.invokevirtual 189, 3) := by decide +kernel
theorem dX9_allValueAtRisk_28 : decode cX9_allValueAtRisk 28 = .ok (.ladd, 1) := by decide +kernel
theorem dX9_allValueAtRisk_29 : decode cX9_allValueAtRisk 29 = .ok (.lstore_n 2, 1) := by decide +kernel
theorem dX9_allValueAtRisk_30 : decode cX9_allValueAtRisk 30 = .ok (.iinc 4 1, 3) := by decide +kernel
theorem dX9_allValueAtRisk_33 : decode cX9_allValueAtRisk 33 = .ok (.goto (-28), 3) := by decide +kernel
