theorem dX10_worstNode_64 : decode cX10_worstNode 64 = .ok (.goto 9, 3) := by decide +kernel
theorem dX10_worstNode_67 : decode cX10_worstNode 67 = .ok (.iload 4, 2) := by decide +kernel
theorem dX10_worstNode_69 : decode cX10_worstNode 69 = .ok (.istore_n 1, 1) := by decide +kernel
theorem dX10_worstNode_70 : decode cX10_worstNode 70 = .ok (.lload 5, 2) := by decide +kernel
theorem dX10_worstNode_72 : decode cX10_worstNode 72 = .ok (.lstore_n 2, 1) := by decide +kernel
theorem dX10_worstNode_73 : decode cX10_worstNode 73 = .ok (.iinc 4 1, 3) := by decide +kernel
theorem dX10_worstNode_76 : decode cX10_worstNode 76 = .ok (.goto (-64), 3) := by decide +kernel
theorem dX10_worstNode_79 : decode cX10_worstNode 79 = .ok (.aload_n 0, 1) := by decide +kernel
theorem dX10_worstNode_80 : decode cX10_worstNode 80 = .ok (.iconst 0, 1) := by decide +kernel
theorem dX10_worstNode_81 : decode cX10_worstNode 81 = .ok (.putfield 99, 3) := by decide +kernel
theorem dX10_worstNode_84 : decode cX10_worstNode 84 = .ok (.iload_n 1, 1) := by decide +kernel
theorem dX10_worstNode_85 : decode cX10_worstNode 85 = .ok (.ireturn, 1) := by decide +kernel
theorem dX10_offer_0 : decode cX10_offer 0 = .ok (.aload_n 0, 1) := by decide +kernel
theorem dX10_offer_1 : decode cX10_offer 1 = .ok (.aload_n 0, 1) := by decide +kernel
theorem dX10_offer_2 : decode cX10_offer 2 = .ok (.iload_n 1, 1) := by decide +kernel
theorem dX10_offer_3 : decode cX10_offer 3 = .ok (.invokevirtual 406, 3) := by decide +kernel
theorem dX10_offer_6 : decode cX10_offer 6 = .ok (.invokevirtual 216, 3) := by decide +kernel
theorem dX10_offer_9 : decode cX10_offer 9 = .ok (.ifCond .eq 11, 3) := by decide +kernel
theorem dX10_offer_12 : decode cX10_offer 12 = .ok (.aload_n 0, 1) := by decide +kernel
theorem dX10_offer_13 : decode cX10_offer 13 = .ok (.iload_n 1, 1) := by decide +kernel
theorem dX10_offer_14 : decode cX10_offer 14 = .ok (.invokevirtual 158, 3) := by decide +kernel
theorem dX10_offer_17 : decode cX10_offer 17 = .ok (.goto 4, 3) := by decide +kernel
theorem dX10_offer_20 : decode cX10_offer 20 = .ok (.iconst 0, 1) := by decide +kernel
theorem dX10_offer_21 : decode cX10_offer 21 = .ok (.ireturn, 1) := by decide +kernel
theorem dX10_bids_0 : decode cX10_bids 0 = .ok (.aload_n 0, 1) := by decide +kernel
theorem dX10_bids_1 : decode cX10_bids 1 = .ok (.aload_n 0, 1) := by decide +kernel
theorem dX10_bids_2 : decode cX10_bids 2 = .ok (.iload_n 1, 1) := by decide +kernel
theorem dX10_bids_3 : decode cX10_bids 3 = .ok (.invokevirtual 406, 3) := by decide +kernel
theorem dX10_bids_6 : decode cX10_bids 6 = .ok (.invokevirtual 216, 3) := by decide +kernel
theorem dX10_bids_9 : decode cX10_bids 9 = .ok (.ifCond .eq 15, 3) := by decide +kernel
theorem dX10_bids_12 : decode cX10_bids 12 = .ok (.aload_n 0, 1) := by decide +kernel
theorem dX10_bids_13 : decode cX10_bids 13 = .ok (.iload_n 1, 1) := by decide +kernel
theorem dX10_bids_14 : decode cX10_bids 14 = .ok (.invokevirtual 164, 3) := by decide +kernel
theorem dX10_bids_17 : decode cX10_bids 17 = .ok (.ifCond .eq 7, 3) := by decide +kernel
theorem dX10_bids_20 : decode cX10_bids 20 = .ok (.iconst 1, 1) := by decide +kernel
theorem dX10_bids_21 : decode cX10_bids 21 = .ok (.goto 4, 3) := by decide +kernel
theorem dX10_bids_24 : decode cX10_bids 24 = .ok (.iconst 0, 1) := by decide +kernel
theorem dX10_bids_25 : decode cX10_bids 25 = .ok (.ireturn, 1) := by decide +kernel
theorem dX10_target_0 : decode cX10_target 0 = .ok (.aload_n 0, 1) := by decide +kernel
theorem dX10_target_1 : decode cX10_target 1 = .ok (.aload_n 0, 1) := by decide +kernel
theorem dX10_target_2 : decode cX10_target 2 = .ok (.iload_n 1, 1) := by decide +kernel
theorem dX10_target_3 : decode cX10_target 3 = .ok (.invokevirtual 406, 3) := by decide +kernel
theorem dX10_target_6 : decode cX10_target 6 = .ok (.invokevirtual 216, 3) := by decide +kernel
theorem dX10_target_9 : decode cX10_target 9 = .ok (.ifCond .ne 5, 3) := by decide +kernel
theorem dX10_target_12 : decode cX10_target 12 = .ok (.iconst 0, 1) := by decide +kernel
theorem dX10_target_13 : decode cX10_target 13 = .ok (.ireturn, 1) := by decide +kernel
theorem dX10_target_14 : decode cX10_target 14 = .ok (.aload_n 0, 1) := by decide +kernel
theorem dX10_target_15 : decode cX10_target 15 = .ok (.iload_n 1, 1) := by decide +kernel
theorem dX10_target_16 : decode cX10_target 16 = .ok (.invokevirtual 149, 3) := by decide +kernel
theorem dX10_target_19 : decode cX10_target 19 = .ok (.ifCond .eq 16, 3) := by decide +kernel
theorem dX10_target_22 : decode cX10_target 22 = .ok (.aload_n 0, 1) := by decide +kernel
theorem dX10_target_23 : decode cX10_target 23 = .ok (.iload_n 1, 1) := by decide +kernel
theorem dX10_target_24 : decode cX10_target 24 = .ok (.aload_n 0, 1) := by decide +kernel
theorem dX10_target_25 : decode cX10_target 25 = .ok (.iload_n 1, 1) := by decide +kernel
theorem dX10_target_26 : decode cX10_target 26 = .ok (.invokevirtual 118, 3) := by decide +kernel
theorem dX10_target_29 : decode cX10_target 29 = .ok (.invokevirtual 155, 3) := by decide +kernel
theorem dX10_target_32 : decode cX10_target 32 = .ok (.goto 4, 3) := by decide +kernel
theorem dX10_target_35 : decode cX10_target 35 = .ok (.iconst (-1), 1) := by decide +kernel
theorem dX10_target_36 : decode cX10_target 36 = .ok (.ireturn, 1) := by decide +kernel
theorem dX10_bidder_0 : decode cX10_bidder 0 = .ok (.aload_n 0, 1) := by decide +kernel
theorem dX10_bidder_1 : decode cX10_bidder 1 = .ok (.iload_n 1, 1) := by decide +kernel
theorem dX10_bidder_2 : decode cX10_bidder 2 = .ok (.ifCond .lt 7, 3) := by decide +kernel
theorem dX10_bidder_5 : decode cX10_bidder 5 = .ok (.iconst 1, 1) := by decide +kernel
theorem dX10_bidder_6 : decode cX10_bidder 6 = .ok (.goto 4, 3) := by decide +kernel
theorem dX10_bidder_9 : decode cX10_bidder 9 = .ok (.iconst 0, 1) := by decide +kernel
theorem dX10_bidder_10 : decode cX10_bidder 10 = .ok (.invokevirtual 216, 3) := by decide +kernel
theorem dX10_bidder_13 : decode cX10_bidder 13 = .ok (.ifCond .ne 5, 3) := by decide +kernel
theorem dX10_bidder_16 : decode cX10_bidder 16 = .ok (.iconst 0, 1) := by decide +kernel
theorem dX10_bidder_17 : decode cX10_bidder 17 = .ok (.ireturn, 1) := by decide +kernel
theorem dX10_bidder_18 : decode cX10_bidder 18 = .ok (.aload_n 0, 1) := by decide +kernel
theorem dX10_bidder_19 : decode cX10_bidder 19 = .ok (.invokevirtual 175, 3) := by decide +kernel
theorem dX10_bidder_22 : decode cX10_bidder 22 = .ok (.iload_n 1, 1) := by decide +kernel
theorem dX10_bidder_23 : decode cX10_bidder 23 = .ok (.aload_n 0, 1) := by decide +kernel
theorem dX10_bidder_24 : decode cX10_bidder 24 = .ok (.getfield 161, 3) := by decide +kernel
theorem dX10_bidder_27 : decode cX10_bidder 27 = .ok (.if_icmp .ge 12, 3) := by decide +kernel
theorem dX10_bidder_30 : decode cX10_bidder 30 = .ok (.aload_n 0, 1) := by decide +kernel
theorem dX10_bidder_31 : decode cX10_bidder 31 = .ok (.getfield 31, 3) := by decide +kernel
theorem dX10_bidder_34 : decode cX10_bidder 34 = .ok (.iload_n 1, 1) := by decide +kernel
theorem dX10_bidder_35 : decode cX10_bidder 35 = .ok (.iaload, 1) := by decide +kernel
theorem dX10_bidder_36 : decode cX10_bidder 36 = .ok (.goto 4, 3) := by decide +kernel
theorem dX10_bidder_39 : decode cX10_bidder 39 = .ok (.iconst (-1), 1) := by decide +kernel
theorem dX10_bidder_40 : decode cX10_bidder 40 = .ok (.ireturn, 1) := by decide +kernel
theorem dX10_outcome_0 : decode cX10_outcome 0 = .ok (.aload_n 0, 1) := by decide +kernel
theorem dX10_outcome_1 : decode cX10_outcome 1 = .ok (.aload_n 0, 1) := by decide +kernel
theorem dX10_outcome_2 : decode cX10_outcome 2 = .ok (.iload_n 1, 1) := by decide +kernel
theorem dX10_outcome_3 : decode cX10_outcome 3 = .ok (.invokevirtual 406, 3) := by decide +kernel
theorem dX10_outcome_6 : decode cX10_outcome 6 = .ok (.iload_n 2, 1) := by decide +kernel
theorem dX10_outcome_7 : decode cX10_outcome 7 = .ok (.i2l, 1) := by decide +kernel
theorem dX10_outcome_8 : decode cX10_outcome 8 = .ok (.lconst 0, 1) := by decide +kernel
theorem dX10_outcome_9 : decode cX10_outcome 9 = .ok (.lconst 1, 1) := by decide +kernel
theorem dX10_outcome_10 : decode cX10_outcome 10 = .ok (.invokestatic 62, 3) := by decide +kernel
theorem dX10_outcome_13 : decode cX10_outcome 13 = .ok (.invokevirtual 395, 3) := by decide +kernel
theorem dX10_outcome_16 : decode cX10_outcome 16 = .ok (.ifCond .ne 5, 3) := by decide +kernel
theorem dX10_outcome_19 : decode cX10_outcome 19 = .ok (.iconst 0, 1) := by decide +kernel
theorem dX10_outcome_20 : decode cX10_outcome 20 = .ok (.ireturn, 1) := by decide +kernel
theorem dX10_outcome_21 : decode cX10_outcome 21 = .ok (.aload_n 0, 1) := by decide +kernel
theorem dX10_outcome_22 : decode cX10_outcome 22 = .ok (.invokevirtual 193, 3) := by decide +kernel
theorem dX10_outcome_25 : decode cX10_outcome 25 = .ok (.iconst 0, 1) := by decide +kernel
theorem dX10_outcome_26 : decode cX10_outcome 26 = .ok (.istore_n 3, 1) := by decide +kernel
theorem dX10_outcome_27 : decode cX10_outcome 27 = .ok (.iload_n 3, 1) := by decide +kernel
theorem dX10_outcome_28 : decode cX10_outcome 28 = .ok (.aload_n 0, 1) := by decide +kernel
theorem dX10_outcome_29 : decode cX10_outcome 29 = .ok (.getfield 161, 3) := by decide +kernel
theorem dX10_outcome_32 : decode cX10_outcome 32 = .ok (.if_icmp .ge 52, 3) := by decide +kernel
theorem dX10_outcome_35 : decode cX10_outcome 35 = .ok (.aload_n 0, 1) := by decide +kernel
theorem dX10_outcome_36 : decode cX10_outcome 36 = .ok (.getfield 31, 3) := by decide +kernel
theorem dX10_outcome_39 : decode cX10_outcome 39 = .ok (.iload_n 3, 1) := by decide +kernel
theorem dX10_outcome_40 : decode cX10_outcome 40 = .ok (.iaload, 1) := by decide +kernel
theorem dX10_outcome_41 : decode cX10_outcome 41 = .ok (.iload_n 1, 1) := by decide +kernel
theorem dX10_outcome_42 : decode cX10_outcome 42 = .ok (.if_icmp .ne 36, 3) := by decide +kernel
theorem dX10_outcome_45 : decode cX10_outcome 45 = .ok (.iload_n 2, 1) := by decide +kernel
theorem dX10_outcome_46 : decode cX10_outcome 46 = .ok (.ifCond .ne 12, 3) := by decide +kernel
theorem dX10_outcome_49 : decode cX10_outcome 49 = .ok (.aload_n 0, 1) := by decide +kernel
theorem dX10_outcome_50 : decode cX10_outcome 50 = .ok (.getfield 40, 3) := by decide +kernel
theorem dX10_outcome_53 : decode cX10_outcome 53 = .ok (.iload_n 3, 1) := by decide +kernel
theorem dX10_outcome_54 : decode cX10_outcome 54 = .ok (.iaload, 1) := by decide +kernel
theorem dX10_outcome_55 : decode cX10_outcome 55 = .ok (.goto 22, 3) := by decide +kernel
theorem dX10_outcome_58 : decode cX10_outcome 58 = .ok (.aload_n 0, 1) := by decide +kernel
theorem dX10_outcome_59 : decode cX10_outcome 59 = .ok (.getfield 40, 3) := by decide +kernel
theorem dX10_outcome_62 : decode cX10_outcome 62 = .ok (.iload_n 3, 1) := by decide +kernel
theorem dX10_outcome_63 : decode cX10_outcome 63 = .ok (.iaload, 1) := by decide +kernel
theorem dX10_outcome_64 : decode cX10_outcome 64 = .ok (.ifCond .ne 7, 3) := by decide +kernel
theorem dX10_outcome_67 : decode cX10_outcome 67 = .ok (.iconst 0, 1) := by decide +kernel
theorem dX10_outcome_68 : decode cX10_outcome 68 = .ok (.goto 9, 3) := by decide +kernel
theorem dX10_outcome_71 : decode cX10_outcome 71 = .ok (.aload_n 0, 1) := by decide +kernel
theorem dX10_outcome_72 : decode cX10_outcome 72 = .ok (.getfield 43, 3) := by decide +kernel
theorem dX10_outcome_75 : decode cX10_outcome 75 = .ok (.iload_n 3, 1) := by decide +kernel
theorem dX10_outcome_76 : decode cX10_outcome 76 = .ok (.iaload, 1) := by decide +kernel
theorem dX10_outcome_77 : decode cX10_outcome 77 = .ok (.ireturn, 1) := by decide +kernel
theorem dX10_outcome_78 : decode cX10_outcome 78 = .ok (.iinc 3 1, 3) := by decide +kernel
theorem dX10_outcome_81 : decode cX10_outcome 81 = .ok (.goto (-54), 3) := by decide +kernel
theorem dX10_outcome_84 : decode cX10_outcome 84 = .ok (.iconst 0, 1) := by decide +kernel
theorem dX10_outcome_85 : decode cX10_outcome 85 = .ok (.ireturn, 1) := by decide +kernel
theorem dX10_clearingPrice_0 : decode cX10_clearingPrice 0 = .ok (.aload_n 0, 1) := by decide +kernel
theorem dX10_clearingPrice_1 : decode cX10_clearingPrice 1 = .ok (.iconst 0, 1) := by decide +kernel
theorem dX10_clearingPrice_2 : decode cX10_clearingPrice 2 = .ok (.putfield 3, 3) := by decide +kernel
theorem dX10_clearingPrice_5 : decode cX10_clearingPrice 5 = .ok (.aload_n 0, 1) := by decide +kernel
theorem dX10_clearingPrice_6 : decode cX10_clearingPrice 6 = .ok (.invokevirtual 193, 3) := by decide +kernel
theorem dX10_clearingPrice_9 : decode cX10_clearingPrice 9 = .ok (.aload_n 0, 1) := by decide +kernel
theorem dX10_clearingPrice_10 : decode cX10_clearingPrice 10 = .ok (.getfield 178, 3) := by decide +kernel
theorem dX10_clearingPrice_13 : decode cX10_clearingPrice 13 = .ok (.ireturn, 1) := by decide +kernel
theorem dX10_bandwidth_0 : decode cX10_bandwidth 0 = .ok (.aload_n 0, 1) := by decide +kernel
theorem dX10_bandwidth_1 : decode cX10_bandwidth 1 = .ok (.iconst 0, 1) := by decide +kernel
theorem dX10_bandwidth_2 : decode cX10_bandwidth 2 = .ok (.putfield 3, 3) := by decide +kernel
theorem dX10_bandwidth_5 : decode cX10_bandwidth 5 = .ok (.aload_n 0, 1) := by decide +kernel
theorem dX10_bandwidth_6 : decode cX10_bandwidth 6 = .ok (.getfield 17, 3) := by decide +kernel
theorem dX10_bandwidth_9 : decode cX10_bandwidth 9 = .ok (.iconst 0, 1) := by decide +kernel
theorem dX10_bandwidth_10 : decode cX10_bandwidth 10 = .ok (.iaload, 1) := by decide +kernel
theorem dX10_bandwidth_11 : decode cX10_bandwidth 11 = .ok (.aload_n 0, 1) := by decide +kernel
theorem dX10_bandwidth_12 : decode cX10_bandwidth 12 = .ok (.getfield 17, 3) := by decide +kernel
theorem dX10_bandwidth_15 : decode cX10_bandwidth 15 = .ok (.iconst 4, 1) := by decide +kernel
theorem dX10_bandwidth_16 : decode cX10_bandwidth 16 = .ok (.iaload, 1) := by decide +kernel
theorem dX10_bandwidth_17 : decode cX10_bandwidth 17 = .ok (.iadd, 1) := by decide +kernel
theorem dX10_bandwidth_18 : decode cX10_bandwidth 18 = .ok (.ireturn, 1) := by decide +kernel
theorem dX10_nextRound_0 : decode cX10_nextRound 0 = .ok (.aload_n 0, 1) := by decide +kernel
theorem dX10_nextRound_1 : decode cX10_nextRound 1 = .ok (.iconst 0, 1) := by decide +kernel
theorem dX10_nextRound_2 : decode cX10_nextRound 2 = .ok (.putfield 3, 3) := by decide +kernel
theorem dX10_nextRound_5 : decode cX10_nextRound 5 = .ok (.aload_n 0, 1) := by decide +kernel
theorem dX10_nextRound_6 : decode cX10_nextRound 6 = .ok (.getfield 17, 3) := by decide +kernel
theorem dX10_nextRound_9 : decode cX10_nextRound 9 = .ok (.iconst 5, 1) := by decide +kernel
theorem dX10_nextRound_10 : decode cX10_nextRound 10 = .ok (.iaload, 1) := by decide +kernel
theorem dX10_nextRound_11 : decode cX10_nextRound 11 = .ok (.ireturn, 1) := by decide +kernel
theorem dX10_become_0 : decode cX10_become 0 = .ok (.aload_n 0, 1) := by decide +kernel
theorem dX10_become_1 : decode cX10_become 1 = .ok (.getfield 17, 3) := by decide +kernel
theorem dX10_become_4 : decode cX10_become 4 = .ok (.bipush 10, 2) := by decide +kernel
theorem dX10_become_6 : decode cX10_become 6 = .ok (.bipush 12, 2) := by decide +kernel
theorem dX10_become_8 : decode cX10_become 8 = .ok (.iload_n 1, 1) := by decide +kernel
theorem dX10_become_9 : decode cX10_become 9 = .ok (.imul, 1) := by decide +kernel
theorem dX10_become_10 : decode cX10_become 10 = .ok (.iadd, 1) := by decide +kernel
theorem dX10_become_11 : decode cX10_become 11 = .ok (.iconst 4, 1) := by decide +kernel
theorem dX10_become_12 : decode cX10_become 12 = .ok (.iadd, 1) := by decide +kernel
theorem dX10_become_13 : decode cX10_become 13 = .ok (.iload_n 2, 1) := by decide +kernel
theorem dX10_become_14 : decode cX10_become 14 = .ok (.iastore, 1) := by decide +kernel
theorem dX10_become_15 : decode cX10_become 15 = .ok (.aload_n 0, 1) := by decide +kernel
theorem dX10_become_16 : decode cX10_become 16 = .ok (.getfield 17, 3) := by decide +kernel
theorem dX10_become_19 : decode cX10_become 19 = .ok (.bipush 10, 2) := by decide +kernel
theorem dX10_become_21 : decode cX10_become 21 = .ok (.bipush 12, 2) := by decide +kernel
theorem dX10_become_23 : decode cX10_become 23 = .ok (.iload_n 1, 1) := by decide +kernel
theorem dX10_become_24 : decode cX10_become 24 = .ok (.imul, 1) := by decide +kernel
theorem dX10_become_25 : decode cX10_become 25 = .ok (.iadd, 1) := by decide +kernel
theorem dX10_become_26 : decode cX10_become 26 = .ok (.iconst 5, 1) := by decide +kernel
theorem dX10_become_27 : decode cX10_become 27 = .ok (.iadd, 1) := by decide +kernel
theorem dX10_become_28 : decode cX10_become 28 = .ok (.aload_n 0, 1) := by decide +kernel
theorem dX10_become_29 : decode cX10_become 29 = .ok (.getfield 17, 3) := by decide +kernel
theorem dX10_become_32 : decode cX10_become 32 = .ok (.iconst 5, 1) := by decide +kernel
theorem dX10_become_33 : decode cX10_become 33 = .ok (.iaload, 1) := by decide +kernel
theorem dX10_become_34 : decode cX10_become 34 = .ok (.iastore, 1) := by decide +kernel
theorem dX10_become_35 : decode cX10_become 35 = .ok (.return_, 1) := by decide +kernel
theorem dX10_isDownNode_0 : decode cX10_isDownNode 0 = .ok (.aload_n 0, 1) := by decide +kernel
theorem dX10_isDownNode_1 : decode cX10_isDownNode 1 = .ok (.iload_n 1, 1) := by decide +kernel
theorem dX10_isDownNode_2 : decode cX10_isDownNode 2 = .ok (.invokevirtual 390, 3) := by decide +kernel
theorem dX10_isDownNode_5 : decode cX10_isDownNode 5 = .ok (.ifCond .eq 17, 3) := by decide +kernel
theorem dX10_isDownNode_8 : decode cX10_isDownNode 8 = .ok (.aload_n 0, 1) := by decide +kernel
theorem dX10_isDownNode_9 : decode cX10_isDownNode 9 = .ok (.iload_n 1, 1) := by decide +kernel
theorem dX10_isDownNode_10 : decode cX10_isDownNode 10 = .ok (.iconst 4, 1) := by decide +kernel
theorem dX10_isDownNode_11 : decode cX10_isDownNode 11 = .ok (.invokevirtual 77, 3) := by decide +kernel
theorem dX10_isDownNode_14 : decode cX10_isDownNode 14 = .ok (.iconst 1, 1) := by decide +kernel
theorem dX10_isDownNode_15 : decode cX10_isDownNode 15 = .ok (.if_icmp .ne 7, 3) := by decide +kernel
theorem dX10_isDownNode_18 : decode cX10_isDownNode 18 = .ok (.iconst 1, 1) := by decide +kernel
theorem dX10_isDownNode_19 : decode cX10_isDownNode 19 = .ok (.goto 4, 3) := by decide +kernel
theorem dX10_isDownNode_22 : decode cX10_isDownNode 22 = .ok (.iconst 0, 1) := by decide +kernel
theorem dX10_isDownNode_23 : decode cX10_isDownNode 23 = .ok (.ireturn, 1) := by decide +kernel
theorem dX10_fail_0 : decode cX10_fail 0 = .ok (.aload_n 0, 1) := by decide +kernel
theorem dX10_fail_1 : decode cX10_fail 1 = .ok (.aload_n 0, 1) := by decide +kernel
theorem dX10_fail_2 : decode cX10_fail 2 = .ok (.iload_n 1, 1) := by decide +kernel
theorem dX10_fail_3 : decode cX10_fail 3 = .ok (.invokevirtual 390, 3) := by decide +kernel
theorem dX10_fail_6 : decode cX10_fail 6 = .ok (.aload_n 0, 1) := by decide +kernel
theorem dX10_fail_7 : decode cX10_fail 7 = .ok (.iload_n 1, 1) := by decide +kernel
theorem dX10_fail_8 : decode cX10_fail 8 = .ok (.invokevirtual 420, 3) := by decide +kernel
theorem dX10_fail_11 : decode cX10_fail 11 = .ok (.ifCond .ne 7, 3) := by decide +kernel
theorem dX10_fail_14 : decode cX10_fail 14 = .ok (.iconst 1, 1) := by decide +kernel
theorem dX10_fail_15 : decode cX10_fail 15 = .ok (.goto 4, 3) := by decide +kernel
theorem dX10_fail_18 : decode cX10_fail 18 = .ok (.iconst 0, 1) := by decide +kernel
theorem dX10_fail_19 : decode cX10_fail 19 = .ok (.invokevirtual 395, 3) := by decide +kernel
theorem dX10_fail_22 : decode cX10_fail 22 = .ok (.ifCond .ne 5, 3) := by decide +kernel
theorem dX10_fail_25 : decode cX10_fail 25 = .ok (.iconst 0, 1) := by decide +kernel
theorem dX10_fail_26 : decode cX10_fail 26 = .ok (.ireturn, 1) := by decide +kernel
theorem dX10_fail_27 : decode cX10_fail 27 = .ok (.aload_n 0, 1) := by decide +kernel
theorem dX10_fail_28 : decode cX10_fail 28 = .ok (.invokevirtual 382, 3) := by decide +kernel
theorem dX10_fail_31 : decode cX10_fail 31 = .ok (.aload_n 0, 1) := by decide +kernel
theorem dX10_fail_32 : decode cX10_fail 32 = .ok (.invokevirtual 411, 3) := by decide +kernel
theorem dX10_fail_35 : decode cX10_fail 35 = .ok (.istore_n 2, 1) := by decide +kernel
theorem dX10_fail_36 : decode cX10_fail 36 = .ok (.aload_n 0, 1) := by decide +kernel
theorem dX10_fail_37 : decode cX10_fail 37 = .ok (.iload_n 1, 1) := by decide +kernel
theorem dX10_fail_38 : decode cX10_fail 38 = .ok (.iconst 1, 1) := by decide +kernel
theorem dX10_fail_39 : decode cX10_fail 39 = .ok (.invokevirtual 423, 3) := by decide +kernel
theorem dX10_fail_42 : decode cX10_fail 42 = .ok (.aload_n 0, 1) := by decide +kernel
theorem dX10_fail_43 : decode cX10_fail 43 = .ok (.invokevirtual 411, 3) := by decide +kernel
theorem dX10_fail_46 : decode cX10_fail 46 = .ok (.iload_n 2, 1) := by decide +kernel
theorem dX10_fail_47 : decode cX10_fail 47 = .ok (.iconst (-1), 1) := by decide +kernel
theorem dX10_fail_48 : decode cX10_fail 48 = .ok (.ixor, 1) := by decide +kernel
theorem dX10_fail_49 : decode cX10_fail 49 = .ok (.iand, 1) := by decide +kernel
theorem dX10_fail_50 : decode cX10_fail 50 = .ok (.ireturn, 1) := by decide +kernel
theorem dX10_recover_0 : decode cX10_recover 0 = .ok (.aload_n 0, 1) := by decide +kernel
theorem dX10_recover_1 : decode cX10_recover 1 = .ok (.aload_n 0, 1) := by decide +kernel
theorem dX10_recover_2 : decode cX10_recover 2 = .ok (.iload_n 1, 1) := by decide +kernel
theorem dX10_recover_3 : decode cX10_recover 3 = .ok (.invokevirtual 390, 3) := by decide +kernel
theorem dX10_recover_6 : decode cX10_recover 6 = .ok (.aload_n 0, 1) := by decide +kernel
theorem dX10_recover_7 : decode cX10_recover 7 = .ok (.iload_n 1, 1) := by decide +kernel
theorem dX10_recover_8 : decode cX10_recover 8 = .ok (.invokevirtual 390, 3) := by decide +kernel
theorem dX10_recover_11 : decode cX10_recover 11 = .ok (.ifCond .eq 11, 3) := by decide +kernel
theorem dX10_recover_14 : decode cX10_recover 14 = .ok (.aload_n 0, 1) := by decide +kernel
theorem dX10_recover_15 : decode cX10_recover 15 = .ok (.iload_n 1, 1) := by decide +kernel
theorem dX10_recover_16 : decode cX10_recover 16 = .ok (.invokevirtual 420, 3) := by decide +kernel
theorem dX10_recover_19 : decode cX10_recover 19 = .ok (.ifCond .eq 7, 3) := by decide +kernel
theorem dX10_recover_22 : decode cX10_recover 22 = .ok (.iconst 1, 1) := by decide +kernel
theorem dX10_recover_23 : decode cX10_recover 23 = .ok (.goto 4, 3) := by decide +kernel
theorem dX10_recover_26 : decode cX10_recover 26 = .ok (.iconst 0, 1) := by decide +kernel
theorem dX10_recover_27 : decode cX10_recover 27 = .ok (.invokevirtual 395, 3) := by decide +kernel
theorem dX10_recover_30 : decode cX10_recover 30 = .ok (.ifCond .ne 5, 3) := by decide +kernel
theorem dX10_recover_33 : decode cX10_recover 33 = .ok (.iconst 0, 1) := by decide +kernel
theorem dX10_recover_34 : decode cX10_recover 34 = .ok (.ireturn, 1) := by decide +kernel
theorem dX10_recover_35 : decode cX10_recover 35 = .ok (.aload_n 0, 1) := by decide +kernel
theorem dX10_recover_36 : decode cX10_recover 36 = .ok (.invokevirtual 382, 3) := by decide +kernel
theorem dX10_recover_39 : decode cX10_recover 39 = .ok (.aload_n 0, 1) := by decide +kernel
theorem dX10_recover_40 : decode cX10_recover 40 = .ok (.invokevirtual 411, 3) := by decide +kernel
theorem dX10_recover_43 : decode cX10_recover 43 = .ok (.istore_n 2, 1) := by decide +kernel
theorem dX10_recover_44 : decode cX10_recover 44 = .ok (.aload_n 0, 1) := by decide +kernel
theorem dX10_recover_45 : decode cX10_recover 45 = .ok (.iload_n 1, 1) := by decide +kernel
theorem dX10_recover_46 : decode cX10_recover 46 = .ok (.iconst 0, 1) := by decide +kernel
theorem dX10_recover_47 : decode cX10_recover 47 = .ok (.invokevirtual 423, 3) := by decide +kernel
theorem dX10_recover_50 : decode cX10_recover 50 = .ok (.iload_n 2, 1) := by decide +kernel
theorem dX10_recover_51 : decode cX10_recover 51 = .ok (.aload_n 0, 1) := by decide +kernel
theorem dX10_recover_52 : decode cX10_recover 52 = .ok (.invokevirtual 411, 3) := by decide +kernel
theorem dX10_recover_55 : decode cX10_recover 55 = .ok (.iconst (-1), 1) := by decide +kernel
theorem dX10_recover_56 : decode cX10_recover 56 = .ok (.ixor, 1) := by decide +kernel
theorem dX10_recover_57 : decode cX10_recover 57 = .ok (.iand, 1) := by decide +kernel
theorem dX10_recover_58 : decode cX10_recover 58 = .ok (.ireturn, 1) := by decide +kernel
theorem dX10_drain_0 : decode cX10_drain 0 = .ok (.aload_n 0, 1) := by decide +kernel
theorem dX10_drain_1 : decode cX10_drain 1 = .ok (.iload_n 1, 1) := by decide +kernel
theorem dX10_drain_2 : decode cX10_drain 2 = .ok (.invokevirtual 390, 3) := by decide +kernel
theorem dX10_drain_5 : decode cX10_drain 5 = .ok (.ifCond .eq 21, 3) := by decide +kernel
theorem dX10_drain_8 : decode cX10_drain 8 = .ok (.aload_n 0, 1) := by decide +kernel
theorem dX10_drain_9 : decode cX10_drain 9 = .ok (.iload_n 1, 1) := by decide +kernel
theorem dX10_drain_10 : decode cX10_drain 10 = .ok (.iconst 4, 1) := by decide +kernel
theorem dX10_drain_11 : decode cX10_drain 11 = .ok (.invokevirtual 77, 3) := by decide +kernel
theorem dX10_drain_14 : decode cX10_drain 14 = .ok (.iload_n 2, 1) := by decide +kernel
theorem dX10_drain_15 : decode cX10_drain 15 = .ok (.ifCond .eq 7, 3) := by decide +kernel
theorem dX10_drain_18 : decode cX10_drain 18 = .ok (.iconst 0, 1) := by decide +kernel
theorem dX10_drain_19 : decode cX10_drain 19 = .ok (.goto 4, 3) := by decide +kernel
theorem dX10_drain_22 : decode cX10_drain 22 = .ok (.iconst 2, 1) := by decide +kernel
theorem dX10_drain_23 : decode cX10_drain 23 = .ok (.if_icmp .ne 7, 3) := by decide +kernel
theorem dX10_drain_26 : decode cX10_drain 26 = .ok (.iconst 1, 1) := by decide +kernel
theorem dX10_drain_27 : decode cX10_drain 27 = .ok (.goto 4, 3) := by decide +kernel
theorem dX10_drain_30 : decode cX10_drain 30 = .ok (.iconst 0, 1) := by decide +kernel
theorem dX10_drain_31 : decode cX10_drain 31 = .ok (.istore_n 3, 1) := by decide +kernel
theorem dX10_drain_32 : decode cX10_drain 32 = .ok (.aload_n 0, 1) := by decide +kernel
theorem dX10_drain_33 : decode cX10_drain 33 = .ok (.aload_n 0, 1) := by decide +kernel
theorem dX10_drain_34 : decode cX10_drain 34 = .ok (.iload_n 1, 1) := by decide +kernel
theorem dX10_drain_35 : decode cX10_drain 35 = .ok (.invokevirtual 390, 3) := by decide +kernel
theorem dX10_drain_38 : decode cX10_drain 38 = .ok (.iload_n 3, 1) := by decide +kernel
theorem dX10_drain_39 : decode cX10_drain 39 = .ok (.invokevirtual 395, 3) := by decide +kernel
theorem dX10_drain_42 : decode cX10_drain 42 = .ok (.ifCond .ne 5, 3) := by decide +kernel
theorem dX10_drain_45 : decode cX10_drain 45 = .ok (.iconst 0, 1) := by decide +kernel
theorem dX10_drain_46 : decode cX10_drain 46 = .ok (.ireturn, 1) := by decide +kernel
theorem dX10_drain_47 : decode cX10_drain 47 = .ok (.aload_n 0, 1) := by decide +kernel
theorem dX10_drain_48 : decode cX10_drain 48 = .ok (.invokevirtual 382, 3) := by decide +kernel
theorem dX10_drain_51 : decode cX10_drain 51 = .ok (.aload_n 0, 1) := by decide +kernel
theorem dX10_drain_52 : decode cX10_drain 52 = .ok (.iload_n 1, 1) := by decide +kernel
theorem dX10_drain_53 : decode cX10_drain 53 = .ok (.iload_n 2, 1) := by decide +kernel
theorem dX10_drain_54 : decode cX10_drain 54 = .ok (.ifCond .eq 7, 3) := by decide +kernel
theorem dX10_drain_57 : decode cX10_drain 57 = .ok (.iconst 2, 1) := by decide +kernel
theorem dX10_drain_58 : decode cX10_drain 58 = .ok (.goto 4, 3) := by decide +kernel
theorem dX10_drain_61 : decode cX10_drain 61 = .ok (.iconst 0, 1) := by decide +kernel
theorem dX10_drain_62 : decode cX10_drain 62 = .ok (.invokevirtual 423, 3) := by decide +kernel
theorem dX10_drain_65 : decode cX10_drain 65 = .ok (.aload_n 0, 1) := by decide +kernel
theorem dX10_drain_66 : decode cX10_drain 66 = .ok (.iload_n 1, 1) := by decide +kernel
theorem dX10_drain_67 : decode cX10_drain 67 = .ok (.iconst 0, 1) := by decide +kernel
theorem dX10_drain_68 : decode cX10_drain 68 = .ok (.iconst 0, 1) := by decide +kernel
theorem dX10_drain_69 : decode cX10_drain 69 = .ok (.invokevirtual 87, 3) := by decide +kernel
theorem dX10_drain_72 : decode cX10_drain 72 = .ok (.ireturn, 1) := by decide +kernel
theorem dX10_round_0 : decode cX10_round 0 = .ok (.aload_n 0, 1) := by decide +kernel
theorem dX10_round_1 : decode cX10_round 1 = .ok (.iconst 0, 1) := by decide +kernel
theorem dX10_round_2 : decode cX10_round 2 = .ok (.putfield 3, 3) := by decide +kernel
theorem dX10_round_5 : decode cX10_round 5 = .ok (.aload_n 0, 1) := by decide +kernel
theorem dX10_round_6 : decode cX10_round 6 = .ok (.invokevirtual 382, 3) := by decide +kernel
theorem dX10_round_9 : decode cX10_round 9 = .ok (.aload_n 0, 1) := by decide +kernel
theorem dX10_round_10 : decode cX10_round 10 = .ok (.invokevirtual 426, 3) := by decide +kernel
theorem dX10_round_13 : decode cX10_round 13 = .ok (.ireturn, 1) := by decide +kernel
theorem dX10_rounds_0 : decode cX10_rounds 0 = .ok (.aload_n 0, 1) := by decide +kernel
theorem dX10_rounds_1 : decode cX10_rounds 1 = .ok (.iload_n 1, 1) := by decide +kernel
theorem dX10_rounds_2 : decode cX10_rounds 2 = .ok (.i2l, 1) := by decide +kernel
theorem dX10_rounds_3 : decode cX10_rounds 3 = .ok (.lconst 1, 1) := by decide +kernel
theorem dX10_rounds_4 : decode cX10_rounds 4 = .ok (.ldc2_w 429, 3) := by decide +kernel
theorem dX10_rounds_7 : decode cX10_rounds 7 = .ok (.invokestatic 62, 3) := by decide +kernel
theorem dX10_rounds_10 : decode cX10_rounds 10 = .ok (.invokevirtual 216, 3) := by decide +kernel
theorem dX10_rounds_13 : decode cX10_rounds 13 = .ok (.ifCond .ne 5, 3) := by decide +kernel
theorem dX10_rounds_16 : decode cX10_rounds 16 = .ok (.iconst 0, 1) := by decide +kernel
theorem dX10_rounds_17 : decode cX10_rounds 17 = .ok (.ireturn, 1) := by decide +kernel
theorem dX10_rounds_18 : decode cX10_rounds 18 = .ok (.aload_n 0, 1) := by decide +kernel
theorem dX10_rounds_19 : decode cX10_rounds 19 = .ok (.invokevirtual 382, 3) := by decide +kernel
theorem dX10_rounds_22 : decode cX10_rounds 22 = .ok (.iconst 0, 1) := by decide +kernel
theorem dX10_rounds_23 : decode cX10_rounds 23 = .ok (.istore_n 2, 1) := by decide +kernel
theorem dX10_rounds_24 : decode cX10_rounds 24 = .ok (.iconst 0, 1) := by decide +kernel
theorem dX10_rounds_25 : decode cX10_rounds 25 = .ok (.istore_n 3, 1) := by decide +kernel
theorem dX10_rounds_26 : decode cX10_rounds 26 = .ok (.iload_n 3, 1) := by decide +kernel
theorem dX10_rounds_27 : decode cX10_rounds 27 = .ok (.iload_n 1, 1) := by decide +kernel
theorem dX10_rounds_28 : decode cX10_rounds 28 = .ok (.if_icmp .ge 21, 3) := by decide +kernel
theorem dX10_rounds_31 : decode cX10_rounds 31 = .ok (.aload_n 0, 1) := by decide +kernel
theorem dX10_rounds_32 : decode cX10_rounds 32 = .ok (.invokevirtual 426, 3) := by decide +kernel
theorem dX10_rounds_35 : decode cX10_rounds 35 = .ok (.pop, 1) := by decide +kernel
theorem dX10_rounds_36 : decode cX10_rounds 36 = .ok (.iload_n 2, 1) := by decide +kernel
theorem dX10_rounds_37 : decode cX10_rounds 37 = .ok (.aload_n 0, 1) := by decide +kernel
theorem dX10_rounds_38 : decode cX10_rounds 38 = .ok (.getfield 199, 3) := by decide +kernel
theorem dX10_rounds_41 : decode cX10_rounds 41 = .ok (.iadd, 1) := by decide +kernel
theorem dX10_rounds_42 : decode cX10_rounds 42 = .ok (.istore_n 2, 1) := by decide +kernel
theorem dX10_rounds_43 : decode cX10_rounds 43 = .ok (.iinc 3 1, 3) := by decide +kernel
theorem dX10_rounds_46 : decode cX10_rounds 46 = .ok (.goto (-20), 3) := by decide +kernel
theorem dX10_rounds_49 : decode cX10_rounds 49 = .ok (.iload_n 2, 1) := by decide +kernel
theorem dX10_rounds_50 : decode cX10_rounds 50 = .ok (.ireturn, 1) := by decide +kernel
theorem dX10_set_0 : decode cX10_set 0 = .ok (.aload_n 0, 1) := by decide +kernel
theorem dX10_set_1 : decode cX10_set 1 = .ok (.invokevirtual 382, 3) := by decide +kernel
theorem dX10_set_4 : decode cX10_set 4 = .ok (.aload_n 0, 1) := by decide +kernel
theorem dX10_set_5 : decode cX10_set 5 = .ok (.getfield 17, 3) := by decide +kernel
theorem dX10_set_8 : decode cX10_set 8 = .ok (.iload_n 1, 1) := by decide +kernel
theorem dX10_set_9 : decode cX10_set 9 = .ok (.iaload, 1) := by decide +kernel
theorem dX10_set_10 : decode cX10_set 10 = .ok (.istore_n 3, 1) := by decide +kernel
theorem dX10_set_11 : decode cX10_set 11 = .ok (.aload_n 0, 1) := by decide +kernel
theorem dX10_set_12 : decode cX10_set 12 = .ok (.getfield 17, 3) := by decide +kernel
theorem dX10_set_15 : decode cX10_set 15 = .ok (.iload_n 1, 1) := by decide +kernel
theorem dX10_set_16 : decode cX10_set 16 = .ok (.iload_n 2, 1) := by decide +kernel
theorem dX10_set_17 : decode cX10_set 17 = .ok (.iastore, 1) := by decide +kernel
theorem dX10_set_18 : decode cX10_set 18 = .ok (.iload_n 3, 1) := by decide +kernel
theorem dX10_set_19 : decode cX10_set 19 = .ok (.ireturn, 1) := by decide +kernel
theorem dX10_setRisk_0 : decode cX10_setRisk 0 = .ok (.aload_n 0, 1) := by decide +kernel
theorem dX10_setRisk_1 : decode cX10_setRisk 1 = .ok (.aload_n 0, 1) := by decide +kernel
theorem dX10_setRisk_2 : decode cX10_setRisk 2 = .ok (.iload_n 1, 1) := by decide +kernel
theorem dX10_setRisk_3 : decode cX10_setRisk 3 = .ok (.invokevirtual 390, 3) := by decide +kernel
theorem dX10_setRisk_6 : decode cX10_setRisk 6 = .ok (.iload_n 2, 1) := by decide +kernel
theorem dX10_setRisk_7 : decode cX10_setRisk 7 = .ok (.i2l, 1) := by decide +kernel
theorem dX10_setRisk_8 : decode cX10_setRisk 8 = .ok (.lconst 0, 1) := by decide +kernel
theorem dX10_setRisk_9 : decode cX10_setRisk 9 = .ok (.ldc2_w 431, 3) := by decide +kernel
theorem dX10_setRisk_12 : decode cX10_setRisk 12 = .ok (.invokestatic 62, 3) := by decide +kernel
theorem dX10_setRisk_15 : decode cX10_setRisk 15 = .ok (.invokevirtual 395, 3) := by decide +kernel
theorem dX10_setRisk_18 : decode cX10_setRisk 18 = .ok (.ifCond .eq 20, 3) := by decide +kernel
theorem dX10_setRisk_21 : decode cX10_setRisk 21 = .ok (.aload_n 0, 1) := by decide +kernel
theorem dX10_setRisk_22 : decode cX10_setRisk 22 = .ok (.bipush 10, 2) := by decide +kernel
theorem dX10_setRisk_24 : decode cX10_setRisk 24 = .ok (.bipush 12, 2) := by decide +kernel
theorem dX10_setRisk_26 : decode cX10_setRisk 26 = .ok (.iload_n 1, 1) := by decide +kernel
theorem dX10_setRisk_27 : decode cX10_setRisk 27 = .ok (.imul, 1) := by decide +kernel
theorem dX10_setRisk_28 : decode cX10_setRisk 28 = .ok (.iadd, 1) := by decide +kernel
theorem dX10_setRisk_29 : decode cX10_setRisk 29 = .ok (.iconst 2, 1) := by decide +kernel
theorem dX10_setRisk_30 : decode cX10_setRisk 30 = .ok (.iadd, 1) := by decide +kernel
theorem dX10_setRisk_31 : decode cX10_setRisk 31 = .ok (.iload_n 2, 1) := by decide +kernel
theorem dX10_setRisk_32 : decode cX10_setRisk 32 = .ok (.invokevirtual 433, 3) := by decide +kernel
theorem dX10_setRisk_35 : decode cX10_setRisk 35 = .ok (.goto 4, 3) := by decide +kernel
theorem dX10_setRisk_38 : decode cX10_setRisk 38 = .ok (.iconst 0, 1) := by decide +kernel
theorem dX10_setRisk_39 : decode cX10_setRisk 39 = .ok (.ireturn, 1) := by decide +kernel
theorem dX10_setBandwidth_0 : decode cX10_setBandwidth 0 = .ok (.aload_n 0, 1) := by decide +kernel
theorem dX10_setBandwidth_1 : decode cX10_setBandwidth 1 = .ok (.iload_n 1, 1) := by decide +kernel
theorem dX10_setBandwidth_2 : decode cX10_setBandwidth 2 = .ok (.i2l, 1) := by decide +kernel
theorem dX10_setBandwidth_3 : decode cX10_setBandwidth 3 = .ok (.lconst 1, 1) := by decide +kernel
theorem dX10_setBandwidth_4 : decode cX10_setBandwidth 4 = .ok (.ldc2_w 436, 3) := by decide +kernel
theorem dX10_setBandwidth_7 : decode cX10_setBandwidth 7 = .ok (.invokestatic 62, 3) := by decide +kernel
theorem dX10_setBandwidth_10 : decode cX10_setBandwidth 10 = .ok (.invokevirtual 216, 3) := by decide +kernel
theorem dX10_setBandwidth_13 : decode cX10_setBandwidth 13 = .ok (.ifCond .eq 12, 3) := by decide +kernel
theorem dX10_setBandwidth_16 : decode cX10_setBandwidth 16 = .ok (.aload_n 0, 1) := by decide +kernel
theorem dX10_setBandwidth_17 : decode cX10_setBandwidth 17 = .ok (.iconst 0, 1) := by decide +kernel
theorem dX10_setBandwidth_18 : decode cX10_setBandwidth 18 = .ok (.iload_n 1, 1) := by decide +kernel
theorem dX10_setBandwidth_19 : decode cX10_setBandwidth 19 = .ok (.invokevirtual 433, 3) := by decide +kernel
theorem dX10_setBandwidth_22 : decode cX10_setBandwidth 22 = .ok (.goto 4, 3) := by decide +kernel
theorem dX10_setBandwidth_25 : decode cX10_setBandwidth 25 = .ok (.iconst 0, 1) := by decide +kernel
theorem dX10_setBandwidth_26 : decode cX10_setBandwidth 26 = .ok (.ireturn, 1) := by decide +kernel
theorem dX10_setRule_0 : decode cX10_setRule 0 = .ok (.aload_n 0, 1) := by decide +kernel
theorem dX10_setRule_1 : decode cX10_setRule 1 = .ok (.iload_n 1, 1) := by decide +kernel
theorem dX10_setRule_2 : decode cX10_setRule 2 = .ok (.i2l, 1) := by decide +kernel
theorem dX10_setRule_3 : decode cX10_setRule 3 = .ok (.lconst 0, 1) := by decide +kernel
theorem dX10_setRule_4 : decode cX10_setRule 4 = .ok (.ldc2_w 385, 3) := by decide +kernel
theorem dX10_setRule_7 : decode cX10_setRule 7 = .ok (.invokestatic 62, 3) := by decide +kernel
theorem dX10_setRule_10 : decode cX10_setRule 10 = .ok (.invokevirtual 216, 3) := by decide +kernel
theorem dX10_setRule_13 : decode cX10_setRule 13 = .ok (.ifCond .eq 12, 3) := by decide +kernel
theorem dX10_setRule_16 : decode cX10_setRule 16 = .ok (.aload_n 0, 1) := by decide +kernel
theorem dX10_setRule_17 : decode cX10_setRule 17 = .ok (.iconst 3, 1) := by decide +kernel
theorem dX10_setRule_18 : decode cX10_setRule 18 = .ok (.iload_n 1, 1) := by decide +kernel
theorem dX10_setRule_19 : decode cX10_setRule 19 = .ok (.invokevirtual 433, 3) := by decide +kernel
theorem dX10_setRule_22 : decode cX10_setRule 22 = .ok (.goto 4, 3) := by decide +kernel
theorem dX10_setRule_25 : decode cX10_setRule 25 = .ok (.iconst 0, 1) := by decide +kernel
theorem dX10_setRule_26 : decode cX10_setRule 26 = .ok (.ireturn, 1) := by decide +kernel
theorem dX10_grant_0 : decode cX10_grant 0 = .ok (.aload_n 0, 1) := by decide +kernel
theorem dX10_grant_1 : decode cX10_grant 1 = .ok (.iload_n 1, 1) := by decide +kernel
theorem dX10_grant_2 : decode cX10_grant 2 = .ok (.invokevirtual 401, 3) := by decide +kernel
theorem dX10_grant_5 : decode cX10_grant 5 = .ok (.istore_n 3, 1) := by decide +kernel
theorem dX10_grant_6 : decode cX10_grant 6 = .ok (.aload_n 0, 1) := by decide +kernel
theorem dX10_grant_7 : decode cX10_grant 7 = .ok (.iload_n 3, 1) := by decide +kernel
theorem dX10_grant_8 : decode cX10_grant 8 = .ok (.iload_n 2, 1) := by decide +kernel
theorem dX10_grant_9 : decode cX10_grant 9 = .ok (.i2l, 1) := by decide +kernel
theorem dX10_grant_10 : decode cX10_grant 10 = .ok (.lconst 1, 1) := by decide +kernel
theorem dX10_grant_11 : decode cX10_grant 11 = .ok (.ldc2_w 438, 3) := by decide +kernel
theorem dX10_grant_14 : decode cX10_grant 14 = .ok (.invokestatic 62, 3) := by decide +kernel
theorem dX10_grant_17 : decode cX10_grant 17 = .ok (.iload_n 3, 1) := by decide +kernel
theorem dX10_grant_18 : decode cX10_grant 18 = .ok (.ifCond .eq 20, 3) := by decide +kernel
theorem dX10_grant_21 : decode cX10_grant 21 = .ok (.aload_n 0, 1) := by decide +kernel
theorem dX10_grant_22 : decode cX10_grant 22 = .ok (.iload_n 1, 1) := by decide +kernel
theorem dX10_grant_23 : decode cX10_grant 23 = .ok (.iconst 2, 1) := by decide +kernel
theorem dX10_grant_24 : decode cX10_grant 24 = .ok (.invokevirtual 167, 3) := by decide +kernel
theorem dX10_grant_27 : decode cX10_grant 27 = .ok (.i2l, 1) := by decide +kernel
theorem dX10_grant_28 : decode cX10_grant 28 = .ok (.iload_n 2, 1) := by decide +kernel
theorem dX10_grant_29 : decode cX10_grant 29 = .ok (.i2l, 1) := by decide +kernel
theorem dX10_grant_30 : decode cX10_grant 30 = .ok (.ladd, 1) := by decide +kernel
theorem dX10_grant_31 : decode cX10_grant 31 = .ok (.ldc2_w 440, 3) := by decide +kernel
theorem dX10_grant_34 : decode cX10_grant 34 = .ok (.lcmp, 1) := by decide +kernel
theorem dX10_grant_35 : decode cX10_grant 35 = .ok (.ifCond .gt 7, 3) := by decide +kernel
theorem dX10_grant_38 : decode cX10_grant 38 = .ok (.iconst 1, 1) := by decide +kernel
theorem dX10_grant_39 : decode cX10_grant 39 = .ok (.goto 4, 3) := by decide +kernel
theorem dX10_grant_42 : decode cX10_grant 42 = .ok (.iconst 0, 1) := by decide +kernel
theorem dX10_grant_43 : decode cX10_grant 43 = .ok (.invokevirtual 7, 3) := by decide +kernel
theorem dX10_grant_46 : decode cX10_grant 46 = .ok (.ifCond .ne 5, 3) := by decide +kernel
theorem dX10_grant_49 : decode cX10_grant 49 = .ok (.iconst 0, 1) := by decide +kernel
theorem dX10_grant_50 : decode cX10_grant 50 = .ok (.ireturn, 1) := by decide +kernel
theorem dX10_grant_51 : decode cX10_grant 51 = .ok (.aload_n 0, 1) := by decide +kernel
theorem dX10_grant_52 : decode cX10_grant 52 = .ok (.iload_n 1, 1) := by decide +kernel
theorem dX10_grant_53 : decode cX10_grant 53 = .ok (.iconst 2, 1) := by decide +kernel
theorem dX10_grant_54 : decode cX10_grant 54 = .ok (.invokevirtual 167, 3) := by decide +kernel
theorem dX10_grant_57 : decode cX10_grant 57 = .ok (.iload_n 2, 1) := by decide +kernel
theorem dX10_grant_58 : decode cX10_grant 58 = .ok (.iadd, 1) := by decide +kernel
theorem dX10_grant_59 : decode cX10_grant 59 = .ok (.istore 4, 2) := by decide +kernel
theorem dX10_grant_61 : decode cX10_grant 61 = .ok (.aload_n 0, 1) := by decide +kernel
theorem dX10_grant_62 : decode cX10_grant 62 = .ok (.sipush 202, 3) := by decide +kernel
theorem dX10_grant_65 : decode cX10_grant 65 = .ok (.bipush 11, 2) := by decide +kernel
theorem dX10_grant_67 : decode cX10_grant 67 = .ok (.iload_n 1, 1) := by decide +kernel
theorem dX10_grant_68 : decode cX10_grant 68 = .ok (.imul, 1) := by decide +kernel
theorem dX10_grant_69 : decode cX10_grant 69 = .ok (.iadd, 1) := by decide +kernel
theorem dX10_grant_70 : decode cX10_grant 70 = .ok (.iconst 2, 1) := by decide +kernel
theorem dX10_grant_71 : decode cX10_grant 71 = .ok (.iadd, 1) := by decide +kernel
theorem dX10_grant_72 : decode cX10_grant 72 = .ok (.iload 4, 2) := by decide +kernel
theorem dX10_grant_74 : decode cX10_grant 74 = .ok (.invokevirtual 433, 3) := by decide +kernel
theorem dX10_grant_77 : decode cX10_grant 77 = .ok (.pop, 1) := by decide +kernel
theorem dX10_grant_78 : decode cX10_grant 78 = .ok (.iload 4, 2) := by decide +kernel
theorem dX10_grant_80 : decode cX10_grant 80 = .ok (.ireturn, 1) := by decide +kernel
theorem dX10_move_0 : decode cX10_move 0 = .ok (.aload_n 0, 1) := by decide +kernel
theorem dX10_move_1 : decode cX10_move 1 = .ok (.iload_n 1, 1) := by decide +kernel
theorem dX10_move_2 : decode cX10_move 2 = .ok (.invokevirtual 406, 3) := by decide +kernel
theorem dX10_move_5 : decode cX10_move 5 = .ok (.ifCond .eq 32, 3) := by decide +kernel
theorem dX10_move_8 : decode cX10_move 8 = .ok (.aload_n 0, 1) := by decide +kernel
theorem dX10_move_9 : decode cX10_move 9 = .ok (.iload_n 3, 1) := by decide +kernel
theorem dX10_move_10 : decode cX10_move 10 = .ok (.invokevirtual 390, 3) := by decide +kernel
theorem dX10_move_13 : decode cX10_move 13 = .ok (.ifCond .eq 24, 3) := by decide +kernel
theorem dX10_move_16 : decode cX10_move 16 = .ok (.iload_n 2, 1) := by decide +kernel
theorem dX10_move_17 : decode cX10_move 17 = .ok (.i2l, 1) := by decide +kernel
theorem dX10_move_18 : decode cX10_move 18 = .ok (.lconst 0, 1) := by decide +kernel
theorem dX10_move_19 : decode cX10_move 19 = .ok (.aload_n 0, 1) := by decide +kernel
theorem dX10_move_20 : decode cX10_move 20 = .ok (.iload_n 1, 1) := by decide +kernel
theorem dX10_move_21 : decode cX10_move 21 = .ok (.invokevirtual 70, 3) := by decide +kernel
theorem dX10_move_24 : decode cX10_move 24 = .ok (.iconst 1, 1) := by decide +kernel
theorem dX10_move_25 : decode cX10_move 25 = .ok (.isub, 1) := by decide +kernel
theorem dX10_move_26 : decode cX10_move 26 = .ok (.i2l, 1) := by decide +kernel
theorem dX10_move_27 : decode cX10_move 27 = .ok (.invokestatic 62, 3) := by decide +kernel
theorem dX10_move_30 : decode cX10_move 30 = .ok (.ifCond .eq 7, 3) := by decide +kernel
theorem dX10_move_33 : decode cX10_move 33 = .ok (.iconst 1, 1) := by decide +kernel
theorem dX10_move_34 : decode cX10_move 34 = .ok (.goto 4, 3) := by decide +kernel
theorem dX10_move_37 : decode cX10_move 37 = .ok (.iconst 0, 1) := by decide +kernel
theorem dX10_move_38 : decode cX10_move 38 = .ok (.istore 4, 2) := by decide +kernel
theorem dX10_move_40 : decode cX10_move 40 = .ok (.iload 4, 2) := by decide +kernel
theorem dX10_move_42 : decode cX10_move 42 = .ok (.ifCond .eq 51, 3) := by decide +kernel
theorem dX10_move_45 : decode cX10_move 45 = .ok (.aload_n 0, 1) := by decide +kernel
theorem dX10_move_46 : decode cX10_move 46 = .ok (.iload_n 1, 1) := by decide +kernel
theorem dX10_move_47 : decode cX10_move 47 = .ok (.iload_n 2, 1) := by decide +kernel
theorem dX10_move_48 : decode cX10_move 48 = .ok (.invokevirtual 106, 3) := by decide +kernel
theorem dX10_move_51 : decode cX10_move 51 = .ok (.ifCond .eq 46, 3) := by decide +kernel
theorem dX10_move_54 : decode cX10_move 54 = .ok (.aload_n 0, 1) := by decide +kernel
theorem dX10_move_55 : decode cX10_move 55 = .ok (.iload_n 3, 1) := by decide +kernel
theorem dX10_move_56 : decode cX10_move 56 = .ok (.iconst 4, 1) := by decide +kernel
theorem dX10_move_57 : decode cX10_move 57 = .ok (.invokevirtual 77, 3) := by decide +kernel
theorem dX10_move_60 : decode cX10_move 60 = .ok (.ifCond .ne 37, 3) := by decide +kernel
theorem dX10_move_63 : decode cX10_move 63 = .ok (.aload_n 0, 1) := by decide +kernel
theorem dX10_move_64 : decode cX10_move 64 = .ok (.iload_n 1, 1) := by decide +kernel
theorem dX10_move_65 : decode cX10_move 65 = .ok (.aload_n 0, 1) := by decide +kernel
theorem dX10_move_66 : decode cX10_move 66 = .ok (.iload_n 1, 1) := by decide +kernel
theorem dX10_move_67 : decode cX10_move 67 = .ok (.invokevirtual 70, 3) := by decide +kernel
theorem dX10_move_70 : decode cX10_move 70 = .ok (.iload_n 3, 1) := by decide +kernel
theorem dX10_move_71 : decode cX10_move 71 = .ok (.invokevirtual 83, 3) := by decide +kernel
theorem dX10_move_74 : decode cX10_move 74 = .ok (.ifCond .ne 23, 3) := by decide +kernel
theorem dX10_move_77 : decode cX10_move 77 = .ok (.aload_n 0, 1) := by decide +kernel
theorem dX10_move_78 : decode cX10_move 78 = .ok (.iload_n 3, 1) := by decide +kernel
theorem dX10_move_79 : decode cX10_move 79 = .ok (.iconst 0, 1) := by decide +kernel
theorem dX10_move_80 : decode cX10_move 80 = .ok (.iconst 0, 1) := by decide +kernel
theorem dX10_move_81 : decode cX10_move 81 = .ok (.invokevirtual 87, 3) := by decide +kernel
theorem dX10_move_84 : decode cX10_move 84 = .ok (.aload_n 0, 1) := by decide +kernel
theorem dX10_move_85 : decode cX10_move 85 = .ok (.iload_n 3, 1) := by decide +kernel
theorem dX10_move_86 : decode cX10_move 86 = .ok (.iconst 3, 1) := by decide +kernel
theorem dX10_move_87 : decode cX10_move 87 = .ok (.invokevirtual 77, 3) := by decide +kernel
theorem dX10_move_90 : decode cX10_move 90 = .ok (.if_icmp .ge 7, 3) := by decide +kernel
theorem dX10_move_93 : decode cX10_move 93 = .ok (.iconst 1, 1) := by decide +kernel
theorem dX10_move_94 : decode cX10_move 94 = .ok (.goto 4, 3) := by decide +kernel
theorem dX10_move_97 : decode cX10_move 97 = .ok (.iconst 0, 1) := by decide +kernel
theorem dX10_move_98 : decode cX10_move 98 = .ok (.istore 5, 2) := by decide +kernel
theorem dX10_move_100 : decode cX10_move 100 = .ok (.aload_n 0, 1) := by decide +kernel
theorem dX10_move_101 : decode cX10_move 101 = .ok (.iload 4, 2) := by decide +kernel
theorem dX10_move_103 : decode cX10_move 103 = .ok (.iload 5, 2) := by decide +kernel
theorem dX10_move_105 : decode cX10_move 105 = .ok (.invokevirtual 395, 3) := by decide +kernel
theorem dX10_move_108 : decode cX10_move 108 = .ok (.ifCond .eq 24, 3) := by decide +kernel
theorem dX10_move_111 : decode cX10_move 111 = .ok (.aload_n 0, 1) := by decide +kernel
theorem dX10_move_112 : decode cX10_move 112 = .ok (.sipush 268, 3) := by decide +kernel
theorem dX10_move_115 : decode cX10_move 115 = .ok (.bipush 23, 2) := by decide +kernel
theorem dX10_move_117 : decode cX10_move 117 = .ok (.iload_n 1, 1) := by decide +kernel
theorem dX10_move_118 : decode cX10_move 118 = .ok (.imul, 1) := by decide +kernel
theorem dX10_move_119 : decode cX10_move 119 = .ok (.iadd, 1) := by decide +kernel
theorem dX10_move_120 : decode cX10_move 120 = .ok (.bipush 7, 2) := by decide +kernel
theorem dX10_move_122 : decode cX10_move 122 = .ok (.iadd, 1) := by decide +kernel
theorem dX10_move_123 : decode cX10_move 123 = .ok (.iload_n 2, 1) := by decide +kernel
theorem dX10_move_124 : decode cX10_move 124 = .ok (.iadd, 1) := by decide +kernel
theorem dX10_move_125 : decode cX10_move 125 = .ok (.iload_n 3, 1) := by decide +kernel
theorem dX10_move_126 : decode cX10_move 126 = .ok (.invokevirtual 433, 3) := by decide +kernel
theorem dX10_move_129 : decode cX10_move 129 = .ok (.goto 4, 3) := by decide +kernel
theorem dX10_move_132 : decode cX10_move 132 = .ok (.iconst 0, 1) := by decide +kernel
theorem dX10_move_133 : decode cX10_move 133 = .ok (.ireturn, 1) := by decide +kernel
theorem dX10_lostBy_0 : decode cX10_lostBy 0 = .ok (.aload_n 0, 1) := by decide +kernel
theorem dX10_lostBy_1 : decode cX10_lostBy 1 = .ok (.iload_n 1, 1) := by decide +kernel
theorem dX10_lostBy_2 : decode cX10_lostBy 2 = .ok (.iconst 1, 1) := by decide +kernel
theorem dX10_lostBy_3 : decode cX10_lostBy 3 = .ok (.aload_n 0, 1) := by decide +kernel
theorem dX10_lostBy_4 : decode cX10_lostBy 4 = .ok (.getfield 17, 3) := by decide +kernel
theorem dX10_lostBy_7 : decode cX10_lostBy 7 = .ok (.bipush 6, 2) := by decide +kernel
theorem dX10_lostBy_9 : decode cX10_lostBy 9 = .ok (.iaload, 1) := by decide +kernel
theorem dX10_lostBy_10 : decode cX10_lostBy 10 = .ok (.ishl, 1) := by decide +kernel
theorem dX10_lostBy_11 : decode cX10_lostBy 11 = .ok (.iconst 1, 1) := by decide +kernel
theorem dX10_lostBy_12 : decode cX10_lostBy 12 = .ok (.isub, 1) := by decide +kernel
theorem dX10_lostBy_13 : decode cX10_lostBy 13 = .ok (.iconst (-1), 1) := by decide +kernel
theorem dX10_lostBy_14 : decode cX10_lostBy 14 = .ok (.ixor, 1) := by decide +kernel
theorem dX10_lostBy_15 : decode cX10_lostBy 15 = .ok (.iand, 1) := by decide +kernel
theorem dX10_lostBy_16 : decode cX10_lostBy 16 = .ok (.ifCond .ne 7, 3) := by decide +kernel
theorem dX10_lostBy_19 : decode cX10_lostBy 19 = .ok (.iconst 1, 1) := by decide +kernel
theorem dX10_lostBy_20 : decode cX10_lostBy 20 = .ok (.goto 4, 3) := by decide +kernel
theorem dX10_lostBy_23 : decode cX10_lostBy 23 = .ok (.iconst 0, 1) := by decide +kernel
theorem dX10_lostBy_24 : decode cX10_lostBy 24 = .ok (.invokevirtual 216, 3) := by decide +kernel
theorem dX10_lostBy_27 : decode cX10_lostBy 27 = .ok (.ifCond .ne 5, 3) := by decide +kernel
theorem dX10_lostBy_30 : decode cX10_lostBy 30 = .ok (.iconst 0, 1) := by decide +kernel
theorem dX10_lostBy_31 : decode cX10_lostBy 31 = .ok (.ireturn, 1) := by decide +kernel
theorem dX10_lostBy_32 : decode cX10_lostBy 32 = .ok (.aload_n 0, 1) := by decide +kernel
theorem dX10_lostBy_33 : decode cX10_lostBy 33 = .ok (.iload_n 1, 1) := by decide +kernel
theorem dX10_lostBy_34 : decode cX10_lostBy 34 = .ok (.putfield 99, 3) := by decide +kernel
theorem dX10_lostBy_37 : decode cX10_lostBy 37 = .ok (.aload_n 0, 1) := by decide +kernel
theorem dX10_lostBy_38 : decode cX10_lostBy 38 = .ok (.invokevirtual 411, 3) := by decide +kernel
theorem dX10_lostBy_41 : decode cX10_lostBy 41 = .ok (.istore_n 2, 1) := by decide +kernel
theorem dX10_lostBy_42 : decode cX10_lostBy 42 = .ok (.aload_n 0, 1) := by decide +kernel
theorem dX10_lostBy_43 : decode cX10_lostBy 43 = .ok (.iconst 0, 1) := by decide +kernel
theorem dX10_lostBy_44 : decode cX10_lostBy 44 = .ok (.putfield 99, 3) := by decide +kernel
theorem dX10_lostBy_47 : decode cX10_lostBy 47 = .ok (.iload_n 2, 1) := by decide +kernel
theorem dX10_lostBy_48 : decode cX10_lostBy 48 = .ok (.ireturn, 1) := by decide +kernel
theorem dX10_failuresOf_0 : decode cX10_failuresOf 0 = .ok (.aload_n 0, 1) := by decide +kernel
theorem dX10_failuresOf_1 : decode cX10_failuresOf 1 = .ok (.iload_n 1, 1) := by decide +kernel
theorem dX10_failuresOf_2 : decode cX10_failuresOf 2 = .ok (.invokevirtual 115, 3) := by decide +kernel
theorem dX10_failuresOf_5 : decode cX10_failuresOf 5 = .ok (.aload_n 0, 1) := by decide +kernel
theorem dX10_failuresOf_6 : decode cX10_failuresOf 6 = .ok (.iload_n 1, 1) := by decide +kernel
theorem dX10_failuresOf_7 : decode cX10_failuresOf 7 = .ok (.iconst 2, 1) := by decide +kernel
theorem dX10_failuresOf_8 : decode cX10_failuresOf 8 = .ok (.invokevirtual 66, 3) := by decide +kernel
theorem dX10_failuresOf_11 : decode cX10_failuresOf 11 = .ok (.isub, 1) := by decide +kernel
theorem dX10_failuresOf_12 : decode cX10_failuresOf 12 = .ok (.iconst 1, 1) := by decide +kernel
theorem dX10_failuresOf_13 : decode cX10_failuresOf 13 = .ok (.iadd, 1) := by decide +kernel
theorem dX10_failuresOf_14 : decode cX10_failuresOf 14 = .ok (.ireturn, 1) := by decide +kernel
theorem dX10_fewest_0 : decode cX10_fewest 0 = .ok (.iconst (-1), 1) := by decide +kernel
theorem dX10_fewest_1 : decode cX10_fewest 1 = .ok (.istore_n 1, 1) := by decide +kernel
theorem dX10_fewest_2 : decode cX10_fewest 2 = .ok (.iconst 0, 1) := by decide +kernel
theorem dX10_fewest_3 : decode cX10_fewest 3 = .ok (.istore_n 2, 1) := by decide +kernel
theorem dX10_fewest_4 : decode cX10_fewest 4 = .ok (.iload_n 2, 1) := by decide +kernel
theorem dX10_fewest_5 : decode cX10_fewest 5 = .ok (.aload_n 0, 1) := by decide +kernel
theorem dX10_fewest_6 : decode cX10_fewest 6 = .ok (.getfield 17, 3) := by decide +kernel
theorem dX10_fewest_9 : decode cX10_fewest 9 = .ok (.bipush 8, 2) := by decide +kernel
theorem dX10_fewest_11 : decode cX10_fewest 11 = .ok (.iaload, 1) := by decide +kernel
theorem dX10_fewest_12 : decode cX10_fewest 12 = .ok (.if_icmp .ge 37, 3) := by decide +kernel
theorem dX10_fewest_15 : decode cX10_fewest 15 = .ok (.aload_n 0, 1) := by decide +kernel
theorem dX10_fewest_16 : decode cX10_fewest 16 = .ok (.iload_n 2, 1) := by decide +kernel
theorem dX10_fewest_17 : decode cX10_fewest 17 = .ok (.invokevirtual 121, 3) := by decide +kernel
theorem dX10_fewest_20 : decode cX10_fewest 20 = .ok (.ifCond .ne 23, 3) := by decide +kernel
theorem dX10_fewest_23 : decode cX10_fewest 23 = .ok (.iload_n 1, 1) := by decide +kernel
theorem dX10_fewest_24 : decode cX10_fewest 24 = .ok (.iconst (-1), 1) := by decide +kernel
theorem dX10_fewest_25 : decode cX10_fewest 25 = .ok (.if_icmp .eq 12, 3) := by decide +kernel
theorem dX10_fewest_28 : decode cX10_fewest 28 = .ok (.aload_n 0, 1) := by decide +kernel
theorem dX10_fewest_29 : decode cX10_fewest 29 = .ok (.iload_n 2, 1) := by decide +kernel
theorem dX10_fewest_30 : decode cX10_fewest 30 = .ok (.invokevirtual 442, 3) := by decide +kernel
theorem dX10_fewest_33 : decode cX10_fewest 33 = .ok (.iload_n 1, 1) := by decide +kernel
theorem dX10_fewest_34 : decode cX10_fewest 34 = .ok (.if_icmp .ge 9, 3) := by decide +kernel
theorem dX10_fewest_37 : decode cX10_fewest 37 = .ok (.aload_n 0, 1) := by decide +kernel
theorem dX10_fewest_38 : decode cX10_fewest 38 = .ok (.iload_n 2, 1) := by decide +kernel
theorem dX10_fewest_39 : decode cX10_fewest 39 = .ok (.invokevirtual 442, 3) := by decide +kernel
theorem dX10_fewest_42 : decode cX10_fewest 42 = .ok (.istore_n 1, 1) := by decide +kernel
theorem dX10_fewest_43 : decode cX10_fewest 43 = .ok (.iinc 2 1, 3) := by decide +kernel
theorem dX10_fewest_46 : decode cX10_fewest 46 = .ok (.goto (-42), 3) := by decide +kernel
theorem dX10_fewest_49 : decode cX10_fewest 49 = .ok (.iload_n 1, 1) := by decide +kernel
theorem dX10_fewest_50 : decode cX10_fewest 50 = .ok (.ireturn, 1) := by decide +kernel
theorem dX10_lowestNodes_0 : decode cX10_lowestNodes 0 = .ok (.iconst 0, 1) := by decide +kernel
theorem dX10_lowestNodes_1 : decode cX10_lowestNodes 1 = .ok (.istore_n 3, 1) := by decide +kernel
theorem dX10_lowestNodes_2 : decode cX10_lowestNodes 2 = .ok (.iload_n 2, 1) := by decide +kernel
theorem dX10_lowestNodes_3 : decode cX10_lowestNodes 3 = .ok (.istore 4, 2) := by decide +kernel
theorem dX10_lowestNodes_5 : decode cX10_lowestNodes 5 = .ok (.iconst 0, 1) := by decide +kernel
theorem dX10_lowestNodes_6 : decode cX10_lowestNodes 6 = .ok (.istore 5, 2) := by decide +kernel
theorem dX10_lowestNodes_8 : decode cX10_lowestNodes 8 = .ok (.iload 5, 2) := by decide +kernel
theorem dX10_lowestNodes_10 : decode cX10_lowestNodes 10 = .ok (.aload_n 0, 1) := by decide +kernel
theorem dX10_lowestNodes_11 : decode cX10_lowestNodes 11 = .ok (.getfield 17, 3) := by decide +kernel
theorem dX10_lowestNodes_14 : decode cX10_lowestNodes 14 = .ok (.bipush 6, 2) := by decide +kernel
theorem dX10_lowestNodes_16 : decode cX10_lowestNodes 16 = .ok (.iaload, 1) := by decide +kernel
theorem dX10_lowestNodes_17 : decode cX10_lowestNodes 17 = .ok (.if_icmp .ge 53, 3) := by decide +kernel
theorem dX10_lowestNodes_20 : decode cX10_lowestNodes 20 = .ok (.iload 4, 2) := by decide +kernel
theorem dX10_lowestNodes_22 : decode cX10_lowestNodes 22 = .ok (.ifCond .le 48, 3) := by decide +kernel
theorem dX10_lowestNodes_25 : decode cX10_lowestNodes 25 = .ok (.aload_n 0, 1) := by decide +kernel
theorem dX10_lowestNodes_26 : decode cX10_lowestNodes 26 = .ok (.iload 5, 2) := by decide +kernel
theorem dX10_lowestNodes_28 : decode cX10_lowestNodes 28 = .ok (.iconst 4, 1) := by decide +kernel
theorem dX10_lowestNodes_29 : decode cX10_lowestNodes 29 = .ok (.invokevirtual 77, 3) := by decide +kernel
theorem dX10_lowestNodes_32 : decode cX10_lowestNodes 32 = .ok (.iconst 1, 1) := by decide +kernel
theorem dX10_lowestNodes_33 : decode cX10_lowestNodes 33 = .ok (.if_icmp .eq 31, 3) := by decide +kernel
theorem dX10_lowestNodes_36 : decode cX10_lowestNodes 36 = .ok (.aload_n 0, 1) := by decide +kernel
theorem dX10_lowestNodes_37 : decode cX10_lowestNodes 37 = .ok (.iload_n 1, 1) := by decide +kernel
theorem dX10_lowestNodes_38 : decode cX10_lowestNodes 38 = .ok (.aload_n 0, 1) := by decide +kernel
theorem dX10_lowestNodes_39 : decode cX10_lowestNodes 39 = .ok (.iload_n 1, 1) := by decide +kernel
theorem dX10_lowestNodes_40 : decode cX10_lowestNodes 40 = .ok (.invokevirtual 70, 3) := by decide +kernel
theorem dX10_lowestNodes_43 : decode cX10_lowestNodes 43 = .ok (.iload 5, 2) := by decide +kernel
theorem dX10_lowestNodes_45 : decode cX10_lowestNodes 45 = .ok (.invokevirtual 83, 3) := by decide +kernel
theorem dX10_lowestNodes_48 : decode cX10_lowestNodes 48 = .ok (.ifCond .ne 6, 3) := by decide +kernel
theorem dX10_lowestNodes_51 : decode cX10_lowestNodes 51 = .ok (.goto 13, 3) := by decide +kernel
theorem dX10_lowestNodes_54 : decode cX10_lowestNodes 54 = .ok (.iload_n 3, 1) := by decide +kernel
theorem dX10_lowestNodes_55 : decode cX10_lowestNodes 55 = .ok (.iconst 1, 1) := by decide +kernel
theorem dX10_lowestNodes_56 : decode cX10_lowestNodes 56 = .ok (.iload 5, 2) := by decide +kernel
theorem dX10_lowestNodes_58 : decode cX10_lowestNodes 58 = .ok (.ishl, 1) := by decide +kernel
theorem dX10_lowestNodes_59 : decode cX10_lowestNodes 59 = .ok (.ior, 1) := by decide +kernel
theorem dX10_lowestNodes_60 : decode cX10_lowestNodes 60 = .ok (.istore_n 3, 1) := by decide +kernel
theorem dX10_lowestNodes_61 : decode cX10_lowestNodes 61 = .ok (.iinc 4 (-1), 3) := by decide +kernel
theorem dX10_lowestNodes_64 : decode cX10_lowestNodes 64 = .ok (.iinc 5 1, 3) := by decide +kernel
theorem dX10_lowestNodes_67 : decode cX10_lowestNodes 67 = .ok (.goto (-59), 3) := by decide +kernel
theorem dX10_lowestNodes_70 : decode cX10_lowestNodes 70 = .ok (.iload_n 3, 1) := by decide +kernel
theorem dX10_lowestNodes_71 : decode cX10_lowestNodes 71 = .ok (.ireturn, 1) := by decide +kernel
theorem dX10_fewestFailures_0 : decode cX10_fewestFailures 0 = .ok (.aload_n 0, 1) := by decide +kernel
theorem dX10_fewestFailures_1 : decode cX10_fewestFailures 1 = .ok (.iconst 0, 1) := by decide +kernel
theorem dX10_fewestFailures_2 : decode cX10_fewestFailures 2 = .ok (.putfield 3, 3) := by decide +kernel
theorem dX10_fewestFailures_5 : decode cX10_fewestFailures 5 = .ok (.aload_n 0, 1) := by decide +kernel
theorem dX10_fewestFailures_6 : decode cX10_fewestFailures 6 = .ok (.invokevirtual 445, 3) := by decide +kernel
theorem dX10_fewestFailures_9 : decode cX10_fewestFailures 9 = .ok (.ireturn, 1) := by decide +kernel
theorem dX10_fewestFailuresSet_0 : decode cX10_fewestFailuresSet 0 = .ok (.aload_n 0, 1) := by decide +kernel
theorem dX10_fewestFailuresSet_1 : decode cX10_fewestFailuresSet 1 = .ok (.iconst 0, 1) := by decide +kernel
theorem dX10_fewestFailuresSet_2 : decode cX10_fewestFailuresSet 2 = .ok (.putfield 3, 3) := by decide +kernel
theorem dX10_fewestFailuresSet_5 : decode cX10_fewestFailuresSet 5 = .ok (.aload_n 0, 1) := by decide +kernel
theorem dX10_fewestFailuresSet_6 : decode cX10_fewestFailuresSet 6 = .ok (.invokevirtual 445, 3) := by decide +kernel
theorem dX10_fewestFailuresSet_9 : decode cX10_fewestFailuresSet 9 = .ok (.istore_n 1, 1) := by decide +kernel
theorem dX10_fewestFailuresSet_10 : decode cX10_fewestFailuresSet 10 = .ok (.iconst (-1), 1) := by decide +kernel
theorem dX10_fewestFailuresSet_11 : decode cX10_fewestFailuresSet 11 = .ok (.istore_n 2, 1) := by decide +kernel
theorem dX10_fewestFailuresSet_12 : decode cX10_fewestFailuresSet 12 = .ok (.iconst 0, 1) := by decide +kernel
theorem dX10_fewestFailuresSet_13 : decode cX10_fewestFailuresSet 13 = .ok (.istore_n 3, 1) := by decide +kernel
theorem dX10_fewestFailuresSet_14 : decode cX10_fewestFailuresSet 14 = .ok (.iload_n 3, 1) := by decide +kernel
theorem dX10_fewestFailuresSet_15 : decode cX10_fewestFailuresSet 15 = .ok (.aload_n 0, 1) := by decide +kernel
theorem dX10_fewestFailuresSet_16 : decode cX10_fewestFailuresSet 16 = .ok (.getfield 17, 3) := by decide +kernel
theorem dX10_fewestFailuresSet_19 : decode cX10_fewestFailuresSet 19 = .ok (.bipush 8, 2) := by decide +kernel
theorem dX10_fewestFailuresSet_21 : decode cX10_fewestFailuresSet 21 = .ok (.iaload, 1) := by decide +kernel
theorem dX10_fewestFailuresSet_22 : decode cX10_fewestFailuresSet 22 = .ok (.if_icmp .ge 51, 3) := by decide +kernel
theorem dX10_fewestFailuresSet_25 : decode cX10_fewestFailuresSet 25 = .ok (.aload_n 0, 1) := by decide +kernel
theorem dX10_fewestFailuresSet_26 : decode cX10_fewestFailuresSet 26 = .ok (.iload_n 3, 1) := by decide +kernel
theorem dX10_fewestFailuresSet_27 : decode cX10_fewestFailuresSet 27 = .ok (.invokevirtual 121, 3) := by decide +kernel
theorem dX10_fewestFailuresSet_30 : decode cX10_fewestFailuresSet 30 = .ok (.ifCond .ne 37, 3) := by decide +kernel
theorem dX10_fewestFailuresSet_33 : decode cX10_fewestFailuresSet 33 = .ok (.aload_n 0, 1) := by decide +kernel
theorem dX10_fewestFailuresSet_34 : decode cX10_fewestFailuresSet 34 = .ok (.iload_n 3, 1) := by decide +kernel
theorem dX10_fewestFailuresSet_35 : decode cX10_fewestFailuresSet 35 = .ok (.invokevirtual 442, 3) := by decide +kernel
theorem dX10_fewestFailuresSet_38 : decode cX10_fewestFailuresSet 38 = .ok (.iload_n 1, 1) := by decide +kernel
theorem dX10_fewestFailuresSet_39 : decode cX10_fewestFailuresSet 39 = .ok (.if_icmp .eq 6, 3) := by decide +kernel
theorem dX10_fewestFailuresSet_42 : decode cX10_fewestFailuresSet 42 = .ok (.goto 25, 3) := by decide +kernel
theorem dX10_fewestFailuresSet_45 : decode cX10_fewestFailuresSet 45 = .ok (.aload_n 0, 1) := by decide +kernel
theorem dX10_fewestFailuresSet_46 : decode cX10_fewestFailuresSet 46 = .ok (.iload_n 3, 1) := by decide +kernel
theorem dX10_fewestFailuresSet_47 : decode cX10_fewestFailuresSet 47 = .ok (.iload_n 1, 1) := by decide +kernel
theorem dX10_fewestFailuresSet_48 : decode cX10_fewestFailuresSet 48 = .ok (.invokevirtual 448, 3) := by decide +kernel
theorem dX10_fewestFailuresSet_51 : decode cX10_fewestFailuresSet 51 = .ok (.istore 4, 2) := by decide +kernel
theorem dX10_fewestFailuresSet_53 : decode cX10_fewestFailuresSet 53 = .ok (.iload_n 2, 1) := by decide +kernel
theorem dX10_fewestFailuresSet_54 : decode cX10_fewestFailuresSet 54 = .ok (.iconst (-1), 1) := by decide +kernel
theorem dX10_fewestFailuresSet_55 : decode cX10_fewestFailuresSet 55 = .ok (.if_icmp .eq 9, 3) := by decide +kernel
theorem dX10_fewestFailuresSet_58 : decode cX10_fewestFailuresSet 58 = .ok (.iload 4, 2) := by decide +kernel
theorem dX10_fewestFailuresSet_60 : decode cX10_fewestFailuresSet 60 = .ok (.iload_n 2, 1) := by decide +kernel
theorem dX10_fewestFailuresSet_61 : decode cX10_fewestFailuresSet 61 = .ok (.if_icmp .ge 6, 3) := by decide +kernel
theorem dX10_fewestFailuresSet_64 : decode cX10_fewestFailuresSet 64 = .ok (.iload 4, 2) := by decide +kernel
theorem dX10_fewestFailuresSet_66 : decode cX10_fewestFailuresSet 66 = .ok (.istore_n 2, 1) := by decide +kernel
theorem dX10_fewestFailuresSet_67 : decode cX10_fewestFailuresSet 67 = .ok (.iinc 3 1, 3) := by decide +kernel
theorem dX10_fewestFailuresSet_70 : decode cX10_fewestFailuresSet 70 = .ok (.goto (-56), 3) := by decide +kernel
theorem dX10_fewestFailuresSet_73 : decode cX10_fewestFailuresSet 73 = .ok (.iload_n 2, 1) := by decide +kernel
theorem dX10_fewestFailuresSet_74 : decode cX10_fewestFailuresSet 74 = .ok (.ireturn, 1) := by decide +kernel
theorem dX10_beginThought_0 : decode cX10_beginThought 0 = .ok (.iconst 0, 1) := by decide +kernel
theorem dX10_beginThought_1 : decode cX10_beginThought 1 = .ok (.istore_n 1, 1) := by decide +kernel
theorem dX10_beginThought_2 : decode cX10_beginThought 2 = .ok (.iload_n 1, 1) := by decide +kernel
theorem dX10_beginThought_3 : decode cX10_beginThought 3 = .ok (.sipush 698, 3) := by decide +kernel
theorem dX10_beginThought_6 : decode cX10_beginThought 6 = .ok (.if_icmp .ge 21, 3) := by decide +kernel
theorem dX10_beginThought_9 : decode cX10_beginThought 9 = .ok (.aload_n 0, 1) := by decide +kernel
theorem dX10_beginThought_10 : decode cX10_beginThought 10 = .ok (.getfield 53, 3) := by decide +kernel
theorem dX10_beginThought_13 : decode cX10_beginThought 13 = .ok (.iload_n 1, 1) := by decide +kernel
theorem dX10_beginThought_14 : decode cX10_beginThought 14 = .ok (.aload_n 0, 1) := by decide +kernel
theorem dX10_beginThought_15 : decode cX10_beginThought 15 = .ok (.getfield 17, 3) := by decide +kernel
theorem dX10_beginThought_18 : decode cX10_beginThought 18 = .ok (.iload_n 1, 1) := by decide +kernel
theorem dX10_beginThought_19 : decode cX10_beginThought 19 = .ok (.iaload, 1) := by decide +kernel
theorem dX10_beginThought_20 : decode cX10_beginThought 20 = .ok (.iastore, 1) := by decide +kernel
theorem dX10_beginThought_21 : decode cX10_beginThought 21 = .ok (.iinc 1 1, 3) := by decide +kernel
theorem dX10_beginThought_24 : decode cX10_beginThought 24 = .ok (.goto (-22), 3) := by decide +kernel
theorem dX10_beginThought_27 : decode cX10_beginThought 27 = .ok (.return_, 1) := by decide +kernel
theorem dX10_endThought_0 : decode cX10_endThought 0 = .ok (.iconst 0, 1) := by decide +kernel
theorem dX10_endThought_1 : decode cX10_endThought 1 = .ok (.istore_n 1, 1) := by decide +kernel
theorem dX10_endThought_2 : decode cX10_endThought 2 = .ok (.iload_n 1, 1) := by decide +kernel
theorem dX10_endThought_3 : decode cX10_endThought 3 = .ok (.sipush 698, 3) := by decide +kernel
theorem dX10_endThought_6 : decode cX10_endThought 6 = .ok (.if_icmp .ge 21, 3) := by decide +kernel
theorem dX10_endThought_9 : decode cX10_endThought 9 = .ok (.aload_n 0, 1) := by decide +kernel
theorem dX10_endThought_10 : decode cX10_endThought 10 = .ok (.getfield 17, 3) := by decide +kernel
theorem dX10_endThought_13 : decode cX10_endThought 13 = .ok (.iload_n 1, 1) := by decide +kernel
theorem dX10_endThought_14 : decode cX10_endThought 14 = .ok (.aload_n 0, 1) := by decide +kernel
theorem dX10_endThought_15 : decode cX10_endThought 15 = .ok (.getfield 53, 3) := by decide +kernel
theorem dX10_endThought_18 : decode cX10_endThought 18 = .ok (.iload_n 1, 1) := by decide +kernel
theorem dX10_endThought_19 : decode cX10_endThought 19 = .ok (.iaload, 1) := by decide +kernel
theorem dX10_endThought_20 : decode cX10_endThought 20 = .ok (.iastore, 1) := by decide +kernel
theorem dX10_endThought_21 : decode cX10_endThought 21 = .ok (.iinc 1 1, 3) := by decide +kernel
theorem dX10_endThought_24 : decode cX10_endThought 24 = .ok (.goto (-22), 3) := by decide +kernel
theorem dX10_endThought_27 : decode cX10_endThought 27 = .ok (.return_, 1) := by decide +kernel
theorem dX10_isAnyDamaged_0 : decode cX10_isAnyDamaged 0 = .ok (.iconst 0, 1) := by decide +kernel
theorem dX10_isAnyDamaged_1 : decode cX10_isAnyDamaged 1 = .ok (.istore_n 1, 1) := by decide +kernel
theorem dX10_isAnyDamaged_2 : decode cX10_isAnyDamaged 2 = .ok (.iconst 0, 1) := by decide +kernel
theorem dX10_isAnyDamaged_3 : decode cX10_isAnyDamaged 3 = .ok (.istore_n 2, 1) := by decide +kernel
theorem dX10_isAnyDamaged_4 : decode cX10_isAnyDamaged 4 = .ok (.iload_n 2, 1) := by decide +kernel
theorem dX10_isAnyDamaged_5 : decode cX10_isAnyDamaged 5 = .ok (.aload_n 0, 1) := by decide +kernel
theorem dX10_isAnyDamaged_6 : decode cX10_isAnyDamaged 6 = .ok (.getfield 17, 3) := by decide +kernel
theorem dX10_isAnyDamaged_9 : decode cX10_isAnyDamaged 9 = .ok (.bipush 8, 2) := by decide +kernel
theorem dX10_isAnyDamaged_11 : decode cX10_isAnyDamaged 11 = .ok (.iaload, 1) := by decide +kernel
theorem dX10_isAnyDamaged_12 : decode cX10_isAnyDamaged 12 = .ok (.if_icmp .ge 27, 3) := by decide +kernel
theorem dX10_isAnyDamaged_15 : decode cX10_isAnyDamaged 15 = .ok (.iload_n 1, 1) := by decide +kernel
theorem dX10_isAnyDamaged_16 : decode cX10_isAnyDamaged 16 = .ok (.ifCond .ne 11, 3) := by decide +kernel
theorem dX10_isAnyDamaged_19 : decode cX10_isAnyDamaged 19 = .ok (.aload_n 0, 1) := by decide +kernel
theorem dX10_isAnyDamaged_20 : decode cX10_isAnyDamaged 20 = .ok (.iload_n 2, 1) := by decide +kernel
theorem dX10_isAnyDamaged_21 : decode cX10_isAnyDamaged 21 = .ok (.invokevirtual 149, 3) := by decide +kernel
theorem dX10_isAnyDamaged_24 : decode cX10_isAnyDamaged 24 = .ok (.ifCond .eq 7, 3) := by decide +kernel
theorem dX10_isAnyDamaged_27 : decode cX10_isAnyDamaged 27 = .ok (.iconst 1, 1) := by decide +kernel
theorem dX10_isAnyDamaged_28 : decode cX10_isAnyDamaged 28 = .ok (.goto 4, 3) := by decide +kernel
theorem dX10_isAnyDamaged_31 : decode cX10_isAnyDamaged 31 = .ok (.iconst 0, 1) := by decide +kernel
theorem dX10_isAnyDamaged_32 : decode cX10_isAnyDamaged 32 = .ok (.istore_n 1, 1) := by decide +kernel
theorem dX10_isAnyDamaged_33 : decode cX10_isAnyDamaged 33 = .ok (.iinc 2 1, 3) := by decide +kernel
theorem dX10_isAnyDamaged_36 : decode cX10_isAnyDamaged 36 = .ok (.goto (-32), 3) := by decide +kernel
theorem dX10_isAnyDamaged_39 : decode cX10_isAnyDamaged 39 = .ok (.iload_n 1, 1) := by decide +kernel
theorem dX10_isAnyDamaged_40 : decode cX10_isAnyDamaged 40 = .ok (.ireturn, 1) := by decide +kernel
theorem dX10_roundsToRepair_0 : decode cX10_roundsToRepair 0 = .ok (.aload_n 0, 1) := by decide +kernel
theorem dX10_roundsToRepair_1 : decode cX10_roundsToRepair 1 = .ok (.aload_n 0, 1) := by decide +kernel
theorem dX10_roundsToRepair_2 : decode cX10_roundsToRepair 2 = .ok (.iload_n 1, 1) := by decide +kernel
theorem dX10_roundsToRepair_3 : decode cX10_roundsToRepair 3 = .ok (.invokevirtual 406, 3) := by decide +kernel
theorem dX10_roundsToRepair_6 : decode cX10_roundsToRepair 6 = .ok (.invokevirtual 216, 3) := by decide +kernel
theorem dX10_roundsToRepair_9 : decode cX10_roundsToRepair 9 = .ok (.ifCond .ne 5, 3) := by decide +kernel
theorem dX10_roundsToRepair_12 : decode cX10_roundsToRepair 12 = .ok (.iconst 0, 1) := by decide +kernel
theorem dX10_roundsToRepair_13 : decode cX10_roundsToRepair 13 = .ok (.ireturn, 1) := by decide +kernel
theorem dX10_roundsToRepair_14 : decode cX10_roundsToRepair 14 = .ok (.aload_n 0, 1) := by decide +kernel
theorem dX10_roundsToRepair_15 : decode cX10_roundsToRepair 15 = .ok (.invokevirtual 451, 3) := by decide +kernel
theorem dX10_roundsToRepair_18 : decode cX10_roundsToRepair 18 = .ok (.iconst 0, 1) := by decide +kernel
theorem dX10_roundsToRepair_19 : decode cX10_roundsToRepair 19 = .ok (.istore_n 2, 1) := by decide +kernel
theorem dX10_roundsToRepair_20 : decode cX10_roundsToRepair 20 = .ok (.iload_n 2, 1) := by decide +kernel
theorem dX10_roundsToRepair_21 : decode cX10_roundsToRepair 21 = .ok (.sipush 300, 3) := by decide +kernel
theorem dX10_roundsToRepair_24 : decode cX10_roundsToRepair 24 = .ok (.if_icmp .gt 22, 3) := by decide +kernel
theorem dX10_roundsToRepair_27 : decode cX10_roundsToRepair 27 = .ok (.aload_n 0, 1) := by decide +kernel
theorem dX10_roundsToRepair_28 : decode cX10_roundsToRepair 28 = .ok (.iload_n 1, 1) := by decide +kernel
theorem dX10_roundsToRepair_29 : decode cX10_roundsToRepair 29 = .ok (.invokevirtual 149, 3) := by decide +kernel
theorem dX10_roundsToRepair_32 : decode cX10_roundsToRepair 32 = .ok (.ifCond .eq 14, 3) := by decide +kernel
theorem dX10_roundsToRepair_35 : decode cX10_roundsToRepair 35 = .ok (.aload_n 0, 1) := by decide +kernel
theorem dX10_roundsToRepair_36 : decode cX10_roundsToRepair 36 = .ok (.invokevirtual 426, 3) := by decide +kernel
theorem dX10_roundsToRepair_39 : decode cX10_roundsToRepair 39 = .ok (.pop, 1) := by decide +kernel
theorem dX10_roundsToRepair_40 : decode cX10_roundsToRepair 40 = .ok (.iinc 2 1, 3) := by decide +kernel
theorem dX10_roundsToRepair_43 : decode cX10_roundsToRepair 43 = .ok (.goto (-23), 3) := by decide +kernel
theorem dX10_roundsToRepair_46 : decode cX10_roundsToRepair 46 = .ok (.aload_n 0, 1) := by decide +kernel
theorem dX10_roundsToRepair_47 : decode cX10_roundsToRepair 47 = .ok (.invokevirtual 454, 3) := by decide +kernel
theorem dX10_roundsToRepair_50 : decode cX10_roundsToRepair 50 = .ok (.iload_n 2, 1) := by decide +kernel
theorem dX10_roundsToRepair_51 : decode cX10_roundsToRepair 51 = .ok (.sipush 300, 3) := by decide +kernel
theorem dX10_roundsToRepair_54 : decode cX10_roundsToRepair 54 = .ok (.if_icmp .le 7, 3) := by decide +kernel
theorem dX10_roundsToRepair_57 : decode cX10_roundsToRepair 57 = .ok (.iconst (-1), 1) := by decide +kernel
theorem dX10_roundsToRepair_58 : decode cX10_roundsToRepair 58 = .ok (.goto 4, 3) := by decide +kernel
theorem dX10_roundsToRepair_61 : decode cX10_roundsToRepair 61 = .ok (.iload_n 2, 1) := by decide +kernel
theorem dX10_roundsToRepair_62 : decode cX10_roundsToRepair 62 = .ok (.ireturn, 1) := by decide +kernel
theorem dX10_calm_0 : decode cX10_calm 0 = .ok (.aload_n 0, 1) := by decide +kernel
theorem dX10_calm_1 : decode cX10_calm 1 = .ok (.invokevirtual 451, 3) := by decide +kernel
theorem dX10_calm_4 : decode cX10_calm 4 = .ok (.aload_n 0, 1) := by decide +kernel
theorem dX10_calm_5 : decode cX10_calm 5 = .ok (.lconst 0, 1) := by decide +kernel
theorem dX10_calm_6 : decode cX10_calm 6 = .ok (.putfield 187, 3) := by decide +kernel
theorem dX10_calm_9 : decode cX10_calm 9 = .ok (.iconst 0, 1) := by decide +kernel
theorem dX10_calm_10 : decode cX10_calm 10 = .ok (.istore_n 1, 1) := by decide +kernel
theorem dX10_calm_11 : decode cX10_calm 11 = .ok (.iload_n 1, 1) := by decide +kernel
theorem dX10_calm_12 : decode cX10_calm 12 = .ok (.sipush 300, 3) := by decide +kernel
theorem dX10_calm_15 : decode cX10_calm 15 = .ok (.if_icmp .gt 21, 3) := by decide +kernel
theorem dX10_calm_18 : decode cX10_calm 18 = .ok (.aload_n 0, 1) := by decide +kernel
theorem dX10_calm_19 : decode cX10_calm 19 = .ok (.invokevirtual 457, 3) := by decide +kernel
theorem dX10_calm_22 : decode cX10_calm 22 = .ok (.ifCond .eq 14, 3) := by decide +kernel
theorem dX10_calm_25 : decode cX10_calm 25 = .ok (.aload_n 0, 1) := by decide +kernel
theorem dX10_calm_26 : decode cX10_calm 26 = .ok (.invokevirtual 426, 3) := by decide +kernel
theorem dX10_calm_29 : decode cX10_calm 29 = .ok (.pop, 1) := by decide +kernel
theorem dX10_calm_30 : decode cX10_calm 30 = .ok (.iinc 1 1, 3) := by decide +kernel
theorem dX10_calm_33 : decode cX10_calm 33 = .ok (.goto (-22), 3) := by decide +kernel
theorem dX10_calm_36 : decode cX10_calm 36 = .ok (.aload_n 0, 1) := by decide +kernel
theorem dX10_calm_37 : decode cX10_calm 37 = .ok (.invokevirtual 454, 3) := by decide +kernel
theorem dX10_calm_40 : decode cX10_calm 40 = .ok (.iload_n 1, 1) := by decide +kernel
theorem dX10_calm_41 : decode cX10_calm 41 = .ok (.sipush 300, 3) := by decide +kernel
theorem dX10_calm_44 : decode cX10_calm 44 = .ok (.if_icmp .le 7, 3) := by decide +kernel
theorem dX10_calm_47 : decode cX10_calm 47 = .ok (.iconst (-1), 1) := by decide +kernel
theorem dX10_calm_48 : decode cX10_calm 48 = .ok (.goto 4, 3) := by decide +kernel
theorem dX10_calm_51 : decode cX10_calm 51 = .ok (.iload_n 1, 1) := by decide +kernel
theorem dX10_calm_52 : decode cX10_calm 52 = .ok (.ireturn, 1) := by decide +kernel
theorem dX10_roundsToCalm_0 : decode cX10_roundsToCalm 0 = .ok (.aload_n 0, 1) := by decide +kernel
theorem dX10_roundsToCalm_1 : decode cX10_roundsToCalm 1 = .ok (.iconst 0, 1) := by decide +kernel
theorem dX10_roundsToCalm_2 : decode cX10_roundsToCalm 2 = .ok (.putfield 3, 3) := by decide +kernel
theorem dX10_roundsToCalm_5 : decode cX10_roundsToCalm 5 = .ok (.aload_n 0, 1) := by decide +kernel
theorem dX10_roundsToCalm_6 : decode cX10_roundsToCalm 6 = .ok (.invokevirtual 460, 3) := by decide +kernel
theorem dX10_roundsToCalm_9 : decode cX10_roundsToCalm 9 = .ok (.ireturn, 1) := by decide +kernel
theorem dX10_paidUntilCalm_0 : decode cX10_paidUntilCalm 0 = .ok (.aload_n 0, 1) := by decide +kernel
theorem dX10_paidUntilCalm_1 : decode cX10_paidUntilCalm 1 = .ok (.iconst 0, 1) := by decide +kernel
theorem dX10_paidUntilCalm_2 : decode cX10_paidUntilCalm 2 = .ok (.putfield 3, 3) := by decide +kernel
theorem dX10_paidUntilCalm_5 : decode cX10_paidUntilCalm 5 = .ok (.aload_n 0, 1) := by decide +kernel
theorem dX10_paidUntilCalm_6 : decode cX10_paidUntilCalm 6 = .ok (.invokevirtual 460, 3) := by decide +kernel
theorem dX10_paidUntilCalm_9 : decode cX10_paidUntilCalm 9 = .ok (.iconst (-1), 1) := by decide +kernel
theorem dX10_paidUntilCalm_10 : decode cX10_paidUntilCalm 10 = .ok (.if_icmp .ne 7, 3) := by decide +kernel
theorem dX10_paidUntilCalm_13 : decode cX10_paidUntilCalm 13 = .ok (.iconst (-1), 1) := by decide +kernel
theorem dX10_paidUntilCalm_14 : decode cX10_paidUntilCalm 14 = .ok (.goto 14, 3) := by decide +kernel
theorem dX10_paidUntilCalm_17 : decode cX10_paidUntilCalm 17 = .ok (.ldc2_w 191, 3) := by decide +kernel
theorem dX10_paidUntilCalm_20 : decode cX10_paidUntilCalm 20 = .ok (.aload_n 0, 1) := by decide +kernel
theorem dX10_paidUntilCalm_21 : decode cX10_paidUntilCalm 21 = .ok (.getfield 187, 3) := by decide +kernel
theorem dX10_paidUntilCalm_24 : decode cX10_paidUntilCalm 24 = .ok (.invokestatic 145, 3) := by decide +kernel
theorem dX10_paidUntilCalm_27 : decode cX10_paidUntilCalm 27 = .ok (.l2i, 1) := by decide +kernel
theorem dX10_paidUntilCalm_28 : decode cX10_paidUntilCalm 28 = .ok (.ireturn, 1) := by decide +kernel
theorem dX10_purseAfter_0 : decode cX10_purseAfter 0 = .ok (.aload_n 0, 1) := by decide +kernel
theorem dX10_purseAfter_1 : decode cX10_purseAfter 1 = .ok (.aload_n 0, 1) := by decide +kernel
theorem dX10_purseAfter_2 : decode cX10_purseAfter 2 = .ok (.iload_n 1, 1) := by decide +kernel
theorem dX10_purseAfter_3 : decode cX10_purseAfter 3 = .ok (.invokevirtual 401, 3) := by decide +kernel
theorem dX10_purseAfter_6 : decode cX10_purseAfter 6 = .ok (.iload_n 2, 1) := by decide +kernel
theorem dX10_purseAfter_7 : decode cX10_purseAfter 7 = .ok (.i2l, 1) := by decide +kernel
theorem dX10_purseAfter_8 : decode cX10_purseAfter 8 = .ok (.lconst 0, 1) := by decide +kernel
theorem dX10_purseAfter_9 : decode cX10_purseAfter 9 = .ok (.ldc2_w 463, 3) := by decide +kernel
theorem dX10_purseAfter_12 : decode cX10_purseAfter 12 = .ok (.invokestatic 62, 3) := by decide +kernel
theorem dX10_purseAfter_15 : decode cX10_purseAfter 15 = .ok (.invokevirtual 395, 3) := by decide +kernel
theorem dX10_purseAfter_18 : decode cX10_purseAfter 18 = .ok (.ifCond .ne 5, 3) := by decide +kernel
theorem dX10_purseAfter_21 : decode cX10_purseAfter 21 = .ok (.iconst 0, 1) := by decide +kernel
theorem dX10_purseAfter_22 : decode cX10_purseAfter 22 = .ok (.ireturn, 1) := by decide +kernel
theorem dX10_purseAfter_23 : decode cX10_purseAfter 23 = .ok (.aload_n 0, 1) := by decide +kernel
theorem dX10_purseAfter_24 : decode cX10_purseAfter 24 = .ok (.invokevirtual 451, 3) := by decide +kernel
theorem dX10_purseAfter_27 : decode cX10_purseAfter 27 = .ok (.iconst 0, 1) := by decide +kernel
theorem dX10_purseAfter_28 : decode cX10_purseAfter 28 = .ok (.istore_n 3, 1) := by decide +kernel
theorem dX10_purseAfter_29 : decode cX10_purseAfter 29 = .ok (.iload_n 3, 1) := by decide +kernel
theorem dX10_purseAfter_30 : decode cX10_purseAfter 30 = .ok (.iload_n 2, 1) := by decide +kernel
theorem dX10_purseAfter_31 : decode cX10_purseAfter 31 = .ok (.if_icmp .ge 14, 3) := by decide +kernel
theorem dX10_purseAfter_34 : decode cX10_purseAfter 34 = .ok (.aload_n 0, 1) := by decide +kernel
theorem dX10_purseAfter_35 : decode cX10_purseAfter 35 = .ok (.invokevirtual 426, 3) := by decide +kernel
theorem dX10_purseAfter_38 : decode cX10_purseAfter 38 = .ok (.pop, 1) := by decide +kernel
theorem dX10_purseAfter_39 : decode cX10_purseAfter 39 = .ok (.iinc 3 1, 3) := by decide +kernel
theorem dX10_purseAfter_42 : decode cX10_purseAfter 42 = .ok (.goto (-13), 3) := by decide +kernel
theorem dX10_purseAfter_45 : decode cX10_purseAfter 45 = .ok (.aload_n 0, 1) := by decide +kernel
theorem dX10_purseAfter_46 : decode cX10_purseAfter 46 = .ok (.iload_n 1, 1) := by decide +kernel
theorem dX10_purseAfter_47 : decode cX10_purseAfter 47 = .ok (.iconst 2, 1) := by decide +kernel
theorem dX10_purseAfter_48 : decode cX10_purseAfter 48 = .ok (.invokevirtual 167, 3) := by decide +kernel
theorem dX10_purseAfter_51 : decode cX10_purseAfter 51 = .ok (.istore_n 3, 1) := by decide +kernel
theorem dX10_purseAfter_52 : decode cX10_purseAfter 52 = .ok (.aload_n 0, 1) := by decide +kernel
theorem dX10_purseAfter_53 : decode cX10_purseAfter 53 = .ok (.invokevirtual 454, 3) := by decide +kernel
theorem dX10_purseAfter_56 : decode cX10_purseAfter 56 = .ok (.iload_n 3, 1) := by decide +kernel
theorem dX10_purseAfter_57 : decode cX10_purseAfter 57 = .ok (.ireturn, 1) := by decide +kernel
theorem dX10_soldIn_0 : decode cX10_soldIn 0 = .ok (.aload_n 0, 1) := by decide +kernel
theorem dX10_soldIn_1 : decode cX10_soldIn 1 = .ok (.iload_n 1, 1) := by decide +kernel
theorem dX10_soldIn_2 : decode cX10_soldIn 2 = .ok (.i2l, 1) := by decide +kernel
theorem dX10_soldIn_3 : decode cX10_soldIn 3 = .ok (.lconst 0, 1) := by decide +kernel
theorem dX10_soldIn_4 : decode cX10_soldIn 4 = .ok (.ldc2_w 463, 3) := by decide +kernel
theorem dX10_soldIn_7 : decode cX10_soldIn 7 = .ok (.invokestatic 62, 3) := by decide +kernel
theorem dX10_soldIn_10 : decode cX10_soldIn 10 = .ok (.invokevirtual 216, 3) := by decide +kernel
theorem dX10_soldIn_13 : decode cX10_soldIn 13 = .ok (.ifCond .ne 5, 3) := by decide +kernel
theorem dX10_soldIn_16 : decode cX10_soldIn 16 = .ok (.iconst 0, 1) := by decide +kernel
theorem dX10_soldIn_17 : decode cX10_soldIn 17 = .ok (.ireturn, 1) := by decide +kernel
theorem dX10_soldIn_18 : decode cX10_soldIn 18 = .ok (.aload_n 0, 1) := by decide +kernel
theorem dX10_soldIn_19 : decode cX10_soldIn 19 = .ok (.invokevirtual 451, 3) := by decide +kernel
theorem dX10_soldIn_22 : decode cX10_soldIn 22 = .ok (.iconst 0, 1) := by decide +kernel
theorem dX10_soldIn_23 : decode cX10_soldIn 23 = .ok (.istore_n 2, 1) := by decide +kernel
theorem dX10_soldIn_24 : decode cX10_soldIn 24 = .ok (.iconst 0, 1) := by decide +kernel
theorem dX10_soldIn_25 : decode cX10_soldIn 25 = .ok (.istore_n 3, 1) := by decide +kernel
theorem dX10_soldIn_26 : decode cX10_soldIn 26 = .ok (.iload_n 3, 1) := by decide +kernel
theorem dX10_soldIn_27 : decode cX10_soldIn 27 = .ok (.iload_n 1, 1) := by decide +kernel
theorem dX10_soldIn_28 : decode cX10_soldIn 28 = .ok (.if_icmp .ge 16, 3) := by decide +kernel
theorem dX10_soldIn_31 : decode cX10_soldIn 31 = .ok (.iload_n 2, 1) := by decide +kernel
theorem dX10_soldIn_32 : decode cX10_soldIn 32 = .ok (.aload_n 0, 1) := by decide +kernel
theorem dX10_soldIn_33 : decode cX10_soldIn 33 = .ok (.invokevirtual 426, 3) := by decide +kernel
theorem dX10_soldIn_36 : decode cX10_soldIn 36 = .ok (.iadd, 1) := by decide +kernel
theorem dX10_soldIn_37 : decode cX10_soldIn 37 = .ok (.istore_n 2, 1) := by decide +kernel
theorem dX10_soldIn_38 : decode cX10_soldIn 38 = .ok (.iinc 3 1, 3) := by decide +kernel
theorem dX10_soldIn_41 : decode cX10_soldIn 41 = .ok (.goto (-15), 3) := by decide +kernel
theorem dX10_soldIn_44 : decode cX10_soldIn 44 = .ok (.aload_n 0, 1) := by decide +kernel
theorem dX10_soldIn_45 : decode cX10_soldIn 45 = .ok (.invokevirtual 454, 3) := by decide +kernel
theorem dX10_soldIn_48 : decode cX10_soldIn 48 = .ok (.iload_n 2, 1) := by decide +kernel
theorem dX10_soldIn_49 : decode cX10_soldIn 49 = .ok (.ireturn, 1) := by decide +kernel
theorem dX10_recorded_0 : decode cX10_recorded 0 = .ok (.aload_n 0, 1) := by decide +kernel
theorem dX10_recorded_1 : decode cX10_recorded 1 = .ok (.getfield 17, 3) := by decide +kernel
theorem dX10_recorded_4 : decode cX10_recorded 4 = .ok (.sipush 498, 3) := by decide +kernel
theorem dX10_recorded_7 : decode cX10_recorded 7 = .ok (.iconst 5, 1) := by decide +kernel
theorem dX10_recorded_8 : decode cX10_recorded 8 = .ok (.iload_n 1, 1) := by decide +kernel
theorem dX10_recorded_9 : decode cX10_recorded 9 = .ok (.imul, 1) := by decide +kernel
theorem dX10_recorded_10 : decode cX10_recorded 10 = .ok (.iadd, 1) := by decide +kernel
theorem dX10_recorded_11 : decode cX10_recorded 11 = .ok (.iload_n 2, 1) := by decide +kernel
theorem dX10_recorded_12 : decode cX10_recorded 12 = .ok (.iadd, 1) := by decide +kernel
theorem dX10_recorded_13 : decode cX10_recorded 13 = .ok (.iaload, 1) := by decide +kernel
theorem dX10_recorded_14 : decode cX10_recorded 14 = .ok (.ireturn, 1) := by decide +kernel
theorem dX10_historySize_0 : decode cX10_historySize 0 = .ok (.aload_n 0, 1) := by decide +kernel
theorem dX10_historySize_1 : decode cX10_historySize 1 = .ok (.iconst 0, 1) := by decide +kernel
theorem dX10_historySize_2 : decode cX10_historySize 2 = .ok (.putfield 3, 3) := by decide +kernel
theorem dX10_historySize_5 : decode cX10_historySize 5 = .ok (.aload_n 0, 1) := by decide +kernel
theorem dX10_historySize_6 : decode cX10_historySize 6 = .ok (.getfield 17, 3) := by decide +kernel
theorem dX10_historySize_9 : decode cX10_historySize 9 = .ok (.bipush 9, 2) := by decide +kernel
theorem dX10_historySize_11 : decode cX10_historySize 11 = .ok (.iaload, 1) := by decide +kernel
theorem dX10_historySize_12 : decode cX10_historySize 12 = .ok (.ireturn, 1) := by decide +kernel
theorem dX10_history_0 : decode cX10_history 0 = .ok (.aload_n 0, 1) := by decide +kernel
theorem dX10_history_1 : decode cX10_history 1 = .ok (.iload_n 1, 1) := by decide +kernel
theorem dX10_history_2 : decode cX10_history 2 = .ok (.i2l, 1) := by decide +kernel
theorem dX10_history_3 : decode cX10_history 3 = .ok (.lconst 0, 1) := by decide +kernel
theorem dX10_history_4 : decode cX10_history 4 = .ok (.aload_n 0, 1) := by decide +kernel
theorem dX10_history_5 : decode cX10_history 5 = .ok (.getfield 17, 3) := by decide +kernel
theorem dX10_history_8 : decode cX10_history 8 = .ok (.bipush 9, 2) := by decide +kernel
theorem dX10_history_10 : decode cX10_history 10 = .ok (.iaload, 1) := by decide +kernel
theorem dX10_history_11 : decode cX10_history 11 = .ok (.iconst 1, 1) := by decide +kernel
theorem dX10_history_12 : decode cX10_history 12 = .ok (.isub, 1) := by decide +kernel
theorem dX10_history_13 : decode cX10_history 13 = .ok (.i2l, 1) := by decide +kernel
theorem dX10_history_14 : decode cX10_history 14 = .ok (.invokestatic 62, 3) := by decide +kernel
theorem dX10_history_17 : decode cX10_history 17 = .ok (.iload_n 2, 1) := by decide +kernel
theorem dX10_history_18 : decode cX10_history 18 = .ok (.i2l, 1) := by decide +kernel
theorem dX10_history_19 : decode cX10_history 19 = .ok (.lconst 0, 1) := by decide +kernel
theorem dX10_history_20 : decode cX10_history 20 = .ok (.ldc2_w 404, 3) := by decide +kernel
theorem dX10_history_23 : decode cX10_history 23 = .ok (.invokestatic 62, 3) := by decide +kernel
theorem dX10_history_26 : decode cX10_history 26 = .ok (.invokevirtual 395, 3) := by decide +kernel
theorem dX10_history_29 : decode cX10_history 29 = .ok (.ifCond .eq 12, 3) := by decide +kernel
theorem dX10_history_32 : decode cX10_history 32 = .ok (.aload_n 0, 1) := by decide +kernel
theorem dX10_history_33 : decode cX10_history 33 = .ok (.iload_n 1, 1) := by decide +kernel
theorem dX10_history_34 : decode cX10_history 34 = .ok (.iload_n 2, 1) := by decide +kernel
theorem dX10_history_35 : decode cX10_history 35 = .ok (.invokevirtual 465, 3) := by decide +kernel
theorem dX10_history_38 : decode cX10_history 38 = .ok (.goto 4, 3) := by decide +kernel
theorem dX10_history_41 : decode cX10_history 41 = .ok (.iconst 0, 1) := by decide +kernel
theorem dX10_history_42 : decode cX10_history 42 = .ok (.ireturn, 1) := by decide +kernel
theorem dX10_meanPrice_0 : decode cX10_meanPrice 0 = .ok (.aload_n 0, 1) := by decide +kernel
theorem dX10_meanPrice_1 : decode cX10_meanPrice 1 = .ok (.iload_n 1, 1) := by decide +kernel
theorem dX10_meanPrice_2 : decode cX10_meanPrice 2 = .ok (.i2l, 1) := by decide +kernel
theorem dX10_meanPrice_3 : decode cX10_meanPrice 3 = .ok (.lconst 1, 1) := by decide +kernel
theorem dX10_meanPrice_4 : decode cX10_meanPrice 4 = .ok (.ldc2_w 468, 3) := by decide +kernel
theorem dX10_meanPrice_7 : decode cX10_meanPrice 7 = .ok (.invokestatic 62, 3) := by decide +kernel
theorem dX10_meanPrice_10 : decode cX10_meanPrice 10 = .ok (.aload_n 0, 1) := by decide +kernel
theorem dX10_meanPrice_11 : decode cX10_meanPrice 11 = .ok (.getfield 17, 3) := by decide +kernel
theorem dX10_meanPrice_14 : decode cX10_meanPrice 14 = .ok (.bipush 9, 2) := by decide +kernel
theorem dX10_meanPrice_16 : decode cX10_meanPrice 16 = .ok (.iaload, 1) := by decide +kernel
theorem dX10_meanPrice_17 : decode cX10_meanPrice 17 = .ok (.ifCond .le 7, 3) := by decide +kernel
theorem dX10_meanPrice_20 : decode cX10_meanPrice 20 = .ok (.iconst 1, 1) := by decide +kernel
theorem dX10_meanPrice_21 : decode cX10_meanPrice 21 = .ok (.goto 4, 3) := by decide +kernel
theorem dX10_meanPrice_24 : decode cX10_meanPrice 24 = .ok (.iconst 0, 1) := by decide +kernel
theorem dX10_meanPrice_25 : decode cX10_meanPrice 25 = .ok (.invokevirtual 395, 3) := by decide +kernel
theorem dX10_meanPrice_28 : decode cX10_meanPrice 28 = .ok (.ifCond .ne 5, 3) := by decide +kernel
theorem dX10_meanPrice_31 : decode cX10_meanPrice 31 = .ok (.dconst 0, 1) := by decide +kernel
theorem dX10_meanPrice_32 : decode cX10_meanPrice 32 = .ok (.dreturn, 1) := by decide +kernel
theorem dX10_meanPrice_33 : decode cX10_meanPrice 33 = .ok (.iload_n 1, 1) := by decide +kernel
theorem dX10_meanPrice_34 : decode cX10_meanPrice 34 = .ok (.aload_n 0, 1) := by decide +kernel
theorem dX10_meanPrice_35 : decode cX10_meanPrice 35 = .ok (.getfield 17, 3) := by decide +kernel
theorem dX10_meanPrice_38 : decode cX10_meanPrice 38 = .ok (.bipush 9, 2) := by decide +kernel
theorem dX10_meanPrice_40 : decode cX10_meanPrice 40 = .ok (.iaload, 1) := by decide +kernel
theorem dX10_meanPrice_41 : decode cX10_meanPrice 41 = .ok (.invokestatic 170, 3) := by decide +kernel
theorem dX10_meanPrice_44 : decode cX10_meanPrice 44 = .ok (.istore_n 2, 1) := by decide +kernel
theorem dX10_meanPrice_45 : decode cX10_meanPrice 45 = .ok (.iconst 0, 1) := by decide +kernel
theorem dX10_meanPrice_46 : decode cX10_meanPrice 46 = .ok (.istore_n 3, 1) := by decide +kernel
theorem dX10_meanPrice_47 : decode cX10_meanPrice 47 = .ok (.aload_n 0, 1) := by decide +kernel
theorem dX10_meanPrice_48 : decode cX10_meanPrice 48 = .ok (.getfield 17, 3) := by decide +kernel
theorem dX10_meanPrice_51 : decode cX10_meanPrice 51 = .ok (.bipush 9, 2) := by decide +kernel
theorem dX10_meanPrice_53 : decode cX10_meanPrice 53 = .ok (.iaload, 1) := by decide +kernel
theorem dX10_meanPrice_54 : decode cX10_meanPrice 54 = .ok (.iload_n 2, 1) := by decide +kernel
theorem dX10_meanPrice_55 : decode cX10_meanPrice 55 = .ok (.isub, 1) := by decide +kernel
theorem dX10_meanPrice_56 : decode cX10_meanPrice 56 = .ok (.istore 4, 2) := by decide +kernel
theorem dX10_meanPrice_58 : decode cX10_meanPrice 58 = .ok (.iload 4, 2) := by decide +kernel
theorem dX10_meanPrice_60 : decode cX10_meanPrice 60 = .ok (.aload_n 0, 1) := by decide +kernel
theorem dX10_meanPrice_61 : decode cX10_meanPrice 61 = .ok (.getfield 17, 3) := by decide +kernel
theorem dX10_meanPrice_64 : decode cX10_meanPrice 64 = .ok (.bipush 9, 2) := by decide +kernel
theorem dX10_meanPrice_66 : decode cX10_meanPrice 66 = .ok (.iaload, 1) := by decide +kernel
theorem dX10_meanPrice_67 : decode cX10_meanPrice 67 = .ok (.if_icmp .ge 19, 3) := by decide +kernel
theorem dX10_meanPrice_70 : decode cX10_meanPrice 70 = .ok (.iload_n 3, 1) := by decide +kernel
theorem dX10_meanPrice_71 : decode cX10_meanPrice 71 = .ok (.aload_n 0, 1) := by decide +kernel
theorem dX10_meanPrice_72 : decode cX10_meanPrice 72 = .ok (.iload 4, 2) := by decide +kernel
theorem dX10_meanPrice_74 : decode cX10_meanPrice 74 = .ok (.iconst 2, 1) := by decide +kernel
theorem dX10_meanPrice_75 : decode cX10_meanPrice 75 = .ok (.invokevirtual 465, 3) := by decide +kernel
theorem dX10_meanPrice_78 : decode cX10_meanPrice 78 = .ok (.iadd, 1) := by decide +kernel
theorem dX10_meanPrice_79 : decode cX10_meanPrice 79 = .ok (.istore_n 3, 1) := by decide +kernel
theorem dX10_meanPrice_80 : decode cX10_meanPrice 80 = .ok (.iinc 4 1, 3) := by decide +kernel
theorem dX10_meanPrice_83 : decode cX10_meanPrice 83 = .ok (.goto (-25), 3) := by decide +kernel
theorem dX10_meanPrice_86 : decode cX10_meanPrice 86 = .ok (.iload_n 3, 1) := by decide +kernel
theorem dX10_meanPrice_87 : decode cX10_meanPrice 87 = .ok (.i2d, 1) := by decide +kernel
theorem dX10_meanPrice_88 : decode cX10_meanPrice 88 = .ok (.iload_n 2, 1) := by decide +kernel
theorem dX10_meanPrice_89 : decode cX10_meanPrice 89 = .ok (.i2d, 1) := by decide +kernel
theorem dX10_meanPrice_90 : decode cX10_meanPrice 90 = .ok (.ddiv, 1) := by decide +kernel
theorem dX10_meanPrice_91 : decode cX10_meanPrice 91 = .ok (.dreturn, 1) := by decide +kernel
theorem dX10_dearestRound_0 : decode cX10_dearestRound 0 = .ok (.aload_n 0, 1) := by decide +kernel
theorem dX10_dearestRound_1 : decode cX10_dearestRound 1 = .ok (.aload_n 0, 1) := by decide +kernel
theorem dX10_dearestRound_2 : decode cX10_dearestRound 2 = .ok (.getfield 17, 3) := by decide +kernel
theorem dX10_dearestRound_5 : decode cX10_dearestRound 5 = .ok (.bipush 9, 2) := by decide +kernel
theorem dX10_dearestRound_7 : decode cX10_dearestRound 7 = .ok (.iaload, 1) := by decide +kernel
theorem dX10_dearestRound_8 : decode cX10_dearestRound 8 = .ok (.ifCond .le 7, 3) := by decide +kernel
theorem dX10_dearestRound_11 : decode cX10_dearestRound 11 = .ok (.iconst 1, 1) := by decide +kernel
theorem dX10_dearestRound_12 : decode cX10_dearestRound 12 = .ok (.goto 4, 3) := by decide +kernel
theorem dX10_dearestRound_15 : decode cX10_dearestRound 15 = .ok (.iconst 0, 1) := by decide +kernel
theorem dX10_dearestRound_16 : decode cX10_dearestRound 16 = .ok (.invokevirtual 216, 3) := by decide +kernel
theorem dX10_dearestRound_19 : decode cX10_dearestRound 19 = .ok (.ifCond .ne 5, 3) := by decide +kernel
theorem dX10_dearestRound_22 : decode cX10_dearestRound 22 = .ok (.iconst 0, 1) := by decide +kernel
theorem dX10_dearestRound_23 : decode cX10_dearestRound 23 = .ok (.ireturn, 1) := by decide +kernel
theorem dX10_dearestRound_24 : decode cX10_dearestRound 24 = .ok (.iconst 0, 1) := by decide +kernel
theorem dX10_dearestRound_25 : decode cX10_dearestRound 25 = .ok (.istore_n 1, 1) := by decide +kernel
theorem dX10_dearestRound_26 : decode cX10_dearestRound 26 = .ok (.iconst 1, 1) := by decide +kernel
theorem dX10_dearestRound_27 : decode cX10_dearestRound 27 = .ok (.istore_n 2, 1) := by decide +kernel
theorem dX10_dearestRound_28 : decode cX10_dearestRound 28 = .ok (.iload_n 2, 1) := by decide +kernel
theorem dX10_dearestRound_29 : decode cX10_dearestRound 29 = .ok (.aload_n 0, 1) := by decide +kernel
theorem dX10_dearestRound_30 : decode cX10_dearestRound 30 = .ok (.getfield 17, 3) := by decide +kernel
theorem dX10_dearestRound_33 : decode cX10_dearestRound 33 = .ok (.bipush 9, 2) := by decide +kernel
theorem dX10_dearestRound_35 : decode cX10_dearestRound 35 = .ok (.iaload, 1) := by decide +kernel
theorem dX10_dearestRound_36 : decode cX10_dearestRound 36 = .ok (.if_icmp .ge 26, 3) := by decide +kernel
theorem dX10_dearestRound_39 : decode cX10_dearestRound 39 = .ok (.aload_n 0, 1) := by decide +kernel
theorem dX10_dearestRound_40 : decode cX10_dearestRound 40 = .ok (.iload_n 2, 1) := by decide +kernel
theorem dX10_dearestRound_41 : decode cX10_dearestRound 41 = .ok (.iconst 2, 1) := by decide +kernel
theorem dX10_dearestRound_42 : decode cX10_dearestRound 42 = .ok (.invokevirtual 465, 3) := by decide +kernel
theorem dX10_dearestRound_45 : decode cX10_dearestRound 45 = .ok (.aload_n 0, 1) := by decide +kernel
theorem dX10_dearestRound_46 : decode cX10_dearestRound 46 = .ok (.iload_n 1, 1) := by decide +kernel
theorem dX10_dearestRound_47 : decode cX10_dearestRound 47 = .ok (.iconst 2, 1) := by decide +kernel
theorem dX10_dearestRound_48 : decode cX10_dearestRound 48 = .ok (.invokevirtual 465, 3) := by decide +kernel
theorem dX10_dearestRound_51 : decode cX10_dearestRound 51 = .ok (.if_icmp .le 5, 3) := by decide +kernel
theorem dX10_dearestRound_54 : decode cX10_dearestRound 54 = .ok (.iload_n 2, 1) := by decide +kernel
theorem dX10_dearestRound_55 : decode cX10_dearestRound 55 = .ok (.istore_n 1, 1) := by decide +kernel
theorem dX10_dearestRound_56 : decode cX10_dearestRound 56 = .ok (.iinc 2 1, 3) := by decide +kernel
theorem dX10_dearestRound_59 : decode cX10_dearestRound 59 = .ok (.goto (-31), 3) := by decide +kernel
theorem dX10_dearestRound_62 : decode cX10_dearestRound 62 = .ok (.iload_n 1, 1) := by decide +kernel
theorem dX10_dearestRound_63 : decode cX10_dearestRound 63 = .ok (.ireturn, 1) := by decide +kernel
theorem dX10_longestRise_0 : decode cX10_longestRise 0 = .ok (.aload_n 0, 1) := by decide +kernel
theorem dX10_longestRise_1 : decode cX10_longestRise 1 = .ok (.iconst 0, 1) := by decide +kernel
theorem dX10_longestRise_2 : decode cX10_longestRise 2 = .ok (.putfield 3, 3) := by decide +kernel
theorem dX10_longestRise_5 : decode cX10_longestRise 5 = .ok (.iconst 0, 1) := by decide +kernel
theorem dX10_longestRise_6 : decode cX10_longestRise 6 = .ok (.istore_n 1, 1) := by decide +kernel
theorem dX10_longestRise_7 : decode cX10_longestRise 7 = .ok (.iconst 0, 1) := by decide +kernel
theorem dX10_longestRise_8 : decode cX10_longestRise 8 = .ok (.istore_n 2, 1) := by decide +kernel
theorem dX10_longestRise_9 : decode cX10_longestRise 9 = .ok (.iconst 0, 1) := by decide +kernel
theorem dX10_longestRise_10 : decode cX10_longestRise 10 = .ok (.istore_n 3, 1) := by decide +kernel
theorem dX10_longestRise_11 : decode cX10_longestRise 11 = .ok (.iload_n 3, 1) := by decide +kernel
theorem dX10_longestRise_12 : decode cX10_longestRise 12 = .ok (.aload_n 0, 1) := by decide +kernel
theorem dX10_longestRise_13 : decode cX10_longestRise 13 = .ok (.getfield 17, 3) := by decide +kernel
theorem dX10_longestRise_16 : decode cX10_longestRise 16 = .ok (.bipush 9, 2) := by decide +kernel
theorem dX10_longestRise_18 : decode cX10_longestRise 18 = .ok (.iaload, 1) := by decide +kernel
theorem dX10_longestRise_19 : decode cX10_longestRise 19 = .ok (.if_icmp .ge 44, 3) := by decide +kernel
theorem dX10_longestRise_22 : decode cX10_longestRise 22 = .ok (.iload_n 3, 1) := by decide +kernel
theorem dX10_longestRise_23 : decode cX10_longestRise 23 = .ok (.ifCond .le 26, 3) := by decide +kernel
theorem dX10_longestRise_26 : decode cX10_longestRise 26 = .ok (.aload_n 0, 1) := by decide +kernel
theorem dX10_longestRise_27 : decode cX10_longestRise 27 = .ok (.iload_n 3, 1) := by decide +kernel
theorem dX10_longestRise_28 : decode cX10_longestRise 28 = .ok (.iconst 2, 1) := by decide +kernel
theorem dX10_longestRise_29 : decode cX10_longestRise 29 = .ok (.invokevirtual 465, 3) := by decide +kernel
theorem dX10_longestRise_32 : decode cX10_longestRise 32 = .ok (.aload_n 0, 1) := by decide +kernel
theorem dX10_longestRise_33 : decode cX10_longestRise 33 = .ok (.iload_n 3, 1) := by decide +kernel
theorem dX10_longestRise_34 : decode cX10_longestRise 34 = .ok (.iconst 1, 1) := by decide +kernel
theorem dX10_longestRise_35 : decode cX10_longestRise 35 = .ok (.isub, 1) := by decide +kernel
theorem dX10_longestRise_36 : decode cX10_longestRise 36 = .ok (.iconst 2, 1) := by decide +kernel
theorem dX10_longestRise_37 : decode cX10_longestRise 37 = .ok (.invokevirtual 465, 3) := by decide +kernel
theorem dX10_longestRise_40 : decode cX10_longestRise 40 = .ok (.if_icmp .le 9, 3) := by decide +kernel
theorem dX10_longestRise_43 : decode cX10_longestRise 43 = .ok (.iload_n 2, 1) := by decide +kernel
theorem dX10_longestRise_44 : decode cX10_longestRise 44 = .ok (.iconst 1, 1) := by decide +kernel
theorem dX10_longestRise_45 : decode cX10_longestRise 45 = .ok (.iadd, 1) := by decide +kernel
theorem dX10_longestRise_46 : decode cX10_longestRise 46 = .ok (.goto 4, 3) := by decide +kernel
theorem dX10_longestRise_49 : decode cX10_longestRise 49 = .ok (.iconst 1, 1) := by decide +kernel
theorem dX10_longestRise_50 : decode cX10_longestRise 50 = .ok (.istore_n 2, 1) := by decide +kernel
theorem dX10_longestRise_51 : decode cX10_longestRise 51 = .ok (.iload_n 1, 1) := by decide +kernel
theorem dX10_longestRise_52 : decode cX10_longestRise 52 = .ok (.iload_n 2, 1) := by decide +kernel
theorem dX10_longestRise_53 : decode cX10_longestRise 53 = .ok (.invokestatic 136, 3) := by decide +kernel
theorem dX10_longestRise_56 : decode cX10_longestRise 56 = .ok (.istore_n 1, 1) := by decide +kernel
theorem dX10_longestRise_57 : decode cX10_longestRise 57 = .ok (.iinc 3 1, 3) := by decide +kernel
theorem dX10_longestRise_60 : decode cX10_longestRise 60 = .ok (.goto (-49), 3) := by decide +kernel
theorem dX10_longestRise_63 : decode cX10_longestRise 63 = .ok (.iload_n 1, 1) := by decide +kernel
theorem dX10_longestRise_64 : decode cX10_longestRise 64 = .ok (.ireturn, 1) := by decide +kernel
theorem dX10_remember_0 : decode cX10_remember 0 = .ok (.aload_n 0, 1) := by decide +kernel
theorem dX10_remember_1 : decode cX10_remember 1 = .ok (.getfield 470, 3) := by decide +kernel
theorem dX10_remember_4 : decode cX10_remember 4 = .ok (.bipush 8, 2) := by decide +kernel
theorem dX10_remember_6 : decode cX10_remember 6 = .ok (.if_icmp .ne 46, 3) := by decide +kernel
theorem dX10_remember_9 : decode cX10_remember 9 = .ok (.sipush 698, 3) := by decide +kernel
theorem dX10_remember_12 : decode cX10_remember 12 = .ok (.istore_n 1, 1) := by decide +kernel
theorem dX10_remember_13 : decode cX10_remember 13 = .ok (.iload_n 1, 1) := by decide +kernel
theorem dX10_remember_14 : decode cX10_remember 14 = .ok (.sipush 5584, 3) := by decide +kernel
theorem dX10_remember_17 : decode cX10_remember 17 = .ok (.if_icmp .ge 25, 3) := by decide +kernel
theorem dX10_remember_20 : decode cX10_remember 20 = .ok (.aload_n 0, 1) := by decide +kernel
theorem dX10_remember_21 : decode cX10_remember 21 = .ok (.getfield 56, 3) := by decide +kernel
theorem dX10_remember_24 : decode cX10_remember 24 = .ok (.iload_n 1, 1) := by decide +kernel
theorem dX10_remember_25 : decode cX10_remember 25 = .ok (.sipush 698, 3) := by decide +kernel
theorem dX10_remember_28 : decode cX10_remember 28 = .ok (.isub, 1) := by decide +kernel
theorem dX10_remember_29 : decode cX10_remember 29 = .ok (.aload_n 0, 1) := by decide +kernel
theorem dX10_remember_30 : decode cX10_remember 30 = .ok (.getfield 56, 3) := by decide +kernel
theorem dX10_remember_33 : decode cX10_remember 33 = .ok (.iload_n 1, 1) := by decide +kernel
theorem dX10_remember_34 : decode cX10_remember 34 = .ok (.iaload, 1) := by decide +kernel
theorem dX10_remember_35 : decode cX10_remember 35 = .ok (.iastore, 1) := by decide +kernel
theorem dX10_remember_36 : decode cX10_remember 36 = .ok (.iinc 1 1, 3) := by decide +kernel
theorem dX10_remember_39 : decode cX10_remember 39 = .ok (.goto (-26), 3) := by decide +kernel
theorem dX10_remember_42 : decode cX10_remember 42 = .ok (.aload_n 0, 1) := by decide +kernel
theorem dX10_remember_43 : decode cX10_remember 43 = .ok (.dup, 1) := by decide +kernel
theorem dX10_remember_44 : decode cX10_remember 44 = .ok (.getfield 470, 3) := by decide +kernel
theorem dX10_remember_47 : decode cX10_remember 47 = .ok (.iconst 1, 1) := by decide +kernel
theorem dX10_remember_48 : decode cX10_remember 48 = .ok (.isub, 1) := by decide +kernel
theorem dX10_remember_49 : decode cX10_remember 49 = .ok (.putfield 470, 3) := by decide +kernel
theorem dX10_remember_52 : decode cX10_remember 52 = .ok (.iconst 0, 1) := by decide +kernel
theorem dX10_remember_53 : decode cX10_remember 53 = .ok (.istore_n 1, 1) := by decide +kernel
theorem dX10_remember_54 : decode cX10_remember 54 = .ok (.iload_n 1, 1) := by decide +kernel
theorem dX10_remember_55 : decode cX10_remember 55 = .ok (.sipush 698, 3) := by decide +kernel
theorem dX10_remember_58 : decode cX10_remember 58 = .ok (.if_icmp .ge 30, 3) := by decide +kernel
theorem dX10_remember_61 : decode cX10_remember 61 = .ok (.aload_n 0, 1) := by decide +kernel
theorem dX10_remember_62 : decode cX10_remember 62 = .ok (.getfield 56, 3) := by decide +kernel
theorem dX10_remember_65 : decode cX10_remember 65 = .ok (.sipush 698, 3) := by decide +kernel
theorem dX10_remember_68 : decode cX10_remember 68 = .ok (.aload_n 0, 1) := by decide +kernel
theorem dX10_remember_69 : decode cX10_remember 69 = .ok (.getfield 470, 3) := by decide +kernel
theorem dX10_remember_72 : decode cX10_remember 72 = .ok (.imul, 1) := by decide +kernel
theorem dX10_remember_73 : decode cX10_remember 73 = .ok (.iload_n 1, 1) := by decide +kernel
theorem dX10_remember_74 : decode cX10_remember 74 = .ok (.iadd, 1) := by decide +kernel
theorem dX10_remember_75 : decode cX10_remember 75 = .ok (.aload_n 0, 1) := by decide +kernel
theorem dX10_remember_76 : decode cX10_remember 76 = .ok (.getfield 17, 3) := by decide +kernel
theorem dX10_remember_79 : decode cX10_remember 79 = .ok (.iload_n 1, 1) := by decide +kernel
theorem dX10_remember_80 : decode cX10_remember 80 = .ok (.iaload, 1) := by decide +kernel
theorem dX10_remember_81 : decode cX10_remember 81 = .ok (.iastore, 1) := by decide +kernel
theorem dX10_remember_82 : decode cX10_remember 82 = .ok (.iinc 1 1, 3) := by decide +kernel
theorem dX10_remember_85 : decode cX10_remember 85 = .ok (.goto (-31), 3) := by decide +kernel
theorem dX10_remember_88 : decode cX10_remember 88 = .ok (.aload_n 0, 1) := by decide +kernel
theorem dX10_remember_89 : decode cX10_remember 89 = .ok (.dup, 1) := by decide +kernel
theorem dX10_remember_90 : decode cX10_remember 90 = .ok (.getfield 470, 3) := by decide +kernel
theorem dX10_remember_93 : decode cX10_remember 93 = .ok (.iconst 1, 1) := by decide +kernel
theorem dX10_remember_94 : decode cX10_remember 94 = .ok (.iadd, 1) := by decide +kernel
theorem dX10_remember_95 : decode cX10_remember 95 = .ok (.putfield 470, 3) := by decide +kernel
theorem dX10_remember_98 : decode cX10_remember 98 = .ok (.return_, 1) := by decide +kernel
theorem dX10_undo_0 : decode cX10_undo 0 = .ok (.aload_n 0, 1) := by decide +kernel
theorem dX10_undo_1 : decode cX10_undo 1 = .ok (.aload_n 0, 1) := by decide +kernel
theorem dX10_undo_2 : decode cX10_undo 2 = .ok (.getfield 470, 3) := by decide +kernel
theorem dX10_undo_5 : decode cX10_undo 5 = .ok (.ifCond .le 7, 3) := by decide +kernel
theorem dX10_undo_8 : decode cX10_undo 8 = .ok (.iconst 1, 1) := by decide +kernel
theorem dX10_undo_9 : decode cX10_undo 9 = .ok (.goto 4, 3) := by decide +kernel
theorem dX10_undo_12 : decode cX10_undo 12 = .ok (.iconst 0, 1) := by decide +kernel
theorem dX10_undo_13 : decode cX10_undo 13 = .ok (.invokevirtual 216, 3) := by decide +kernel
theorem dX10_undo_16 : decode cX10_undo 16 = .ok (.ifCond .ne 5, 3) := by decide +kernel
theorem dX10_undo_19 : decode cX10_undo 19 = .ok (.iconst 0, 1) := by decide +kernel
theorem dX10_undo_20 : decode cX10_undo 20 = .ok (.ireturn, 1) := by decide +kernel
theorem dX10_undo_21 : decode cX10_undo 21 = .ok (.aload_n 0, 1) := by decide +kernel
theorem dX10_undo_22 : decode cX10_undo 22 = .ok (.dup, 1) := by decide +kernel
theorem dX10_undo_23 : decode cX10_undo 23 = .ok (.getfield 470, 3) := by decide +kernel
theorem dX10_undo_26 : decode cX10_undo 26 = .ok (.iconst 1, 1) := by decide +kernel
theorem dX10_undo_27 : decode cX10_undo 27 = .ok (.isub, 1) := by decide +kernel
theorem dX10_undo_28 : decode cX10_undo 28 = .ok (.putfield 470, 3) := by decide +kernel
theorem dX10_undo_31 : decode cX10_undo 31 = .ok (.iconst 0, 1) := by decide +kernel
theorem dX10_undo_32 : decode cX10_undo 32 = .ok (.istore_n 1, 1) := by decide +kernel
theorem dX10_undo_33 : decode cX10_undo 33 = .ok (.iload_n 1, 1) := by decide +kernel
theorem dX10_undo_34 : decode cX10_undo 34 = .ok (.sipush 698, 3) := by decide +kernel
theorem dX10_undo_37 : decode cX10_undo 37 = .ok (.if_icmp .ge 30, 3) := by decide +kernel
theorem dX10_undo_40 : decode cX10_undo 40 = .ok (.aload_n 0, 1) := by decide +kernel
theorem dX10_undo_41 : decode cX10_undo 41 = .ok (.getfield 17, 3) := by decide +kernel
theorem dX10_undo_44 : decode cX10_undo 44 = .ok (.iload_n 1, 1) := by decide +kernel
theorem dX10_undo_45 : decode cX10_undo 45 = .ok (.aload_n 0, 1) := by decide +kernel
theorem dX10_undo_46 : decode cX10_undo 46 = .ok (.getfield 56, 3) := by decide +kernel
theorem dX10_undo_49 : decode cX10_undo 49 = .ok (.sipush 698, 3) := by decide +kernel
theorem dX10_undo_52 : decode cX10_undo 52 = .ok (.aload_n 0, 1) := by decide +kernel
theorem dX10_undo_53 : decode cX10_undo 53 = .ok (.getfield 470, 3) := by decide +kernel
theorem dX10_undo_56 : decode cX10_undo 56 = .ok (.imul, 1) := by decide +kernel
theorem dX10_undo_57 : decode cX10_undo 57 = .ok (.iload_n 1, 1) := by decide +kernel
theorem dX10_undo_58 : decode cX10_undo 58 = .ok (.iadd, 1) := by decide +kernel
theorem dX10_undo_59 : decode cX10_undo 59 = .ok (.iaload, 1) := by decide +kernel
theorem dX10_undo_60 : decode cX10_undo 60 = .ok (.iastore, 1) := by decide +kernel
theorem dX10_undo_61 : decode cX10_undo 61 = .ok (.iinc 1 1, 3) := by decide +kernel
theorem dX10_undo_64 : decode cX10_undo 64 = .ok (.goto (-31), 3) := by decide +kernel
theorem dX10_undo_67 : decode cX10_undo 67 = .ok (.aload_n 0, 1) := by decide +kernel
theorem dX10_undo_68 : decode cX10_undo 68 = .ok (.getfield 470, 3) := by decide +kernel
theorem dX10_undo_71 : decode cX10_undo 71 = .ok (.ireturn, 1) := by decide +kernel
theorem dX10_undoCount_0 : decode cX10_undoCount 0 = .ok (.aload_n 0, 1) := by decide +kernel
theorem dX10_undoCount_1 : decode cX10_undoCount 1 = .ok (.iconst 0, 1) := by decide +kernel
theorem dX10_undoCount_2 : decode cX10_undoCount 2 = .ok (.putfield 3, 3) := by decide +kernel
theorem dX10_undoCount_5 : decode cX10_undoCount 5 = .ok (.aload_n 0, 1) := by decide +kernel
theorem dX10_undoCount_6 : decode cX10_undoCount 6 = .ok (.getfield 470, 3) := by decide +kernel
theorem dX10_undoCount_9 : decode cX10_undoCount 9 = .ok (.ireturn, 1) := by decide +kernel
theorem dX10_write_0 : decode cX10_write 0 = .ok (.aload_n 0, 1) := by decide +kernel
theorem dX10_write_1 : decode cX10_write 1 = .ok (.getfield 59, 3) := by decide +kernel
theorem dX10_write_4 : decode cX10_write 4 = .ok (.aload_n 0, 1) := by decide +kernel
theorem dX10_write_5 : decode cX10_write 5 = .ok (.getfield 473, 3) := by decide +kernel
theorem dX10_write_8 : decode cX10_write 8 = .ok (.iload_n 1, 1) := by decide +kernel
theorem dX10_write_9 : decode cX10_write 9 = .ok (.i2b, 1) := by decide +kernel
theorem dX10_write_10 : decode cX10_write 10 = .ok (.bastore, 1) := by decide +kernel
theorem dX10_write_11 : decode cX10_write 11 = .ok (.aload_n 0, 1) := by decide +kernel
theorem dX10_write_12 : decode cX10_write 12 = .ok (.dup, 1) := by decide +kernel
theorem dX10_write_13 : decode cX10_write 13 = .ok (.getfield 473, 3) := by decide +kernel
theorem dX10_write_16 : decode cX10_write 16 = .ok (.iconst 1, 1) := by decide +kernel
theorem dX10_write_17 : decode cX10_write 17 = .ok (.iadd, 1) := by decide +kernel
theorem dX10_write_18 : decode cX10_write 18 = .ok (.putfield 473, 3) := by decide +kernel
theorem dX10_write_21 : decode cX10_write 21 = .ok (.return_, 1) := by decide +kernel
theorem dX10_writeNumber_0 : decode cX10_writeNumber 0 = .ok (.iconst 1, 1) := by decide +kernel
theorem dX10_writeNumber_1 : decode cX10_writeNumber 1 = .ok (.istore_n 2, 1) := by decide +kernel
theorem dX10_writeNumber_2 : decode cX10_writeNumber 2 = .ok (.iload_n 1, 1) := by decide +kernel
theorem dX10_writeNumber_3 : decode cX10_writeNumber 3 = .ok (.iload_n 2, 1) := by decide +kernel
theorem dX10_writeNumber_4 : decode cX10_writeNumber 4 = .ok (.idiv, 1) := by decide +kernel
theorem dX10_writeNumber_5 : decode cX10_writeNumber 5 = .ok (.bipush 10, 2) := by decide +kernel
theorem dX10_writeNumber_7 : decode cX10_writeNumber 7 = .ok (.if_icmp .lt 11, 3) := by decide +kernel
theorem dX10_writeNumber_10 : decode cX10_writeNumber 10 = .ok (.iload_n 2, 1) := by decide +kernel
theorem dX10_writeNumber_11 : decode cX10_writeNumber 11 = .ok (.bipush 10, 2) := by decide +kernel
theorem dX10_writeNumber_13 : decode cX10_writeNumber 13 = .ok (.imul, 1) := by decide +kernel
theorem dX10_writeNumber_14 : decode cX10_writeNumber 14 = .ok (.istore_n 2, 1) := by decide +kernel
theorem dX10_writeNumber_15 : decode cX10_writeNumber 15 = .ok (.goto (-13), 3) := by decide +kernel
theorem dX10_writeNumber_18 : decode cX10_writeNumber 18 = .ok (.iload_n 2, 1) := by decide +kernel
theorem dX10_writeNumber_19 : decode cX10_writeNumber 19 = .ok (.istore_n 3, 1) := by decide +kernel
theorem dX10_writeNumber_20 : decode cX10_writeNumber 20 = .ok (.iload_n 3, 1) := by decide +kernel
theorem dX10_writeNumber_21 : decode cX10_writeNumber 21 = .ok (.ifCond .le 24, 3) := by decide +kernel
theorem dX10_writeNumber_24 : decode cX10_writeNumber 24 = .ok (.aload_n 0, 1) := by decide +kernel
theorem dX10_writeNumber_25 : decode cX10_writeNumber 25 = .ok (.bipush 48, 2) := by decide +kernel
theorem dX10_writeNumber_27 : decode cX10_writeNumber 27 = .ok (.iload_n 1, 1) := by decide +kernel
theorem dX10_writeNumber_28 : decode cX10_writeNumber 28 = .ok (.iload_n 3, 1) := by decide +kernel
theorem dX10_writeNumber_29 : decode cX10_writeNumber 29 = .ok (.idiv, 1) := by decide +kernel
theorem dX10_writeNumber_30 : decode cX10_writeNumber 30 = .ok (.bipush 10, 2) := by decide +kernel
theorem dX10_writeNumber_32 : decode cX10_writeNumber 32 = .ok (.irem, 1) := by decide +kernel
theorem dX10_writeNumber_33 : decode cX10_writeNumber 33 = .ok (.iadd, 1) := by decide +kernel
theorem dX10_writeNumber_34 : decode cX10_writeNumber 34 = .ok (.invokevirtual 476, 3) := by decide +kernel
theorem dX10_writeNumber_37 : decode cX10_writeNumber 37 = .ok (.iload_n 3, 1) := by decide +kernel
theorem dX10_writeNumber_38 : decode cX10_writeNumber 38 = .ok (.bipush 10, 2) := by decide +kernel
theorem dX10_writeNumber_40 : decode cX10_writeNumber 40 = .ok (.idiv, 1) := by decide +kernel
theorem dX10_writeNumber_41 : decode cX10_writeNumber 41 = .ok (.istore_n 3, 1) := by decide +kernel
theorem dX10_writeNumber_42 : decode cX10_writeNumber 42 = .ok (.goto (-22), 3) := by decide +kernel
theorem dX10_writeNumber_45 : decode cX10_writeNumber 45 = .ok (.return_, 1) := by decide +kernel
theorem dX10_writeBids_0 : decode cX10_writeBids 0 = .ok (.aload_n 0, 1) := by decide +kernel
theorem dX10_writeBids_1 : decode cX10_writeBids 1 = .ok (.iconst 0, 1) := by decide +kernel
theorem dX10_writeBids_2 : decode cX10_writeBids 2 = .ok (.putfield 3, 3) := by decide +kernel
theorem dX10_writeBids_5 : decode cX10_writeBids 5 = .ok (.aload_n 0, 1) := by decide +kernel
theorem dX10_writeBids_6 : decode cX10_writeBids 6 = .ok (.invokevirtual 175, 3) := by decide +kernel
theorem dX10_writeBids_9 : decode cX10_writeBids 9 = .ok (.aload_n 0, 1) := by decide +kernel
theorem dX10_writeBids_10 : decode cX10_writeBids 10 = .ok (.iconst 0, 1) := by decide +kernel
theorem dX10_writeBids_11 : decode cX10_writeBids 11 = .ok (.putfield 473, 3) := by decide +kernel
theorem dX10_writeBids_14 : decode cX10_writeBids 14 = .ok (.iconst 0, 1) := by decide +kernel
theorem dX10_writeBids_15 : decode cX10_writeBids 15 = .ok (.istore_n 1, 1) := by decide +kernel
theorem dX10_writeBids_16 : decode cX10_writeBids 16 = .ok (.iload_n 1, 1) := by decide +kernel
theorem dX10_writeBids_17 : decode cX10_writeBids 17 = .ok (.aload_n 0, 1) := by decide +kernel
theorem dX10_writeBids_18 : decode cX10_writeBids 18 = .ok (.getfield 161, 3) := by decide +kernel
theorem dX10_writeBids_21 : decode cX10_writeBids 21 = .ok (.if_icmp .ge 96, 3) := by decide +kernel
theorem dX10_writeBids_24 : decode cX10_writeBids 24 = .ok (.iconst 0, 1) := by decide +kernel
theorem dX10_writeBids_25 : decode cX10_writeBids 25 = .ok (.istore_n 2, 1) := by decide +kernel
theorem dX10_writeBids_26 : decode cX10_writeBids 26 = .ok (.iload_n 2, 1) := by decide +kernel
theorem dX10_writeBids_27 : decode cX10_writeBids 27 = .ok (.bipush 6, 2) := by decide +kernel
theorem dX10_writeBids_29 : decode cX10_writeBids 29 = .ok (.if_icmp .ge 44, 3) := by decide +kernel
theorem dX10_writeBids_32 : decode cX10_writeBids 32 = .ok (.aload_n 0, 1) := by decide +kernel
theorem dX10_writeBids_33 : decode cX10_writeBids 33 = .ok (.aload_n 0, 1) := by decide +kernel
theorem dX10_writeBids_34 : decode cX10_writeBids 34 = .ok (.getfield 31, 3) := by decide +kernel
theorem dX10_writeBids_37 : decode cX10_writeBids 37 = .ok (.iload_n 1, 1) := by decide +kernel
theorem dX10_writeBids_38 : decode cX10_writeBids 38 = .ok (.iaload, 1) := by decide +kernel
theorem dX10_writeBids_39 : decode cX10_writeBids 39 = .ok (.bipush 17, 2) := by decide +kernel
theorem dX10_writeBids_41 : decode cX10_writeBids 41 = .ok (.iload_n 2, 1) := by decide +kernel
theorem dX10_writeBids_42 : decode cX10_writeBids 42 = .ok (.iadd, 1) := by decide +kernel
theorem dX10_writeBids_43 : decode cX10_writeBids 43 = .ok (.invokevirtual 66, 3) := by decide +kernel
theorem dX10_writeBids_46 : decode cX10_writeBids 46 = .ok (.ifCond .eq 27, 3) := by decide +kernel
theorem dX10_writeBids_49 : decode cX10_writeBids 49 = .ok (.aload_n 0, 1) := by decide +kernel
theorem dX10_writeBids_50 : decode cX10_writeBids 50 = .ok (.aload_n 0, 1) := by decide +kernel
theorem dX10_writeBids_51 : decode cX10_writeBids 51 = .ok (.aload_n 0, 1) := by decide +kernel
theorem dX10_writeBids_52 : decode cX10_writeBids 52 = .ok (.getfield 31, 3) := by decide +kernel
theorem dX10_writeBids_55 : decode cX10_writeBids 55 = .ok (.iload_n 1, 1) := by decide +kernel
theorem dX10_writeBids_56 : decode cX10_writeBids 56 = .ok (.iaload, 1) := by decide +kernel
theorem dX10_writeBids_57 : decode cX10_writeBids 57 = .ok (.bipush 17, 2) := by decide +kernel
theorem dX10_writeBids_59 : decode cX10_writeBids 59 = .ok (.iload_n 2, 1) := by decide +kernel
theorem dX10_writeBids_60 : decode cX10_writeBids 60 = .ok (.iadd, 1) := by decide +kernel
theorem dX10_writeBids_61 : decode cX10_writeBids 61 = .ok (.invokevirtual 66, 3) := by decide +kernel
theorem dX10_writeBids_64 : decode cX10_writeBids 64 = .ok (.invokevirtual 476, 3) := by decide +kernel
theorem dX10_writeBids_67 : decode cX10_writeBids 67 = .ok (.iinc 2 1, 3) := by decide +kernel
theorem dX10_writeBids_70 : decode cX10_writeBids 70 = .ok (.goto (-44), 3) := by decide +kernel
theorem dX10_writeBids_73 : decode cX10_writeBids 73 = .ok (.aload_n 0, 1) := by decide +kernel
theorem dX10_writeBids_74 : decode cX10_writeBids 74 = .ok (.bipush 58, 2) := by decide +kernel
theorem dX10_writeBids_76 : decode cX10_writeBids 76 = .ok (.invokevirtual 476, 3) := by decide +kernel
theorem dX10_writeBids_79 : decode cX10_writeBids 79 = .ok (.aload_n 0, 1) := by decide +kernel
theorem dX10_writeBids_80 : decode cX10_writeBids 80 = .ok (.aload_n 0, 1) := by decide +kernel
theorem dX10_writeBids_81 : decode cX10_writeBids 81 = .ok (.getfield 34, 3) := by decide +kernel
theorem dX10_writeBids_84 : decode cX10_writeBids 84 = .ok (.iload_n 1, 1) := by decide +kernel
theorem dX10_writeBids_85 : decode cX10_writeBids 85 = .ok (.iaload, 1) := by decide +kernel
theorem dX10_writeBids_86 : decode cX10_writeBids 86 = .ok (.invokevirtual 479, 3) := by decide +kernel
theorem dX10_writeBids_89 : decode cX10_writeBids 89 = .ok (.aload_n 0, 1) := by decide +kernel
theorem dX10_writeBids_90 : decode cX10_writeBids 90 = .ok (.bipush 47, 2) := by decide +kernel
theorem dX10_writeBids_92 : decode cX10_writeBids 92 = .ok (.invokevirtual 476, 3) := by decide +kernel
theorem dX10_writeBids_95 : decode cX10_writeBids 95 = .ok (.aload_n 0, 1) := by decide +kernel
theorem dX10_writeBids_96 : decode cX10_writeBids 96 = .ok (.aload_n 0, 1) := by decide +kernel
theorem dX10_writeBids_97 : decode cX10_writeBids 97 = .ok (.getfield 37, 3) := by decide +kernel
theorem dX10_writeBids_100 : decode cX10_writeBids 100 = .ok (.iload_n 1, 1) := by decide +kernel
theorem dX10_writeBids_101 : decode cX10_writeBids 101 = .ok (.iaload, 1) := by decide +kernel
theorem dX10_writeBids_102 : decode cX10_writeBids 102 = .ok (.invokevirtual 479, 3) := by decide +kernel
theorem dX10_writeBids_105 : decode cX10_writeBids 105 = .ok (.aload_n 0, 1) := by decide +kernel
theorem dX10_writeBids_106 : decode cX10_writeBids 106 = .ok (.bipush 10, 2) := by decide +kernel
theorem dX10_writeBids_108 : decode cX10_writeBids 108 = .ok (.invokevirtual 476, 3) := by decide +kernel
theorem dX10_writeBids_111 : decode cX10_writeBids 111 = .ok (.iinc 1 1, 3) := by decide +kernel
theorem dX10_writeBids_114 : decode cX10_writeBids 114 = .ok (.goto (-98), 3) := by decide +kernel
theorem dX10_writeBids_117 : decode cX10_writeBids 117 = .ok (.aload_n 0, 1) := by decide +kernel
theorem dX10_writeBids_118 : decode cX10_writeBids 118 = .ok (.getfield 473, 3) := by decide +kernel
theorem dX10_writeBids_121 : decode cX10_writeBids 121 = .ok (.ireturn, 1) := by decide +kernel
theorem dX10_outputByte_0 : decode cX10_outputByte 0 = .ok (.aload_n 0, 1) := by decide +kernel
theorem dX10_outputByte_1 : decode cX10_outputByte 1 = .ok (.iload_n 1, 1) := by decide +kernel
theorem dX10_outputByte_2 : decode cX10_outputByte 2 = .ok (.i2l, 1) := by decide +kernel
theorem dX10_outputByte_3 : decode cX10_outputByte 3 = .ok (.lconst 0, 1) := by decide +kernel
theorem dX10_outputByte_4 : decode cX10_outputByte 4 = .ok (.aload_n 0, 1) := by decide +kernel
theorem dX10_outputByte_5 : decode cX10_outputByte 5 = .ok (.getfield 473, 3) := by decide +kernel
theorem dX10_outputByte_8 : decode cX10_outputByte 8 = .ok (.iconst 1, 1) := by decide +kernel
theorem dX10_outputByte_9 : decode cX10_outputByte 9 = .ok (.isub, 1) := by decide +kernel
theorem dX10_outputByte_10 : decode cX10_outputByte 10 = .ok (.i2l, 1) := by decide +kernel
theorem dX10_outputByte_11 : decode cX10_outputByte 11 = .ok (.invokestatic 62, 3) := by decide +kernel
theorem dX10_outputByte_14 : decode cX10_outputByte 14 = .ok (.invokevirtual 216, 3) := by decide +kernel
theorem dX10_outputByte_17 : decode cX10_outputByte 17 = .ok (.ifCond .eq 12, 3) := by decide +kernel
theorem dX10_outputByte_20 : decode cX10_outputByte 20 = .ok (.aload_n 0, 1) := by decide +kernel
theorem dX10_outputByte_21 : decode cX10_outputByte 21 = .ok (.getfield 59, 3) := by decide +kernel
theorem dX10_outputByte_24 : decode cX10_outputByte 24 = .ok (.iload_n 1, 1) := by decide +kernel
theorem dX10_outputByte_25 : decode cX10_outputByte 25 = .ok (.baload, 1) := by decide +kernel
theorem dX10_outputByte_26 : decode cX10_outputByte 26 = .ok (.goto 4, 3) := by decide +kernel
theorem dX10_outputByte_29 : decode cX10_outputByte 29 = .ok (.iconst 0, 1) := by decide +kernel
theorem dX10_outputByte_30 : decode cX10_outputByte 30 = .ok (.ireturn, 1) := by decide +kernel
