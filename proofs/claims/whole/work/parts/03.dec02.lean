theorem dX0_init_0 : decode cX0_init 0 = .ok (.aload_n 0, 1) := by decide +kernel
theorem dX0_init_1 : decode cX0_init 1 = .ok (.invokespecial 3, 3) := by decide +kernel
theorem dX0_init_4 : decode cX0_init 4 = .ok (.aload_n 0, 1) := by decide +kernel
theorem dX0_init_5 : decode cX0_init 5 = .ok (.new 9, 3) := by decide +kernel
theorem dX0_init_8 : decode cX0_init 8 = .ok (.dup, 1) := by decide +kernel
theorem dX0_init_9 : decode cX0_init 9 = .ok (.invokespecial 11, 3) := by decide +kernel
theorem dX0_init_12 : decode cX0_init 12 = .ok (.putfield 12, 3) := by decide +kernel
theorem dX0_init_15 : decode cX0_init 15 = .ok (.aload_n 0, 1) := by decide +kernel
theorem dX0_init_16 : decode cX0_init 16 = .ok (.new 18, 3) := by decide +kernel
theorem dX0_init_19 : decode cX0_init 19 = .ok (.dup, 1) := by decide +kernel
theorem dX0_init_20 : decode cX0_init 20 = .ok (.bipush 10, 2) := by decide +kernel
theorem dX0_init_22 : decode cX0_init 22 = .ok (.iconst 4, 1) := by decide +kernel
theorem dX0_init_23 : decode cX0_init 23 = .ok (.invokespecial 20, 3) := by decide +kernel
theorem dX0_init_26 : decode cX0_init 26 = .ok (.putfield 23, 3) := by decide +kernel
theorem dX0_init_29 : decode cX0_init 29 = .ok (.return_, 1) := by decide +kernel
theorem dX0_hold_0 : decode cX0_hold 0 = .ok (.aload_n 0, 1) := by decide +kernel
theorem dX0_hold_1 : decode cX0_hold 1 = .ok (.getfield 23, 3) := by decide +kernel
theorem dX0_hold_4 : decode cX0_hold 4 = .ok (.invokevirtual 27, 3) := by decide +kernel
theorem dX0_hold_7 : decode cX0_hold 7 = .ok (.iconst 0, 1) := by decide +kernel
theorem dX0_hold_8 : decode cX0_hold 8 = .ok (.istore_n 2, 1) := by decide +kernel
theorem dX0_hold_9 : decode cX0_hold 9 = .ok (.iload_n 2, 1) := by decide +kernel
theorem dX0_hold_10 : decode cX0_hold 10 = .ok (.aload_n 1, 1) := by decide +kernel
theorem dX0_hold_11 : decode cX0_hold 11 = .ok (.getfield 30, 3) := by decide +kernel
theorem dX0_hold_14 : decode cX0_hold 14 = .ok (.getfield 35, 3) := by decide +kernel
theorem dX0_hold_17 : decode cX0_hold 17 = .ok (.if_icmp .ge 26, 3) := by decide +kernel
theorem dX0_hold_20 : decode cX0_hold 20 = .ok (.aload_n 0, 1) := by decide +kernel
theorem dX0_hold_21 : decode cX0_hold 21 = .ok (.aload_n 1, 1) := by decide +kernel
theorem dX0_hold_22 : decode cX0_hold 22 = .ok (.iload_n 2, 1) := by decide +kernel
theorem dX0_hold_23 : decode cX0_hold 23 = .ok (.invokevirtual 39, 3) := by decide +kernel
theorem dX0_hold_26 : decode cX0_hold 26 = .ok (.istore_n 3, 1) := by decide +kernel
theorem dX0_hold_27 : decode cX0_hold 27 = .ok (.iload_n 3, 1) := by decide +kernel
theorem dX0_hold_28 : decode cX0_hold 28 = .ok (.ifCond .le 9, 3) := by decide +kernel
theorem dX0_hold_31 : decode cX0_hold 31 = .ok (.aload_n 0, 1) := by decide +kernel
theorem dX0_hold_32 : decode cX0_hold 32 = .ok (.iload_n 2, 1) := by decide +kernel
theorem dX0_hold_33 : decode cX0_hold 33 = .ok (.iload_n 3, 1) := by decide +kernel
theorem dX0_hold_34 : decode cX0_hold 34 = .ok (.invokevirtual 43, 3) := by decide +kernel
theorem dX0_hold_37 : decode cX0_hold 37 = .ok (.iinc 2 1, 3) := by decide +kernel
theorem dX0_hold_40 : decode cX0_hold 40 = .ok (.goto (-31), 3) := by decide +kernel
theorem dX0_hold_43 : decode cX0_hold 43 = .ok (.aload_n 0, 1) := by decide +kernel
theorem dX0_hold_44 : decode cX0_hold 44 = .ok (.aload_n 1, 1) := by decide +kernel
theorem dX0_hold_45 : decode cX0_hold 45 = .ok (.invokevirtual 46, 3) := by decide +kernel
theorem dX0_hold_48 : decode cX0_hold 48 = .ok (.iconst 0, 1) := by decide +kernel
theorem dX0_hold_49 : decode cX0_hold 49 = .ok (.istore_n 2, 1) := by decide +kernel
theorem dX0_hold_50 : decode cX0_hold 50 = .ok (.iload_n 2, 1) := by decide +kernel
theorem dX0_hold_51 : decode cX0_hold 51 = .ok (.aload_n 0, 1) := by decide +kernel
theorem dX0_hold_52 : decode cX0_hold 52 = .ok (.getfield 23, 3) := by decide +kernel
theorem dX0_hold_55 : decode cX0_hold 55 = .ok (.getfield 35, 3) := by decide +kernel
theorem dX0_hold_58 : decode cX0_hold 58 = .ok (.if_icmp .ge 50, 3) := by decide +kernel
theorem dX0_hold_61 : decode cX0_hold 61 = .ok (.aload_n 0, 1) := by decide +kernel
theorem dX0_hold_62 : decode cX0_hold 62 = .ok (.getfield 23, 3) := by decide +kernel
theorem dX0_hold_65 : decode cX0_hold 65 = .ok (.iload_n 2, 1) := by decide +kernel
theorem dX0_hold_66 : decode cX0_hold 66 = .ok (.iconst 2, 1) := by decide +kernel
theorem dX0_hold_67 : decode cX0_hold 67 = .ok (.invokevirtual 50, 3) := by decide +kernel
theorem dX0_hold_70 : decode cX0_hold 70 = .ok (.ifCond .le 7, 3) := by decide +kernel
theorem dX0_hold_73 : decode cX0_hold 73 = .ok (.iconst 1, 1) := by decide +kernel
theorem dX0_hold_74 : decode cX0_hold 74 = .ok (.goto 4, 3) := by decide +kernel
theorem dX0_hold_77 : decode cX0_hold 77 = .ok (.iconst 0, 1) := by decide +kernel
theorem dX0_hold_78 : decode cX0_hold 78 = .ok (.istore_n 3, 1) := by decide +kernel
theorem dX0_hold_79 : decode cX0_hold 79 = .ok (.aload_n 0, 1) := by decide +kernel
theorem dX0_hold_80 : decode cX0_hold 80 = .ok (.getfield 23, 3) := by decide +kernel
theorem dX0_hold_83 : decode cX0_hold 83 = .ok (.iload_n 2, 1) := by decide +kernel
theorem dX0_hold_84 : decode cX0_hold 84 = .ok (.iconst 3, 1) := by decide +kernel
theorem dX0_hold_85 : decode cX0_hold 85 = .ok (.iload_n 3, 1) := by decide +kernel
theorem dX0_hold_86 : decode cX0_hold 86 = .ok (.ifCond .eq 12, 3) := by decide +kernel
theorem dX0_hold_89 : decode cX0_hold 89 = .ok (.aload_n 0, 1) := by decide +kernel
theorem dX0_hold_90 : decode cX0_hold 90 = .ok (.aload_n 1, 1) := by decide +kernel
theorem dX0_hold_91 : decode cX0_hold 91 = .ok (.iload_n 2, 1) := by decide +kernel
theorem dX0_hold_92 : decode cX0_hold 92 = .ok (.invokevirtual 54, 3) := by decide +kernel
theorem dX0_hold_95 : decode cX0_hold 95 = .ok (.goto 4, 3) := by decide +kernel
theorem dX0_hold_98 : decode cX0_hold 98 = .ok (.iconst 0, 1) := by decide +kernel
theorem dX0_hold_99 : decode cX0_hold 99 = .ok (.invokevirtual 57, 3) := by decide +kernel
theorem dX0_hold_102 : decode cX0_hold 102 = .ok (.iinc 2 1, 3) := by decide +kernel
theorem dX0_hold_105 : decode cX0_hold 105 = .ok (.goto (-55), 3) := by decide +kernel
theorem dX0_hold_108 : decode cX0_hold 108 = .ok (.return_, 1) := by decide +kernel
theorem dX0_offerOf_0 : decode cX0_offerOf 0 = .ok (.aload_n 1, 1) := by decide +kernel
theorem dX0_offerOf_1 : decode cX0_offerOf 1 = .ok (.getfield 30, 3) := by decide +kernel
theorem dX0_offerOf_4 : decode cX0_offerOf 4 = .ok (.iload_n 2, 1) := by decide +kernel
theorem dX0_offerOf_5 : decode cX0_offerOf 5 = .ok (.iconst 5, 1) := by decide +kernel
theorem dX0_offerOf_6 : decode cX0_offerOf 6 = .ok (.invokevirtual 50, 3) := by decide +kernel
theorem dX0_offerOf_9 : decode cX0_offerOf 9 = .ok (.i2l, 1) := by decide +kernel
theorem dX0_offerOf_10 : decode cX0_offerOf 10 = .ok (.lstore_n 3, 1) := by decide +kernel
theorem dX0_offerOf_11 : decode cX0_offerOf 11 = .ok (.ldc2_w 61, 3) := by decide +kernel
theorem dX0_offerOf_14 : decode cX0_offerOf 14 = .ok (.lload_n 3, 1) := by decide +kernel
theorem dX0_offerOf_15 : decode cX0_offerOf 15 = .ok (.aload_n 0, 1) := by decide +kernel
theorem dX0_offerOf_16 : decode cX0_offerOf 16 = .ok (.getfield 12, 3) := by decide +kernel
theorem dX0_offerOf_19 : decode cX0_offerOf 19 = .ok (.aload_n 1, 1) := by decide +kernel
theorem dX0_offerOf_20 : decode cX0_offerOf 20 = .ok (.iload_n 2, 1) := by decide +kernel
theorem dX0_offerOf_21 : decode cX0_offerOf 21 = .ok (.iconst 0, 1) := by decide +kernel
theorem dX0_offerOf_22 : decode cX0_offerOf 22 = .ok (.invokevirtual 63, 3) := by decide +kernel
theorem dX0_offerOf_25 : decode cX0_offerOf 25 = .ok (.i2l, 1) := by decide +kernel
theorem dX0_offerOf_26 : decode cX0_offerOf 26 = .ok (.lmul, 1) := by decide +kernel
theorem dX0_offerOf_27 : decode cX0_offerOf 27 = .ok (.ldc2_w 67, 3) := by decide +kernel
theorem dX0_offerOf_30 : decode cX0_offerOf 30 = .ok (.ldiv, 1) := by decide +kernel
theorem dX0_offerOf_31 : decode cX0_offerOf 31 = .ok (.invokestatic 69, 3) := by decide +kernel
theorem dX0_offerOf_34 : decode cX0_offerOf 34 = .ok (.l2i, 1) := by decide +kernel
theorem dX0_offerOf_35 : decode cX0_offerOf 35 = .ok (.ireturn, 1) := by decide +kernel
theorem dX0_bidOf_0 : decode cX0_bidOf 0 = .ok (.aload_n 1, 1) := by decide +kernel
theorem dX0_bidOf_1 : decode cX0_bidOf 1 = .ok (.iload_n 2, 1) := by decide +kernel
theorem dX0_bidOf_2 : decode cX0_bidOf 2 = .ok (.invokevirtual 75, 3) := by decide +kernel
theorem dX0_bidOf_5 : decode cX0_bidOf 5 = .ok (.ifCond .le 16, 3) := by decide +kernel
theorem dX0_bidOf_8 : decode cX0_bidOf 8 = .ok (.aload_n 1, 1) := by decide +kernel
theorem dX0_bidOf_9 : decode cX0_bidOf 9 = .ok (.iload_n 2, 1) := by decide +kernel
theorem dX0_bidOf_10 : decode cX0_bidOf 10 = .ok (.iconst 0, 1) := by decide +kernel
theorem dX0_bidOf_11 : decode cX0_bidOf 11 = .ok (.invokevirtual 79, 3) := by decide +kernel
theorem dX0_bidOf_14 : decode cX0_bidOf 14 = .ok (.ifCond .lt 7, 3) := by decide +kernel
theorem dX0_bidOf_17 : decode cX0_bidOf 17 = .ok (.iconst 1, 1) := by decide +kernel
theorem dX0_bidOf_18 : decode cX0_bidOf 18 = .ok (.goto 4, 3) := by decide +kernel
theorem dX0_bidOf_21 : decode cX0_bidOf 21 = .ok (.iconst 0, 1) := by decide +kernel
theorem dX0_bidOf_22 : decode cX0_bidOf 22 = .ok (.istore_n 3, 1) := by decide +kernel
theorem dX0_bidOf_23 : decode cX0_bidOf 23 = .ok (.iload_n 3, 1) := by decide +kernel
theorem dX0_bidOf_24 : decode cX0_bidOf 24 = .ok (.ifCond .eq 12, 3) := by decide +kernel
theorem dX0_bidOf_27 : decode cX0_bidOf 27 = .ok (.aload_n 1, 1) := by decide +kernel
theorem dX0_bidOf_28 : decode cX0_bidOf 28 = .ok (.iload_n 2, 1) := by decide +kernel
theorem dX0_bidOf_29 : decode cX0_bidOf 29 = .ok (.invokevirtual 82, 3) := by decide +kernel
theorem dX0_bidOf_32 : decode cX0_bidOf 32 = .ok (.iconst (-1), 1) := by decide +kernel
theorem dX0_bidOf_33 : decode cX0_bidOf 33 = .ok (.if_icmp .ne 5, 3) := by decide +kernel
theorem dX0_bidOf_36 : decode cX0_bidOf 36 = .ok (.iconst 0, 1) := by decide +kernel
theorem dX0_bidOf_37 : decode cX0_bidOf 37 = .ok (.ireturn, 1) := by decide +kernel
theorem dX0_bidOf_38 : decode cX0_bidOf 38 = .ok (.aload_n 0, 1) := by decide +kernel
theorem dX0_bidOf_39 : decode cX0_bidOf 39 = .ok (.aload_n 1, 1) := by decide +kernel
theorem dX0_bidOf_40 : decode cX0_bidOf 40 = .ok (.iload_n 2, 1) := by decide +kernel
theorem dX0_bidOf_41 : decode cX0_bidOf 41 = .ok (.invokevirtual 85, 3) := by decide +kernel
theorem dX0_bidOf_44 : decode cX0_bidOf 44 = .ok (.istore 4, 2) := by decide +kernel
theorem dX0_bidOf_46 : decode cX0_bidOf 46 = .ok (.iload 4, 2) := by decide +kernel
theorem dX0_bidOf_48 : decode cX0_bidOf 48 = .ok (.aload_n 1, 1) := by decide +kernel
theorem dX0_bidOf_49 : decode cX0_bidOf 49 = .ok (.getfield 88, 3) := by decide +kernel
theorem dX0_bidOf_52 : decode cX0_bidOf 52 = .ok (.if_icmp .lt 8, 3) := by decide +kernel
theorem dX0_bidOf_55 : decode cX0_bidOf 55 = .ok (.iload 4, 2) := by decide +kernel
theorem dX0_bidOf_57 : decode cX0_bidOf 57 = .ok (.goto 4, 3) := by decide +kernel
theorem dX0_bidOf_60 : decode cX0_bidOf 60 = .ok (.iconst 0, 1) := by decide +kernel
theorem dX0_bidOf_61 : decode cX0_bidOf 61 = .ok (.ireturn, 1) := by decide +kernel
theorem dX0_enter_0 : decode cX0_enter 0 = .ok (.iconst 0, 1) := by decide +kernel
theorem dX0_enter_1 : decode cX0_enter 1 = .ok (.istore_n 3, 1) := by decide +kernel
theorem dX0_enter_2 : decode cX0_enter 2 = .ok (.iconst 0, 1) := by decide +kernel
theorem dX0_enter_3 : decode cX0_enter 3 = .ok (.istore 4, 2) := by decide +kernel
theorem dX0_enter_5 : decode cX0_enter 5 = .ok (.iload 4, 2) := by decide +kernel
theorem dX0_enter_7 : decode cX0_enter 7 = .ok (.aload_n 0, 1) := by decide +kernel
theorem dX0_enter_8 : decode cX0_enter 8 = .ok (.getfield 23, 3) := by decide +kernel
theorem dX0_enter_11 : decode cX0_enter 11 = .ok (.getfield 35, 3) := by decide +kernel
theorem dX0_enter_14 : decode cX0_enter 14 = .ok (.if_icmp .ge 28, 3) := by decide +kernel
theorem dX0_enter_17 : decode cX0_enter 17 = .ok (.aload_n 0, 1) := by decide +kernel
theorem dX0_enter_18 : decode cX0_enter 18 = .ok (.getfield 23, 3) := by decide +kernel
theorem dX0_enter_21 : decode cX0_enter 21 = .ok (.iload 4, 2) := by decide +kernel
theorem dX0_enter_23 : decode cX0_enter 23 = .ok (.iconst 1, 1) := by decide +kernel
theorem dX0_enter_24 : decode cX0_enter 24 = .ok (.invokevirtual 50, 3) := by decide +kernel
theorem dX0_enter_27 : decode cX0_enter 27 = .ok (.iload_n 2, 1) := by decide +kernel
theorem dX0_enter_28 : decode cX0_enter 28 = .ok (.if_icmp .lt 8, 3) := by decide +kernel
theorem dX0_enter_31 : decode cX0_enter 31 = .ok (.iload 4, 2) := by decide +kernel
theorem dX0_enter_33 : decode cX0_enter 33 = .ok (.iconst 1, 1) := by decide +kernel
theorem dX0_enter_34 : decode cX0_enter 34 = .ok (.iadd, 1) := by decide +kernel
theorem dX0_enter_35 : decode cX0_enter 35 = .ok (.istore_n 3, 1) := by decide +kernel
theorem dX0_enter_36 : decode cX0_enter 36 = .ok (.iinc 4 1, 3) := by decide +kernel
theorem dX0_enter_39 : decode cX0_enter 39 = .ok (.goto (-34), 3) := by decide +kernel
theorem dX0_enter_42 : decode cX0_enter 42 = .ok (.aload_n 0, 1) := by decide +kernel
theorem dX0_enter_43 : decode cX0_enter 43 = .ok (.getfield 23, 3) := by decide +kernel
theorem dX0_enter_46 : decode cX0_enter 46 = .ok (.iload_n 3, 1) := by decide +kernel
theorem dX0_enter_47 : decode cX0_enter 47 = .ok (.invokevirtual 91, 3) := by decide +kernel
theorem dX0_enter_50 : decode cX0_enter 50 = .ok (.aload_n 0, 1) := by decide +kernel
theorem dX0_enter_51 : decode cX0_enter 51 = .ok (.getfield 23, 3) := by decide +kernel
theorem dX0_enter_54 : decode cX0_enter 54 = .ok (.iload_n 3, 1) := by decide +kernel
theorem dX0_enter_55 : decode cX0_enter 55 = .ok (.iconst 0, 1) := by decide +kernel
theorem dX0_enter_56 : decode cX0_enter 56 = .ok (.iload_n 1, 1) := by decide +kernel
theorem dX0_enter_57 : decode cX0_enter 57 = .ok (.invokevirtual 57, 3) := by decide +kernel
theorem dX0_enter_60 : decode cX0_enter 60 = .ok (.aload_n 0, 1) := by decide +kernel
theorem dX0_enter_61 : decode cX0_enter 61 = .ok (.getfield 23, 3) := by decide +kernel
theorem dX0_enter_64 : decode cX0_enter 64 = .ok (.iload_n 3, 1) := by decide +kernel
theorem dX0_enter_65 : decode cX0_enter 65 = .ok (.iconst 1, 1) := by decide +kernel
theorem dX0_enter_66 : decode cX0_enter 66 = .ok (.iload_n 2, 1) := by decide +kernel
theorem dX0_enter_67 : decode cX0_enter 67 = .ok (.invokevirtual 57, 3) := by decide +kernel
theorem dX0_enter_70 : decode cX0_enter 70 = .ok (.return_, 1) := by decide +kernel
theorem dX0_sell_0 : decode cX0_sell 0 = .ok (.aload_n 0, 1) := by decide +kernel
theorem dX0_sell_1 : decode cX0_sell 1 = .ok (.iconst 0, 1) := by decide +kernel
theorem dX0_sell_2 : decode cX0_sell 2 = .ok (.putfield 95, 3) := by decide +kernel
theorem dX0_sell_5 : decode cX0_sell 5 = .ok (.aload_n 0, 1) := by decide +kernel
theorem dX0_sell_6 : decode cX0_sell 6 = .ok (.aload_n 1, 1) := by decide +kernel
theorem dX0_sell_7 : decode cX0_sell 7 = .ok (.getfield 88, 3) := by decide +kernel
theorem dX0_sell_10 : decode cX0_sell 10 = .ok (.putfield 98, 3) := by decide +kernel
theorem dX0_sell_13 : decode cX0_sell 13 = .ok (.iconst 0, 1) := by decide +kernel
theorem dX0_sell_14 : decode cX0_sell 14 = .ok (.istore_n 2, 1) := by decide +kernel
theorem dX0_sell_15 : decode cX0_sell 15 = .ok (.iconst 0, 1) := by decide +kernel
theorem dX0_sell_16 : decode cX0_sell 16 = .ok (.istore_n 3, 1) := by decide +kernel
theorem dX0_sell_17 : decode cX0_sell 17 = .ok (.iload_n 3, 1) := by decide +kernel
theorem dX0_sell_18 : decode cX0_sell 18 = .ok (.aload_n 0, 1) := by decide +kernel
theorem dX0_sell_19 : decode cX0_sell 19 = .ok (.getfield 23, 3) := by decide +kernel
theorem dX0_sell_22 : decode cX0_sell 22 = .ok (.getfield 35, 3) := by decide +kernel
theorem dX0_sell_25 : decode cX0_sell 25 = .ok (.if_icmp .ge 108, 3) := by decide +kernel
theorem dX0_sell_28 : decode cX0_sell 28 = .ok (.aload_n 1, 1) := by decide +kernel
theorem dX0_sell_29 : decode cX0_sell 29 = .ok (.aload_n 0, 1) := by decide +kernel
theorem dX0_sell_30 : decode cX0_sell 30 = .ok (.getfield 23, 3) := by decide +kernel
theorem dX0_sell_33 : decode cX0_sell 33 = .ok (.iload_n 3, 1) := by decide +kernel
theorem dX0_sell_34 : decode cX0_sell 34 = .ok (.iconst 0, 1) := by decide +kernel
theorem dX0_sell_35 : decode cX0_sell 35 = .ok (.invokevirtual 50, 3) := by decide +kernel
theorem dX0_sell_38 : decode cX0_sell 38 = .ok (.invokevirtual 75, 3) := by decide +kernel
theorem dX0_sell_41 : decode cX0_sell 41 = .ok (.istore 4, 2) := by decide +kernel
theorem dX0_sell_43 : decode cX0_sell 43 = .ok (.aload_n 0, 1) := by decide +kernel
theorem dX0_sell_44 : decode cX0_sell 44 = .ok (.aload_n 1, 1) := by decide +kernel
theorem dX0_sell_45 : decode cX0_sell 45 = .ok (.iload_n 3, 1) := by decide +kernel
theorem dX0_sell_46 : decode cX0_sell 46 = .ok (.invokevirtual 101, 3) := by decide +kernel
theorem dX0_sell_49 : decode cX0_sell 49 = .ok (.istore 5, 2) := by decide +kernel
theorem dX0_sell_51 : decode cX0_sell 51 = .ok (.iload 4, 2) := by decide +kernel
theorem dX0_sell_53 : decode cX0_sell 53 = .ok (.iload 5, 2) := by decide +kernel
theorem dX0_sell_55 : decode cX0_sell 55 = .ok (.invokestatic 104, 3) := by decide +kernel
theorem dX0_sell_58 : decode cX0_sell 58 = .ok (.aload_n 1, 1) := by decide +kernel
theorem dX0_sell_59 : decode cX0_sell 59 = .ok (.invokevirtual 106, 3) := by decide +kernel
theorem dX0_sell_62 : decode cX0_sell 62 = .ok (.aload_n 0, 1) := by decide +kernel
theorem dX0_sell_63 : decode cX0_sell 63 = .ok (.getfield 95, 3) := by decide +kernel
theorem dX0_sell_66 : decode cX0_sell 66 = .ok (.isub, 1) := by decide +kernel
theorem dX0_sell_67 : decode cX0_sell 67 = .ok (.invokestatic 104, 3) := by decide +kernel
theorem dX0_sell_70 : decode cX0_sell 70 = .ok (.istore 6, 2) := by decide +kernel
theorem dX0_sell_72 : decode cX0_sell 72 = .ok (.iload_n 2, 1) := by decide +kernel
theorem dX0_sell_73 : decode cX0_sell 73 = .ok (.ifCond .ne 32, 3) := by decide +kernel
theorem dX0_sell_76 : decode cX0_sell 76 = .ok (.iload 6, 2) := by decide +kernel
theorem dX0_sell_78 : decode cX0_sell 78 = .ok (.iload 4, 2) := by decide +kernel
theorem dX0_sell_80 : decode cX0_sell 80 = .ok (.if_icmp .ge 25, 3) := by decide +kernel
theorem dX0_sell_83 : decode cX0_sell 83 = .ok (.iload 6, 2) := by decide +kernel
theorem dX0_sell_85 : decode cX0_sell 85 = .ok (.iload 5, 2) := by decide +kernel
theorem dX0_sell_87 : decode cX0_sell 87 = .ok (.if_icmp .ge 18, 3) := by decide +kernel
theorem dX0_sell_90 : decode cX0_sell 90 = .ok (.iconst 1, 1) := by decide +kernel
theorem dX0_sell_91 : decode cX0_sell 91 = .ok (.istore_n 2, 1) := by decide +kernel
theorem dX0_sell_92 : decode cX0_sell 92 = .ok (.aload_n 0, 1) := by decide +kernel
theorem dX0_sell_93 : decode cX0_sell 93 = .ok (.aload_n 0, 1) := by decide +kernel
theorem dX0_sell_94 : decode cX0_sell 94 = .ok (.getfield 23, 3) := by decide +kernel
theorem dX0_sell_97 : decode cX0_sell 97 = .ok (.iload_n 3, 1) := by decide +kernel
theorem dX0_sell_98 : decode cX0_sell 98 = .ok (.iconst 1, 1) := by decide +kernel
theorem dX0_sell_99 : decode cX0_sell 99 = .ok (.invokevirtual 50, 3) := by decide +kernel
theorem dX0_sell_102 : decode cX0_sell 102 = .ok (.putfield 98, 3) := by decide +kernel
theorem dX0_sell_105 : decode cX0_sell 105 = .ok (.aload_n 0, 1) := by decide +kernel
theorem dX0_sell_106 : decode cX0_sell 106 = .ok (.getfield 23, 3) := by decide +kernel
theorem dX0_sell_109 : decode cX0_sell 109 = .ok (.iload_n 3, 1) := by decide +kernel
theorem dX0_sell_110 : decode cX0_sell 110 = .ok (.iconst 2, 1) := by decide +kernel
theorem dX0_sell_111 : decode cX0_sell 111 = .ok (.iload 6, 2) := by decide +kernel
theorem dX0_sell_113 : decode cX0_sell 113 = .ok (.invokevirtual 57, 3) := by decide +kernel
theorem dX0_sell_116 : decode cX0_sell 116 = .ok (.aload_n 0, 1) := by decide +kernel
theorem dX0_sell_117 : decode cX0_sell 117 = .ok (.dup, 1) := by decide +kernel
theorem dX0_sell_118 : decode cX0_sell 118 = .ok (.getfield 95, 3) := by decide +kernel
theorem dX0_sell_121 : decode cX0_sell 121 = .ok (.iload 6, 2) := by decide +kernel
theorem dX0_sell_123 : decode cX0_sell 123 = .ok (.iadd, 1) := by decide +kernel
theorem dX0_sell_124 : decode cX0_sell 124 = .ok (.putfield 95, 3) := by decide +kernel
theorem dX0_sell_127 : decode cX0_sell 127 = .ok (.iinc 3 1, 3) := by decide +kernel
theorem dX0_sell_130 : decode cX0_sell 130 = .ok (.goto (-113), 3) := by decide +kernel
theorem dX0_sell_133 : decode cX0_sell 133 = .ok (.return_, 1) := by decide +kernel
theorem dX0_unitsPayable_0 : decode cX0_unitsPayable 0 = .ok (.aload_n 0, 1) := by decide +kernel
theorem dX0_unitsPayable_1 : decode cX0_unitsPayable 1 = .ok (.aload_n 1, 1) := by decide +kernel
theorem dX0_unitsPayable_2 : decode cX0_unitsPayable 2 = .ok (.iload_n 2, 1) := by decide +kernel
theorem dX0_unitsPayable_3 : decode cX0_unitsPayable 3 = .ok (.invokevirtual 110, 3) := by decide +kernel
theorem dX0_unitsPayable_6 : decode cX0_unitsPayable 6 = .ok (.istore_n 3, 1) := by decide +kernel
theorem dX0_unitsPayable_7 : decode cX0_unitsPayable 7 = .ok (.aload_n 1, 1) := by decide +kernel
theorem dX0_unitsPayable_8 : decode cX0_unitsPayable 8 = .ok (.iload_n 3, 1) := by decide +kernel
theorem dX0_unitsPayable_9 : decode cX0_unitsPayable 9 = .ok (.invokevirtual 113, 3) := by decide +kernel
theorem dX0_unitsPayable_12 : decode cX0_unitsPayable 12 = .ok (.istore 4, 2) := by decide +kernel
theorem dX0_unitsPayable_14 : decode cX0_unitsPayable 14 = .ok (.iconst 0, 1) := by decide +kernel
theorem dX0_unitsPayable_15 : decode cX0_unitsPayable 15 = .ok (.istore 5, 2) := by decide +kernel
theorem dX0_unitsPayable_17 : decode cX0_unitsPayable 17 = .ok (.iload 5, 2) := by decide +kernel
theorem dX0_unitsPayable_19 : decode cX0_unitsPayable 19 = .ok (.iload_n 2, 1) := by decide +kernel
theorem dX0_unitsPayable_20 : decode cX0_unitsPayable 20 = .ok (.if_icmp .ge 46, 3) := by decide +kernel
theorem dX0_unitsPayable_23 : decode cX0_unitsPayable 23 = .ok (.aload_n 0, 1) := by decide +kernel
theorem dX0_unitsPayable_24 : decode cX0_unitsPayable 24 = .ok (.aload_n 1, 1) := by decide +kernel
theorem dX0_unitsPayable_25 : decode cX0_unitsPayable 25 = .ok (.iload 5, 2) := by decide +kernel
theorem dX0_unitsPayable_27 : decode cX0_unitsPayable 27 = .ok (.invokevirtual 110, 3) := by decide +kernel
theorem dX0_unitsPayable_30 : decode cX0_unitsPayable 30 = .ok (.iload_n 3, 1) := by decide +kernel
theorem dX0_unitsPayable_31 : decode cX0_unitsPayable 31 = .ok (.if_icmp .ne 29, 3) := by decide +kernel
theorem dX0_unitsPayable_34 : decode cX0_unitsPayable 34 = .ok (.iload 4, 2) := by decide +kernel
theorem dX0_unitsPayable_36 : decode cX0_unitsPayable 36 = .ok (.aload_n 0, 1) := by decide +kernel
theorem dX0_unitsPayable_37 : decode cX0_unitsPayable 37 = .ok (.getfield 23, 3) := by decide +kernel
theorem dX0_unitsPayable_40 : decode cX0_unitsPayable 40 = .ok (.iload 5, 2) := by decide +kernel
theorem dX0_unitsPayable_42 : decode cX0_unitsPayable 42 = .ok (.iconst 1, 1) := by decide +kernel
theorem dX0_unitsPayable_43 : decode cX0_unitsPayable 43 = .ok (.invokevirtual 50, 3) := by decide +kernel
theorem dX0_unitsPayable_46 : decode cX0_unitsPayable 46 = .ok (.aload_n 0, 1) := by decide +kernel
theorem dX0_unitsPayable_47 : decode cX0_unitsPayable 47 = .ok (.getfield 23, 3) := by decide +kernel
theorem dX0_unitsPayable_50 : decode cX0_unitsPayable 50 = .ok (.iload 5, 2) := by decide +kernel
theorem dX0_unitsPayable_52 : decode cX0_unitsPayable 52 = .ok (.iconst 2, 1) := by decide +kernel
theorem dX0_unitsPayable_53 : decode cX0_unitsPayable 53 = .ok (.invokevirtual 50, 3) := by decide +kernel
theorem dX0_unitsPayable_56 : decode cX0_unitsPayable 56 = .ok (.imul, 1) := by decide +kernel
theorem dX0_unitsPayable_57 : decode cX0_unitsPayable 57 = .ok (.isub, 1) := by decide +kernel
theorem dX0_unitsPayable_58 : decode cX0_unitsPayable 58 = .ok (.istore 4, 2) := by decide +kernel
theorem dX0_unitsPayable_60 : decode cX0_unitsPayable 60 = .ok (.iinc 5 1, 3) := by decide +kernel
theorem dX0_unitsPayable_63 : decode cX0_unitsPayable 63 = .ok (.goto (-46), 3) := by decide +kernel
theorem dX0_unitsPayable_66 : decode cX0_unitsPayable 66 = .ok (.aload_n 0, 1) := by decide +kernel
theorem dX0_unitsPayable_67 : decode cX0_unitsPayable 67 = .ok (.getfield 23, 3) := by decide +kernel
theorem dX0_unitsPayable_70 : decode cX0_unitsPayable 70 = .ok (.iload_n 2, 1) := by decide +kernel
theorem dX0_unitsPayable_71 : decode cX0_unitsPayable 71 = .ok (.iconst 1, 1) := by decide +kernel
theorem dX0_unitsPayable_72 : decode cX0_unitsPayable 72 = .ok (.invokevirtual 50, 3) := by decide +kernel
theorem dX0_unitsPayable_75 : decode cX0_unitsPayable 75 = .ok (.istore 5, 2) := by decide +kernel
theorem dX0_unitsPayable_77 : decode cX0_unitsPayable 77 = .ok (.iload 5, 2) := by decide +kernel
theorem dX0_unitsPayable_79 : decode cX0_unitsPayable 79 = .ok (.ifCond .le 11, 3) := by decide +kernel
theorem dX0_unitsPayable_82 : decode cX0_unitsPayable 82 = .ok (.iload 4, 2) := by decide +kernel
theorem dX0_unitsPayable_84 : decode cX0_unitsPayable 84 = .ok (.iload 5, 2) := by decide +kernel
theorem dX0_unitsPayable_86 : decode cX0_unitsPayable 86 = .ok (.idiv, 1) := by decide +kernel
theorem dX0_unitsPayable_87 : decode cX0_unitsPayable 87 = .ok (.goto 4, 3) := by decide +kernel
theorem dX0_unitsPayable_90 : decode cX0_unitsPayable 90 = .ok (.iconst 0, 1) := by decide +kernel
theorem dX0_unitsPayable_91 : decode cX0_unitsPayable 91 = .ok (.ireturn, 1) := by decide +kernel
theorem dX0_tenantAt_0 : decode cX0_tenantAt 0 = .ok (.aload_n 1, 1) := by decide +kernel
theorem dX0_tenantAt_1 : decode cX0_tenantAt 1 = .ok (.getfield 30, 3) := by decide +kernel
theorem dX0_tenantAt_4 : decode cX0_tenantAt 4 = .ok (.aload_n 0, 1) := by decide +kernel
theorem dX0_tenantAt_5 : decode cX0_tenantAt 5 = .ok (.getfield 23, 3) := by decide +kernel
theorem dX0_tenantAt_8 : decode cX0_tenantAt 8 = .ok (.iload_n 2, 1) := by decide +kernel
theorem dX0_tenantAt_9 : decode cX0_tenantAt 9 = .ok (.iconst 0, 1) := by decide +kernel
theorem dX0_tenantAt_10 : decode cX0_tenantAt 10 = .ok (.invokevirtual 50, 3) := by decide +kernel
theorem dX0_tenantAt_13 : decode cX0_tenantAt 13 = .ok (.iconst 0, 1) := by decide +kernel
theorem dX0_tenantAt_14 : decode cX0_tenantAt 14 = .ok (.invokevirtual 50, 3) := by decide +kernel
theorem dX0_tenantAt_17 : decode cX0_tenantAt 17 = .ok (.ireturn, 1) := by decide +kernel
theorem dX0_priceAt_0 : decode cX0_priceAt 0 = .ok (.aload_n 1, 1) := by decide +kernel
theorem dX0_priceAt_1 : decode cX0_priceAt 1 = .ok (.getfield 116, 3) := by decide +kernel
theorem dX0_priceAt_4 : decode cX0_priceAt 4 = .ok (.ifCond .ne 13, 3) := by decide +kernel
theorem dX0_priceAt_7 : decode cX0_priceAt 7 = .ok (.aload_n 0, 1) := by decide +kernel
theorem dX0_priceAt_8 : decode cX0_priceAt 8 = .ok (.getfield 23, 3) := by decide +kernel
theorem dX0_priceAt_11 : decode cX0_priceAt 11 = .ok (.iload_n 2, 1) := by decide +kernel
theorem dX0_priceAt_12 : decode cX0_priceAt 12 = .ok (.iconst 1, 1) := by decide +kernel
theorem dX0_priceAt_13 : decode cX0_priceAt 13 = .ok (.invokevirtual 50, 3) := by decide +kernel
theorem dX0_priceAt_16 : decode cX0_priceAt 16 = .ok (.ireturn, 1) := by decide +kernel
theorem dX0_priceAt_17 : decode cX0_priceAt 17 = .ok (.aload_n 1, 1) := by decide +kernel
theorem dX0_priceAt_18 : decode cX0_priceAt 18 = .ok (.getfield 116, 3) := by decide +kernel
theorem dX0_priceAt_21 : decode cX0_priceAt 21 = .ok (.iconst 1, 1) := by decide +kernel
theorem dX0_priceAt_22 : decode cX0_priceAt 22 = .ok (.if_icmp .ne 35, 3) := by decide +kernel
theorem dX0_priceAt_25 : decode cX0_priceAt 25 = .ok (.iload_n 2, 1) := by decide +kernel
theorem dX0_priceAt_26 : decode cX0_priceAt 26 = .ok (.iconst 1, 1) := by decide +kernel
theorem dX0_priceAt_27 : decode cX0_priceAt 27 = .ok (.iadd, 1) := by decide +kernel
theorem dX0_priceAt_28 : decode cX0_priceAt 28 = .ok (.aload_n 0, 1) := by decide +kernel
theorem dX0_priceAt_29 : decode cX0_priceAt 29 = .ok (.getfield 23, 3) := by decide +kernel
theorem dX0_priceAt_32 : decode cX0_priceAt 32 = .ok (.getfield 35, 3) := by decide +kernel
theorem dX0_priceAt_35 : decode cX0_priceAt 35 = .ok (.if_icmp .ge 17, 3) := by decide +kernel
theorem dX0_priceAt_38 : decode cX0_priceAt 38 = .ok (.aload_n 0, 1) := by decide +kernel
theorem dX0_priceAt_39 : decode cX0_priceAt 39 = .ok (.getfield 23, 3) := by decide +kernel
theorem dX0_priceAt_42 : decode cX0_priceAt 42 = .ok (.iload_n 2, 1) := by decide +kernel
theorem dX0_priceAt_43 : decode cX0_priceAt 43 = .ok (.iconst 1, 1) := by decide +kernel
theorem dX0_priceAt_44 : decode cX0_priceAt 44 = .ok (.iadd, 1) := by decide +kernel
theorem dX0_priceAt_45 : decode cX0_priceAt 45 = .ok (.iconst 1, 1) := by decide +kernel
theorem dX0_priceAt_46 : decode cX0_priceAt 46 = .ok (.invokevirtual 50, 3) := by decide +kernel
theorem dX0_priceAt_49 : decode cX0_priceAt 49 = .ok (.goto 7, 3) := by decide +kernel
theorem dX0_priceAt_52 : decode cX0_priceAt 52 = .ok (.aload_n 1, 1) := by decide +kernel
theorem dX0_priceAt_53 : decode cX0_priceAt 53 = .ok (.getfield 88, 3) := by decide +kernel
theorem dX0_priceAt_56 : decode cX0_priceAt 56 = .ok (.ireturn, 1) := by decide +kernel
theorem dX0_priceAt_57 : decode cX0_priceAt 57 = .ok (.aload_n 0, 1) := by decide +kernel
theorem dX0_priceAt_58 : decode cX0_priceAt 58 = .ok (.getfield 98, 3) := by decide +kernel
theorem dX0_priceAt_61 : decode cX0_priceAt 61 = .ok (.ireturn, 1) := by decide +kernel
theorem dX0_settle_0 : decode cX0_settle 0 = .ok (.iconst 0, 1) := by decide +kernel
theorem dX0_settle_1 : decode cX0_settle 1 = .ok (.istore_n 2, 1) := by decide +kernel
theorem dX0_settle_2 : decode cX0_settle 2 = .ok (.iload_n 2, 1) := by decide +kernel
theorem dX0_settle_3 : decode cX0_settle 3 = .ok (.aload_n 1, 1) := by decide +kernel
theorem dX0_settle_4 : decode cX0_settle 4 = .ok (.getfield 119, 3) := by decide +kernel
theorem dX0_settle_7 : decode cX0_settle 7 = .ok (.getfield 35, 3) := by decide +kernel
theorem dX0_settle_10 : decode cX0_settle 10 = .ok (.if_icmp .ge 23, 3) := by decide +kernel
theorem dX0_settle_13 : decode cX0_settle 13 = .ok (.aload_n 1, 1) := by decide +kernel
theorem dX0_settle_14 : decode cX0_settle 14 = .ok (.getfield 119, 3) := by decide +kernel
theorem dX0_settle_17 : decode cX0_settle 17 = .ok (.iload_n 2, 1) := by decide +kernel
theorem dX0_settle_18 : decode cX0_settle 18 = .ok (.iconst 2, 1) := by decide +kernel
theorem dX0_settle_19 : decode cX0_settle 19 = .ok (.aload_n 1, 1) := by decide +kernel
theorem dX0_settle_20 : decode cX0_settle 20 = .ok (.iload_n 2, 1) := by decide +kernel
theorem dX0_settle_21 : decode cX0_settle 21 = .ok (.invokevirtual 113, 3) := by decide +kernel
theorem dX0_settle_24 : decode cX0_settle 24 = .ok (.invokevirtual 57, 3) := by decide +kernel
theorem dX0_settle_27 : decode cX0_settle 27 = .ok (.iinc 2 1, 3) := by decide +kernel
theorem dX0_settle_30 : decode cX0_settle 30 = .ok (.goto (-28), 3) := by decide +kernel
theorem dX0_settle_33 : decode cX0_settle 33 = .ok (.aload_n 0, 1) := by decide +kernel
theorem dX0_settle_34 : decode cX0_settle 34 = .ok (.iconst 0, 1) := by decide +kernel
theorem dX0_settle_35 : decode cX0_settle 35 = .ok (.putfield 122, 3) := by decide +kernel
theorem dX0_settle_38 : decode cX0_settle 38 = .ok (.aload_n 0, 1) := by decide +kernel
theorem dX0_settle_39 : decode cX0_settle 39 = .ok (.iconst 0, 1) := by decide +kernel
theorem dX0_settle_40 : decode cX0_settle 40 = .ok (.putfield 125, 3) := by decide +kernel
theorem dX0_settle_43 : decode cX0_settle 43 = .ok (.iconst 0, 1) := by decide +kernel
theorem dX0_settle_44 : decode cX0_settle 44 = .ok (.istore_n 2, 1) := by decide +kernel
theorem dX0_settle_45 : decode cX0_settle 45 = .ok (.iload_n 2, 1) := by decide +kernel
theorem dX0_settle_46 : decode cX0_settle 46 = .ok (.aload_n 0, 1) := by decide +kernel
theorem dX0_settle_47 : decode cX0_settle 47 = .ok (.getfield 23, 3) := by decide +kernel
theorem dX0_settle_50 : decode cX0_settle 50 = .ok (.getfield 35, 3) := by decide +kernel
theorem dX0_settle_53 : decode cX0_settle 53 = .ok (.if_icmp .ge 21, 3) := by decide +kernel
theorem dX0_settle_56 : decode cX0_settle 56 = .ok (.aload_n 0, 1) := by decide +kernel
theorem dX0_settle_57 : decode cX0_settle 57 = .ok (.aload_n 1, 1) := by decide +kernel
theorem dX0_settle_58 : decode cX0_settle 58 = .ok (.iload_n 2, 1) := by decide +kernel
theorem dX0_settle_59 : decode cX0_settle 59 = .ok (.invokevirtual 128, 3) := by decide +kernel
theorem dX0_settle_62 : decode cX0_settle 62 = .ok (.aload_n 0, 1) := by decide +kernel
theorem dX0_settle_63 : decode cX0_settle 63 = .ok (.aload_n 1, 1) := by decide +kernel
theorem dX0_settle_64 : decode cX0_settle 64 = .ok (.iload_n 2, 1) := by decide +kernel
theorem dX0_settle_65 : decode cX0_settle 65 = .ok (.invokevirtual 132, 3) := by decide +kernel
theorem dX0_settle_68 : decode cX0_settle 68 = .ok (.iinc 2 1, 3) := by decide +kernel
theorem dX0_settle_71 : decode cX0_settle 71 = .ok (.goto (-26), 3) := by decide +kernel
theorem dX0_settle_74 : decode cX0_settle 74 = .ok (.aload_n 1, 1) := by decide +kernel
theorem dX0_settle_75 : decode cX0_settle 75 = .ok (.aload_n 1, 1) := by decide +kernel
theorem dX0_settle_76 : decode cX0_settle 76 = .ok (.invokevirtual 106, 3) := by decide +kernel
theorem dX0_settle_79 : decode cX0_settle 79 = .ok (.aload_n 0, 1) := by decide +kernel
theorem dX0_settle_80 : decode cX0_settle 80 = .ok (.getfield 95, 3) := by decide +kernel
theorem dX0_settle_83 : decode cX0_settle 83 = .ok (.isub, 1) := by decide +kernel
theorem dX0_settle_84 : decode cX0_settle 84 = .ok (.aload_n 1, 1) := by decide +kernel
theorem dX0_settle_85 : decode cX0_settle 85 = .ok (.getfield 135, 3) := by decide +kernel
theorem dX0_settle_88 : decode cX0_settle 88 = .ok (.invokestatic 104, 3) := by decide +kernel
theorem dX0_settle_91 : decode cX0_settle 91 = .ok (.putfield 138, 3) := by decide +kernel
theorem dX0_settle_94 : decode cX0_settle 94 = .ok (.aload_n 1, 1) := by decide +kernel
theorem dX0_settle_95 : decode cX0_settle 95 = .ok (.aload_n 0, 1) := by decide +kernel
theorem dX0_settle_96 : decode cX0_settle 96 = .ok (.getfield 95, 3) := by decide +kernel
theorem dX0_settle_99 : decode cX0_settle 99 = .ok (.aload_n 0, 1) := by decide +kernel
theorem dX0_settle_100 : decode cX0_settle 100 = .ok (.getfield 98, 3) := by decide +kernel
theorem dX0_settle_103 : decode cX0_settle 103 = .ok (.aload_n 0, 1) := by decide +kernel
theorem dX0_settle_104 : decode cX0_settle 104 = .ok (.getfield 23, 3) := by decide +kernel
theorem dX0_settle_107 : decode cX0_settle 107 = .ok (.getfield 35, 3) := by decide +kernel
theorem dX0_settle_110 : decode cX0_settle 110 = .ok (.aload_n 0, 1) := by decide +kernel
theorem dX0_settle_111 : decode cX0_settle 111 = .ok (.getfield 125, 3) := by decide +kernel
theorem dX0_settle_114 : decode cX0_settle 114 = .ok (.invokevirtual 141, 3) := by decide +kernel
theorem dX0_settle_117 : decode cX0_settle 117 = .ok (.return_, 1) := by decide +kernel
theorem dX0_charge_0 : decode cX0_charge 0 = .ok (.aload_n 0, 1) := by decide +kernel
theorem dX0_charge_1 : decode cX0_charge 1 = .ok (.aload_n 1, 1) := by decide +kernel
theorem dX0_charge_2 : decode cX0_charge 2 = .ok (.iload_n 2, 1) := by decide +kernel
theorem dX0_charge_3 : decode cX0_charge 3 = .ok (.invokevirtual 110, 3) := by decide +kernel
theorem dX0_charge_6 : decode cX0_charge 6 = .ok (.istore_n 3, 1) := by decide +kernel
theorem dX0_charge_7 : decode cX0_charge 7 = .ok (.aload_n 0, 1) := by decide +kernel
theorem dX0_charge_8 : decode cX0_charge 8 = .ok (.getfield 23, 3) := by decide +kernel
theorem dX0_charge_11 : decode cX0_charge 11 = .ok (.iload_n 2, 1) := by decide +kernel
theorem dX0_charge_12 : decode cX0_charge 12 = .ok (.iconst 2, 1) := by decide +kernel
theorem dX0_charge_13 : decode cX0_charge 13 = .ok (.invokevirtual 50, 3) := by decide +kernel
theorem dX0_charge_16 : decode cX0_charge 16 = .ok (.istore 4, 2) := by decide +kernel
theorem dX0_charge_18 : decode cX0_charge 18 = .ok (.iload 4, 2) := by decide +kernel
theorem dX0_charge_20 : decode cX0_charge 20 = .ok (.aload_n 0, 1) := by decide +kernel
theorem dX0_charge_21 : decode cX0_charge 21 = .ok (.getfield 23, 3) := by decide +kernel
theorem dX0_charge_24 : decode cX0_charge 24 = .ok (.iload_n 2, 1) := by decide +kernel
theorem dX0_charge_25 : decode cX0_charge 25 = .ok (.iconst 3, 1) := by decide +kernel
theorem dX0_charge_26 : decode cX0_charge 26 = .ok (.invokevirtual 50, 3) := by decide +kernel
theorem dX0_charge_29 : decode cX0_charge 29 = .ok (.imul, 1) := by decide +kernel
theorem dX0_charge_30 : decode cX0_charge 30 = .ok (.istore 5, 2) := by decide +kernel
theorem dX0_charge_32 : decode cX0_charge 32 = .ok (.aload_n 1, 1) := by decide +kernel
theorem dX0_charge_33 : decode cX0_charge 33 = .ok (.getfield 119, 3) := by decide +kernel
theorem dX0_charge_36 : decode cX0_charge 36 = .ok (.iload_n 3, 1) := by decide +kernel
theorem dX0_charge_37 : decode cX0_charge 37 = .ok (.iconst 4, 1) := by decide +kernel
theorem dX0_charge_38 : decode cX0_charge 38 = .ok (.invokevirtual 50, 3) := by decide +kernel
theorem dX0_charge_41 : decode cX0_charge 41 = .ok (.istore 6, 2) := by decide +kernel
theorem dX0_charge_43 : decode cX0_charge 43 = .ok (.aload_n 1, 1) := by decide +kernel
theorem dX0_charge_44 : decode cX0_charge 44 = .ok (.getfield 119, 3) := by decide +kernel
theorem dX0_charge_47 : decode cX0_charge 47 = .ok (.iload_n 3, 1) := by decide +kernel
theorem dX0_charge_48 : decode cX0_charge 48 = .ok (.iconst 2, 1) := by decide +kernel
theorem dX0_charge_49 : decode cX0_charge 49 = .ok (.iload 5, 2) := by decide +kernel
theorem dX0_charge_51 : decode cX0_charge 51 = .ok (.ineg, 1) := by decide +kernel
theorem dX0_charge_52 : decode cX0_charge 52 = .ok (.invokevirtual 145, 3) := by decide +kernel
theorem dX0_charge_55 : decode cX0_charge 55 = .ok (.aload_n 1, 1) := by decide +kernel
theorem dX0_charge_56 : decode cX0_charge 56 = .ok (.getfield 119, 3) := by decide +kernel
theorem dX0_charge_59 : decode cX0_charge 59 = .ok (.iload_n 3, 1) := by decide +kernel
theorem dX0_charge_60 : decode cX0_charge 60 = .ok (.iconst 3, 1) := by decide +kernel
theorem dX0_charge_61 : decode cX0_charge 61 = .ok (.iload 4, 2) := by decide +kernel
theorem dX0_charge_63 : decode cX0_charge 63 = .ok (.invokevirtual 145, 3) := by decide +kernel
theorem dX0_charge_66 : decode cX0_charge 66 = .ok (.aload_n 1, 1) := by decide +kernel
theorem dX0_charge_67 : decode cX0_charge 67 = .ok (.getfield 119, 3) := by decide +kernel
theorem dX0_charge_70 : decode cX0_charge 70 = .ok (.iload_n 3, 1) := by decide +kernel
theorem dX0_charge_71 : decode cX0_charge 71 = .ok (.iconst 4, 1) := by decide +kernel
theorem dX0_charge_72 : decode cX0_charge 72 = .ok (.iload 6, 2) := by decide +kernel
theorem dX0_charge_74 : decode cX0_charge 74 = .ok (.iload 5, 2) := by decide +kernel
theorem dX0_charge_76 : decode cX0_charge 76 = .ok (.iadd, 1) := by decide +kernel
theorem dX0_charge_77 : decode cX0_charge 77 = .ok (.ldc 148, 2) := by decide +kernel
theorem dX0_charge_79 : decode cX0_charge 79 = .ok (.invokestatic 104, 3) := by decide +kernel
theorem dX0_charge_82 : decode cX0_charge 82 = .ok (.invokevirtual 57, 3) := by decide +kernel
theorem dX0_charge_85 : decode cX0_charge 85 = .ok (.aload_n 0, 1) := by decide +kernel
theorem dX0_charge_86 : decode cX0_charge 86 = .ok (.dup, 1) := by decide +kernel
theorem dX0_charge_87 : decode cX0_charge 87 = .ok (.getfield 122, 3) := by decide +kernel
theorem dX0_charge_90 : decode cX0_charge 90 = .ok (.iload 5, 2) := by decide +kernel
theorem dX0_charge_92 : decode cX0_charge 92 = .ok (.iadd, 1) := by decide +kernel
theorem dX0_charge_93 : decode cX0_charge 93 = .ok (.putfield 122, 3) := by decide +kernel
theorem dX0_charge_96 : decode cX0_charge 96 = .ok (.return_, 1) := by decide +kernel
theorem dX0_repair_0 : decode cX0_repair 0 = .ok (.aload_n 0, 1) := by decide +kernel
theorem dX0_repair_1 : decode cX0_repair 1 = .ok (.getfield 23, 3) := by decide +kernel
theorem dX0_repair_4 : decode cX0_repair 4 = .ok (.iload_n 2, 1) := by decide +kernel
theorem dX0_repair_5 : decode cX0_repair 5 = .ok (.iconst 0, 1) := by decide +kernel
theorem dX0_repair_6 : decode cX0_repair 6 = .ok (.invokevirtual 50, 3) := by decide +kernel
theorem dX0_repair_9 : decode cX0_repair 9 = .ok (.istore_n 3, 1) := by decide +kernel
theorem dX0_repair_10 : decode cX0_repair 10 = .ok (.aload_n 1, 1) := by decide +kernel
theorem dX0_repair_11 : decode cX0_repair 11 = .ok (.getfield 30, 3) := by decide +kernel
theorem dX0_repair_14 : decode cX0_repair 14 = .ok (.iload_n 3, 1) := by decide +kernel
theorem dX0_repair_15 : decode cX0_repair 15 = .ok (.bipush 7, 2) := by decide +kernel
theorem dX0_repair_17 : decode cX0_repair 17 = .ok (.invokevirtual 50, 3) := by decide +kernel
theorem dX0_repair_20 : decode cX0_repair 20 = .ok (.istore 4, 2) := by decide +kernel
theorem dX0_repair_22 : decode cX0_repair 22 = .ok (.aload_n 1, 1) := by decide +kernel
theorem dX0_repair_23 : decode cX0_repair 23 = .ok (.getfield 30, 3) := by decide +kernel
theorem dX0_repair_26 : decode cX0_repair 26 = .ok (.iload_n 3, 1) := by decide +kernel
theorem dX0_repair_27 : decode cX0_repair 27 = .ok (.bipush 6, 2) := by decide +kernel
theorem dX0_repair_29 : decode cX0_repair 29 = .ok (.aload_n 0, 1) := by decide +kernel
theorem dX0_repair_30 : decode cX0_repair 30 = .ok (.getfield 23, 3) := by decide +kernel
theorem dX0_repair_33 : decode cX0_repair 33 = .ok (.iload_n 2, 1) := by decide +kernel
theorem dX0_repair_34 : decode cX0_repair 34 = .ok (.iconst 2, 1) := by decide +kernel
theorem dX0_repair_35 : decode cX0_repair 35 = .ok (.invokevirtual 50, 3) := by decide +kernel
theorem dX0_repair_38 : decode cX0_repair 38 = .ok (.invokevirtual 145, 3) := by decide +kernel
theorem dX0_repair_41 : decode cX0_repair 41 = .ok (.iconst 0, 1) := by decide +kernel
theorem dX0_repair_42 : decode cX0_repair 42 = .ok (.istore 5, 2) := by decide +kernel
theorem dX0_repair_44 : decode cX0_repair 44 = .ok (.iload 5, 2) := by decide +kernel
theorem dX0_repair_46 : decode cX0_repair 46 = .ok (.bipush 10, 2) := by decide +kernel
theorem dX0_repair_48 : decode cX0_repair 48 = .ok (.if_icmp .ge 85, 3) := by decide +kernel
theorem dX0_repair_51 : decode cX0_repair 51 = .ok (.aload_n 1, 1) := by decide +kernel
theorem dX0_repair_52 : decode cX0_repair 52 = .ok (.iload_n 3, 1) := by decide +kernel
theorem dX0_repair_53 : decode cX0_repair 53 = .ok (.invokevirtual 149, 3) := by decide +kernel
theorem dX0_repair_56 : decode cX0_repair 56 = .ok (.istore 6, 2) := by decide +kernel
theorem dX0_repair_58 : decode cX0_repair 58 = .ok (.aload_n 1, 1) := by decide +kernel
theorem dX0_repair_59 : decode cX0_repair 59 = .ok (.iload_n 3, 1) := by decide +kernel
theorem dX0_repair_60 : decode cX0_repair 60 = .ok (.invokevirtual 82, 3) := by decide +kernel
theorem dX0_repair_63 : decode cX0_repair 63 = .ok (.istore 7, 2) := by decide +kernel
theorem dX0_repair_65 : decode cX0_repair 65 = .ok (.iload 6, 2) := by decide +kernel
theorem dX0_repair_67 : decode cX0_repair 67 = .ok (.ifCond .eq 24, 3) := by decide +kernel
theorem dX0_repair_70 : decode cX0_repair 70 = .ok (.iload 7, 2) := by decide +kernel
theorem dX0_repair_72 : decode cX0_repair 72 = .ok (.iconst (-1), 1) := by decide +kernel
theorem dX0_repair_73 : decode cX0_repair 73 = .ok (.if_icmp .eq 18, 3) := by decide +kernel
theorem dX0_repair_76 : decode cX0_repair 76 = .ok (.aload_n 1, 1) := by decide +kernel
theorem dX0_repair_77 : decode cX0_repair 77 = .ok (.getfield 30, 3) := by decide +kernel
theorem dX0_repair_80 : decode cX0_repair 80 = .ok (.iload_n 3, 1) := by decide +kernel
theorem dX0_repair_81 : decode cX0_repair 81 = .ok (.bipush 6, 2) := by decide +kernel
theorem dX0_repair_83 : decode cX0_repair 83 = .ok (.invokevirtual 50, 3) := by decide +kernel
theorem dX0_repair_86 : decode cX0_repair 86 = .ok (.iload 4, 2) := by decide +kernel
theorem dX0_repair_88 : decode cX0_repair 88 = .ok (.if_icmp .ge 4, 3) := by decide +kernel
theorem dX0_repair_91 : decode cX0_repair 91 = .ok (.return_, 1) := by decide +kernel
theorem dX0_repair_92 : decode cX0_repair 92 = .ok (.aload_n 1, 1) := by decide +kernel
theorem dX0_repair_93 : decode cX0_repair 93 = .ok (.iload_n 3, 1) := by decide +kernel
theorem dX0_repair_94 : decode cX0_repair 94 = .ok (.iload 6, 2) := by decide +kernel
theorem dX0_repair_96 : decode cX0_repair 96 = .ok (.invokestatic 152, 3) := by decide +kernel
theorem dX0_repair_99 : decode cX0_repair 99 = .ok (.iload 7, 2) := by decide +kernel
theorem dX0_repair_101 : decode cX0_repair 101 = .ok (.invokevirtual 155, 3) := by decide +kernel
theorem dX0_repair_104 : decode cX0_repair 104 = .ok (.aload_n 1, 1) := by decide +kernel
theorem dX0_repair_105 : decode cX0_repair 105 = .ok (.getfield 30, 3) := by decide +kernel
theorem dX0_repair_108 : decode cX0_repair 108 = .ok (.iload_n 3, 1) := by decide +kernel
theorem dX0_repair_109 : decode cX0_repair 109 = .ok (.bipush 6, 2) := by decide +kernel
theorem dX0_repair_111 : decode cX0_repair 111 = .ok (.iload 4, 2) := by decide +kernel
theorem dX0_repair_113 : decode cX0_repair 113 = .ok (.ineg, 1) := by decide +kernel
theorem dX0_repair_114 : decode cX0_repair 114 = .ok (.invokevirtual 145, 3) := by decide +kernel
theorem dX0_repair_117 : decode cX0_repair 117 = .ok (.aload_n 0, 1) := by decide +kernel
theorem dX0_repair_118 : decode cX0_repair 118 = .ok (.dup, 1) := by decide +kernel
theorem dX0_repair_119 : decode cX0_repair 119 = .ok (.getfield 125, 3) := by decide +kernel
theorem dX0_repair_122 : decode cX0_repair 122 = .ok (.iconst 1, 1) := by decide +kernel
theorem dX0_repair_123 : decode cX0_repair 123 = .ok (.iadd, 1) := by decide +kernel
theorem dX0_repair_124 : decode cX0_repair 124 = .ok (.putfield 125, 3) := by decide +kernel
theorem dX0_repair_127 : decode cX0_repair 127 = .ok (.iinc 5 1, 3) := by decide +kernel
theorem dX0_repair_130 : decode cX0_repair 130 = .ok (.goto (-86), 3) := by decide +kernel
theorem dX0_repair_133 : decode cX0_repair 133 = .ok (.return_, 1) := by decide +kernel
theorem dX6_init_0 : decode cX6_init 0 = .ok (.aload_n 0, 1) := by decide +kernel
theorem dX6_init_1 : decode cX6_init 1 = .ok (.invokespecial 3, 3) := by decide +kernel
theorem dX6_init_4 : decode cX6_init 4 = .ok (.aload_n 0, 1) := by decide +kernel
theorem dX6_init_5 : decode cX6_init 5 = .ok (.new 9, 3) := by decide +kernel
theorem dX6_init_8 : decode cX6_init 8 = .ok (.dup, 1) := by decide +kernel
theorem dX6_init_9 : decode cX6_init 9 = .ok (.bipush 16, 2) := by decide +kernel
theorem dX6_init_11 : decode cX6_init 11 = .ok (.bipush 8, 2) := by decide +kernel
theorem dX6_init_13 : decode cX6_init 13 = .ok (.invokespecial 11, 3) := by decide +kernel
theorem dX6_init_16 : decode cX6_init 16 = .ok (.putfield 14, 3) := by decide +kernel
theorem dX6_init_19 : decode cX6_init 19 = .ok (.aload_n 0, 1) := by decide +kernel
theorem dX6_init_20 : decode cX6_init 20 = .ok (.new 9, 3) := by decide +kernel
theorem dX6_init_23 : decode cX6_init 23 = .ok (.dup, 1) := by decide +kernel
theorem dX6_init_24 : decode cX6_init 24 = .ok (.bipush 6, 2) := by decide +kernel
theorem dX6_init_26 : decode cX6_init 26 = .ok (.bipush 6, 2) := by decide +kernel
theorem dX6_init_28 : decode cX6_init 28 = .ok (.invokespecial 11, 3) := by decide +kernel
theorem dX6_init_31 : decode cX6_init 31 = .ok (.putfield 20, 3) := by decide +kernel
theorem dX6_init_34 : decode cX6_init 34 = .ok (.aload_n 0, 1) := by decide +kernel
theorem dX6_init_35 : decode cX6_init 35 = .ok (.new 9, 3) := by decide +kernel
theorem dX6_init_38 : decode cX6_init 38 = .ok (.dup, 1) := by decide +kernel
theorem dX6_init_39 : decode cX6_init 39 = .ok (.bipush 10, 2) := by decide +kernel
theorem dX6_init_41 : decode cX6_init 41 = .ok (.bipush 21, 2) := by decide +kernel
theorem dX6_init_43 : decode cX6_init 43 = .ok (.invokespecial 11, 3) := by decide +kernel
theorem dX6_init_46 : decode cX6_init 46 = .ok (.putfield 23, 3) := by decide +kernel
theorem dX6_init_49 : decode cX6_init 49 = .ok (.aload_n 0, 1) := by decide +kernel
theorem dX6_init_50 : decode cX6_init 50 = .ok (.new 9, 3) := by decide +kernel
theorem dX6_init_53 : decode cX6_init 53 = .ok (.dup, 1) := by decide +kernel
theorem dX6_init_54 : decode cX6_init 54 = .ok (.bipush 40, 2) := by decide +kernel
theorem dX6_init_56 : decode cX6_init 56 = .ok (.iconst 5, 1) := by decide +kernel
theorem dX6_init_57 : decode cX6_init 57 = .ok (.invokespecial 11, 3) := by decide +kernel
theorem dX6_init_60 : decode cX6_init 60 = .ok (.putfield 26, 3) := by decide +kernel
theorem dX6_init_63 : decode cX6_init 63 = .ok (.aload_n 0, 1) := by decide +kernel
theorem dX6_init_64 : decode cX6_init 64 = .ok (.iconst 1, 1) := by decide +kernel
theorem dX6_init_65 : decode cX6_init 65 = .ok (.putfield 29, 3) := by decide +kernel
theorem dX6_init_68 : decode cX6_init 68 = .ok (.return_, 1) := by decide +kernel
theorem dX6_clearThings_0 : decode cX6_clearThings 0 = .ok (.aload_n 0, 1) := by decide +kernel
theorem dX6_clearThings_1 : decode cX6_clearThings 1 = .ok (.getfield 14, 3) := by decide +kernel
theorem dX6_clearThings_4 : decode cX6_clearThings 4 = .ok (.invokevirtual 33, 3) := by decide +kernel
theorem dX6_clearThings_7 : decode cX6_clearThings 7 = .ok (.aload_n 0, 1) := by decide +kernel
theorem dX6_clearThings_8 : decode cX6_clearThings 8 = .ok (.getfield 20, 3) := by decide +kernel
theorem dX6_clearThings_11 : decode cX6_clearThings 11 = .ok (.invokevirtual 33, 3) := by decide +kernel
theorem dX6_clearThings_14 : decode cX6_clearThings 14 = .ok (.aload_n 0, 1) := by decide +kernel
theorem dX6_clearThings_15 : decode cX6_clearThings 15 = .ok (.getfield 23, 3) := by decide +kernel
theorem dX6_clearThings_18 : decode cX6_clearThings 18 = .ok (.invokevirtual 33, 3) := by decide +kernel
theorem dX6_clearThings_21 : decode cX6_clearThings 21 = .ok (.return_, 1) := by decide +kernel
theorem dX6_copyFrom_0 : decode cX6_copyFrom 0 = .ok (.aload_n 0, 1) := by decide +kernel
theorem dX6_copyFrom_1 : decode cX6_copyFrom 1 = .ok (.getfield 14, 3) := by decide +kernel
theorem dX6_copyFrom_4 : decode cX6_copyFrom 4 = .ok (.aload_n 1, 1) := by decide +kernel
theorem dX6_copyFrom_5 : decode cX6_copyFrom 5 = .ok (.getfield 14, 3) := by decide +kernel
theorem dX6_copyFrom_8 : decode cX6_copyFrom 8 = .ok (.invokevirtual 36, 3) := by decide +kernel
theorem dX6_copyFrom_11 : decode cX6_copyFrom 11 = .ok (.aload_n 0, 1) := by decide +kernel
theorem dX6_copyFrom_12 : decode cX6_copyFrom 12 = .ok (.getfield 20, 3) := by decide +kernel
theorem dX6_copyFrom_15 : decode cX6_copyFrom 15 = .ok (.aload_n 1, 1) := by decide +kernel
theorem dX6_copyFrom_16 : decode cX6_copyFrom 16 = .ok (.getfield 20, 3) := by decide +kernel
theorem dX6_copyFrom_19 : decode cX6_copyFrom 19 = .ok (.invokevirtual 36, 3) := by decide +kernel
theorem dX6_copyFrom_22 : decode cX6_copyFrom 22 = .ok (.aload_n 0, 1) := by decide +kernel
theorem dX6_copyFrom_23 : decode cX6_copyFrom 23 = .ok (.getfield 23, 3) := by decide +kernel
theorem dX6_copyFrom_26 : decode cX6_copyFrom 26 = .ok (.aload_n 1, 1) := by decide +kernel
theorem dX6_copyFrom_27 : decode cX6_copyFrom 27 = .ok (.getfield 23, 3) := by decide +kernel
theorem dX6_copyFrom_30 : decode cX6_copyFrom 30 = .ok (.invokevirtual 36, 3) := by decide +kernel
theorem dX6_copyFrom_33 : decode cX6_copyFrom 33 = .ok (.aload_n 0, 1) := by decide +kernel
theorem dX6_copyFrom_34 : decode cX6_copyFrom 34 = .ok (.getfield 26, 3) := by decide +kernel
theorem dX6_copyFrom_37 : decode cX6_copyFrom 37 = .ok (.aload_n 1, 1) := by decide +kernel
theorem dX6_copyFrom_38 : decode cX6_copyFrom 38 = .ok (.getfield 26, 3) := by decide +kernel
theorem dX6_copyFrom_41 : decode cX6_copyFrom 41 = .ok (.invokevirtual 36, 3) := by decide +kernel
theorem dX6_copyFrom_44 : decode cX6_copyFrom 44 = .ok (.aload_n 0, 1) := by decide +kernel
theorem dX6_copyFrom_45 : decode cX6_copyFrom 45 = .ok (.aload_n 1, 1) := by decide +kernel
theorem dX6_copyFrom_46 : decode cX6_copyFrom 46 = .ok (.getfield 29, 3) := by decide +kernel
theorem dX6_copyFrom_49 : decode cX6_copyFrom 49 = .ok (.putfield 29, 3) := by decide +kernel
theorem dX6_copyFrom_52 : decode cX6_copyFrom 52 = .ok (.aload_n 0, 1) := by decide +kernel
theorem dX6_copyFrom_53 : decode cX6_copyFrom 53 = .ok (.aload_n 1, 1) := by decide +kernel
theorem dX6_copyFrom_54 : decode cX6_copyFrom 54 = .ok (.getfield 40, 3) := by decide +kernel
theorem dX6_copyFrom_57 : decode cX6_copyFrom 57 = .ok (.putfield 40, 3) := by decide +kernel
theorem dX6_copyFrom_60 : decode cX6_copyFrom 60 = .ok (.aload_n 0, 1) := by decide +kernel
theorem dX6_copyFrom_61 : decode cX6_copyFrom 61 = .ok (.aload_n 1, 1) := by decide +kernel
theorem dX6_copyFrom_62 : decode cX6_copyFrom 62 = .ok (.getfield 43, 3) := by decide +kernel
theorem dX6_copyFrom_65 : decode cX6_copyFrom 65 = .ok (.putfield 43, 3) := by decide +kernel
theorem dX6_copyFrom_68 : decode cX6_copyFrom 68 = .ok (.aload_n 0, 1) := by decide +kernel
theorem dX6_copyFrom_69 : decode cX6_copyFrom 69 = .ok (.aload_n 1, 1) := by decide +kernel
theorem dX6_copyFrom_70 : decode cX6_copyFrom 70 = .ok (.getfield 46, 3) := by decide +kernel
theorem dX6_copyFrom_73 : decode cX6_copyFrom 73 = .ok (.putfield 46, 3) := by decide +kernel
theorem dX6_copyFrom_76 : decode cX6_copyFrom 76 = .ok (.aload_n 0, 1) := by decide +kernel
theorem dX6_copyFrom_77 : decode cX6_copyFrom 77 = .ok (.aload_n 1, 1) := by decide +kernel
theorem dX6_copyFrom_78 : decode cX6_copyFrom 78 = .ok (.getfield 49, 3) := by decide +kernel
theorem dX6_copyFrom_81 : decode cX6_copyFrom 81 = .ok (.putfield 49, 3) := by decide +kernel
theorem dX6_copyFrom_84 : decode cX6_copyFrom 84 = .ok (.aload_n 0, 1) := by decide +kernel
theorem dX6_copyFrom_85 : decode cX6_copyFrom 85 = .ok (.aload_n 1, 1) := by decide +kernel
theorem dX6_copyFrom_86 : decode cX6_copyFrom 86 = .ok (.getfield 52, 3) := by decide +kernel
theorem dX6_copyFrom_89 : decode cX6_copyFrom 89 = .ok (.putfield 52, 3) := by decide +kernel
theorem dX6_copyFrom_92 : decode cX6_copyFrom 92 = .ok (.return_, 1) := by decide +kernel
theorem dX6_tableOf_0 : decode cX6_tableOf 0 = .ok (.iload_n 1, 1) := by decide +kernel
theorem dX6_tableOf_1 : decode cX6_tableOf 1 = .ok (.ifCond .ne 8, 3) := by decide +kernel
theorem dX6_tableOf_4 : decode cX6_tableOf 4 = .ok (.aload_n 0, 1) := by decide +kernel
theorem dX6_tableOf_5 : decode cX6_tableOf 5 = .ok (.getfield 14, 3) := by decide +kernel
theorem dX6_tableOf_8 : decode cX6_tableOf 8 = .ok (.areturn, 1) := by decide +kernel
theorem dX6_tableOf_9 : decode cX6_tableOf 9 = .ok (.iload_n 1, 1) := by decide +kernel
theorem dX6_tableOf_10 : decode cX6_tableOf 10 = .ok (.iconst 1, 1) := by decide +kernel
theorem dX6_tableOf_11 : decode cX6_tableOf 11 = .ok (.if_icmp .ne 10, 3) := by decide +kernel
theorem dX6_tableOf_14 : decode cX6_tableOf 14 = .ok (.aload_n 0, 1) := by decide +kernel
theorem dX6_tableOf_15 : decode cX6_tableOf 15 = .ok (.getfield 20, 3) := by decide +kernel
theorem dX6_tableOf_18 : decode cX6_tableOf 18 = .ok (.goto 7, 3) := by decide +kernel
theorem dX6_tableOf_21 : decode cX6_tableOf 21 = .ok (.aload_n 0, 1) := by decide +kernel
theorem dX6_tableOf_22 : decode cX6_tableOf 22 = .ok (.getfield 23, 3) := by decide +kernel
theorem dX6_tableOf_25 : decode cX6_tableOf 25 = .ok (.areturn, 1) := by decide +kernel
theorem dX6_allNodes_0 : decode cX6_allNodes 0 = .ok (.iconst 1, 1) := by decide +kernel
theorem dX6_allNodes_1 : decode cX6_allNodes 1 = .ok (.aload_n 0, 1) := by decide +kernel
theorem dX6_allNodes_2 : decode cX6_allNodes 2 = .ok (.getfield 14, 3) := by decide +kernel
theorem dX6_allNodes_5 : decode cX6_allNodes 5 = .ok (.getfield 55, 3) := by decide +kernel
theorem dX6_allNodes_8 : decode cX6_allNodes 8 = .ok (.ishl, 1) := by decide +kernel
theorem dX6_allNodes_9 : decode cX6_allNodes 9 = .ok (.iconst 1, 1) := by decide +kernel
theorem dX6_allNodes_10 : decode cX6_allNodes 10 = .ok (.isub, 1) := by decide +kernel
theorem dX6_allNodes_11 : decode cX6_allNodes 11 = .ok (.ireturn, 1) := by decide +kernel
theorem dX6_allGroups_0 : decode cX6_allGroups 0 = .ok (.iconst 1, 1) := by decide +kernel
theorem dX6_allGroups_1 : decode cX6_allGroups 1 = .ok (.aload_n 0, 1) := by decide +kernel
theorem dX6_allGroups_2 : decode cX6_allGroups 2 = .ok (.getfield 23, 3) := by decide +kernel
theorem dX6_allGroups_5 : decode cX6_allGroups 5 = .ok (.getfield 55, 3) := by decide +kernel
theorem dX6_allGroups_8 : decode cX6_allGroups 8 = .ok (.ishl, 1) := by decide +kernel
theorem dX6_allGroups_9 : decode cX6_allGroups 9 = .ok (.iconst 1, 1) := by decide +kernel
theorem dX6_allGroups_10 : decode cX6_allGroups 10 = .ok (.isub, 1) := by decide +kernel
theorem dX6_allGroups_11 : decode cX6_allGroups 11 = .ok (.ireturn, 1) := by decide +kernel
theorem dX6_nodeWith_0 : decode cX6_nodeWith 0 = .ok (.aload_n 0, 1) := by decide +kernel
theorem dX6_nodeWith_1 : decode cX6_nodeWith 1 = .ok (.getfield 23, 3) := by decide +kernel
theorem dX6_nodeWith_4 : decode cX6_nodeWith 4 = .ok (.iload_n 1, 1) := by decide +kernel
theorem dX6_nodeWith_5 : decode cX6_nodeWith 5 = .ok (.bipush 10, 2) := by decide +kernel
theorem dX6_nodeWith_7 : decode cX6_nodeWith 7 = .ok (.iload_n 2, 1) := by decide +kernel
theorem dX6_nodeWith_8 : decode cX6_nodeWith 8 = .ok (.iadd, 1) := by decide +kernel
theorem dX6_nodeWith_9 : decode cX6_nodeWith 9 = .ok (.invokevirtual 58, 3) := by decide +kernel
theorem dX6_nodeWith_12 : decode cX6_nodeWith 12 = .ok (.ireturn, 1) := by decide +kernel
theorem dX6_wayTo_0 : decode cX6_wayTo 0 = .ok (.aload_n 0, 1) := by decide +kernel
theorem dX6_wayTo_1 : decode cX6_wayTo 1 = .ok (.getfield 14, 3) := by decide +kernel
theorem dX6_wayTo_4 : decode cX6_wayTo 4 = .ok (.iload_n 1, 1) := by decide +kernel
theorem dX6_wayTo_5 : decode cX6_wayTo 5 = .ok (.iconst 0, 1) := by decide +kernel
theorem dX6_wayTo_6 : decode cX6_wayTo 6 = .ok (.invokevirtual 58, 3) := by decide +kernel
theorem dX6_wayTo_9 : decode cX6_wayTo 9 = .ok (.iload_n 2, 1) := by decide +kernel
theorem dX6_wayTo_10 : decode cX6_wayTo 10 = .ok (.isub, 1) := by decide +kernel
theorem dX6_wayTo_11 : decode cX6_wayTo 11 = .ok (.sipush 10000, 3) := by decide +kernel
theorem dX6_wayTo_14 : decode cX6_wayTo 14 = .ok (.invokestatic 62, 3) := by decide +kernel
theorem dX6_wayTo_17 : decode cX6_wayTo 17 = .ok (.ireturn, 1) := by decide +kernel
theorem dX6_setState_0 : decode cX6_setState 0 = .ok (.aload_n 0, 1) := by decide +kernel
theorem dX6_setState_1 : decode cX6_setState 1 = .ok (.getfield 14, 3) := by decide +kernel
theorem dX6_setState_4 : decode cX6_setState 4 = .ok (.iload_n 1, 1) := by decide +kernel
theorem dX6_setState_5 : decode cX6_setState 5 = .ok (.iconst 5, 1) := by decide +kernel
theorem dX6_setState_6 : decode cX6_setState 6 = .ok (.iload_n 2, 1) := by decide +kernel
theorem dX6_setState_7 : decode cX6_setState 7 = .ok (.invokevirtual 67, 3) := by decide +kernel
theorem dX6_setState_10 : decode cX6_setState 10 = .ok (.aload_n 0, 1) := by decide +kernel
theorem dX6_setState_11 : decode cX6_setState 11 = .ok (.getfield 14, 3) := by decide +kernel
theorem dX6_setState_14 : decode cX6_setState 14 = .ok (.iload_n 1, 1) := by decide +kernel
theorem dX6_setState_15 : decode cX6_setState 15 = .ok (.bipush 6, 2) := by decide +kernel
theorem dX6_setState_17 : decode cX6_setState 17 = .ok (.aload_n 0, 1) := by decide +kernel
theorem dX6_setState_18 : decode cX6_setState 18 = .ok (.getfield 52, 3) := by decide +kernel
theorem dX6_setState_21 : decode cX6_setState 21 = .ok (.invokevirtual 67, 3) := by decide +kernel
theorem dX6_setState_24 : decode cX6_setState 24 = .ok (.return_, 1) := by decide +kernel
theorem dX6_availableSet_0 : decode cX6_availableSet 0 = .ok (.iconst 0, 1) := by decide +kernel
theorem dX6_availableSet_1 : decode cX6_availableSet 1 = .ok (.istore_n 3, 1) := by decide +kernel
theorem dX6_availableSet_2 : decode cX6_availableSet 2 = .ok (.aload_n 0, 1) := by decide +kernel
theorem dX6_availableSet_3 : decode cX6_availableSet 3 = .ok (.getfield 23, 3) := by decide +kernel
theorem dX6_availableSet_6 : decode cX6_availableSet 6 = .ok (.iload_n 1, 1) := by decide +kernel
theorem dX6_availableSet_7 : decode cX6_availableSet 7 = .ok (.bipush 9, 2) := by decide +kernel
theorem dX6_availableSet_9 : decode cX6_availableSet 9 = .ok (.invokevirtual 58, 3) := by decide +kernel
theorem dX6_availableSet_12 : decode cX6_availableSet 12 = .ok (.istore 4, 2) := by decide +kernel
theorem dX6_availableSet_14 : decode cX6_availableSet 14 = .ok (.iconst 0, 1) := by decide +kernel
theorem dX6_availableSet_15 : decode cX6_availableSet 15 = .ok (.istore 5, 2) := by decide +kernel
theorem dX6_availableSet_17 : decode cX6_availableSet 17 = .ok (.iload 5, 2) := by decide +kernel
theorem dX6_availableSet_19 : decode cX6_availableSet 19 = .ok (.iload 4, 2) := by decide +kernel
theorem dX6_availableSet_21 : decode cX6_availableSet 21 = .ok (.if_icmp .ge 54, 3) := by decide +kernel
theorem dX6_availableSet_24 : decode cX6_availableSet 24 = .ok (.aload_n 0, 1) := by decide +kernel
theorem dX6_availableSet_25 : decode cX6_availableSet 25 = .ok (.getfield 23, 3) := by decide +kernel
theorem dX6_availableSet_28 : decode cX6_availableSet 28 = .ok (.iload_n 1, 1) := by decide +kernel
theorem dX6_availableSet_29 : decode cX6_availableSet 29 = .ok (.bipush 10, 2) := by decide +kernel
theorem dX6_availableSet_31 : decode cX6_availableSet 31 = .ok (.iload 5, 2) := by decide +kernel
theorem dX6_availableSet_33 : decode cX6_availableSet 33 = .ok (.iadd, 1) := by decide +kernel
theorem dX6_availableSet_34 : decode cX6_availableSet 34 = .ok (.invokevirtual 58, 3) := by decide +kernel
theorem dX6_availableSet_37 : decode cX6_availableSet 37 = .ok (.istore 6, 2) := by decide +kernel
theorem dX6_availableSet_39 : decode cX6_availableSet 39 = .ok (.aload_n 0, 1) := by decide +kernel
theorem dX6_availableSet_40 : decode cX6_availableSet 40 = .ok (.getfield 14, 3) := by decide +kernel
theorem dX6_availableSet_43 : decode cX6_availableSet 43 = .ok (.iload 6, 2) := by decide +kernel
theorem dX6_availableSet_45 : decode cX6_availableSet 45 = .ok (.iconst 5, 1) := by decide +kernel
theorem dX6_availableSet_46 : decode cX6_availableSet 46 = .ok (.invokevirtual 58, 3) := by decide +kernel
theorem dX6_availableSet_49 : decode cX6_availableSet 49 = .ok (.iconst 1, 1) := by decide +kernel
theorem dX6_availableSet_50 : decode cX6_availableSet 50 = .ok (.if_icmp .eq 19, 3) := by decide +kernel
theorem dX6_availableSet_53 : decode cX6_availableSet 53 = .ok (.iload_n 2, 1) := by decide +kernel
theorem dX6_availableSet_54 : decode cX6_availableSet 54 = .ok (.iload 6, 2) := by decide +kernel
theorem dX6_availableSet_56 : decode cX6_availableSet 56 = .ok (.ishr, 1) := by decide +kernel
theorem dX6_availableSet_57 : decode cX6_availableSet 57 = .ok (.iconst 1, 1) := by decide +kernel
theorem dX6_availableSet_58 : decode cX6_availableSet 58 = .ok (.iand, 1) := by decide +kernel
theorem dX6_availableSet_59 : decode cX6_availableSet 59 = .ok (.ifCond .ne 10, 3) := by decide +kernel
theorem dX6_availableSet_62 : decode cX6_availableSet 62 = .ok (.iload_n 3, 1) := by decide +kernel
theorem dX6_availableSet_63 : decode cX6_availableSet 63 = .ok (.iconst 1, 1) := by decide +kernel
theorem dX6_availableSet_64 : decode cX6_availableSet 64 = .ok (.iload 5, 2) := by decide +kernel
theorem dX6_availableSet_66 : decode cX6_availableSet 66 = .ok (.ishl, 1) := by decide +kernel
theorem dX6_availableSet_67 : decode cX6_availableSet 67 = .ok (.ior, 1) := by decide +kernel
theorem dX6_availableSet_68 : decode cX6_availableSet 68 = .ok (.istore_n 3, 1) := by decide +kernel
theorem dX6_availableSet_69 : decode cX6_availableSet 69 = .ok (.iinc 5 1, 3) := by decide +kernel
theorem dX6_availableSet_72 : decode cX6_availableSet 72 = .ok (.goto (-55), 3) := by decide +kernel
theorem dX6_availableSet_75 : decode cX6_availableSet 75 = .ok (.iload_n 3, 1) := by decide +kernel
theorem dX6_availableSet_76 : decode cX6_availableSet 76 = .ok (.ireturn, 1) := by decide +kernel
theorem dX6_missingSet_0 : decode cX6_missingSet 0 = .ok (.iconst 1, 1) := by decide +kernel
theorem dX6_missingSet_1 : decode cX6_missingSet 1 = .ok (.aload_n 0, 1) := by decide +kernel
theorem dX6_missingSet_2 : decode cX6_missingSet 2 = .ok (.getfield 23, 3) := by decide +kernel
theorem dX6_missingSet_5 : decode cX6_missingSet 5 = .ok (.iload_n 1, 1) := by decide +kernel
theorem dX6_missingSet_6 : decode cX6_missingSet 6 = .ok (.bipush 9, 2) := by decide +kernel
theorem dX6_missingSet_8 : decode cX6_missingSet 8 = .ok (.invokevirtual 58, 3) := by decide +kernel
theorem dX6_missingSet_11 : decode cX6_missingSet 11 = .ok (.ishl, 1) := by decide +kernel
theorem dX6_missingSet_12 : decode cX6_missingSet 12 = .ok (.iconst 1, 1) := by decide +kernel
theorem dX6_missingSet_13 : decode cX6_missingSet 13 = .ok (.isub, 1) := by decide +kernel
theorem dX6_missingSet_14 : decode cX6_missingSet 14 = .ok (.istore_n 2, 1) := by decide +kernel
theorem dX6_missingSet_15 : decode cX6_missingSet 15 = .ok (.iload_n 2, 1) := by decide +kernel
theorem dX6_missingSet_16 : decode cX6_missingSet 16 = .ok (.aload_n 0, 1) := by decide +kernel
theorem dX6_missingSet_17 : decode cX6_missingSet 17 = .ok (.iload_n 1, 1) := by decide +kernel
theorem dX6_missingSet_18 : decode cX6_missingSet 18 = .ok (.iconst 0, 1) := by decide +kernel
theorem dX6_missingSet_19 : decode cX6_missingSet 19 = .ok (.invokevirtual 71, 3) := by decide +kernel
theorem dX6_missingSet_22 : decode cX6_missingSet 22 = .ok (.iconst (-1), 1) := by decide +kernel
theorem dX6_missingSet_23 : decode cX6_missingSet 23 = .ok (.ixor, 1) := by decide +kernel
theorem dX6_missingSet_24 : decode cX6_missingSet 24 = .ok (.iand, 1) := by decide +kernel
theorem dX6_missingSet_25 : decode cX6_missingSet 25 = .ok (.ireturn, 1) := by decide +kernel
theorem dX6_damagedSet_0 : decode cX6_damagedSet 0 = .ok (.iconst 0, 1) := by decide +kernel
theorem dX6_damagedSet_1 : decode cX6_damagedSet 1 = .ok (.istore_n 1, 1) := by decide +kernel
theorem dX6_damagedSet_2 : decode cX6_damagedSet 2 = .ok (.iconst 0, 1) := by decide +kernel
theorem dX6_damagedSet_3 : decode cX6_damagedSet 3 = .ok (.istore_n 2, 1) := by decide +kernel
theorem dX6_damagedSet_4 : decode cX6_damagedSet 4 = .ok (.iload_n 2, 1) := by decide +kernel
theorem dX6_damagedSet_5 : decode cX6_damagedSet 5 = .ok (.aload_n 0, 1) := by decide +kernel
theorem dX6_damagedSet_6 : decode cX6_damagedSet 6 = .ok (.getfield 23, 3) := by decide +kernel
theorem dX6_damagedSet_9 : decode cX6_damagedSet 9 = .ok (.getfield 55, 3) := by decide +kernel
theorem dX6_damagedSet_12 : decode cX6_damagedSet 12 = .ok (.if_icmp .ge 23, 3) := by decide +kernel
theorem dX6_damagedSet_15 : decode cX6_damagedSet 15 = .ok (.aload_n 0, 1) := by decide +kernel
theorem dX6_damagedSet_16 : decode cX6_damagedSet 16 = .ok (.iload_n 2, 1) := by decide +kernel
theorem dX6_damagedSet_17 : decode cX6_damagedSet 17 = .ok (.invokevirtual 74, 3) := by decide +kernel
theorem dX6_damagedSet_20 : decode cX6_damagedSet 20 = .ok (.ifCond .eq 9, 3) := by decide +kernel
theorem dX6_damagedSet_23 : decode cX6_damagedSet 23 = .ok (.iload_n 1, 1) := by decide +kernel
theorem dX6_damagedSet_24 : decode cX6_damagedSet 24 = .ok (.iconst 1, 1) := by decide +kernel
theorem dX6_damagedSet_25 : decode cX6_damagedSet 25 = .ok (.iload_n 2, 1) := by decide +kernel
theorem dX6_damagedSet_26 : decode cX6_damagedSet 26 = .ok (.ishl, 1) := by decide +kernel
theorem dX6_damagedSet_27 : decode cX6_damagedSet 27 = .ok (.ior, 1) := by decide +kernel
theorem dX6_damagedSet_28 : decode cX6_damagedSet 28 = .ok (.istore_n 1, 1) := by decide +kernel
theorem dX6_damagedSet_29 : decode cX6_damagedSet 29 = .ok (.iinc 2 1, 3) := by decide +kernel
theorem dX6_damagedSet_32 : decode cX6_damagedSet 32 = .ok (.goto (-28), 3) := by decide +kernel
theorem dX6_damagedSet_35 : decode cX6_damagedSet 35 = .ok (.iload_n 1, 1) := by decide +kernel
theorem dX6_damagedSet_36 : decode cX6_damagedSet 36 = .ok (.ireturn, 1) := by decide +kernel
theorem dX6_spareShards_0 : decode cX6_spareShards 0 = .ok (.aload_n 0, 1) := by decide +kernel
theorem dX6_spareShards_1 : decode cX6_spareShards 1 = .ok (.iload_n 1, 1) := by decide +kernel
theorem dX6_spareShards_2 : decode cX6_spareShards 2 = .ok (.iload_n 2, 1) := by decide +kernel
theorem dX6_spareShards_3 : decode cX6_spareShards 3 = .ok (.invokevirtual 71, 3) := by decide +kernel
theorem dX6_spareShards_6 : decode cX6_spareShards 6 = .ok (.invokestatic 78, 3) := by decide +kernel
theorem dX6_spareShards_9 : decode cX6_spareShards 9 = .ok (.aload_n 0, 1) := by decide +kernel
theorem dX6_spareShards_10 : decode cX6_spareShards 10 = .ok (.getfield 23, 3) := by decide +kernel
theorem dX6_spareShards_13 : decode cX6_spareShards 13 = .ok (.iload_n 1, 1) := by decide +kernel
theorem dX6_spareShards_14 : decode cX6_spareShards 14 = .ok (.iconst 2, 1) := by decide +kernel
theorem dX6_spareShards_15 : decode cX6_spareShards 15 = .ok (.invokevirtual 58, 3) := by decide +kernel
theorem dX6_spareShards_18 : decode cX6_spareShards 18 = .ok (.isub, 1) := by decide +kernel
theorem dX6_spareShards_19 : decode cX6_spareShards 19 = .ok (.ireturn, 1) := by decide +kernel
theorem dX6_lostSet_0 : decode cX6_lostSet 0 = .ok (.iconst 0, 1) := by decide +kernel
theorem dX6_lostSet_1 : decode cX6_lostSet 1 = .ok (.istore_n 2, 1) := by decide +kernel
theorem dX6_lostSet_2 : decode cX6_lostSet 2 = .ok (.iconst 0, 1) := by decide +kernel
theorem dX6_lostSet_3 : decode cX6_lostSet 3 = .ok (.istore_n 3, 1) := by decide +kernel
theorem dX6_lostSet_4 : decode cX6_lostSet 4 = .ok (.iload_n 3, 1) := by decide +kernel
theorem dX6_lostSet_5 : decode cX6_lostSet 5 = .ok (.aload_n 0, 1) := by decide +kernel
theorem dX6_lostSet_6 : decode cX6_lostSet 6 = .ok (.getfield 23, 3) := by decide +kernel
theorem dX6_lostSet_9 : decode cX6_lostSet 9 = .ok (.getfield 55, 3) := by decide +kernel
theorem dX6_lostSet_12 : decode cX6_lostSet 12 = .ok (.if_icmp .ge 24, 3) := by decide +kernel
theorem dX6_lostSet_15 : decode cX6_lostSet 15 = .ok (.aload_n 0, 1) := by decide +kernel
theorem dX6_lostSet_16 : decode cX6_lostSet 16 = .ok (.iload_n 3, 1) := by decide +kernel
theorem dX6_lostSet_17 : decode cX6_lostSet 17 = .ok (.iload_n 1, 1) := by decide +kernel
theorem dX6_lostSet_18 : decode cX6_lostSet 18 = .ok (.invokevirtual 83, 3) := by decide +kernel
theorem dX6_lostSet_21 : decode cX6_lostSet 21 = .ok (.ifCond .ge 9, 3) := by decide +kernel
theorem dX6_lostSet_24 : decode cX6_lostSet 24 = .ok (.iload_n 2, 1) := by decide +kernel
theorem dX6_lostSet_25 : decode cX6_lostSet 25 = .ok (.iconst 1, 1) := by decide +kernel
theorem dX6_lostSet_26 : decode cX6_lostSet 26 = .ok (.iload_n 3, 1) := by decide +kernel
theorem dX6_lostSet_27 : decode cX6_lostSet 27 = .ok (.ishl, 1) := by decide +kernel
theorem dX6_lostSet_28 : decode cX6_lostSet 28 = .ok (.ior, 1) := by decide +kernel
theorem dX6_lostSet_29 : decode cX6_lostSet 29 = .ok (.istore_n 2, 1) := by decide +kernel
theorem dX6_lostSet_30 : decode cX6_lostSet 30 = .ok (.iinc 3 1, 3) := by decide +kernel
theorem dX6_lostSet_33 : decode cX6_lostSet 33 = .ok (.goto (-29), 3) := by decide +kernel
theorem dX6_lostSet_36 : decode cX6_lostSet 36 = .ok (.iload_n 2, 1) := by decide +kernel
theorem dX6_lostSet_37 : decode cX6_lostSet 37 = .ok (.ireturn, 1) := by decide +kernel
theorem dX6_failuresToLose_0 : decode cX6_failuresToLose 0 = .ok (.aload_n 0, 1) := by decide +kernel
theorem dX6_failuresToLose_1 : decode cX6_failuresToLose 1 = .ok (.iload_n 1, 1) := by decide +kernel
theorem dX6_failuresToLose_2 : decode cX6_failuresToLose 2 = .ok (.iconst 0, 1) := by decide +kernel
theorem dX6_failuresToLose_3 : decode cX6_failuresToLose 3 = .ok (.invokevirtual 83, 3) := by decide +kernel
theorem dX6_failuresToLose_6 : decode cX6_failuresToLose 6 = .ok (.iconst 1, 1) := by decide +kernel
theorem dX6_failuresToLose_7 : decode cX6_failuresToLose 7 = .ok (.iadd, 1) := by decide +kernel
theorem dX6_failuresToLose_8 : decode cX6_failuresToLose 8 = .ok (.ireturn, 1) := by decide +kernel
theorem dX6_nodeSet_0 : decode cX6_nodeSet 0 = .ok (.iconst 0, 1) := by decide +kernel
theorem dX6_nodeSet_1 : decode cX6_nodeSet 1 = .ok (.istore_n 2, 1) := by decide +kernel
theorem dX6_nodeSet_2 : decode cX6_nodeSet 2 = .ok (.aload_n 0, 1) := by decide +kernel
theorem dX6_nodeSet_3 : decode cX6_nodeSet 3 = .ok (.getfield 23, 3) := by decide +kernel
theorem dX6_nodeSet_6 : decode cX6_nodeSet 6 = .ok (.iload_n 1, 1) := by decide +kernel
theorem dX6_nodeSet_7 : decode cX6_nodeSet 7 = .ok (.bipush 9, 2) := by decide +kernel
theorem dX6_nodeSet_9 : decode cX6_nodeSet 9 = .ok (.invokevirtual 58, 3) := by decide +kernel
theorem dX6_nodeSet_12 : decode cX6_nodeSet 12 = .ok (.istore_n 3, 1) := by decide +kernel
theorem dX6_nodeSet_13 : decode cX6_nodeSet 13 = .ok (.iconst 0, 1) := by decide +kernel
theorem dX6_nodeSet_14 : decode cX6_nodeSet 14 = .ok (.istore 4, 2) := by decide +kernel
theorem dX6_nodeSet_16 : decode cX6_nodeSet 16 = .ok (.iload 4, 2) := by decide +kernel
theorem dX6_nodeSet_18 : decode cX6_nodeSet 18 = .ok (.iload_n 3, 1) := by decide +kernel
theorem dX6_nodeSet_19 : decode cX6_nodeSet 19 = .ok (.if_icmp .ge 37, 3) := by decide +kernel
theorem dX6_nodeSet_22 : decode cX6_nodeSet 22 = .ok (.aload_n 0, 1) := by decide +kernel
theorem dX6_nodeSet_23 : decode cX6_nodeSet 23 = .ok (.getfield 23, 3) := by decide +kernel
theorem dX6_nodeSet_26 : decode cX6_nodeSet 26 = .ok (.iload_n 1, 1) := by decide +kernel
theorem dX6_nodeSet_27 : decode cX6_nodeSet 27 = .ok (.bipush 10, 2) := by decide +kernel
theorem dX6_nodeSet_29 : decode cX6_nodeSet 29 = .ok (.iload 4, 2) := by decide +kernel
theorem dX6_nodeSet_31 : decode cX6_nodeSet 31 = .ok (.iadd, 1) := by decide +kernel
theorem dX6_nodeSet_32 : decode cX6_nodeSet 32 = .ok (.invokevirtual 58, 3) := by decide +kernel
theorem dX6_nodeSet_35 : decode cX6_nodeSet 35 = .ok (.istore 5, 2) := by decide +kernel
theorem dX6_nodeSet_37 : decode cX6_nodeSet 37 = .ok (.iload 5, 2) := by decide +kernel
theorem dX6_nodeSet_39 : decode cX6_nodeSet 39 = .ok (.iconst (-1), 1) := by decide +kernel
theorem dX6_nodeSet_40 : decode cX6_nodeSet 40 = .ok (.if_icmp .eq 10, 3) := by decide +kernel
theorem dX6_nodeSet_43 : decode cX6_nodeSet 43 = .ok (.iload_n 2, 1) := by decide +kernel
theorem dX6_nodeSet_44 : decode cX6_nodeSet 44 = .ok (.iconst 1, 1) := by decide +kernel
theorem dX6_nodeSet_45 : decode cX6_nodeSet 45 = .ok (.iload 5, 2) := by decide +kernel
theorem dX6_nodeSet_47 : decode cX6_nodeSet 47 = .ok (.ishl, 1) := by decide +kernel
theorem dX6_nodeSet_48 : decode cX6_nodeSet 48 = .ok (.ior, 1) := by decide +kernel
theorem dX6_nodeSet_49 : decode cX6_nodeSet 49 = .ok (.istore_n 2, 1) := by decide +kernel
theorem dX6_nodeSet_50 : decode cX6_nodeSet 50 = .ok (.iinc 4 1, 3) := by decide +kernel
theorem dX6_nodeSet_53 : decode cX6_nodeSet 53 = .ok (.goto (-37), 3) := by decide +kernel
theorem dX6_nodeSet_56 : decode cX6_nodeSet 56 = .ok (.iload_n 2, 1) := by decide +kernel
theorem dX6_nodeSet_57 : decode cX6_nodeSet 57 = .ok (.ireturn, 1) := by decide +kernel
theorem dX6_availableNodes_0 : decode cX6_availableNodes 0 = .ok (.aload_n 0, 1) := by decide +kernel
theorem dX6_availableNodes_1 : decode cX6_availableNodes 1 = .ok (.iload_n 1, 1) := by decide +kernel
theorem dX6_availableNodes_2 : decode cX6_availableNodes 2 = .ok (.invokevirtual 86, 3) := by decide +kernel
theorem dX6_availableNodes_5 : decode cX6_availableNodes 5 = .ok (.istore_n 2, 1) := by decide +kernel
theorem dX6_availableNodes_6 : decode cX6_availableNodes 6 = .ok (.iconst 0, 1) := by decide +kernel
theorem dX6_availableNodes_7 : decode cX6_availableNodes 7 = .ok (.istore_n 3, 1) := by decide +kernel
theorem dX6_availableNodes_8 : decode cX6_availableNodes 8 = .ok (.iload_n 3, 1) := by decide +kernel
theorem dX6_availableNodes_9 : decode cX6_availableNodes 9 = .ok (.aload_n 0, 1) := by decide +kernel
theorem dX6_availableNodes_10 : decode cX6_availableNodes 10 = .ok (.getfield 14, 3) := by decide +kernel
theorem dX6_availableNodes_13 : decode cX6_availableNodes 13 = .ok (.getfield 55, 3) := by decide +kernel
theorem dX6_availableNodes_16 : decode cX6_availableNodes 16 = .ok (.if_icmp .ge 30, 3) := by decide +kernel
theorem dX6_availableNodes_19 : decode cX6_availableNodes 19 = .ok (.aload_n 0, 1) := by decide +kernel
theorem dX6_availableNodes_20 : decode cX6_availableNodes 20 = .ok (.getfield 14, 3) := by decide +kernel
theorem dX6_availableNodes_23 : decode cX6_availableNodes 23 = .ok (.iload_n 3, 1) := by decide +kernel
theorem dX6_availableNodes_24 : decode cX6_availableNodes 24 = .ok (.iconst 5, 1) := by decide +kernel
theorem dX6_availableNodes_25 : decode cX6_availableNodes 25 = .ok (.invokevirtual 58, 3) := by decide +kernel
theorem dX6_availableNodes_28 : decode cX6_availableNodes 28 = .ok (.iconst 1, 1) := by decide +kernel
theorem dX6_availableNodes_29 : decode cX6_availableNodes 29 = .ok (.if_icmp .ne 11, 3) := by decide +kernel
theorem dX6_availableNodes_32 : decode cX6_availableNodes 32 = .ok (.iload_n 2, 1) := by decide +kernel
theorem dX6_availableNodes_33 : decode cX6_availableNodes 33 = .ok (.iconst 1, 1) := by decide +kernel
theorem dX6_availableNodes_34 : decode cX6_availableNodes 34 = .ok (.iload_n 3, 1) := by decide +kernel
theorem dX6_availableNodes_35 : decode cX6_availableNodes 35 = .ok (.ishl, 1) := by decide +kernel
theorem dX6_availableNodes_36 : decode cX6_availableNodes 36 = .ok (.iconst (-1), 1) := by decide +kernel
theorem dX6_availableNodes_37 : decode cX6_availableNodes 37 = .ok (.ixor, 1) := by decide +kernel
theorem dX6_availableNodes_38 : decode cX6_availableNodes 38 = .ok (.iand, 1) := by decide +kernel
theorem dX6_availableNodes_39 : decode cX6_availableNodes 39 = .ok (.istore_n 2, 1) := by decide +kernel
theorem dX6_availableNodes_40 : decode cX6_availableNodes 40 = .ok (.iinc 3 1, 3) := by decide +kernel
theorem dX6_availableNodes_43 : decode cX6_availableNodes 43 = .ok (.goto (-35), 3) := by decide +kernel
theorem dX6_availableNodes_46 : decode cX6_availableNodes 46 = .ok (.iload_n 2, 1) := by decide +kernel
theorem dX6_availableNodes_47 : decode cX6_availableNodes 47 = .ok (.ireturn, 1) := by decide +kernel
theorem dX6_zoneSet_0 : decode cX6_zoneSet 0 = .ok (.iconst 0, 1) := by decide +kernel
theorem dX6_zoneSet_1 : decode cX6_zoneSet 1 = .ok (.istore_n 3, 1) := by decide +kernel
theorem dX6_zoneSet_2 : decode cX6_zoneSet 2 = .ok (.aload_n 0, 1) := by decide +kernel
theorem dX6_zoneSet_3 : decode cX6_zoneSet 3 = .ok (.getfield 23, 3) := by decide +kernel
theorem dX6_zoneSet_6 : decode cX6_zoneSet 6 = .ok (.iload_n 1, 1) := by decide +kernel
theorem dX6_zoneSet_7 : decode cX6_zoneSet 7 = .ok (.bipush 9, 2) := by decide +kernel
theorem dX6_zoneSet_9 : decode cX6_zoneSet 9 = .ok (.invokevirtual 58, 3) := by decide +kernel
theorem dX6_zoneSet_12 : decode cX6_zoneSet 12 = .ok (.istore 4, 2) := by decide +kernel
theorem dX6_zoneSet_14 : decode cX6_zoneSet 14 = .ok (.iconst 0, 1) := by decide +kernel
theorem dX6_zoneSet_15 : decode cX6_zoneSet 15 = .ok (.istore 5, 2) := by decide +kernel
theorem dX6_zoneSet_17 : decode cX6_zoneSet 17 = .ok (.iload 5, 2) := by decide +kernel
theorem dX6_zoneSet_19 : decode cX6_zoneSet 19 = .ok (.iload 4, 2) := by decide +kernel
theorem dX6_zoneSet_21 : decode cX6_zoneSet 21 = .ok (.if_icmp .ge 54, 3) := by decide +kernel
theorem dX6_zoneSet_24 : decode cX6_zoneSet 24 = .ok (.aload_n 0, 1) := by decide +kernel
theorem dX6_zoneSet_25 : decode cX6_zoneSet 25 = .ok (.getfield 23, 3) := by decide +kernel
theorem dX6_zoneSet_28 : decode cX6_zoneSet 28 = .ok (.iload_n 1, 1) := by decide +kernel
theorem dX6_zoneSet_29 : decode cX6_zoneSet 29 = .ok (.bipush 10, 2) := by decide +kernel
theorem dX6_zoneSet_31 : decode cX6_zoneSet 31 = .ok (.iload 5, 2) := by decide +kernel
theorem dX6_zoneSet_33 : decode cX6_zoneSet 33 = .ok (.iadd, 1) := by decide +kernel
theorem dX6_zoneSet_34 : decode cX6_zoneSet 34 = .ok (.invokevirtual 58, 3) := by decide +kernel
theorem dX6_zoneSet_37 : decode cX6_zoneSet 37 = .ok (.istore 6, 2) := by decide +kernel
theorem dX6_zoneSet_39 : decode cX6_zoneSet 39 = .ok (.iload 6, 2) := by decide +kernel
theorem dX6_zoneSet_41 : decode cX6_zoneSet 41 = .ok (.iconst (-1), 1) := by decide +kernel
theorem dX6_zoneSet_42 : decode cX6_zoneSet 42 = .ok (.if_icmp .eq 27, 3) := by decide +kernel
theorem dX6_zoneSet_45 : decode cX6_zoneSet 45 = .ok (.iload_n 2, 1) := by decide +kernel
theorem dX6_zoneSet_46 : decode cX6_zoneSet 46 = .ok (.iload 5, 2) := by decide +kernel
theorem dX6_zoneSet_48 : decode cX6_zoneSet 48 = .ok (.ishr, 1) := by decide +kernel
theorem dX6_zoneSet_49 : decode cX6_zoneSet 49 = .ok (.iconst 1, 1) := by decide +kernel
theorem dX6_zoneSet_50 : decode cX6_zoneSet 50 = .ok (.iand, 1) := by decide +kernel
theorem dX6_zoneSet_51 : decode cX6_zoneSet 51 = .ok (.ifCond .eq 18, 3) := by decide +kernel
theorem dX6_zoneSet_54 : decode cX6_zoneSet 54 = .ok (.iload_n 3, 1) := by decide +kernel
theorem dX6_zoneSet_55 : decode cX6_zoneSet 55 = .ok (.iconst 1, 1) := by decide +kernel
theorem dX6_zoneSet_56 : decode cX6_zoneSet 56 = .ok (.aload_n 0, 1) := by decide +kernel
theorem dX6_zoneSet_57 : decode cX6_zoneSet 57 = .ok (.getfield 14, 3) := by decide +kernel
theorem dX6_zoneSet_60 : decode cX6_zoneSet 60 = .ok (.iload 6, 2) := by decide +kernel
theorem dX6_zoneSet_62 : decode cX6_zoneSet 62 = .ok (.iconst 1, 1) := by decide +kernel
theorem dX6_zoneSet_63 : decode cX6_zoneSet 63 = .ok (.invokevirtual 58, 3) := by decide +kernel
theorem dX6_zoneSet_66 : decode cX6_zoneSet 66 = .ok (.ishl, 1) := by decide +kernel
theorem dX6_zoneSet_67 : decode cX6_zoneSet 67 = .ok (.ior, 1) := by decide +kernel
theorem dX6_zoneSet_68 : decode cX6_zoneSet 68 = .ok (.istore_n 3, 1) := by decide +kernel
theorem dX6_zoneSet_69 : decode cX6_zoneSet 69 = .ok (.iinc 5 1, 3) := by decide +kernel
theorem dX6_zoneSet_72 : decode cX6_zoneSet 72 = .ok (.goto (-55), 3) := by decide +kernel
theorem dX6_zoneSet_75 : decode cX6_zoneSet 75 = .ok (.iload_n 3, 1) := by decide +kernel
theorem dX6_zoneSet_76 : decode cX6_zoneSet 76 = .ok (.ireturn, 1) := by decide +kernel
theorem dX6_canTake_0 : decode cX6_canTake 0 = .ok (.aload_n 0, 1) := by decide +kernel
theorem dX6_canTake_1 : decode cX6_canTake 1 = .ok (.getfield 14, 3) := by decide +kernel
theorem dX6_canTake_4 : decode cX6_canTake 4 = .ok (.iload_n 1, 1) := by decide +kernel
theorem dX6_canTake_5 : decode cX6_canTake 5 = .ok (.iconst 5, 1) := by decide +kernel
theorem dX6_canTake_6 : decode cX6_canTake 6 = .ok (.invokevirtual 58, 3) := by decide +kernel
theorem dX6_canTake_9 : decode cX6_canTake 9 = .ok (.ifCond .ne 36, 3) := by decide +kernel
theorem dX6_canTake_12 : decode cX6_canTake 12 = .ok (.aload_n 0, 1) := by decide +kernel
theorem dX6_canTake_13 : decode cX6_canTake 13 = .ok (.getfield 14, 3) := by decide +kernel
theorem dX6_canTake_16 : decode cX6_canTake 16 = .ok (.iload_n 1, 1) := by decide +kernel
theorem dX6_canTake_17 : decode cX6_canTake 17 = .ok (.iconst 4, 1) := by decide +kernel
theorem dX6_canTake_18 : decode cX6_canTake 18 = .ok (.invokevirtual 58, 3) := by decide +kernel
theorem dX6_canTake_21 : decode cX6_canTake 21 = .ok (.aload_n 0, 1) := by decide +kernel
theorem dX6_canTake_22 : decode cX6_canTake 22 = .ok (.getfield 14, 3) := by decide +kernel
theorem dX6_canTake_25 : decode cX6_canTake 25 = .ok (.iload_n 1, 1) := by decide +kernel
theorem dX6_canTake_26 : decode cX6_canTake 26 = .ok (.iconst 3, 1) := by decide +kernel
theorem dX6_canTake_27 : decode cX6_canTake 27 = .ok (.invokevirtual 58, 3) := by decide +kernel
theorem dX6_canTake_30 : decode cX6_canTake 30 = .ok (.if_icmp .ge 15, 3) := by decide +kernel
theorem dX6_canTake_33 : decode cX6_canTake 33 = .ok (.iload_n 2, 1) := by decide +kernel
theorem dX6_canTake_34 : decode cX6_canTake 34 = .ok (.iload_n 1, 1) := by decide +kernel
theorem dX6_canTake_35 : decode cX6_canTake 35 = .ok (.ishr, 1) := by decide +kernel
theorem dX6_canTake_36 : decode cX6_canTake 36 = .ok (.iconst 1, 1) := by decide +kernel
theorem dX6_canTake_37 : decode cX6_canTake 37 = .ok (.iand, 1) := by decide +kernel
theorem dX6_canTake_38 : decode cX6_canTake 38 = .ok (.ifCond .ne 7, 3) := by decide +kernel
theorem dX6_canTake_41 : decode cX6_canTake 41 = .ok (.iconst 1, 1) := by decide +kernel
theorem dX6_canTake_42 : decode cX6_canTake 42 = .ok (.goto 4, 3) := by decide +kernel
theorem dX6_canTake_45 : decode cX6_canTake 45 = .ok (.iconst 0, 1) := by decide +kernel
theorem dX6_canTake_46 : decode cX6_canTake 46 = .ok (.ireturn, 1) := by decide +kernel
theorem dX6_placeFor_0 : decode cX6_placeFor 0 = .ok (.aload_n 0, 1) := by decide +kernel
theorem dX6_placeFor_1 : decode cX6_placeFor 1 = .ok (.iload_n 1, 1) := by decide +kernel
theorem dX6_placeFor_2 : decode cX6_placeFor 2 = .ok (.invokevirtual 86, 3) := by decide +kernel
theorem dX6_placeFor_5 : decode cX6_placeFor 5 = .ok (.istore 4, 2) := by decide +kernel
theorem dX6_placeFor_7 : decode cX6_placeFor 7 = .ok (.aload_n 0, 1) := by decide +kernel
theorem dX6_placeFor_8 : decode cX6_placeFor 8 = .ok (.iload_n 1, 1) := by decide +kernel
theorem dX6_placeFor_9 : decode cX6_placeFor 9 = .ok (.iconst 1, 1) := by decide +kernel
theorem dX6_placeFor_10 : decode cX6_placeFor 10 = .ok (.iload_n 2, 1) := by decide +kernel
theorem dX6_placeFor_11 : decode cX6_placeFor 11 = .ok (.ishl, 1) := by decide +kernel
theorem dX6_placeFor_12 : decode cX6_placeFor 12 = .ok (.iconst (-1), 1) := by decide +kernel
theorem dX6_placeFor_13 : decode cX6_placeFor 13 = .ok (.ixor, 1) := by decide +kernel
theorem dX6_placeFor_14 : decode cX6_placeFor 14 = .ok (.invokevirtual 89, 3) := by decide +kernel
theorem dX6_placeFor_17 : decode cX6_placeFor 17 = .ok (.istore 5, 2) := by decide +kernel
theorem dX6_placeFor_19 : decode cX6_placeFor 19 = .ok (.iconst (-1), 1) := by decide +kernel
theorem dX6_placeFor_20 : decode cX6_placeFor 20 = .ok (.istore 6, 2) := by decide +kernel
theorem dX6_placeFor_22 : decode cX6_placeFor 22 = .ok (.iconst 0, 1) := by decide +kernel
theorem dX6_placeFor_23 : decode cX6_placeFor 23 = .ok (.istore 7, 2) := by decide +kernel
theorem dX6_placeFor_25 : decode cX6_placeFor 25 = .ok (.iconst 0, 1) := by decide +kernel
theorem dX6_placeFor_26 : decode cX6_placeFor 26 = .ok (.istore 8, 2) := by decide +kernel
theorem dX6_placeFor_28 : decode cX6_placeFor 28 = .ok (.iload 8, 2) := by decide +kernel
theorem dX6_placeFor_30 : decode cX6_placeFor 30 = .ok (.aload_n 0, 1) := by decide +kernel
theorem dX6_placeFor_31 : decode cX6_placeFor 31 = .ok (.getfield 14, 3) := by decide +kernel
theorem dX6_placeFor_34 : decode cX6_placeFor 34 = .ok (.getfield 55, 3) := by decide +kernel
theorem dX6_placeFor_37 : decode cX6_placeFor 37 = .ok (.if_icmp .ge 88, 3) := by decide +kernel
theorem dX6_placeFor_40 : decode cX6_placeFor 40 = .ok (.aload_n 0, 1) := by decide +kernel
theorem dX6_placeFor_41 : decode cX6_placeFor 41 = .ok (.iload 8, 2) := by decide +kernel
theorem dX6_placeFor_43 : decode cX6_placeFor 43 = .ok (.iload 4, 2) := by decide +kernel
theorem dX6_placeFor_45 : decode cX6_placeFor 45 = .ok (.invokevirtual 92, 3) := by decide +kernel
theorem dX6_placeFor_48 : decode cX6_placeFor 48 = .ok (.ifCond .eq 71, 3) := by decide +kernel
theorem dX6_placeFor_51 : decode cX6_placeFor 51 = .ok (.iload 5, 2) := by decide +kernel
theorem dX6_placeFor_53 : decode cX6_placeFor 53 = .ok (.aload_n 0, 1) := by decide +kernel
theorem dX6_placeFor_54 : decode cX6_placeFor 54 = .ok (.getfield 14, 3) := by decide +kernel
theorem dX6_placeFor_57 : decode cX6_placeFor 57 = .ok (.iload 8, 2) := by decide +kernel
theorem dX6_placeFor_59 : decode cX6_placeFor 59 = .ok (.iconst 1, 1) := by decide +kernel
theorem dX6_placeFor_60 : decode cX6_placeFor 60 = .ok (.invokevirtual 58, 3) := by decide +kernel
theorem dX6_placeFor_63 : decode cX6_placeFor 63 = .ok (.ishr, 1) := by decide +kernel
theorem dX6_placeFor_64 : decode cX6_placeFor 64 = .ok (.iconst 1, 1) := by decide +kernel
theorem dX6_placeFor_65 : decode cX6_placeFor 65 = .ok (.iand, 1) := by decide +kernel
theorem dX6_placeFor_66 : decode cX6_placeFor 66 = .ok (.ifCond .ne 7, 3) := by decide +kernel
theorem dX6_placeFor_69 : decode cX6_placeFor 69 = .ok (.iconst 1, 1) := by decide +kernel
theorem dX6_placeFor_70 : decode cX6_placeFor 70 = .ok (.goto 4, 3) := by decide +kernel
theorem dX6_placeFor_73 : decode cX6_placeFor 73 = .ok (.iconst 0, 1) := by decide +kernel
theorem dX6_placeFor_74 : decode cX6_placeFor 74 = .ok (.istore 9, 2) := by decide +kernel
theorem dX6_placeFor_76 : decode cX6_placeFor 76 = .ok (.aload_n 0, 1) := by decide +kernel
theorem dX6_placeFor_77 : decode cX6_placeFor 77 = .ok (.iload 8, 2) := by decide +kernel
theorem dX6_placeFor_79 : decode cX6_placeFor 79 = .ok (.iload_n 3, 1) := by decide +kernel
theorem dX6_placeFor_80 : decode cX6_placeFor 80 = .ok (.invokevirtual 96, 3) := by decide +kernel
theorem dX6_placeFor_83 : decode cX6_placeFor 83 = .ok (.iload 9, 2) := by decide +kernel
theorem dX6_placeFor_85 : decode cX6_placeFor 85 = .ok (.ifCond .eq 7, 3) := by decide +kernel
theorem dX6_placeFor_88 : decode cX6_placeFor 88 = .ok (.iconst 0, 1) := by decide +kernel
theorem dX6_placeFor_89 : decode cX6_placeFor 89 = .ok (.goto 6, 3) := by decide +kernel
theorem dX6_placeFor_92 : decode cX6_placeFor 92 = .ok (.sipush 10000, 3) := by decide +kernel
theorem dX6_placeFor_95 : decode cX6_placeFor 95 = .ok (.iadd, 1) := by decide +kernel
theorem dX6_placeFor_96 : decode cX6_placeFor 96 = .ok (.istore 10, 2) := by decide +kernel
theorem dX6_placeFor_98 : decode cX6_placeFor 98 = .ok (.iload 6, 2) := by decide +kernel
theorem dX6_placeFor_100 : decode cX6_placeFor 100 = .ok (.iconst (-1), 1) := by decide +kernel
theorem dX6_placeFor_101 : decode cX6_placeFor 101 = .ok (.if_icmp .eq 10, 3) := by decide +kernel
theorem dX6_placeFor_104 : decode cX6_placeFor 104 = .ok (.iload 10, 2) := by decide +kernel
theorem dX6_placeFor_106 : decode cX6_placeFor 106 = .ok (.iload 7, 2) := by decide +kernel
theorem dX6_placeFor_108 : decode cX6_placeFor 108 = .ok (.if_icmp .ge 11, 3) := by decide +kernel
theorem dX6_placeFor_111 : decode cX6_placeFor 111 = .ok (.iload 8, 2) := by decide +kernel
theorem dX6_placeFor_113 : decode cX6_placeFor 113 = .ok (.istore 6, 2) := by decide +kernel
theorem dX6_placeFor_115 : decode cX6_placeFor 115 = .ok (.iload 10, 2) := by decide +kernel
theorem dX6_placeFor_117 : decode cX6_placeFor 117 = .ok (.istore 7, 2) := by decide +kernel
theorem dX6_placeFor_119 : decode cX6_placeFor 119 = .ok (.iinc 8 1, 3) := by decide +kernel
theorem dX6_placeFor_122 : decode cX6_placeFor 122 = .ok (.goto (-94), 3) := by decide +kernel
theorem dX6_placeFor_125 : decode cX6_placeFor 125 = .ok (.iload 6, 2) := by decide +kernel
theorem dX6_placeFor_127 : decode cX6_placeFor 127 = .ok (.ireturn, 1) := by decide +kernel
theorem dX6_targetOf_0 : decode cX6_targetOf 0 = .ok (.aload_n 0, 1) := by decide +kernel
theorem dX6_targetOf_1 : decode cX6_targetOf 1 = .ok (.iload_n 1, 1) := by decide +kernel
theorem dX6_targetOf_2 : decode cX6_targetOf 2 = .ok (.invokevirtual 74, 3) := by decide +kernel
theorem dX6_targetOf_5 : decode cX6_targetOf 5 = .ok (.istore_n 2, 1) := by decide +kernel
theorem dX6_targetOf_6 : decode cX6_targetOf 6 = .ok (.iload_n 2, 1) := by decide +kernel
theorem dX6_targetOf_7 : decode cX6_targetOf 7 = .ok (.ifCond .ne 5, 3) := by decide +kernel
theorem dX6_targetOf_10 : decode cX6_targetOf 10 = .ok (.iconst (-1), 1) := by decide +kernel
theorem dX6_targetOf_11 : decode cX6_targetOf 11 = .ok (.ireturn, 1) := by decide +kernel
theorem dX6_targetOf_12 : decode cX6_targetOf 12 = .ok (.iload_n 2, 1) := by decide +kernel
theorem dX6_targetOf_13 : decode cX6_targetOf 13 = .ok (.invokestatic 99, 3) := by decide +kernel
theorem dX6_targetOf_16 : decode cX6_targetOf 16 = .ok (.istore_n 3, 1) := by decide +kernel
theorem dX6_targetOf_17 : decode cX6_targetOf 17 = .ok (.aload_n 0, 1) := by decide +kernel
theorem dX6_targetOf_18 : decode cX6_targetOf 18 = .ok (.getfield 23, 3) := by decide +kernel
theorem dX6_targetOf_21 : decode cX6_targetOf 21 = .ok (.iload_n 1, 1) := by decide +kernel
theorem dX6_targetOf_22 : decode cX6_targetOf 22 = .ok (.bipush 10, 2) := by decide +kernel
theorem dX6_targetOf_24 : decode cX6_targetOf 24 = .ok (.iload_n 3, 1) := by decide +kernel
theorem dX6_targetOf_25 : decode cX6_targetOf 25 = .ok (.iadd, 1) := by decide +kernel
theorem dX6_targetOf_26 : decode cX6_targetOf 26 = .ok (.invokevirtual 58, 3) := by decide +kernel
theorem dX6_targetOf_29 : decode cX6_targetOf 29 = .ok (.istore 4, 2) := by decide +kernel
theorem dX6_targetOf_31 : decode cX6_targetOf 31 = .ok (.aload_n 0, 1) := by decide +kernel
theorem dX6_targetOf_32 : decode cX6_targetOf 32 = .ok (.iload_n 1, 1) := by decide +kernel
theorem dX6_targetOf_33 : decode cX6_targetOf 33 = .ok (.iload_n 3, 1) := by decide +kernel
theorem dX6_targetOf_34 : decode cX6_targetOf 34 = .ok (.aload_n 0, 1) := by decide +kernel
theorem dX6_targetOf_35 : decode cX6_targetOf 35 = .ok (.getfield 14, 3) := by decide +kernel
theorem dX6_targetOf_38 : decode cX6_targetOf 38 = .ok (.iload 4, 2) := by decide +kernel
theorem dX6_targetOf_40 : decode cX6_targetOf 40 = .ok (.iconst 0, 1) := by decide +kernel
theorem dX6_targetOf_41 : decode cX6_targetOf 41 = .ok (.invokevirtual 58, 3) := by decide +kernel
theorem dX6_targetOf_44 : decode cX6_targetOf 44 = .ok (.iconst 1, 1) := by decide +kernel
theorem dX6_targetOf_45 : decode cX6_targetOf 45 = .ok (.iadd, 1) := by decide +kernel
theorem dX6_targetOf_46 : decode cX6_targetOf 46 = .ok (.invokevirtual 102, 3) := by decide +kernel
theorem dX6_targetOf_49 : decode cX6_targetOf 49 = .ok (.ireturn, 1) := by decide +kernel
theorem dX6_put_0 : decode cX6_put 0 = .ok (.aload_n 0, 1) := by decide +kernel
theorem dX6_put_1 : decode cX6_put 1 = .ok (.getfield 23, 3) := by decide +kernel
theorem dX6_put_4 : decode cX6_put 4 = .ok (.iload_n 1, 1) := by decide +kernel
theorem dX6_put_5 : decode cX6_put 5 = .ok (.bipush 10, 2) := by decide +kernel
theorem dX6_put_7 : decode cX6_put 7 = .ok (.iload_n 2, 1) := by decide +kernel
theorem dX6_put_8 : decode cX6_put 8 = .ok (.iadd, 1) := by decide +kernel
theorem dX6_put_9 : decode cX6_put 9 = .ok (.invokevirtual 58, 3) := by decide +kernel
theorem dX6_put_12 : decode cX6_put 12 = .ok (.istore 4, 2) := by decide +kernel
theorem dX6_put_14 : decode cX6_put 14 = .ok (.aload_n 0, 1) := by decide +kernel
theorem dX6_put_15 : decode cX6_put 15 = .ok (.getfield 14, 3) := by decide +kernel
theorem dX6_put_18 : decode cX6_put 18 = .ok (.iload 4, 2) := by decide +kernel
theorem dX6_put_20 : decode cX6_put 20 = .ok (.iconst 4, 1) := by decide +kernel
theorem dX6_put_21 : decode cX6_put 21 = .ok (.iconst (-1), 1) := by decide +kernel
theorem dX6_put_22 : decode cX6_put 22 = .ok (.invokevirtual 106, 3) := by decide +kernel
theorem dX6_put_25 : decode cX6_put 25 = .ok (.aload_n 0, 1) := by decide +kernel
theorem dX6_put_26 : decode cX6_put 26 = .ok (.getfield 14, 3) := by decide +kernel
theorem dX6_put_29 : decode cX6_put 29 = .ok (.iload_n 3, 1) := by decide +kernel
theorem dX6_put_30 : decode cX6_put 30 = .ok (.iconst 4, 1) := by decide +kernel
theorem dX6_put_31 : decode cX6_put 31 = .ok (.iconst 1, 1) := by decide +kernel
theorem dX6_put_32 : decode cX6_put 32 = .ok (.invokevirtual 106, 3) := by decide +kernel
theorem dX6_put_35 : decode cX6_put 35 = .ok (.aload_n 0, 1) := by decide +kernel
theorem dX6_put_36 : decode cX6_put 36 = .ok (.getfield 23, 3) := by decide +kernel
theorem dX6_put_39 : decode cX6_put 39 = .ok (.iload_n 1, 1) := by decide +kernel
theorem dX6_put_40 : decode cX6_put 40 = .ok (.bipush 10, 2) := by decide +kernel
theorem dX6_put_42 : decode cX6_put 42 = .ok (.iload_n 2, 1) := by decide +kernel
theorem dX6_put_43 : decode cX6_put 43 = .ok (.iadd, 1) := by decide +kernel
theorem dX6_put_44 : decode cX6_put 44 = .ok (.iload_n 3, 1) := by decide +kernel
theorem dX6_put_45 : decode cX6_put 45 = .ok (.invokevirtual 67, 3) := by decide +kernel
theorem dX6_put_48 : decode cX6_put 48 = .ok (.return_, 1) := by decide +kernel
theorem dX6_placeAll_0 : decode cX6_placeAll 0 = .ok (.aload_n 0, 1) := by decide +kernel
theorem dX6_placeAll_1 : decode cX6_placeAll 1 = .ok (.getfield 23, 3) := by decide +kernel
theorem dX6_placeAll_4 : decode cX6_placeAll 4 = .ok (.iload_n 1, 1) := by decide +kernel
theorem dX6_placeAll_5 : decode cX6_placeAll 5 = .ok (.bipush 9, 2) := by decide +kernel
theorem dX6_placeAll_7 : decode cX6_placeAll 7 = .ok (.invokevirtual 58, 3) := by decide +kernel
theorem dX6_placeAll_10 : decode cX6_placeAll 10 = .ok (.istore_n 2, 1) := by decide +kernel
theorem dX6_placeAll_11 : decode cX6_placeAll 11 = .ok (.iconst 0, 1) := by decide +kernel
theorem dX6_placeAll_12 : decode cX6_placeAll 12 = .ok (.istore_n 3, 1) := by decide +kernel
theorem dX6_placeAll_13 : decode cX6_placeAll 13 = .ok (.iload_n 3, 1) := by decide +kernel
theorem dX6_placeAll_14 : decode cX6_placeAll 14 = .ok (.iload_n 2, 1) := by decide +kernel
theorem dX6_placeAll_15 : decode cX6_placeAll 15 = .ok (.if_icmp .ge 22, 3) := by decide +kernel
theorem dX6_placeAll_18 : decode cX6_placeAll 18 = .ok (.aload_n 0, 1) := by decide +kernel
theorem dX6_placeAll_19 : decode cX6_placeAll 19 = .ok (.getfield 23, 3) := by decide +kernel
theorem dX6_placeAll_22 : decode cX6_placeAll 22 = .ok (.iload_n 1, 1) := by decide +kernel
theorem dX6_placeAll_23 : decode cX6_placeAll 23 = .ok (.bipush 10, 2) := by decide +kernel
theorem dX6_placeAll_25 : decode cX6_placeAll 25 = .ok (.iload_n 3, 1) := by decide +kernel
theorem dX6_placeAll_26 : decode cX6_placeAll 26 = .ok (.iadd, 1) := by decide +kernel
theorem dX6_placeAll_27 : decode cX6_placeAll 27 = .ok (.iconst (-1), 1) := by decide +kernel
theorem dX6_placeAll_28 : decode cX6_placeAll 28 = .ok (.invokevirtual 67, 3) := by decide +kernel
theorem dX6_placeAll_31 : decode cX6_placeAll 31 = .ok (.iinc 3 1, 3) := by decide +kernel
theorem dX6_placeAll_34 : decode cX6_placeAll 34 = .ok (.goto (-21), 3) := by decide +kernel
theorem dX6_placeAll_37 : decode cX6_placeAll 37 = .ok (.aload_n 0, 1) := by decide +kernel
theorem dX6_placeAll_38 : decode cX6_placeAll 38 = .ok (.getfield 23, 3) := by decide +kernel
theorem dX6_placeAll_41 : decode cX6_placeAll 41 = .ok (.iload_n 1, 1) := by decide +kernel
theorem dX6_placeAll_42 : decode cX6_placeAll 42 = .ok (.iconst 1, 1) := by decide +kernel
theorem dX6_placeAll_43 : decode cX6_placeAll 43 = .ok (.invokevirtual 58, 3) := by decide +kernel
theorem dX6_placeAll_46 : decode cX6_placeAll 46 = .ok (.istore_n 3, 1) := by decide +kernel
theorem dX6_placeAll_47 : decode cX6_placeAll 47 = .ok (.iconst 0, 1) := by decide +kernel
theorem dX6_placeAll_48 : decode cX6_placeAll 48 = .ok (.istore 4, 2) := by decide +kernel
theorem dX6_placeAll_50 : decode cX6_placeAll 50 = .ok (.iload 4, 2) := by decide +kernel
theorem dX6_placeAll_52 : decode cX6_placeAll 52 = .ok (.iload_n 2, 1) := by decide +kernel
theorem dX6_placeAll_53 : decode cX6_placeAll 53 = .ok (.if_icmp .ge 49, 3) := by decide +kernel
theorem dX6_placeAll_56 : decode cX6_placeAll 56 = .ok (.aload_n 0, 1) := by decide +kernel
theorem dX6_placeAll_57 : decode cX6_placeAll 57 = .ok (.iload_n 1, 1) := by decide +kernel
theorem dX6_placeAll_58 : decode cX6_placeAll 58 = .ok (.iload 4, 2) := by decide +kernel
theorem dX6_placeAll_60 : decode cX6_placeAll 60 = .ok (.iload_n 3, 1) := by decide +kernel
theorem dX6_placeAll_61 : decode cX6_placeAll 61 = .ok (.invokevirtual 102, 3) := by decide +kernel
theorem dX6_placeAll_64 : decode cX6_placeAll 64 = .ok (.istore 5, 2) := by decide +kernel
theorem dX6_placeAll_66 : decode cX6_placeAll 66 = .ok (.iload 5, 2) := by decide +kernel
theorem dX6_placeAll_68 : decode cX6_placeAll 68 = .ok (.iconst (-1), 1) := by decide +kernel
theorem dX6_placeAll_69 : decode cX6_placeAll 69 = .ok (.if_icmp .ne 5, 3) := by decide +kernel
theorem dX6_placeAll_72 : decode cX6_placeAll 72 = .ok (.iconst 0, 1) := by decide +kernel
theorem dX6_placeAll_73 : decode cX6_placeAll 73 = .ok (.ireturn, 1) := by decide +kernel
theorem dX6_placeAll_74 : decode cX6_placeAll 74 = .ok (.aload_n 0, 1) := by decide +kernel
theorem dX6_placeAll_75 : decode cX6_placeAll 75 = .ok (.iload_n 1, 1) := by decide +kernel
theorem dX6_placeAll_76 : decode cX6_placeAll 76 = .ok (.iload 4, 2) := by decide +kernel
theorem dX6_placeAll_78 : decode cX6_placeAll 78 = .ok (.iload 5, 2) := by decide +kernel
theorem dX6_placeAll_80 : decode cX6_placeAll 80 = .ok (.invokevirtual 109, 3) := by decide +kernel
theorem dX6_placeAll_83 : decode cX6_placeAll 83 = .ok (.aload_n 0, 1) := by decide +kernel
theorem dX6_placeAll_84 : decode cX6_placeAll 84 = .ok (.getfield 14, 3) := by decide +kernel
theorem dX6_placeAll_87 : decode cX6_placeAll 87 = .ok (.iload 5, 2) := by decide +kernel
theorem dX6_placeAll_89 : decode cX6_placeAll 89 = .ok (.iconst 0, 1) := by decide +kernel
theorem dX6_placeAll_90 : decode cX6_placeAll 90 = .ok (.invokevirtual 58, 3) := by decide +kernel
theorem dX6_placeAll_93 : decode cX6_placeAll 93 = .ok (.iconst 1, 1) := by decide +kernel
theorem dX6_placeAll_94 : decode cX6_placeAll 94 = .ok (.iadd, 1) := by decide +kernel
theorem dX6_placeAll_95 : decode cX6_placeAll 95 = .ok (.istore_n 3, 1) := by decide +kernel
theorem dX6_placeAll_96 : decode cX6_placeAll 96 = .ok (.iinc 4 1, 3) := by decide +kernel
theorem dX6_placeAll_99 : decode cX6_placeAll 99 = .ok (.goto (-49), 3) := by decide +kernel
theorem dX6_placeAll_102 : decode cX6_placeAll 102 = .ok (.iconst 1, 1) := by decide +kernel
theorem dX6_placeAll_103 : decode cX6_placeAll 103 = .ok (.ireturn, 1) := by decide +kernel
theorem dX6_needOf_0 : decode cX6_needOf 0 = .ok (.aload_n 0, 1) := by decide +kernel
theorem dX6_needOf_1 : decode cX6_needOf 1 = .ok (.iload_n 1, 1) := by decide +kernel
theorem dX6_needOf_2 : decode cX6_needOf 2 = .ok (.invokevirtual 74, 3) := by decide +kernel
theorem dX6_needOf_5 : decode cX6_needOf 5 = .ok (.invokestatic 78, 3) := by decide +kernel
theorem dX6_needOf_8 : decode cX6_needOf 8 = .ok (.istore_n 2, 1) := by decide +kernel
theorem dX6_needOf_9 : decode cX6_needOf 9 = .ok (.iconst 0, 1) := by decide +kernel
theorem dX6_needOf_10 : decode cX6_needOf 10 = .ok (.iload_n 2, 1) := by decide +kernel
theorem dX6_needOf_11 : decode cX6_needOf 11 = .ok (.aload_n 0, 1) := by decide +kernel
theorem dX6_needOf_12 : decode cX6_needOf 12 = .ok (.getfield 23, 3) := by decide +kernel
theorem dX6_needOf_15 : decode cX6_needOf 15 = .ok (.iload_n 1, 1) := by decide +kernel
theorem dX6_needOf_16 : decode cX6_needOf 16 = .ok (.bipush 7, 2) := by decide +kernel
theorem dX6_needOf_18 : decode cX6_needOf 18 = .ok (.invokevirtual 58, 3) := by decide +kernel
theorem dX6_needOf_21 : decode cX6_needOf 21 = .ok (.imul, 1) := by decide +kernel
theorem dX6_needOf_22 : decode cX6_needOf 22 = .ok (.aload_n 0, 1) := by decide +kernel
theorem dX6_needOf_23 : decode cX6_needOf 23 = .ok (.getfield 23, 3) := by decide +kernel
theorem dX6_needOf_26 : decode cX6_needOf 26 = .ok (.iload_n 1, 1) := by decide +kernel
theorem dX6_needOf_27 : decode cX6_needOf 27 = .ok (.bipush 6, 2) := by decide +kernel
theorem dX6_needOf_29 : decode cX6_needOf 29 = .ok (.invokevirtual 58, 3) := by decide +kernel
theorem dX6_needOf_32 : decode cX6_needOf 32 = .ok (.isub, 1) := by decide +kernel
theorem dX6_needOf_33 : decode cX6_needOf 33 = .ok (.invokestatic 112, 3) := by decide +kernel
theorem dX6_needOf_36 : decode cX6_needOf 36 = .ok (.ireturn, 1) := by decide +kernel
theorem dX6_unitsAtHand_0 : decode cX6_unitsAtHand 0 = .ok (.aload_n 0, 1) := by decide +kernel
theorem dX6_unitsAtHand_1 : decode cX6_unitsAtHand 1 = .ok (.getfield 29, 3) := by decide +kernel
theorem dX6_unitsAtHand_4 : decode cX6_unitsAtHand 4 = .ok (.aload_n 0, 1) := by decide +kernel
theorem dX6_unitsAtHand_5 : decode cX6_unitsAtHand 5 = .ok (.getfield 49, 3) := by decide +kernel
theorem dX6_unitsAtHand_8 : decode cX6_unitsAtHand 8 = .ok (.iadd, 1) := by decide +kernel
theorem dX6_unitsAtHand_9 : decode cX6_unitsAtHand 9 = .ok (.ireturn, 1) := by decide +kernel
theorem dX6_grownPurse_0 : decode cX6_grownPurse 0 = .ok (.aload_n 0, 1) := by decide +kernel
theorem dX6_grownPurse_1 : decode cX6_grownPurse 1 = .ok (.getfield 20, 3) := by decide +kernel
theorem dX6_grownPurse_4 : decode cX6_grownPurse 4 = .ok (.iload_n 1, 1) := by decide +kernel
theorem dX6_grownPurse_5 : decode cX6_grownPurse 5 = .ok (.iconst 2, 1) := by decide +kernel
theorem dX6_grownPurse_6 : decode cX6_grownPurse 6 = .ok (.invokevirtual 58, 3) := by decide +kernel
theorem dX6_grownPurse_9 : decode cX6_grownPurse 9 = .ok (.istore_n 2, 1) := by decide +kernel
theorem dX6_grownPurse_10 : decode cX6_grownPurse 10 = .ok (.aload_n 0, 1) := by decide +kernel
theorem dX6_grownPurse_11 : decode cX6_grownPurse 11 = .ok (.getfield 20, 3) := by decide +kernel
theorem dX6_grownPurse_14 : decode cX6_grownPurse 14 = .ok (.iload_n 1, 1) := by decide +kernel
theorem dX6_grownPurse_15 : decode cX6_grownPurse 15 = .ok (.iconst 1, 1) := by decide +kernel
theorem dX6_grownPurse_16 : decode cX6_grownPurse 16 = .ok (.invokevirtual 58, 3) := by decide +kernel
theorem dX6_grownPurse_19 : decode cX6_grownPurse 19 = .ok (.istore_n 3, 1) := by decide +kernel
theorem dX6_grownPurse_20 : decode cX6_grownPurse 20 = .ok (.iload_n 2, 1) := by decide +kernel
theorem dX6_grownPurse_21 : decode cX6_grownPurse 21 = .ok (.iload_n 3, 1) := by decide +kernel
theorem dX6_grownPurse_22 : decode cX6_grownPurse 22 = .ok (.if_icmp .lt 7, 3) := by decide +kernel
theorem dX6_grownPurse_25 : decode cX6_grownPurse 25 = .ok (.iload_n 2, 1) := by decide +kernel
theorem dX6_grownPurse_26 : decode cX6_grownPurse 26 = .ok (.goto 18, 3) := by decide +kernel
theorem dX6_grownPurse_29 : decode cX6_grownPurse 29 = .ok (.iload_n 3, 1) := by decide +kernel
theorem dX6_grownPurse_30 : decode cX6_grownPurse 30 = .ok (.iload_n 2, 1) := by decide +kernel
theorem dX6_grownPurse_31 : decode cX6_grownPurse 31 = .ok (.aload_n 0, 1) := by decide +kernel
theorem dX6_grownPurse_32 : decode cX6_grownPurse 32 = .ok (.getfield 20, 3) := by decide +kernel
theorem dX6_grownPurse_35 : decode cX6_grownPurse 35 = .ok (.iload_n 1, 1) := by decide +kernel
theorem dX6_grownPurse_36 : decode cX6_grownPurse 36 = .ok (.iconst 0, 1) := by decide +kernel
theorem dX6_grownPurse_37 : decode cX6_grownPurse 37 = .ok (.invokevirtual 58, 3) := by decide +kernel
theorem dX6_grownPurse_40 : decode cX6_grownPurse 40 = .ok (.iadd, 1) := by decide +kernel
theorem dX6_grownPurse_41 : decode cX6_grownPurse 41 = .ok (.invokestatic 115, 3) := by decide +kernel
theorem dX6_grownPurse_44 : decode cX6_grownPurse 44 = .ok (.ireturn, 1) := by decide +kernel
theorem dX6_note_0 : decode cX6_note 0 = .ok (.aload_n 0, 1) := by decide +kernel
theorem dX6_note_1 : decode cX6_note 1 = .ok (.getfield 26, 3) := by decide +kernel
theorem dX6_note_4 : decode cX6_note 4 = .ok (.invokevirtual 118, 3) := by decide +kernel
theorem dX6_note_7 : decode cX6_note 7 = .ok (.ifCond .eq 10, 3) := by decide +kernel
theorem dX6_note_10 : decode cX6_note 10 = .ok (.aload_n 0, 1) := by decide +kernel
theorem dX6_note_11 : decode cX6_note 11 = .ok (.getfield 26, 3) := by decide +kernel
theorem dX6_note_14 : decode cX6_note 14 = .ok (.invokevirtual 122, 3) := by decide +kernel
theorem dX6_note_17 : decode cX6_note 17 = .ok (.aload_n 0, 1) := by decide +kernel
theorem dX6_note_18 : decode cX6_note 18 = .ok (.getfield 26, 3) := by decide +kernel
theorem dX6_note_21 : decode cX6_note 21 = .ok (.getfield 55, 3) := by decide +kernel
theorem dX6_note_24 : decode cX6_note 24 = .ok (.istore 5, 2) := by decide +kernel
theorem dX6_note_26 : decode cX6_note 26 = .ok (.aload_n 0, 1) := by decide +kernel
theorem dX6_note_27 : decode cX6_note 27 = .ok (.getfield 26, 3) := by decide +kernel
theorem dX6_note_30 : decode cX6_note 30 = .ok (.iload 5, 2) := by decide +kernel
theorem dX6_note_32 : decode cX6_note 32 = .ok (.invokevirtual 125, 3) := by decide +kernel
theorem dX6_note_35 : decode cX6_note 35 = .ok (.aload_n 0, 1) := by decide +kernel
theorem dX6_note_36 : decode cX6_note 36 = .ok (.getfield 26, 3) := by decide +kernel
theorem dX6_note_39 : decode cX6_note 39 = .ok (.iload 5, 2) := by decide +kernel
theorem dX6_note_41 : decode cX6_note 41 = .ok (.iconst 0, 1) := by decide +kernel
theorem dX6_note_42 : decode cX6_note 42 = .ok (.aload_n 0, 1) := by decide +kernel
theorem dX6_note_43 : decode cX6_note 43 = .ok (.getfield 52, 3) := by decide +kernel
theorem dX6_note_46 : decode cX6_note 46 = .ok (.invokevirtual 67, 3) := by decide +kernel
theorem dX6_note_49 : decode cX6_note 49 = .ok (.aload_n 0, 1) := by decide +kernel
theorem dX6_note_50 : decode cX6_note 50 = .ok (.getfield 26, 3) := by decide +kernel
theorem dX6_note_53 : decode cX6_note 53 = .ok (.iload 5, 2) := by decide +kernel
theorem dX6_note_55 : decode cX6_note 55 = .ok (.iconst 1, 1) := by decide +kernel
theorem dX6_note_56 : decode cX6_note 56 = .ok (.iload_n 1, 1) := by decide +kernel
theorem dX6_note_57 : decode cX6_note 57 = .ok (.invokevirtual 67, 3) := by decide +kernel
theorem dX6_note_60 : decode cX6_note 60 = .ok (.aload_n 0, 1) := by decide +kernel
theorem dX6_note_61 : decode cX6_note 61 = .ok (.getfield 26, 3) := by decide +kernel
theorem dX6_note_64 : decode cX6_note 64 = .ok (.iload 5, 2) := by decide +kernel
theorem dX6_note_66 : decode cX6_note 66 = .ok (.iconst 2, 1) := by decide +kernel
theorem dX6_note_67 : decode cX6_note 67 = .ok (.iload_n 2, 1) := by decide +kernel
theorem dX6_note_68 : decode cX6_note 68 = .ok (.invokevirtual 67, 3) := by decide +kernel
theorem dX6_note_71 : decode cX6_note 71 = .ok (.aload_n 0, 1) := by decide +kernel
theorem dX6_note_72 : decode cX6_note 72 = .ok (.getfield 26, 3) := by decide +kernel
theorem dX6_note_75 : decode cX6_note 75 = .ok (.iload 5, 2) := by decide +kernel
theorem dX6_note_77 : decode cX6_note 77 = .ok (.iconst 3, 1) := by decide +kernel
theorem dX6_note_78 : decode cX6_note 78 = .ok (.iload_n 3, 1) := by decide +kernel
theorem dX6_note_79 : decode cX6_note 79 = .ok (.invokevirtual 67, 3) := by decide +kernel
theorem dX6_note_82 : decode cX6_note 82 = .ok (.aload_n 0, 1) := by decide +kernel
theorem dX6_note_83 : decode cX6_note 83 = .ok (.getfield 26, 3) := by decide +kernel
theorem dX6_note_86 : decode cX6_note 86 = .ok (.iload 5, 2) := by decide +kernel
theorem dX6_note_88 : decode cX6_note 88 = .ok (.iconst 4, 1) := by decide +kernel
theorem dX6_note_89 : decode cX6_note 89 = .ok (.iload 4, 2) := by decide +kernel
theorem dX6_note_91 : decode cX6_note 91 = .ok (.invokevirtual 67, 3) := by decide +kernel
theorem dX6_note_94 : decode cX6_note 94 = .ok (.aload_n 0, 1) := by decide +kernel
theorem dX6_note_95 : decode cX6_note 95 = .ok (.dup, 1) := by decide +kernel
theorem dX6_note_96 : decode cX6_note 96 = .ok (.getfield 52, 3) := by decide +kernel
theorem dX6_note_99 : decode cX6_note 99 = .ok (.iconst 1, 1) := by decide +kernel
theorem dX6_note_100 : decode cX6_note 100 = .ok (.iadd, 1) := by decide +kernel
theorem dX6_note_101 : decode cX6_note 101 = .ok (.putfield 52, 3) := by decide +kernel
theorem dX6_note_104 : decode cX6_note 104 = .ok (.return_, 1) := by decide +kernel
