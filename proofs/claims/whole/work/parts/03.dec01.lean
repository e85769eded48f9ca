theorem dJ0_length_8abf5_0 : decode cJ0_length_8abf5 0 = .ok (.aload_n 0, 1) := by decide +kernel
theorem dJ0_length_8abf5_1 : decode cJ0_length_8abf5 1 = .ok (.getfield 9, 3) := by decide +kernel
theorem dJ0_length_8abf5_4 : decode cJ0_length_8abf5 4 = .ok (.arraylength, 1) := by decide +kernel
theorem dJ0_length_8abf5_5 : decode cJ0_length_8abf5 5 = .ok (.aload_n 0, 1) := by decide +kernel
theorem dJ0_length_8abf5_6 : decode cJ0_length_8abf5 6 = .ok (.invokevirtual 335, 3) := by decide +kernel
theorem dJ0_length_8abf5_9 : decode cJ0_length_8abf5 9 = .ok (.ishr, 1) := by decide +kernel
theorem dJ0_length_8abf5_10 : decode cJ0_length_8abf5 10 = .ok (.ireturn, 1) := by decide +kernel
theorem dJ0_charAt_5068e_0 : decode cJ0_charAt_5068e 0 = .ok (.aload_n 0, 1) := by decide +kernel
theorem dJ0_charAt_5068e_1 : decode cJ0_charAt_5068e 1 = .ok (.invokevirtual 492, 3) := by decide +kernel
theorem dJ0_charAt_5068e_4 : decode cJ0_charAt_5068e 4 = .ok (.ifCond .eq 12, 3) := by decide +kernel
theorem dJ0_charAt_5068e_7 : decode cJ0_charAt_5068e 7 = .ok (.aload_n 0, 1) := by decide +kernel
theorem dJ0_charAt_5068e_8 : decode cJ0_charAt_5068e 8 = .ok (.getfield 9, 3) := by decide +kernel
theorem dJ0_charAt_5068e_11 : decode cJ0_charAt_5068e 11 = .ok (.iload_n 1, 1) := by decide +kernel
theorem dJ0_charAt_5068e_12 : decode cJ0_charAt_5068e 12 = .ok (.invokestatic 495, 3) := by decide +kernel
theorem dJ0_charAt_5068e_15 : decode cJ0_charAt_5068e 15 = .ok (.ireturn, 1) := by decide +kernel
theorem dJ0_charAt_5068e_16 : decode cJ0_charAt_5068e 16 = .ok (.aload_n 0, 1) := by decide +kernel
theorem dJ0_charAt_5068e_17 : decode cJ0_charAt_5068e 17 = .ok (.getfield 9, 3) := by decide +kernel
theorem dJ0_charAt_5068e_20 : decode cJ0_charAt_5068e 20 = .ok (.iload_n 1, 1) := by decide +kernel
theorem dJ0_charAt_5068e_21 : decode cJ0_charAt_5068e 21 = .ok (.invokestatic 498, 3) := by decide +kernel
theorem dJ0_charAt_5068e_24 : decode cJ0_charAt_5068e 24 = .ok (.ireturn, 1) := by decide +kernel
theorem dJ0_coder_7d493_0 : decode cJ0_coder_7d493 0 = .ok (.getstatic 38, 3) := by decide +kernel
theorem dJ0_coder_7d493_3 : decode cJ0_coder_7d493 3 = .ok (.ifCond .eq 10, 3) := by decide +kernel
theorem dJ0_coder_7d493_6 : decode cJ0_coder_7d493 6 = .ok (.aload_n 0, 1) := by decide +kernel
theorem dJ0_coder_7d493_7 : decode cJ0_coder_7d493 7 = .ok (.getfield 15, 3) := by decide +kernel
theorem dJ0_coder_7d493_10 : decode cJ0_coder_7d493 10 = .ok (.goto 4, 3) := by decide +kernel
theorem dJ0_coder_7d493_13 : decode cJ0_coder_7d493 13 = .ok (.iconst 1, 1) := by decide +kernel
theorem dJ0_coder_7d493_14 : decode cJ0_coder_7d493 14 = .ok (.ireturn, 1) := by decide +kernel
theorem dJ0_isLatin1_aae02_0 : decode cJ0_isLatin1_aae02 0 = .ok (.getstatic 38, 3) := by decide +kernel
theorem dJ0_isLatin1_aae02_3 : decode cJ0_isLatin1_aae02 3 = .ok (.ifCond .eq 14, 3) := by decide +kernel
theorem dJ0_isLatin1_aae02_6 : decode cJ0_isLatin1_aae02 6 = .ok (.aload_n 0, 1) := by decide +kernel
theorem dJ0_isLatin1_aae02_7 : decode cJ0_isLatin1_aae02 7 = .ok (.getfield 15, 3) := by decide +kernel
theorem dJ0_isLatin1_aae02_10 : decode cJ0_isLatin1_aae02 10 = .ok (.ifCond .ne 7, 3) := by decide +kernel
theorem dJ0_isLatin1_aae02_13 : decode cJ0_isLatin1_aae02 13 = .ok (.iconst 1, 1) := by decide +kernel
theorem dJ0_isLatin1_aae02_14 : decode cJ0_isLatin1_aae02 14 = .ok (.goto 4, 3) := by decide +kernel
theorem dJ0_isLatin1_aae02_17 : decode cJ0_isLatin1_aae02 17 = .ok (.iconst 0, 1) := by decide +kernel
theorem dJ0_isLatin1_aae02_18 : decode cJ0_isLatin1_aae02 18 = .ok (.ireturn, 1) := by decide +kernel
theorem dJ0_checkIndex_df160_0 : decode cJ0_checkIndex_df160 0 = .ok (.iload_n 0, 1) := by decide +kernel
theorem dJ0_checkIndex_df160_1 : decode cJ0_checkIndex_df160 1 = .ok (.iload_n 1, 1) := by decide +kernel
theorem dJ0_checkIndex_df160_2 : decode cJ0_checkIndex_df160 2 = .ok (.getstatic 1053, 3) := by decide +kernel
theorem dJ0_checkIndex_df160_5 : decode cJ0_checkIndex_df160 5 = .ok (.invokestatic 1059, 3) := by decide +kernel
theorem dJ0_checkIndex_df160_8 : decode cJ0_checkIndex_df160 8 = .ok (.pop, 1) := by decide +kernel
theorem dJ0_checkIndex_df160_9 : decode cJ0_checkIndex_df160 9 = .ok (.return_, 1) := by decide +kernel
theorem dJ1_charAt_3b067_0 : decode cJ1_charAt_3b067 0 = .ok (.iload_n 1, 1) := by decide +kernel
theorem dJ1_charAt_3b067_1 : decode cJ1_charAt_3b067 1 = .ok (.aload_n 0, 1) := by decide +kernel
theorem dJ1_charAt_3b067_2 : decode cJ1_charAt_3b067 2 = .ok (.arraylength, 1) := by decide +kernel
theorem dJ1_charAt_3b067_3 : decode cJ1_charAt_3b067 3 = .ok (.invokestatic 9, 3) := by decide +kernel
theorem dJ1_charAt_3b067_6 : decode cJ1_charAt_3b067 6 = .ok (.aload_n 0, 1) := by decide +kernel
theorem dJ1_charAt_3b067_7 : decode cJ1_charAt_3b067 7 = .ok (.iload_n 1, 1) := by decide +kernel
theorem dJ1_charAt_3b067_8 : decode cJ1_charAt_3b067 8 = .ok (.baload, 1) := by decide +kernel
theorem dJ1_charAt_3b067_9 : decode cJ1_charAt_3b067 9 = .ok (.sipush 255, 3) := by decide +kernel
theorem dJ1_charAt_3b067_12 : decode cJ1_charAt_3b067 12 = .ok (.iand, 1) := by decide +kernel
theorem dJ1_charAt_3b067_13 : decode cJ1_charAt_3b067 13 = .ok (.i2c, 1) := by decide +kernel
theorem dJ1_charAt_3b067_14 : decode cJ1_charAt_3b067 14 = .ok (.ireturn, 1) := by decide +kernel
theorem dJ2_getChar_3b067_0 : decode cJ2_getChar_3b067 0 = .ok (.getstatic 44, 3) := by decide +kernel
theorem dJ2_getChar_3b067_3 : decode cJ2_getChar_3b067 3 = .ok (.ifCond .ne 25, 3) := by decide +kernel
theorem dJ2_getChar_3b067_6 : decode cJ2_getChar_3b067 6 = .ok (.iload_n 1, 1) := by decide +kernel
theorem dJ2_getChar_3b067_7 : decode cJ2_getChar_3b067 7 = .ok (.ifCond .lt 11, 3) := by decide +kernel
theorem dJ2_getChar_3b067_10 : decode cJ2_getChar_3b067 10 = .ok (.iload_n 1, 1) := by decide +kernel
theorem dJ2_getChar_3b067_11 : decode cJ2_getChar_3b067 11 = .ok (.aload_n 0, 1) := by decide +kernel
theorem dJ2_getChar_3b067_12 : decode cJ2_getChar_3b067 12 = .ok (.invokestatic 48, 3) := by decide +kernel
theorem dJ2_getChar_3b067_15 : decode cJ2_getChar_3b067 15 = .ok (.if_icmp .lt 13, 3) := by decide +kernel
theorem dJ2_getChar_3b067_18 : decode cJ2_getChar_3b067 18 = .ok (.new 52, 3) := by decide +kernel
theorem dJ2_getChar_3b067_21 : decode cJ2_getChar_3b067 21 = .ok (.dup, 1) := by decide +kernel
theorem dJ2_getChar_3b067_22 : decode cJ2_getChar_3b067 22 = .ok (.ldc 54, 2) := by decide +kernel
theorem dJ2_getChar_3b067_24 : decode cJ2_getChar_3b067 24 = .ok (.invokespecial 56, 3) := by decide +kernel
theorem dJ2_getChar_3b067_27 : decode cJ2_getChar_3b067 27 = .ok (.athrow, 1) := by decide +kernel
theorem dJ2_getChar_3b067_28 : decode cJ2_getChar_3b067 28 = .ok (.iload_n 1, 1) := by decide +kernel
theorem dJ2_getChar_3b067_29 : decode cJ2_getChar_3b067 29 = .ok (.iconst 1, 1) := by decide +kernel
theorem dJ2_getChar_3b067_30 : decode cJ2_getChar_3b067 30 = .ok (.ishl, 1) := by decide +kernel
theorem dJ2_getChar_3b067_31 : decode cJ2_getChar_3b067 31 = .ok (.istore_n 1, 1) := by decide +kernel
theorem dJ2_getChar_3b067_32 : decode cJ2_getChar_3b067 32 = .ok (.aload_n 0, 1) := by decide +kernel
theorem dJ2_getChar_3b067_33 : decode cJ2_getChar_3b067 33 = .ok (.iload_n 1, 1) := by decide +kernel
theorem dJ2_getChar_3b067_34 : decode cJ2_getChar_3b067 34 = .ok (.iinc 1 1, 3) := by decide +kernel
theorem dJ2_getChar_3b067_37 : decode cJ2_getChar_3b067 37 = .ok (.baload, 1) := by decide +kernel
theorem dJ2_getChar_3b067_38 : decode cJ2_getChar_3b067 38 = .ok (.sipush 255, 3) := by decide +kernel
theorem dJ2_getChar_3b067_41 : decode cJ2_getChar_3b067 41 = .ok (.iand, 1) := by decide +kernel
theorem dJ2_getChar_3b067_42 : decode cJ2_getChar_3b067 42 = .ok (.getstatic 59, 3) := by decide +kernel
theorem dJ2_getChar_3b067_45 : decode cJ2_getChar_3b067 45 = .ok (.ishl, 1) := by decide +kernel
theorem dJ2_getChar_3b067_46 : decode cJ2_getChar_3b067 46 = .ok (.aload_n 0, 1) := by decide +kernel
theorem dJ2_getChar_3b067_47 : decode cJ2_getChar_3b067 47 = .ok (.iload_n 1, 1) := by decide +kernel
theorem dJ2_getChar_3b067_48 : decode cJ2_getChar_3b067 48 = .ok (.baload, 1) := by decide +kernel
theorem dJ2_getChar_3b067_49 : decode cJ2_getChar_3b067 49 = .ok (.sipush 255, 3) := by decide +kernel
theorem dJ2_getChar_3b067_52 : decode cJ2_getChar_3b067 52 = .ok (.iand, 1) := by decide +kernel
theorem dJ2_getChar_3b067_53 : decode cJ2_getChar_3b067 53 = .ok (.getstatic 63, 3) := by decide +kernel
theorem dJ2_getChar_3b067_56 : decode cJ2_getChar_3b067 56 = .ok (.ishl, 1) := by decide +kernel
theorem dJ2_getChar_3b067_57 : decode cJ2_getChar_3b067 57 = .ok (.ior, 1) := by decide +kernel
theorem dJ2_getChar_3b067_58 : decode cJ2_getChar_3b067 58 = .ok (.i2c, 1) := by decide +kernel
theorem dJ2_getChar_3b067_59 : decode cJ2_getChar_3b067 59 = .ok (.ireturn, 1) := by decide +kernel
theorem dJ2_length_9d52b_0 : decode cJ2_length_9d52b 0 = .ok (.aload_n 0, 1) := by decide +kernel
theorem dJ2_length_9d52b_1 : decode cJ2_length_9d52b 1 = .ok (.arraylength, 1) := by decide +kernel
theorem dJ2_length_9d52b_2 : decode cJ2_length_9d52b 2 = .ok (.iconst 1, 1) := by decide +kernel
theorem dJ2_length_9d52b_3 : decode cJ2_length_9d52b 3 = .ok (.ishr, 1) := by decide +kernel
theorem dJ2_length_9d52b_4 : decode cJ2_length_9d52b 4 = .ok (.ireturn, 1) := by decide +kernel
theorem dJ2_charAt_3b067_0 : decode cJ2_charAt_3b067 0 = .ok (.iload_n 1, 1) := by decide +kernel
theorem dJ2_charAt_3b067_1 : decode cJ2_charAt_3b067 1 = .ok (.aload_n 0, 1) := by decide +kernel
theorem dJ2_charAt_3b067_2 : decode cJ2_charAt_3b067 2 = .ok (.invokestatic 67, 3) := by decide +kernel
theorem dJ2_charAt_3b067_5 : decode cJ2_charAt_3b067 5 = .ok (.aload_n 0, 1) := by decide +kernel
theorem dJ2_charAt_3b067_6 : decode cJ2_charAt_3b067 6 = .ok (.iload_n 1, 1) := by decide +kernel
theorem dJ2_charAt_3b067_7 : decode cJ2_charAt_3b067 7 = .ok (.invokestatic 71, 3) := by decide +kernel
theorem dJ2_charAt_3b067_10 : decode cJ2_charAt_3b067 10 = .ok (.ireturn, 1) := by decide +kernel
theorem dJ2_checkIndex_2214a_0 : decode cJ2_checkIndex_2214a 0 = .ok (.iload_n 0, 1) := by decide +kernel
theorem dJ2_checkIndex_2214a_1 : decode cJ2_checkIndex_2214a 1 = .ok (.aload_n 1, 1) := by decide +kernel
theorem dJ2_checkIndex_2214a_2 : decode cJ2_checkIndex_2214a 2 = .ok (.invokestatic 48, 3) := by decide +kernel
theorem dJ2_checkIndex_2214a_5 : decode cJ2_checkIndex_2214a 5 = .ok (.invokestatic 414, 3) := by decide +kernel
theorem dJ2_checkIndex_2214a_8 : decode cJ2_checkIndex_2214a 8 = .ok (.return_, 1) := by decide +kernel
theorem dJ3_checkIndex_8e157_0 : decode cJ3_checkIndex_8e157 0 = .ok (.iload_n 0, 1) := by decide +kernel
theorem dJ3_checkIndex_8e157_1 : decode cJ3_checkIndex_8e157 1 = .ok (.ifCond .lt 8, 3) := by decide +kernel
theorem dJ3_checkIndex_8e157_4 : decode cJ3_checkIndex_8e157 4 = .ok (.iload_n 0, 1) := by decide +kernel
theorem dJ3_checkIndex_8e157_5 : decode cJ3_checkIndex_8e157 5 = .ok (.iload_n 1, 1) := by decide +kernel
theorem dJ3_checkIndex_8e157_6 : decode cJ3_checkIndex_8e157 6 = .ok (.if_icmp .lt 10, 3) := by decide +kernel
theorem dJ3_checkIndex_8e157_9 : decode cJ3_checkIndex_8e157 9 = .ok (.aload_n 2, 1) := by decide +kernel
theorem dJ3_checkIndex_8e157_10 : decode cJ3_checkIndex_8e157 10 = .ok (.iload_n 0, 1) := by decide +kernel
theorem dJ3_checkIndex_8e157_11 : decode cJ3_checkIndex_8e157 11 = .ok (.iload_n 1, 1) := by decide +kernel
theorem dJ3_checkIndex_8e157_12 : decode cJ3_checkIndex_8e157 12 = .ok (.invokestatic 95, 3) := by decide +kernel
theorem dJ3_checkIndex_8e157_15 : decode cJ3_checkIndex_8e157 15 = .ok (.athrow, 1) := by decide +kernel
theorem dJ3_checkIndex_8e157_16 : decode cJ3_checkIndex_8e157 16 = .ok (.iload_n 0, 1) := by decide +kernel
theorem dJ3_checkIndex_8e157_17 : decode cJ3_checkIndex_8e157 17 = .ok (.ireturn, 1) := by decide +kernel
theorem dJ6_bitCount_0f7a4_0 : decode cJ6_bitCount_0f7a4 0 = .ok (.iload_n 0, 1) := by decide +kernel
theorem dJ6_bitCount_0f7a4_1 : decode cJ6_bitCount_0f7a4 1 = .ok (.iload_n 0, 1) := by decide +kernel
theorem dJ6_bitCount_0f7a4_2 : decode cJ6_bitCount_0f7a4 2 = .ok (.iconst 1, 1) := by decide +kernel
theorem dJ6_bitCount_0f7a4_3 : decode cJ6_bitCount_0f7a4 3 = .ok (.iushr, 1) := by decide +kernel
theorem dJ6_bitCount_0f7a4_4 : decode cJ6_bitCount_0f7a4 4 = .ok (.ldc_w 265, 3) := by decide +kernel
theorem dJ6_bitCount_0f7a4_7 : decode cJ6_bitCount_0f7a4 7 = .ok (.iand, 1) := by decide +kernel
theorem dJ6_bitCount_0f7a4_8 : decode cJ6_bitCount_0f7a4 8 = .ok (.isub, 1) := by decide +kernel
theorem dJ6_bitCount_0f7a4_9 : decode cJ6_bitCount_0f7a4 9 = .ok (.istore_n 0, 1) := by decide +kernel
theorem dJ6_bitCount_0f7a4_10 : decode cJ6_bitCount_0f7a4 10 = .ok (.iload_n 0, 1) := by decide +kernel
theorem dJ6_bitCount_0f7a4_11 : decode cJ6_bitCount_0f7a4 11 = .ok (.ldc_w 266, 3) := by decide +kernel
theorem dJ6_bitCount_0f7a4_14 : decode cJ6_bitCount_0f7a4 14 = .ok (.iand, 1) := by decide +kernel
theorem dJ6_bitCount_0f7a4_15 : decode cJ6_bitCount_0f7a4 15 = .ok (.iload_n 0, 1) := by decide +kernel
theorem dJ6_bitCount_0f7a4_16 : decode cJ6_bitCount_0f7a4 16 = .ok (.iconst 2, 1) := by decide +kernel
theorem dJ6_bitCount_0f7a4_17 : decode cJ6_bitCount_0f7a4 17 = .ok (.iushr, 1) := by decide +kernel
theorem dJ6_bitCount_0f7a4_18 : decode cJ6_bitCount_0f7a4 18 = .ok (.ldc_w 266, 3) := by decide +kernel
theorem dJ6_bitCount_0f7a4_21 : decode cJ6_bitCount_0f7a4 21 = .ok (.iand, 1) := by decide +kernel
theorem dJ6_bitCount_0f7a4_22 : decode cJ6_bitCount_0f7a4 22 = .ok (.iadd, 1) := by decide +kernel
theorem dJ6_bitCount_0f7a4_23 : decode cJ6_bitCount_0f7a4 23 = .ok (.istore_n 0, 1) := by decide +kernel
theorem dJ6_bitCount_0f7a4_24 : decode cJ6_bitCount_0f7a4 24 = .ok (.iload_n 0, 1) := by decide +kernel
theorem dJ6_bitCount_0f7a4_25 : decode cJ6_bitCount_0f7a4 25 = .ok (.iload_n 0, 1) := by decide +kernel
theorem dJ6_bitCount_0f7a4_26 : decode cJ6_bitCount_0f7a4 26 = .ok (.iconst 4, 1) := by decide +kernel
theorem dJ6_bitCount_0f7a4_27 : decode cJ6_bitCount_0f7a4 27 = .ok (.iushr, 1) := by decide +kernel
theorem dJ6_bitCount_0f7a4_28 : decode cJ6_bitCount_0f7a4 28 = .ok (.iadd, 1) := by decide +kernel
theorem dJ6_bitCount_0f7a4_29 : decode cJ6_bitCount_0f7a4 29 = .ok (.ldc_w 267, 3) := by decide +kernel
theorem dJ6_bitCount_0f7a4_32 : decode cJ6_bitCount_0f7a4 32 = .ok (.iand, 1) := by decide +kernel
theorem dJ6_bitCount_0f7a4_33 : decode cJ6_bitCount_0f7a4 33 = .ok (.istore_n 0, 1) := by decide +kernel
theorem dJ6_bitCount_0f7a4_34 : decode cJ6_bitCount_0f7a4 34 = .ok (.iload_n 0, 1) := by decide +kernel
theorem dJ6_bitCount_0f7a4_35 : decode cJ6_bitCount_0f7a4 35 = .ok (.iload_n 0, 1) := by decide +kernel
theorem dJ6_bitCount_0f7a4_36 : decode cJ6_bitCount_0f7a4 36 = .ok (.bipush 8, 2) := by decide +kernel
theorem dJ6_bitCount_0f7a4_38 : decode cJ6_bitCount_0f7a4 38 = .ok (.iushr, 1) := by decide +kernel
theorem dJ6_bitCount_0f7a4_39 : decode cJ6_bitCount_0f7a4 39 = .ok (.iadd, 1) := by decide +kernel
theorem dJ6_bitCount_0f7a4_40 : decode cJ6_bitCount_0f7a4 40 = .ok (.istore_n 0, 1) := by decide +kernel
theorem dJ6_bitCount_0f7a4_41 : decode cJ6_bitCount_0f7a4 41 = .ok (.iload_n 0, 1) := by decide +kernel
theorem dJ6_bitCount_0f7a4_42 : decode cJ6_bitCount_0f7a4 42 = .ok (.iload_n 0, 1) := by decide +kernel
theorem dJ6_bitCount_0f7a4_43 : decode cJ6_bitCount_0f7a4 43 = .ok (.bipush 16, 2) := by decide +kernel
theorem dJ6_bitCount_0f7a4_45 : decode cJ6_bitCount_0f7a4 45 = .ok (.iushr, 1) := by decide +kernel
theorem dJ6_bitCount_0f7a4_46 : decode cJ6_bitCount_0f7a4 46 = .ok (.iadd, 1) := by decide +kernel
theorem dJ6_bitCount_0f7a4_47 : decode cJ6_bitCount_0f7a4 47 = .ok (.istore_n 0, 1) := by decide +kernel
theorem dJ6_bitCount_0f7a4_48 : decode cJ6_bitCount_0f7a4 48 = .ok (.iload_n 0, 1) := by decide +kernel
theorem dJ6_bitCount_0f7a4_49 : decode cJ6_bitCount_0f7a4 49 = .ok (.bipush 63, 2) := by decide +kernel
theorem dJ6_bitCount_0f7a4_51 : decode cJ6_bitCount_0f7a4 51 = .ok (.iand, 1) := by decide +kernel
theorem dJ6_bitCount_0f7a4_52 : decode cJ6_bitCount_0f7a4 52 = .ok (.ireturn, 1) := by decide +kernel
theorem dJ9_floorMod_7cf53_0 : decode cJ9_floorMod_7cf53 0 = .ok (.iload_n 0, 1) := by decide +kernel
theorem dJ9_floorMod_7cf53_1 : decode cJ9_floorMod_7cf53 1 = .ok (.iload_n 1, 1) := by decide +kernel
theorem dJ9_floorMod_7cf53_2 : decode cJ9_floorMod_7cf53 2 = .ok (.irem, 1) := by decide +kernel
theorem dJ9_floorMod_7cf53_3 : decode cJ9_floorMod_7cf53 3 = .ok (.istore_n 2, 1) := by decide +kernel
theorem dJ9_floorMod_7cf53_4 : decode cJ9_floorMod_7cf53 4 = .ok (.iload_n 0, 1) := by decide +kernel
theorem dJ9_floorMod_7cf53_5 : decode cJ9_floorMod_7cf53 5 = .ok (.iload_n 1, 1) := by decide +kernel
theorem dJ9_floorMod_7cf53_6 : decode cJ9_floorMod_7cf53 6 = .ok (.ixor, 1) := by decide +kernel
theorem dJ9_floorMod_7cf53_7 : decode cJ9_floorMod_7cf53 7 = .ok (.ifCond .ge 11, 3) := by decide +kernel
theorem dJ9_floorMod_7cf53_10 : decode cJ9_floorMod_7cf53 10 = .ok (.iload_n 2, 1) := by decide +kernel
theorem dJ9_floorMod_7cf53_11 : decode cJ9_floorMod_7cf53 11 = .ok (.ifCond .eq 7, 3) := by decide +kernel
theorem dJ9_floorMod_7cf53_14 : decode cJ9_floorMod_7cf53 14 = .ok (.iload_n 2, 1) := by decide +kernel
theorem dJ9_floorMod_7cf53_15 : decode cJ9_floorMod_7cf53 15 = .ok (.iload_n 1, 1) := by decide +kernel
theorem dJ9_floorMod_7cf53_16 : decode cJ9_floorMod_7cf53 16 = .ok (.iadd, 1) := by decide +kernel
theorem dJ9_floorMod_7cf53_17 : decode cJ9_floorMod_7cf53 17 = .ok (.ireturn, 1) := by decide +kernel
theorem dJ9_floorMod_7cf53_18 : decode cJ9_floorMod_7cf53 18 = .ok (.iload_n 2, 1) := by decide +kernel
theorem dJ9_floorMod_7cf53_19 : decode cJ9_floorMod_7cf53 19 = .ok (.ireturn, 1) := by decide +kernel
theorem dJ9_max_7cf53_0 : decode cJ9_max_7cf53 0 = .ok (.iload_n 0, 1) := by decide +kernel
theorem dJ9_max_7cf53_1 : decode cJ9_max_7cf53 1 = .ok (.iload_n 1, 1) := by decide +kernel
theorem dJ9_max_7cf53_2 : decode cJ9_max_7cf53 2 = .ok (.if_icmp .lt 7, 3) := by decide +kernel
theorem dJ9_max_7cf53_5 : decode cJ9_max_7cf53 5 = .ok (.iload_n 0, 1) := by decide +kernel
theorem dJ9_max_7cf53_6 : decode cJ9_max_7cf53 6 = .ok (.goto 4, 3) := by decide +kernel
theorem dJ9_max_7cf53_9 : decode cJ9_max_7cf53 9 = .ok (.iload_n 1, 1) := by decide +kernel
theorem dJ9_max_7cf53_10 : decode cJ9_max_7cf53 10 = .ok (.ireturn, 1) := by decide +kernel
theorem dJ9_min_7cf53_0 : decode cJ9_min_7cf53 0 = .ok (.iload_n 0, 1) := by decide +kernel
theorem dJ9_min_7cf53_1 : decode cJ9_min_7cf53 1 = .ok (.iload_n 1, 1) := by decide +kernel
theorem dJ9_min_7cf53_2 : decode cJ9_min_7cf53 2 = .ok (.if_icmp .gt 7, 3) := by decide +kernel
theorem dJ9_min_7cf53_5 : decode cJ9_min_7cf53 5 = .ok (.iload_n 0, 1) := by decide +kernel
theorem dJ9_min_7cf53_6 : decode cJ9_min_7cf53 6 = .ok (.goto 4, 3) := by decide +kernel
theorem dJ9_min_7cf53_9 : decode cJ9_min_7cf53 9 = .ok (.iload_n 1, 1) := by decide +kernel
theorem dJ9_min_7cf53_10 : decode cJ9_min_7cf53 10 = .ok (.ireturn, 1) := by decide +kernel
theorem dJ9_min_f86c9_0 : decode cJ9_min_f86c9 0 = .ok (.lload_n 0, 1) := by decide +kernel
theorem dJ9_min_f86c9_1 : decode cJ9_min_f86c9 1 = .ok (.lload_n 2, 1) := by decide +kernel
theorem dJ9_min_f86c9_2 : decode cJ9_min_f86c9 2 = .ok (.lcmp, 1) := by decide +kernel
theorem dJ9_min_f86c9_3 : decode cJ9_min_f86c9 3 = .ok (.ifCond .gt 7, 3) := by decide +kernel
theorem dJ9_min_f86c9_6 : decode cJ9_min_f86c9 6 = .ok (.lload_n 0, 1) := by decide +kernel
theorem dJ9_min_f86c9_7 : decode cJ9_min_f86c9 7 = .ok (.goto 4, 3) := by decide +kernel
theorem dJ9_min_f86c9_10 : decode cJ9_min_f86c9 10 = .ok (.lload_n 2, 1) := by decide +kernel
theorem dJ9_min_f86c9_11 : decode cJ9_min_f86c9 11 = .ok (.lreturn, 1) := by decide +kernel
theorem dX1_init_0 : decode cX1_init 0 = .ok (.aload_n 0, 1) := by decide +kernel
theorem dX1_init_1 : decode cX1_init 1 = .ok (.invokespecial 3, 3) := by decide +kernel
theorem dX1_init_4 : decode cX1_init 4 = .ok (.aload_n 0, 1) := by decide +kernel
theorem dX1_init_5 : decode cX1_init 5 = .ok (.iconst 0, 1) := by decide +kernel
theorem dX1_init_6 : decode cX1_init 6 = .ok (.iload_n 1, 1) := by decide +kernel
theorem dX1_init_7 : decode cX1_init 7 = .ok (.invokestatic 9, 3) := by decide +kernel
theorem dX1_init_10 : decode cX1_init 10 = .ok (.newarray .byte, 2) := by decide +kernel
theorem dX1_init_12 : decode cX1_init 12 = .ok (.putfield 15, 3) := by decide +kernel
theorem dX1_init_15 : decode cX1_init 15 = .ok (.return_, 1) := by decide +kernel
theorem dX1_at_0 : decode cX1_at 0 = .ok (.iload_n 1, 1) := by decide +kernel
theorem dX1_at_1 : decode cX1_at 1 = .ok (.ifCond .lt 33, 3) := by decide +kernel
theorem dX1_at_4 : decode cX1_at 4 = .ok (.iload_n 1, 1) := by decide +kernel
theorem dX1_at_5 : decode cX1_at 5 = .ok (.aload_n 0, 1) := by decide +kernel
theorem dX1_at_6 : decode cX1_at 6 = .ok (.getfield 21, 3) := by decide +kernel
theorem dX1_at_9 : decode cX1_at 9 = .ok (.if_icmp .ge 25, 3) := by decide +kernel
theorem dX1_at_12 : decode cX1_at 12 = .ok (.iload_n 1, 1) := by decide +kernel
theorem dX1_at_13 : decode cX1_at 13 = .ok (.aload_n 0, 1) := by decide +kernel
theorem dX1_at_14 : decode cX1_at 14 = .ok (.getfield 15, 3) := by decide +kernel
theorem dX1_at_17 : decode cX1_at 17 = .ok (.arraylength, 1) := by decide +kernel
theorem dX1_at_18 : decode cX1_at 18 = .ok (.if_icmp .ge 16, 3) := by decide +kernel
theorem dX1_at_21 : decode cX1_at 21 = .ok (.aload_n 0, 1) := by decide +kernel
theorem dX1_at_22 : decode cX1_at 22 = .ok (.getfield 15, 3) := by decide +kernel
theorem dX1_at_25 : decode cX1_at 25 = .ok (.iload_n 1, 1) := by decide +kernel
theorem dX1_at_26 : decode cX1_at 26 = .ok (.baload, 1) := by decide +kernel
theorem dX1_at_27 : decode cX1_at 27 = .ok (.sipush 255, 3) := by decide +kernel
theorem dX1_at_30 : decode cX1_at 30 = .ok (.iand, 1) := by decide +kernel
theorem dX1_at_31 : decode cX1_at 31 = .ok (.goto 4, 3) := by decide +kernel
theorem dX1_at_34 : decode cX1_at 34 = .ok (.iconst 0, 1) := by decide +kernel
theorem dX1_at_35 : decode cX1_at 35 = .ok (.ireturn, 1) := by decide +kernel
theorem dX1_cut_0 : decode cX1_cut 0 = .ok (.aload_n 0, 1) := by decide +kernel
theorem dX1_cut_1 : decode cX1_cut 1 = .ok (.iload_n 1, 1) := by decide +kernel
theorem dX1_cut_2 : decode cX1_cut 2 = .ok (.putfield 21, 3) := by decide +kernel
theorem dX1_cut_5 : decode cX1_cut 5 = .ok (.return_, 1) := by decide +kernel
theorem dX1_add_0 : decode cX1_add 0 = .ok (.aload_n 0, 1) := by decide +kernel
theorem dX1_add_1 : decode cX1_add 1 = .ok (.getfield 21, 3) := by decide +kernel
theorem dX1_add_4 : decode cX1_add 4 = .ok (.ifCond .lt 36, 3) := by decide +kernel
theorem dX1_add_7 : decode cX1_add 7 = .ok (.aload_n 0, 1) := by decide +kernel
theorem dX1_add_8 : decode cX1_add 8 = .ok (.getfield 21, 3) := by decide +kernel
theorem dX1_add_11 : decode cX1_add 11 = .ok (.aload_n 0, 1) := by decide +kernel
theorem dX1_add_12 : decode cX1_add 12 = .ok (.getfield 15, 3) := by decide +kernel
theorem dX1_add_15 : decode cX1_add 15 = .ok (.arraylength, 1) := by decide +kernel
theorem dX1_add_16 : decode cX1_add 16 = .ok (.if_icmp .ge 24, 3) := by decide +kernel
theorem dX1_add_19 : decode cX1_add 19 = .ok (.aload_n 0, 1) := by decide +kernel
theorem dX1_add_20 : decode cX1_add 20 = .ok (.getfield 15, 3) := by decide +kernel
theorem dX1_add_23 : decode cX1_add 23 = .ok (.aload_n 0, 1) := by decide +kernel
theorem dX1_add_24 : decode cX1_add 24 = .ok (.getfield 21, 3) := by decide +kernel
theorem dX1_add_27 : decode cX1_add 27 = .ok (.iload_n 1, 1) := by decide +kernel
theorem dX1_add_28 : decode cX1_add 28 = .ok (.i2b, 1) := by decide +kernel
theorem dX1_add_29 : decode cX1_add 29 = .ok (.bastore, 1) := by decide +kernel
theorem dX1_add_30 : decode cX1_add 30 = .ok (.aload_n 0, 1) := by decide +kernel
theorem dX1_add_31 : decode cX1_add 31 = .ok (.dup, 1) := by decide +kernel
theorem dX1_add_32 : decode cX1_add 32 = .ok (.getfield 21, 3) := by decide +kernel
theorem dX1_add_35 : decode cX1_add 35 = .ok (.iconst 1, 1) := by decide +kernel
theorem dX1_add_36 : decode cX1_add 36 = .ok (.iadd, 1) := by decide +kernel
theorem dX1_add_37 : decode cX1_add 37 = .ok (.putfield 21, 3) := by decide +kernel
theorem dX1_add_40 : decode cX1_add 40 = .ok (.return_, 1) := by decide +kernel
theorem dX1_addFour_0 : decode cX1_addFour 0 = .ok (.bipush 24, 2) := by decide +kernel
theorem dX1_addFour_2 : decode cX1_addFour 2 = .ok (.istore_n 2, 1) := by decide +kernel
theorem dX1_addFour_3 : decode cX1_addFour 3 = .ok (.iload_n 2, 1) := by decide +kernel
theorem dX1_addFour_4 : decode cX1_addFour 4 = .ok (.ifCond .lt 16, 3) := by decide +kernel
theorem dX1_addFour_7 : decode cX1_addFour 7 = .ok (.aload_n 0, 1) := by decide +kernel
theorem dX1_addFour_8 : decode cX1_addFour 8 = .ok (.iload_n 1, 1) := by decide +kernel
theorem dX1_addFour_9 : decode cX1_addFour 9 = .ok (.iload_n 2, 1) := by decide +kernel
theorem dX1_addFour_10 : decode cX1_addFour 10 = .ok (.ishr, 1) := by decide +kernel
theorem dX1_addFour_11 : decode cX1_addFour 11 = .ok (.invokevirtual 25, 3) := by decide +kernel
theorem dX1_addFour_14 : decode cX1_addFour 14 = .ok (.iinc 2 (-8), 3) := by decide +kernel
theorem dX1_addFour_17 : decode cX1_addFour 17 = .ok (.goto (-14), 3) := by decide +kernel
theorem dX1_addFour_20 : decode cX1_addFour 20 = .ok (.return_, 1) := by decide +kernel
theorem dX1_addName_0 : decode cX1_addName 0 = .ok (.bipush 25, 2) := by decide +kernel
theorem dX1_addName_2 : decode cX1_addName 2 = .ok (.istore_n 2, 1) := by decide +kernel
theorem dX1_addName_3 : decode cX1_addName 3 = .ok (.iload_n 2, 1) := by decide +kernel
theorem dX1_addName_4 : decode cX1_addName 4 = .ok (.ifCond .lt 30, 3) := by decide +kernel
theorem dX1_addName_7 : decode cX1_addName 7 = .ok (.iload_n 1, 1) := by decide +kernel
theorem dX1_addName_8 : decode cX1_addName 8 = .ok (.iload_n 2, 1) := by decide +kernel
theorem dX1_addName_9 : decode cX1_addName 9 = .ok (.ishr, 1) := by decide +kernel
theorem dX1_addName_10 : decode cX1_addName 10 = .ok (.bipush 31, 2) := by decide +kernel
theorem dX1_addName_12 : decode cX1_addName 12 = .ok (.iand, 1) := by decide +kernel
theorem dX1_addName_13 : decode cX1_addName 13 = .ok (.istore_n 3, 1) := by decide +kernel
theorem dX1_addName_14 : decode cX1_addName 14 = .ok (.iload_n 3, 1) := by decide +kernel
theorem dX1_addName_15 : decode cX1_addName 15 = .ok (.ifCond .le 13, 3) := by decide +kernel
theorem dX1_addName_18 : decode cX1_addName 18 = .ok (.aload_n 0, 1) := by decide +kernel
theorem dX1_addName_19 : decode cX1_addName 19 = .ok (.bipush 97, 2) := by decide +kernel
theorem dX1_addName_21 : decode cX1_addName 21 = .ok (.iload_n 3, 1) := by decide +kernel
theorem dX1_addName_22 : decode cX1_addName 22 = .ok (.iadd, 1) := by decide +kernel
theorem dX1_addName_23 : decode cX1_addName 23 = .ok (.iconst 1, 1) := by decide +kernel
theorem dX1_addName_24 : decode cX1_addName 24 = .ok (.isub, 1) := by decide +kernel
theorem dX1_addName_25 : decode cX1_addName 25 = .ok (.invokevirtual 25, 3) := by decide +kernel
theorem dX1_addName_28 : decode cX1_addName 28 = .ok (.iinc 2 (-5), 3) := by decide +kernel
theorem dX1_addName_31 : decode cX1_addName 31 = .ok (.goto (-28), 3) := by decide +kernel
theorem dX1_addName_34 : decode cX1_addName 34 = .ok (.return_, 1) := by decide +kernel
theorem dX1_addNumber_0 : decode cX1_addNumber 0 = .ok (.ldc 29, 2) := by decide +kernel
theorem dX1_addNumber_2 : decode cX1_addNumber 2 = .ok (.istore_n 2, 1) := by decide +kernel
theorem dX1_addNumber_3 : decode cX1_addNumber 3 = .ok (.iload_n 2, 1) := by decide +kernel
theorem dX1_addNumber_4 : decode cX1_addNumber 4 = .ok (.ifCond .le 34, 3) := by decide +kernel
theorem dX1_addNumber_7 : decode cX1_addNumber 7 = .ok (.iload_n 1, 1) := by decide +kernel
theorem dX1_addNumber_8 : decode cX1_addNumber 8 = .ok (.iload_n 2, 1) := by decide +kernel
theorem dX1_addNumber_9 : decode cX1_addNumber 9 = .ok (.if_icmp .ge 8, 3) := by decide +kernel
theorem dX1_addNumber_12 : decode cX1_addNumber 12 = .ok (.iload_n 2, 1) := by decide +kernel
theorem dX1_addNumber_13 : decode cX1_addNumber 13 = .ok (.iconst 1, 1) := by decide +kernel
theorem dX1_addNumber_14 : decode cX1_addNumber 14 = .ok (.if_icmp .ne 16, 3) := by decide +kernel
theorem dX1_addNumber_17 : decode cX1_addNumber 17 = .ok (.aload_n 0, 1) := by decide +kernel
theorem dX1_addNumber_18 : decode cX1_addNumber 18 = .ok (.bipush 48, 2) := by decide +kernel
theorem dX1_addNumber_20 : decode cX1_addNumber 20 = .ok (.iload_n 1, 1) := by decide +kernel
theorem dX1_addNumber_21 : decode cX1_addNumber 21 = .ok (.iload_n 2, 1) := by decide +kernel
theorem dX1_addNumber_22 : decode cX1_addNumber 22 = .ok (.idiv, 1) := by decide +kernel
theorem dX1_addNumber_23 : decode cX1_addNumber 23 = .ok (.bipush 10, 2) := by decide +kernel
theorem dX1_addNumber_25 : decode cX1_addNumber 25 = .ok (.irem, 1) := by decide +kernel
theorem dX1_addNumber_26 : decode cX1_addNumber 26 = .ok (.iadd, 1) := by decide +kernel
theorem dX1_addNumber_27 : decode cX1_addNumber 27 = .ok (.invokevirtual 25, 3) := by decide +kernel
theorem dX1_addNumber_30 : decode cX1_addNumber 30 = .ok (.iload_n 2, 1) := by decide +kernel
theorem dX1_addNumber_31 : decode cX1_addNumber 31 = .ok (.bipush 10, 2) := by decide +kernel
theorem dX1_addNumber_33 : decode cX1_addNumber 33 = .ok (.idiv, 1) := by decide +kernel
theorem dX1_addNumber_34 : decode cX1_addNumber 34 = .ok (.istore_n 2, 1) := by decide +kernel
theorem dX1_addNumber_35 : decode cX1_addNumber 35 = .ok (.goto (-32), 3) := by decide +kernel
theorem dX1_addNumber_38 : decode cX1_addNumber 38 = .ok (.return_, 1) := by decide +kernel
theorem dX1_nameBetween_0 : decode cX1_nameBetween 0 = .ok (.iload_n 2, 1) := by decide +kernel
theorem dX1_nameBetween_1 : decode cX1_nameBetween 1 = .ok (.iload_n 1, 1) := by decide +kernel
theorem dX1_nameBetween_2 : decode cX1_nameBetween 2 = .ok (.isub, 1) := by decide +kernel
theorem dX1_nameBetween_3 : decode cX1_nameBetween 3 = .ok (.bipush 6, 2) := by decide +kernel
theorem dX1_nameBetween_5 : decode cX1_nameBetween 5 = .ok (.if_icmp .le 5, 3) := by decide +kernel
theorem dX1_nameBetween_8 : decode cX1_nameBetween 8 = .ok (.iconst 0, 1) := by decide +kernel
theorem dX1_nameBetween_9 : decode cX1_nameBetween 9 = .ok (.ireturn, 1) := by decide +kernel
theorem dX1_nameBetween_10 : decode cX1_nameBetween 10 = .ok (.iconst 0, 1) := by decide +kernel
theorem dX1_nameBetween_11 : decode cX1_nameBetween 11 = .ok (.istore_n 3, 1) := by decide +kernel
theorem dX1_nameBetween_12 : decode cX1_nameBetween 12 = .ok (.iload_n 1, 1) := by decide +kernel
theorem dX1_nameBetween_13 : decode cX1_nameBetween 13 = .ok (.istore 4, 2) := by decide +kernel
theorem dX1_nameBetween_15 : decode cX1_nameBetween 15 = .ok (.iload 4, 2) := by decide +kernel
theorem dX1_nameBetween_17 : decode cX1_nameBetween 17 = .ok (.iload_n 2, 1) := by decide +kernel
theorem dX1_nameBetween_18 : decode cX1_nameBetween 18 = .ok (.if_icmp .ge 39, 3) := by decide +kernel
theorem dX1_nameBetween_21 : decode cX1_nameBetween 21 = .ok (.aload_n 0, 1) := by decide +kernel
theorem dX1_nameBetween_22 : decode cX1_nameBetween 22 = .ok (.iload 4, 2) := by decide +kernel
theorem dX1_nameBetween_24 : decode cX1_nameBetween 24 = .ok (.invokevirtual 30, 3) := by decide +kernel
theorem dX1_nameBetween_27 : decode cX1_nameBetween 27 = .ok (.invokestatic 34, 3) := by decide +kernel
theorem dX1_nameBetween_30 : decode cX1_nameBetween 30 = .ok (.ifCond .ne 5, 3) := by decide +kernel
theorem dX1_nameBetween_33 : decode cX1_nameBetween 33 = .ok (.iconst 0, 1) := by decide +kernel
theorem dX1_nameBetween_34 : decode cX1_nameBetween 34 = .ok (.ireturn, 1) := by decide +kernel
theorem dX1_nameBetween_35 : decode cX1_nameBetween 35 = .ok (.iload_n 3, 1) := by decide +kernel
theorem dX1_nameBetween_36 : decode cX1_nameBetween 36 = .ok (.iconst 5, 1) := by decide +kernel
theorem dX1_nameBetween_37 : decode cX1_nameBetween 37 = .ok (.ishl, 1) := by decide +kernel
theorem dX1_nameBetween_38 : decode cX1_nameBetween 38 = .ok (.aload_n 0, 1) := by decide +kernel
theorem dX1_nameBetween_39 : decode cX1_nameBetween 39 = .ok (.iload 4, 2) := by decide +kernel
theorem dX1_nameBetween_41 : decode cX1_nameBetween 41 = .ok (.invokevirtual 30, 3) := by decide +kernel
theorem dX1_nameBetween_44 : decode cX1_nameBetween 44 = .ok (.bipush 97, 2) := by decide +kernel
theorem dX1_nameBetween_46 : decode cX1_nameBetween 46 = .ok (.isub, 1) := by decide +kernel
theorem dX1_nameBetween_47 : decode cX1_nameBetween 47 = .ok (.iconst 1, 1) := by decide +kernel
theorem dX1_nameBetween_48 : decode cX1_nameBetween 48 = .ok (.iadd, 1) := by decide +kernel
theorem dX1_nameBetween_49 : decode cX1_nameBetween 49 = .ok (.ior, 1) := by decide +kernel
theorem dX1_nameBetween_50 : decode cX1_nameBetween 50 = .ok (.istore_n 3, 1) := by decide +kernel
theorem dX1_nameBetween_51 : decode cX1_nameBetween 51 = .ok (.iinc 4 1, 3) := by decide +kernel
theorem dX1_nameBetween_54 : decode cX1_nameBetween 54 = .ok (.goto (-39), 3) := by decide +kernel
theorem dX1_nameBetween_57 : decode cX1_nameBetween 57 = .ok (.iload_n 3, 1) := by decide +kernel
theorem dX1_nameBetween_58 : decode cX1_nameBetween 58 = .ok (.ireturn, 1) := by decide +kernel
theorem dX1_spells_0 : decode cX1_spells 0 = .ok (.iload_n 3, 1) := by decide +kernel
theorem dX1_spells_1 : decode cX1_spells 1 = .ok (.iload_n 2, 1) := by decide +kernel
theorem dX1_spells_2 : decode cX1_spells 2 = .ok (.isub, 1) := by decide +kernel
theorem dX1_spells_3 : decode cX1_spells 3 = .ok (.aload_n 1, 1) := by decide +kernel
theorem dX1_spells_4 : decode cX1_spells 4 = .ok (.invokevirtual 38, 3) := by decide +kernel
theorem dX1_spells_7 : decode cX1_spells 7 = .ok (.if_icmp .eq 5, 3) := by decide +kernel
theorem dX1_spells_10 : decode cX1_spells 10 = .ok (.iconst 0, 1) := by decide +kernel
theorem dX1_spells_11 : decode cX1_spells 11 = .ok (.ireturn, 1) := by decide +kernel
theorem dX1_spells_12 : decode cX1_spells 12 = .ok (.iconst 0, 1) := by decide +kernel
theorem dX1_spells_13 : decode cX1_spells 13 = .ok (.istore 4, 2) := by decide +kernel
theorem dX1_spells_15 : decode cX1_spells 15 = .ok (.iload 4, 2) := by decide +kernel
theorem dX1_spells_17 : decode cX1_spells 17 = .ok (.aload_n 1, 1) := by decide +kernel
theorem dX1_spells_18 : decode cX1_spells 18 = .ok (.invokevirtual 38, 3) := by decide +kernel
theorem dX1_spells_21 : decode cX1_spells 21 = .ok (.if_icmp .ge 28, 3) := by decide +kernel
theorem dX1_spells_24 : decode cX1_spells 24 = .ok (.aload_n 0, 1) := by decide +kernel
theorem dX1_spells_25 : decode cX1_spells 25 = .ok (.iload_n 2, 1) := by decide +kernel
theorem dX1_spells_26 : decode cX1_spells 26 = .ok (.iload 4, 2) := by decide +kernel
theorem dX1_spells_28 : decode cX1_spells 28 = .ok (.iadd, 1) := by decide +kernel
theorem dX1_spells_29 : decode cX1_spells 29 = .ok (.invokevirtual 30, 3) := by decide +kernel
theorem dX1_spells_32 : decode cX1_spells 32 = .ok (.aload_n 1, 1) := by decide +kernel
theorem dX1_spells_33 : decode cX1_spells 33 = .ok (.iload 4, 2) := by decide +kernel
theorem dX1_spells_35 : decode cX1_spells 35 = .ok (.invokevirtual 44, 3) := by decide +kernel
theorem dX1_spells_38 : decode cX1_spells 38 = .ok (.if_icmp .eq 5, 3) := by decide +kernel
theorem dX1_spells_41 : decode cX1_spells 41 = .ok (.iconst 0, 1) := by decide +kernel
theorem dX1_spells_42 : decode cX1_spells 42 = .ok (.ireturn, 1) := by decide +kernel
theorem dX1_spells_43 : decode cX1_spells 43 = .ok (.iinc 4 1, 3) := by decide +kernel
theorem dX1_spells_46 : decode cX1_spells 46 = .ok (.goto (-31), 3) := by decide +kernel
theorem dX1_spells_49 : decode cX1_spells 49 = .ok (.iconst 1, 1) := by decide +kernel
theorem dX1_spells_50 : decode cX1_spells 50 = .ok (.ireturn, 1) := by decide +kernel
theorem dX1_isLetter_0 : decode cX1_isLetter 0 = .ok (.iload_n 0, 1) := by decide +kernel
theorem dX1_isLetter_1 : decode cX1_isLetter 1 = .ok (.bipush 97, 2) := by decide +kernel
theorem dX1_isLetter_3 : decode cX1_isLetter 3 = .ok (.if_icmp .lt 13, 3) := by decide +kernel
theorem dX1_isLetter_6 : decode cX1_isLetter 6 = .ok (.iload_n 0, 1) := by decide +kernel
theorem dX1_isLetter_7 : decode cX1_isLetter 7 = .ok (.bipush 122, 2) := by decide +kernel
theorem dX1_isLetter_9 : decode cX1_isLetter 9 = .ok (.if_icmp .gt 7, 3) := by decide +kernel
theorem dX1_isLetter_12 : decode cX1_isLetter 12 = .ok (.iconst 1, 1) := by decide +kernel
theorem dX1_isLetter_13 : decode cX1_isLetter 13 = .ok (.goto 4, 3) := by decide +kernel
theorem dX1_isLetter_16 : decode cX1_isLetter 16 = .ok (.iconst 0, 1) := by decide +kernel
theorem dX1_isLetter_17 : decode cX1_isLetter 17 = .ok (.ireturn, 1) := by decide +kernel
theorem dX1_isDigit_0 : decode cX1_isDigit 0 = .ok (.iload_n 0, 1) := by decide +kernel
theorem dX1_isDigit_1 : decode cX1_isDigit 1 = .ok (.bipush 48, 2) := by decide +kernel
theorem dX1_isDigit_3 : decode cX1_isDigit 3 = .ok (.if_icmp .lt 13, 3) := by decide +kernel
theorem dX1_isDigit_6 : decode cX1_isDigit 6 = .ok (.iload_n 0, 1) := by decide +kernel
theorem dX1_isDigit_7 : decode cX1_isDigit 7 = .ok (.bipush 57, 2) := by decide +kernel
theorem dX1_isDigit_9 : decode cX1_isDigit 9 = .ok (.if_icmp .gt 7, 3) := by decide +kernel
theorem dX1_isDigit_12 : decode cX1_isDigit 12 = .ok (.iconst 1, 1) := by decide +kernel
theorem dX1_isDigit_13 : decode cX1_isDigit 13 = .ok (.goto 4, 3) := by decide +kernel
theorem dX1_isDigit_16 : decode cX1_isDigit 16 = .ok (.iconst 0, 1) := by decide +kernel
theorem dX1_isDigit_17 : decode cX1_isDigit 17 = .ok (.ireturn, 1) := by decide +kernel
theorem dX1_isBlank_0 : decode cX1_isBlank 0 = .ok (.iload_n 0, 1) := by decide +kernel
theorem dX1_isBlank_1 : decode cX1_isBlank 1 = .ok (.bipush 32, 2) := by decide +kernel
theorem dX1_isBlank_3 : decode cX1_isBlank 3 = .ok (.if_icmp .eq 9, 3) := by decide +kernel
theorem dX1_isBlank_6 : decode cX1_isBlank 6 = .ok (.iload_n 0, 1) := by decide +kernel
theorem dX1_isBlank_7 : decode cX1_isBlank 7 = .ok (.bipush 10, 2) := by decide +kernel
theorem dX1_isBlank_9 : decode cX1_isBlank 9 = .ok (.if_icmp .ne 7, 3) := by decide +kernel
theorem dX1_isBlank_12 : decode cX1_isBlank 12 = .ok (.iconst 1, 1) := by decide +kernel
theorem dX1_isBlank_13 : decode cX1_isBlank 13 = .ok (.goto 4, 3) := by decide +kernel
theorem dX1_isBlank_16 : decode cX1_isBlank 16 = .ok (.iconst 0, 1) := by decide +kernel
theorem dX1_isBlank_17 : decode cX1_isBlank 17 = .ok (.ireturn, 1) := by decide +kernel
theorem dX2_init_0 : decode cX2_init 0 = .ok (.aload_n 0, 1) := by decide +kernel
theorem dX2_init_1 : decode cX2_init 1 = .ok (.invokespecial 3, 3) := by decide +kernel
theorem dX2_init_4 : decode cX2_init 4 = .ok (.aload_n 0, 1) := by decide +kernel
theorem dX2_init_5 : decode cX2_init 5 = .ok (.new 9, 3) := by decide +kernel
theorem dX2_init_8 : decode cX2_init 8 = .ok (.dup, 1) := by decide +kernel
theorem dX2_init_9 : decode cX2_init 9 = .ok (.invokespecial 11, 3) := by decide +kernel
theorem dX2_init_12 : decode cX2_init 12 = .ok (.putfield 12, 3) := by decide +kernel
theorem dX2_init_15 : decode cX2_init 15 = .ok (.aload_n 0, 1) := by decide +kernel
theorem dX2_init_16 : decode cX2_init 16 = .ok (.new 18, 3) := by decide +kernel
theorem dX2_init_19 : decode cX2_init 19 = .ok (.dup, 1) := by decide +kernel
theorem dX2_init_20 : decode cX2_init 20 = .ok (.invokespecial 20, 3) := by decide +kernel
theorem dX2_init_23 : decode cX2_init 23 = .ok (.putfield 21, 3) := by decide +kernel
theorem dX2_init_26 : decode cX2_init 26 = .ok (.return_, 1) := by decide +kernel
theorem dX2_run_0 : decode cX2_run 0 = .ok (.aload_n 0, 1) := by decide +kernel
theorem dX2_run_1 : decode cX2_run 1 = .ok (.aload_n 1, 1) := by decide +kernel
theorem dX2_run_2 : decode cX2_run 2 = .ok (.invokevirtual 25, 3) := by decide +kernel
theorem dX2_run_5 : decode cX2_run 5 = .ok (.iconst 0, 1) := by decide +kernel
theorem dX2_run_6 : decode cX2_run 6 = .ok (.istore_n 3, 1) := by decide +kernel
theorem dX2_run_7 : decode cX2_run 7 = .ok (.iload_n 3, 1) := by decide +kernel
theorem dX2_run_8 : decode cX2_run 8 = .ok (.iload_n 2, 1) := by decide +kernel
theorem dX2_run_9 : decode cX2_run 9 = .ok (.if_icmp .ge 35, 3) := by decide +kernel
theorem dX2_run_12 : decode cX2_run 12 = .ok (.aload_n 0, 1) := by decide +kernel
theorem dX2_run_13 : decode cX2_run 13 = .ok (.getfield 21, 3) := by decide +kernel
theorem dX2_run_16 : decode cX2_run 16 = .ok (.aload_n 0, 1) := by decide +kernel
theorem dX2_run_17 : decode cX2_run 17 = .ok (.getfield 12, 3) := by decide +kernel
theorem dX2_run_20 : decode cX2_run 20 = .ok (.invokevirtual 29, 3) := by decide +kernel
theorem dX2_run_23 : decode cX2_run 23 = .ok (.aload_n 0, 1) := by decide +kernel
theorem dX2_run_24 : decode cX2_run 24 = .ok (.getfield 21, 3) := by decide +kernel
theorem dX2_run_27 : decode cX2_run 27 = .ok (.aload_n 0, 1) := by decide +kernel
theorem dX2_run_28 : decode cX2_run 28 = .ok (.getfield 12, 3) := by decide +kernel
theorem dX2_run_31 : decode cX2_run 31 = .ok (.invokevirtual 32, 3) := by decide +kernel
theorem dX2_run_34 : decode cX2_run 34 = .ok (.aload_n 0, 1) := by decide +kernel
theorem dX2_run_35 : decode cX2_run 35 = .ok (.invokevirtual 35, 3) := by decide +kernel
theorem dX2_run_38 : decode cX2_run 38 = .ok (.iinc 3 1, 3) := by decide +kernel
theorem dX2_run_41 : decode cX2_run 41 = .ok (.goto (-34), 3) := by decide +kernel
theorem dX2_run_44 : decode cX2_run 44 = .ok (.return_, 1) := by decide +kernel
theorem dX2_untilWhole_0 : decode cX2_untilWhole 0 = .ok (.aload_n 0, 1) := by decide +kernel
theorem dX2_untilWhole_1 : decode cX2_untilWhole 1 = .ok (.aload_n 1, 1) := by decide +kernel
theorem dX2_untilWhole_2 : decode cX2_untilWhole 2 = .ok (.invokevirtual 25, 3) := by decide +kernel
theorem dX2_untilWhole_5 : decode cX2_untilWhole 5 = .ok (.iconst 0, 1) := by decide +kernel
theorem dX2_untilWhole_6 : decode cX2_untilWhole 6 = .ok (.istore_n 3, 1) := by decide +kernel
theorem dX2_untilWhole_7 : decode cX2_untilWhole 7 = .ok (.iload_n 3, 1) := by decide +kernel
theorem dX2_untilWhole_8 : decode cX2_untilWhole 8 = .ok (.sipush 300, 3) := by decide +kernel
theorem dX2_untilWhole_11 : decode cX2_untilWhole 11 = .ok (.if_icmp .ge 49, 3) := by decide +kernel
theorem dX2_untilWhole_14 : decode cX2_untilWhole 14 = .ok (.aload_n 0, 1) := by decide +kernel
theorem dX2_untilWhole_15 : decode cX2_untilWhole 15 = .ok (.getfield 12, 3) := by decide +kernel
theorem dX2_untilWhole_18 : decode cX2_untilWhole 18 = .ok (.invokevirtual 38, 3) := by decide +kernel
theorem dX2_untilWhole_21 : decode cX2_untilWhole 21 = .ok (.iload_n 2, 1) := by decide +kernel
theorem dX2_untilWhole_22 : decode cX2_untilWhole 22 = .ok (.iand, 1) := by decide +kernel
theorem dX2_untilWhole_23 : decode cX2_untilWhole 23 = .ok (.ifCond .ne 5, 3) := by decide +kernel
theorem dX2_untilWhole_26 : decode cX2_untilWhole 26 = .ok (.iload_n 3, 1) := by decide +kernel
theorem dX2_untilWhole_27 : decode cX2_untilWhole 27 = .ok (.ireturn, 1) := by decide +kernel
theorem dX2_untilWhole_28 : decode cX2_untilWhole 28 = .ok (.aload_n 0, 1) := by decide +kernel
theorem dX2_untilWhole_29 : decode cX2_untilWhole 29 = .ok (.getfield 21, 3) := by decide +kernel
theorem dX2_untilWhole_32 : decode cX2_untilWhole 32 = .ok (.aload_n 0, 1) := by decide +kernel
theorem dX2_untilWhole_33 : decode cX2_untilWhole 33 = .ok (.getfield 12, 3) := by decide +kernel
theorem dX2_untilWhole_36 : decode cX2_untilWhole 36 = .ok (.invokevirtual 29, 3) := by decide +kernel
theorem dX2_untilWhole_39 : decode cX2_untilWhole 39 = .ok (.aload_n 0, 1) := by decide +kernel
theorem dX2_untilWhole_40 : decode cX2_untilWhole 40 = .ok (.getfield 21, 3) := by decide +kernel
theorem dX2_untilWhole_43 : decode cX2_untilWhole 43 = .ok (.aload_n 0, 1) := by decide +kernel
theorem dX2_untilWhole_44 : decode cX2_untilWhole 44 = .ok (.getfield 12, 3) := by decide +kernel
theorem dX2_untilWhole_47 : decode cX2_untilWhole 47 = .ok (.invokevirtual 32, 3) := by decide +kernel
theorem dX2_untilWhole_50 : decode cX2_untilWhole 50 = .ok (.aload_n 0, 1) := by decide +kernel
theorem dX2_untilWhole_51 : decode cX2_untilWhole 51 = .ok (.invokevirtual 35, 3) := by decide +kernel
theorem dX2_untilWhole_54 : decode cX2_untilWhole 54 = .ok (.iinc 3 1, 3) := by decide +kernel
theorem dX2_untilWhole_57 : decode cX2_untilWhole 57 = .ok (.goto (-50), 3) := by decide +kernel
theorem dX2_untilWhole_60 : decode cX2_untilWhole 60 = .ok (.aload_n 0, 1) := by decide +kernel
theorem dX2_untilWhole_61 : decode cX2_untilWhole 61 = .ok (.getfield 12, 3) := by decide +kernel
theorem dX2_untilWhole_64 : decode cX2_untilWhole 64 = .ok (.invokevirtual 38, 3) := by decide +kernel
theorem dX2_untilWhole_67 : decode cX2_untilWhole 67 = .ok (.iload_n 2, 1) := by decide +kernel
theorem dX2_untilWhole_68 : decode cX2_untilWhole 68 = .ok (.iand, 1) := by decide +kernel
theorem dX2_untilWhole_69 : decode cX2_untilWhole 69 = .ok (.ifCond .ne 9, 3) := by decide +kernel
theorem dX2_untilWhole_72 : decode cX2_untilWhole 72 = .ok (.sipush 300, 3) := by decide +kernel
theorem dX2_untilWhole_75 : decode cX2_untilWhole 75 = .ok (.goto 4, 3) := by decide +kernel
theorem dX2_untilWhole_78 : decode cX2_untilWhole 78 = .ok (.iconst (-1), 1) := by decide +kernel
theorem dX2_untilWhole_79 : decode cX2_untilWhole 79 = .ok (.ireturn, 1) := by decide +kernel
theorem dX2_begin_0 : decode cX2_begin 0 = .ok (.aload_n 0, 1) := by decide +kernel
theorem dX2_begin_1 : decode cX2_begin 1 = .ok (.getfield 12, 3) := by decide +kernel
theorem dX2_begin_4 : decode cX2_begin 4 = .ok (.aload_n 1, 1) := by decide +kernel
theorem dX2_begin_5 : decode cX2_begin 5 = .ok (.invokevirtual 42, 3) := by decide +kernel
theorem dX2_begin_8 : decode cX2_begin 8 = .ok (.aload_n 0, 1) := by decide +kernel
theorem dX2_begin_9 : decode cX2_begin 9 = .ok (.iconst 0, 1) := by decide +kernel
theorem dX2_begin_10 : decode cX2_begin 10 = .ok (.putfield 45, 3) := by decide +kernel
theorem dX2_begin_13 : decode cX2_begin 13 = .ok (.aload_n 0, 1) := by decide +kernel
theorem dX2_begin_14 : decode cX2_begin 14 = .ok (.lconst 0, 1) := by decide +kernel
theorem dX2_begin_15 : decode cX2_begin 15 = .ok (.putfield 49, 3) := by decide +kernel
theorem dX2_begin_18 : decode cX2_begin 18 = .ok (.return_, 1) := by decide +kernel
theorem dX2_addUp_0 : decode cX2_addUp 0 = .ok (.aload_n 0, 1) := by decide +kernel
theorem dX2_addUp_1 : decode cX2_addUp 1 = .ok (.dup, 1) := by decide +kernel
theorem dX2_addUp_2 : decode cX2_addUp 2 = .ok (.getfield 45, 3) := by decide +kernel
theorem dX2_addUp_5 : decode cX2_addUp 5 = .ok (.aload_n 0, 1) := by decide +kernel
theorem dX2_addUp_6 : decode cX2_addUp 6 = .ok (.getfield 21, 3) := by decide +kernel
theorem dX2_addUp_9 : decode cX2_addUp 9 = .ok (.getfield 53, 3) := by decide +kernel
theorem dX2_addUp_12 : decode cX2_addUp 12 = .ok (.iadd, 1) := by decide +kernel
theorem dX2_addUp_13 : decode cX2_addUp 13 = .ok (.putfield 45, 3) := by decide +kernel
theorem dX2_addUp_16 : decode cX2_addUp 16 = .ok (.aload_n 0, 1) := by decide +kernel
theorem dX2_addUp_17 : decode cX2_addUp 17 = .ok (.dup, 1) := by decide +kernel
theorem dX2_addUp_18 : decode cX2_addUp 18 = .ok (.getfield 49, 3) := by decide +kernel
theorem dX2_addUp_21 : decode cX2_addUp 21 = .ok (.aload_n 0, 1) := by decide +kernel
theorem dX2_addUp_22 : decode cX2_addUp 22 = .ok (.getfield 21, 3) := by decide +kernel
theorem dX2_addUp_25 : decode cX2_addUp 25 = .ok (.getfield 54, 3) := by decide +kernel
theorem dX2_addUp_28 : decode cX2_addUp 28 = .ok (.i2l, 1) := by decide +kernel
theorem dX2_addUp_29 : decode cX2_addUp 29 = .ok (.ladd, 1) := by decide +kernel
theorem dX2_addUp_30 : decode cX2_addUp 30 = .ok (.putfield 49, 3) := by decide +kernel
theorem dX2_addUp_33 : decode cX2_addUp 33 = .ok (.return_, 1) := by decide +kernel
theorem dX4_init_0 : decode cX4_init 0 = .ok (.aload_n 0, 1) := by decide +kernel
theorem dX4_init_1 : decode cX4_init 1 = .ok (.invokespecial 3, 3) := by decide +kernel
theorem dX4_init_4 : decode cX4_init 4 = .ok (.aload_n 0, 1) := by decide +kernel
theorem dX4_init_5 : decode cX4_init 5 = .ok (.bipush 11, 2) := by decide +kernel
theorem dX4_init_7 : decode cX4_init 7 = .ok (.newarray .long, 2) := by decide +kernel
theorem dX4_init_9 : decode cX4_init 9 = .ok (.putfield 9, 3) := by decide +kernel
theorem dX4_init_12 : decode cX4_init 12 = .ok (.return_, 1) := by decide +kernel
theorem dX4_lossOf_0 : decode cX4_lossOf 0 = .ok (.aload_n 1, 1) := by decide +kernel
theorem dX4_lossOf_1 : decode cX4_lossOf 1 = .ok (.iload_n 2, 1) := by decide +kernel
theorem dX4_lossOf_2 : decode cX4_lossOf 2 = .ok (.iload_n 3, 1) := by decide +kernel
theorem dX4_lossOf_3 : decode cX4_lossOf 3 = .ok (.invokevirtual 15, 3) := by decide +kernel
theorem dX4_lossOf_6 : decode cX4_lossOf 6 = .ok (.istore 4, 2) := by decide +kernel
theorem dX4_lossOf_8 : decode cX4_lossOf 8 = .ok (.iload 4, 2) := by decide +kernel
theorem dX4_lossOf_10 : decode cX4_lossOf 10 = .ok (.invokestatic 21, 3) := by decide +kernel
theorem dX4_lossOf_13 : decode cX4_lossOf 13 = .ok (.istore 5, 2) := by decide +kernel
theorem dX4_lossOf_15 : decode cX4_lossOf 15 = .ok (.iload 5, 2) := by decide +kernel
theorem dX4_lossOf_17 : decode cX4_lossOf 17 = .ok (.aload_n 1, 1) := by decide +kernel
theorem dX4_lossOf_18 : decode cX4_lossOf 18 = .ok (.getfield 27, 3) := by decide +kernel
theorem dX4_lossOf_21 : decode cX4_lossOf 21 = .ok (.iload_n 2, 1) := by decide +kernel
theorem dX4_lossOf_22 : decode cX4_lossOf 22 = .ok (.iconst 2, 1) := by decide +kernel
theorem dX4_lossOf_23 : decode cX4_lossOf 23 = .ok (.invokevirtual 31, 3) := by decide +kernel
theorem dX4_lossOf_26 : decode cX4_lossOf 26 = .ok (.isub, 1) := by decide +kernel
theorem dX4_lossOf_27 : decode cX4_lossOf 27 = .ok (.istore 6, 2) := by decide +kernel
theorem dX4_lossOf_29 : decode cX4_lossOf 29 = .ok (.iload 6, 2) := by decide +kernel
theorem dX4_lossOf_31 : decode cX4_lossOf 31 = .ok (.ifCond .ge 6, 3) := by decide +kernel
theorem dX4_lossOf_34 : decode cX4_lossOf 34 = .ok (.ldc 36, 2) := by decide +kernel
theorem dX4_lossOf_36 : decode cX4_lossOf 36 = .ok (.ireturn, 1) := by decide +kernel
theorem dX4_lossOf_37 : decode cX4_lossOf 37 = .ok (.iconst 0, 1) := by decide +kernel
theorem dX4_lossOf_38 : decode cX4_lossOf 38 = .ok (.istore 7, 2) := by decide +kernel
theorem dX4_lossOf_40 : decode cX4_lossOf 40 = .ok (.iload 7, 2) := by decide +kernel
theorem dX4_lossOf_42 : decode cX4_lossOf 42 = .ok (.aload_n 0, 1) := by decide +kernel
theorem dX4_lossOf_43 : decode cX4_lossOf 43 = .ok (.getfield 9, 3) := by decide +kernel
theorem dX4_lossOf_46 : decode cX4_lossOf 46 = .ok (.arraylength, 1) := by decide +kernel
theorem dX4_lossOf_47 : decode cX4_lossOf 47 = .ok (.if_icmp .ge 28, 3) := by decide +kernel
theorem dX4_lossOf_50 : decode cX4_lossOf 50 = .ok (.aload_n 0, 1) := by decide +kernel
theorem dX4_lossOf_51 : decode cX4_lossOf 51 = .ok (.getfield 9, 3) := by decide +kernel
theorem dX4_lossOf_54 : decode cX4_lossOf 54 = .ok (.iload 7, 2) := by decide +kernel
theorem dX4_lossOf_56 : decode cX4_lossOf 56 = .ok (.iload 7, 2) := by decide +kernel
theorem dX4_lossOf_58 : decode cX4_lossOf 58 = .ok (.ifCond .ne 9, 3) := by decide +kernel
theorem dX4_lossOf_61 : decode cX4_lossOf 61 = .ok (.ldc2_w 37, 3) := by decide +kernel
theorem dX4_lossOf_64 : decode cX4_lossOf 64 = .ok (.goto 4, 3) := by decide +kernel
theorem dX4_lossOf_67 : decode cX4_lossOf 67 = .ok (.lconst 0, 1) := by decide +kernel
theorem dX4_lossOf_68 : decode cX4_lossOf 68 = .ok (.lastore, 1) := by decide +kernel
theorem dX4_lossOf_69 : decode cX4_lossOf 69 = .ok (.iinc 7 1, 3) := by decide +kernel
theorem dX4_lossOf_72 : decode cX4_lossOf 72 = .ok (.goto (-32), 3) := by decide +kernel
theorem dX4_lossOf_75 : decode cX4_lossOf 75 = .ok (.iconst 0, 1) := by decide +kernel
theorem dX4_lossOf_76 : decode cX4_lossOf 76 = .ok (.istore 7, 2) := by decide +kernel
theorem dX4_lossOf_78 : decode cX4_lossOf 78 = .ok (.iload 7, 2) := by decide +kernel
theorem dX4_lossOf_80 : decode cX4_lossOf 80 = .ok (.bipush 10, 2) := by decide +kernel
theorem dX4_lossOf_82 : decode cX4_lossOf 82 = .ok (.if_icmp .ge 40, 3) := by decide +kernel
theorem dX4_lossOf_85 : decode cX4_lossOf 85 = .ok (.iload 4, 2) := by decide +kernel
theorem dX4_lossOf_87 : decode cX4_lossOf 87 = .ok (.iload 7, 2) := by decide +kernel
theorem dX4_lossOf_89 : decode cX4_lossOf 89 = .ok (.ishr, 1) := by decide +kernel
theorem dX4_lossOf_90 : decode cX4_lossOf 90 = .ok (.iconst 1, 1) := by decide +kernel
theorem dX4_lossOf_91 : decode cX4_lossOf 91 = .ok (.iand, 1) := by decide +kernel
theorem dX4_lossOf_92 : decode cX4_lossOf 92 = .ok (.ifCond .eq 24, 3) := by decide +kernel
theorem dX4_lossOf_95 : decode cX4_lossOf 95 = .ok (.aload_n 0, 1) := by decide +kernel
theorem dX4_lossOf_96 : decode cX4_lossOf 96 = .ok (.aload_n 1, 1) := by decide +kernel
theorem dX4_lossOf_97 : decode cX4_lossOf 97 = .ok (.getfield 39, 3) := by decide +kernel
theorem dX4_lossOf_100 : decode cX4_lossOf 100 = .ok (.aload_n 1, 1) := by decide +kernel
theorem dX4_lossOf_101 : decode cX4_lossOf 101 = .ok (.iload_n 2, 1) := by decide +kernel
theorem dX4_lossOf_102 : decode cX4_lossOf 102 = .ok (.iload 7, 2) := by decide +kernel
theorem dX4_lossOf_104 : decode cX4_lossOf 104 = .ok (.invokevirtual 42, 3) := by decide +kernel
theorem dX4_lossOf_107 : decode cX4_lossOf 107 = .ok (.iconst 2, 1) := by decide +kernel
theorem dX4_lossOf_108 : decode cX4_lossOf 108 = .ok (.invokevirtual 31, 3) := by decide +kernel
theorem dX4_lossOf_111 : decode cX4_lossOf 111 = .ok (.iload 5, 2) := by decide +kernel
theorem dX4_lossOf_113 : decode cX4_lossOf 113 = .ok (.invokevirtual 45, 3) := by decide +kernel
theorem dX4_lossOf_116 : decode cX4_lossOf 116 = .ok (.iinc 7 1, 3) := by decide +kernel
theorem dX4_lossOf_119 : decode cX4_lossOf 119 = .ok (.goto (-41), 3) := by decide +kernel
theorem dX4_lossOf_122 : decode cX4_lossOf 122 = .ok (.lconst 0, 1) := by decide +kernel
theorem dX4_lossOf_123 : decode cX4_lossOf 123 = .ok (.lstore 7, 2) := by decide +kernel
theorem dX4_lossOf_125 : decode cX4_lossOf 125 = .ok (.iload 6, 2) := by decide +kernel
theorem dX4_lossOf_127 : decode cX4_lossOf 127 = .ok (.iconst 1, 1) := by decide +kernel
theorem dX4_lossOf_128 : decode cX4_lossOf 128 = .ok (.iadd, 1) := by decide +kernel
theorem dX4_lossOf_129 : decode cX4_lossOf 129 = .ok (.istore 9, 2) := by decide +kernel
theorem dX4_lossOf_131 : decode cX4_lossOf 131 = .ok (.iload 9, 2) := by decide +kernel
theorem dX4_lossOf_133 : decode cX4_lossOf 133 = .ok (.iload 5, 2) := by decide +kernel
theorem dX4_lossOf_135 : decode cX4_lossOf 135 = .ok (.if_icmp .gt 31, 3) := by decide +kernel
theorem dX4_lossOf_138 : decode cX4_lossOf 138 = .ok (.iload 9, 2) := by decide +kernel
theorem dX4_lossOf_140 : decode cX4_lossOf 140 = .ok (.aload_n 0, 1) := by decide +kernel
theorem dX4_lossOf_141 : decode cX4_lossOf 141 = .ok (.getfield 9, 3) := by decide +kernel
theorem dX4_lossOf_144 : decode cX4_lossOf 144 = .ok (.arraylength, 1) := by decide +kernel
theorem dX4_lossOf_145 : decode cX4_lossOf 145 = .ok (.if_icmp .ge 21, 3) := by decide +kernel
theorem dX4_lossOf_148 : decode cX4_lossOf 148 = .ok (.lload 7, 2) := by decide +kernel
theorem dX4_lossOf_150 : decode cX4_lossOf 150 = .ok (.aload_n 0, 1) := by decide +kernel
theorem dX4_lossOf_151 : decode cX4_lossOf 151 = .ok (.getfield 9, 3) := by decide +kernel
theorem dX4_lossOf_154 : decode cX4_lossOf 154 = .ok (.iload 9, 2) := by decide +kernel
theorem dX4_lossOf_156 : decode cX4_lossOf 156 = .ok (.laload, 1) := by decide +kernel
theorem dX4_lossOf_157 : decode cX4_lossOf 157 = .ok (.ladd, 1) := by decide +kernel
theorem dX4_lossOf_158 : decode cX4_lossOf 158 = .ok (.lstore 7, 2) := by decide +kernel
theorem dX4_lossOf_160 : decode cX4_lossOf 160 = .ok (.iinc 9 1, 3) := by decide +kernel
theorem dX4_lossOf_163 : decode cX4_lossOf 163 = .ok (.goto (-32), 3) := by decide +kernel
theorem dX4_lossOf_166 : decode cX4_lossOf 166 = .ok (.lload 7, 2) := by decide +kernel
theorem dX4_lossOf_168 : decode cX4_lossOf 168 = .ok (.l2i, 1) := by decide +kernel
theorem dX4_lossOf_169 : decode cX4_lossOf 169 = .ok (.ireturn, 1) := by decide +kernel
theorem dX4_addRisk_0 : decode cX4_addRisk 0 = .ok (.iload_n 2, 1) := by decide +kernel
theorem dX4_addRisk_1 : decode cX4_addRisk 1 = .ok (.aload_n 0, 1) := by decide +kernel
theorem dX4_addRisk_2 : decode cX4_addRisk 2 = .ok (.getfield 9, 3) := by decide +kernel
theorem dX4_addRisk_5 : decode cX4_addRisk 5 = .ok (.arraylength, 1) := by decide +kernel
theorem dX4_addRisk_6 : decode cX4_addRisk 6 = .ok (.iconst 1, 1) := by decide +kernel
theorem dX4_addRisk_7 : decode cX4_addRisk 7 = .ok (.isub, 1) := by decide +kernel
theorem dX4_addRisk_8 : decode cX4_addRisk 8 = .ok (.invokestatic 49, 3) := by decide +kernel
theorem dX4_addRisk_11 : decode cX4_addRisk 11 = .ok (.istore_n 3, 1) := by decide +kernel
theorem dX4_addRisk_12 : decode cX4_addRisk 12 = .ok (.iload_n 3, 1) := by decide +kernel
theorem dX4_addRisk_13 : decode cX4_addRisk 13 = .ok (.ifCond .lt 56, 3) := by decide +kernel
theorem dX4_addRisk_16 : decode cX4_addRisk 16 = .ok (.iload_n 3, 1) := by decide +kernel
theorem dX4_addRisk_17 : decode cX4_addRisk 17 = .ok (.ifCond .le 14, 3) := by decide +kernel
theorem dX4_addRisk_20 : decode cX4_addRisk 20 = .ok (.aload_n 0, 1) := by decide +kernel
theorem dX4_addRisk_21 : decode cX4_addRisk 21 = .ok (.getfield 9, 3) := by decide +kernel
theorem dX4_addRisk_24 : decode cX4_addRisk 24 = .ok (.iload_n 3, 1) := by decide +kernel
theorem dX4_addRisk_25 : decode cX4_addRisk 25 = .ok (.iconst 1, 1) := by decide +kernel
theorem dX4_addRisk_26 : decode cX4_addRisk 26 = .ok (.isub, 1) := by decide +kernel
theorem dX4_addRisk_27 : decode cX4_addRisk 27 = .ok (.laload, 1) := by decide +kernel
theorem dX4_addRisk_28 : decode cX4_addRisk 28 = .ok (.goto 4, 3) := by decide +kernel
theorem dX4_addRisk_31 : decode cX4_addRisk 31 = .ok (.lconst 0, 1) := by decide +kernel
theorem dX4_addRisk_32 : decode cX4_addRisk 32 = .ok (.lstore 4, 2) := by decide +kernel
theorem dX4_addRisk_34 : decode cX4_addRisk 34 = .ok (.aload_n 0, 1) := by decide +kernel
theorem dX4_addRisk_35 : decode cX4_addRisk 35 = .ok (.getfield 9, 3) := by decide +kernel
theorem dX4_addRisk_38 : decode cX4_addRisk 38 = .ok (.iload_n 3, 1) := by decide +kernel
theorem dX4_addRisk_39 : decode cX4_addRisk 39 = .ok (.aload_n 0, 1) := by decide +kernel
theorem dX4_addRisk_40 : decode cX4_addRisk 40 = .ok (.getfield 9, 3) := by decide +kernel
theorem dX4_addRisk_43 : decode cX4_addRisk 43 = .ok (.iload_n 3, 1) := by decide +kernel
theorem dX4_addRisk_44 : decode cX4_addRisk 44 = .ok (.laload, 1) := by decide +kernel
theorem dX4_addRisk_45 : decode cX4_addRisk 45 = .ok (.sipush 1000, 3) := by decide +kernel
theorem dX4_addRisk_48 : decode cX4_addRisk 48 = .ok (.iload_n 1, 1) := by decide +kernel
theorem dX4_addRisk_49 : decode cX4_addRisk 49 = .ok (.isub, 1) := by decide +kernel
theorem dX4_addRisk_50 : decode cX4_addRisk 50 = .ok (.i2l, 1) := by decide +kernel
theorem dX4_addRisk_51 : decode cX4_addRisk 51 = .ok (.lmul, 1) := by decide +kernel
theorem dX4_addRisk_52 : decode cX4_addRisk 52 = .ok (.lload 4, 2) := by decide +kernel
theorem dX4_addRisk_54 : decode cX4_addRisk 54 = .ok (.iload_n 1, 1) := by decide +kernel
theorem dX4_addRisk_55 : decode cX4_addRisk 55 = .ok (.i2l, 1) := by decide +kernel
theorem dX4_addRisk_56 : decode cX4_addRisk 56 = .ok (.lmul, 1) := by decide +kernel
theorem dX4_addRisk_57 : decode cX4_addRisk 57 = .ok (.ladd, 1) := by decide +kernel
theorem dX4_addRisk_58 : decode cX4_addRisk 58 = .ok (.ldc2_w 54, 3) := by decide +kernel
theorem dX4_addRisk_61 : decode cX4_addRisk 61 = .ok (.ldiv, 1) := by decide +kernel
theorem dX4_addRisk_62 : decode cX4_addRisk 62 = .ok (.lastore, 1) := by decide +kernel
theorem dX4_addRisk_63 : decode cX4_addRisk 63 = .ok (.iinc 3 (-1), 3) := by decide +kernel
theorem dX4_addRisk_66 : decode cX4_addRisk 66 = .ok (.goto (-54), 3) := by decide +kernel
theorem dX4_addRisk_69 : decode cX4_addRisk 69 = .ok (.return_, 1) := by decide +kernel
theorem dX7_init_0 : decode cX7_init 0 = .ok (.aload_n 0, 1) := by decide +kernel
theorem dX7_init_1 : decode cX7_init 1 = .ok (.invokespecial 3, 3) := by decide +kernel
theorem dX7_init_4 : decode cX7_init 4 = .ok (.aload_n 0, 1) := by decide +kernel
theorem dX7_init_5 : decode cX7_init 5 = .ok (.iload_n 2, 1) := by decide +kernel
theorem dX7_init_6 : decode cX7_init 6 = .ok (.putfield 9, 3) := by decide +kernel
theorem dX7_init_9 : decode cX7_init 9 = .ok (.aload_n 0, 1) := by decide +kernel
theorem dX7_init_10 : decode cX7_init 10 = .ok (.iconst 0, 1) := by decide +kernel
theorem dX7_init_11 : decode cX7_init 11 = .ok (.iload_n 1, 1) := by decide +kernel
theorem dX7_init_12 : decode cX7_init 12 = .ok (.iload_n 2, 1) := by decide +kernel
theorem dX7_init_13 : decode cX7_init 13 = .ok (.imul, 1) := by decide +kernel
theorem dX7_init_14 : decode cX7_init 14 = .ok (.invokestatic 15, 3) := by decide +kernel
theorem dX7_init_17 : decode cX7_init 17 = .ok (.newarray .int, 2) := by decide +kernel
theorem dX7_init_19 : decode cX7_init 19 = .ok (.putfield 21, 3) := by decide +kernel
theorem dX7_init_22 : decode cX7_init 22 = .ok (.return_, 1) := by decide +kernel
theorem dX7_holds_0 : decode cX7_holds 0 = .ok (.iload_n 1, 1) := by decide +kernel
theorem dX7_holds_1 : decode cX7_holds 1 = .ok (.ifCond .lt 15, 3) := by decide +kernel
theorem dX7_holds_4 : decode cX7_holds 4 = .ok (.iload_n 1, 1) := by decide +kernel
theorem dX7_holds_5 : decode cX7_holds 5 = .ok (.aload_n 0, 1) := by decide +kernel
theorem dX7_holds_6 : decode cX7_holds 6 = .ok (.getfield 25, 3) := by decide +kernel
theorem dX7_holds_9 : decode cX7_holds 9 = .ok (.if_icmp .ge 7, 3) := by decide +kernel
theorem dX7_holds_12 : decode cX7_holds 12 = .ok (.iconst 1, 1) := by decide +kernel
theorem dX7_holds_13 : decode cX7_holds 13 = .ok (.goto 4, 3) := by decide +kernel
theorem dX7_holds_16 : decode cX7_holds 16 = .ok (.iconst 0, 1) := by decide +kernel
theorem dX7_holds_17 : decode cX7_holds 17 = .ok (.ireturn, 1) := by decide +kernel
theorem dX7_get_0 : decode cX7_get 0 = .ok (.iload_n 1, 1) := by decide +kernel
theorem dX7_get_1 : decode cX7_get 1 = .ok (.aload_n 0, 1) := by decide +kernel
theorem dX7_get_2 : decode cX7_get 2 = .ok (.getfield 9, 3) := by decide +kernel
theorem dX7_get_5 : decode cX7_get 5 = .ok (.imul, 1) := by decide +kernel
theorem dX7_get_6 : decode cX7_get 6 = .ok (.iload_n 2, 1) := by decide +kernel
theorem dX7_get_7 : decode cX7_get 7 = .ok (.iadd, 1) := by decide +kernel
theorem dX7_get_8 : decode cX7_get 8 = .ok (.istore_n 3, 1) := by decide +kernel
theorem dX7_get_9 : decode cX7_get 9 = .ok (.iload_n 1, 1) := by decide +kernel
theorem dX7_get_10 : decode cX7_get 10 = .ok (.ifCond .lt 27, 3) := by decide +kernel
theorem dX7_get_13 : decode cX7_get 13 = .ok (.iload_n 1, 1) := by decide +kernel
theorem dX7_get_14 : decode cX7_get 14 = .ok (.aload_n 0, 1) := by decide +kernel
theorem dX7_get_15 : decode cX7_get 15 = .ok (.getfield 25, 3) := by decide +kernel
theorem dX7_get_18 : decode cX7_get 18 = .ok (.if_icmp .ge 19, 3) := by decide +kernel
theorem dX7_get_21 : decode cX7_get 21 = .ok (.iload_n 2, 1) := by decide +kernel
theorem dX7_get_22 : decode cX7_get 22 = .ok (.ifCond .lt 15, 3) := by decide +kernel
theorem dX7_get_25 : decode cX7_get 25 = .ok (.iload_n 2, 1) := by decide +kernel
theorem dX7_get_26 : decode cX7_get 26 = .ok (.aload_n 0, 1) := by decide +kernel
theorem dX7_get_27 : decode cX7_get 27 = .ok (.getfield 9, 3) := by decide +kernel
theorem dX7_get_30 : decode cX7_get 30 = .ok (.if_icmp .ge 7, 3) := by decide +kernel
theorem dX7_get_33 : decode cX7_get 33 = .ok (.iconst 1, 1) := by decide +kernel
theorem dX7_get_34 : decode cX7_get 34 = .ok (.goto 4, 3) := by decide +kernel
theorem dX7_get_37 : decode cX7_get 37 = .ok (.iconst 0, 1) := by decide +kernel
theorem dX7_get_38 : decode cX7_get 38 = .ok (.istore 4, 2) := by decide +kernel
theorem dX7_get_40 : decode cX7_get 40 = .ok (.iload 4, 2) := by decide +kernel
theorem dX7_get_42 : decode cX7_get 42 = .ok (.ifCond .eq 25, 3) := by decide +kernel
theorem dX7_get_45 : decode cX7_get 45 = .ok (.iload_n 3, 1) := by decide +kernel
theorem dX7_get_46 : decode cX7_get 46 = .ok (.ifCond .lt 21, 3) := by decide +kernel
theorem dX7_get_49 : decode cX7_get 49 = .ok (.iload_n 3, 1) := by decide +kernel
theorem dX7_get_50 : decode cX7_get 50 = .ok (.aload_n 0, 1) := by decide +kernel
theorem dX7_get_51 : decode cX7_get 51 = .ok (.getfield 21, 3) := by decide +kernel
theorem dX7_get_54 : decode cX7_get 54 = .ok (.arraylength, 1) := by decide +kernel
theorem dX7_get_55 : decode cX7_get 55 = .ok (.if_icmp .ge 12, 3) := by decide +kernel
theorem dX7_get_58 : decode cX7_get 58 = .ok (.aload_n 0, 1) := by decide +kernel
theorem dX7_get_59 : decode cX7_get 59 = .ok (.getfield 21, 3) := by decide +kernel
theorem dX7_get_62 : decode cX7_get 62 = .ok (.iload_n 3, 1) := by decide +kernel
theorem dX7_get_63 : decode cX7_get 63 = .ok (.iaload, 1) := by decide +kernel
theorem dX7_get_64 : decode cX7_get 64 = .ok (.goto 4, 3) := by decide +kernel
theorem dX7_get_67 : decode cX7_get 67 = .ok (.iconst 0, 1) := by decide +kernel
theorem dX7_get_68 : decode cX7_get 68 = .ok (.ireturn, 1) := by decide +kernel
theorem dX7_set_0 : decode cX7_set 0 = .ok (.iload_n 1, 1) := by decide +kernel
theorem dX7_set_1 : decode cX7_set 1 = .ok (.aload_n 0, 1) := by decide +kernel
theorem dX7_set_2 : decode cX7_set 2 = .ok (.getfield 9, 3) := by decide +kernel
theorem dX7_set_5 : decode cX7_set 5 = .ok (.imul, 1) := by decide +kernel
theorem dX7_set_6 : decode cX7_set 6 = .ok (.iload_n 2, 1) := by decide +kernel
theorem dX7_set_7 : decode cX7_set 7 = .ok (.iadd, 1) := by decide +kernel
theorem dX7_set_8 : decode cX7_set 8 = .ok (.istore 4, 2) := by decide +kernel
theorem dX7_set_10 : decode cX7_set 10 = .ok (.iload_n 1, 1) := by decide +kernel
theorem dX7_set_11 : decode cX7_set 11 = .ok (.ifCond .lt 27, 3) := by decide +kernel
theorem dX7_set_14 : decode cX7_set 14 = .ok (.iload_n 1, 1) := by decide +kernel
theorem dX7_set_15 : decode cX7_set 15 = .ok (.aload_n 0, 1) := by decide +kernel
theorem dX7_set_16 : decode cX7_set 16 = .ok (.getfield 25, 3) := by decide +kernel
theorem dX7_set_19 : decode cX7_set 19 = .ok (.if_icmp .ge 19, 3) := by decide +kernel
theorem dX7_set_22 : decode cX7_set 22 = .ok (.iload_n 2, 1) := by decide +kernel
theorem dX7_set_23 : decode cX7_set 23 = .ok (.ifCond .lt 15, 3) := by decide +kernel
theorem dX7_set_26 : decode cX7_set 26 = .ok (.iload_n 2, 1) := by decide +kernel
theorem dX7_set_27 : decode cX7_set 27 = .ok (.aload_n 0, 1) := by decide +kernel
theorem dX7_set_28 : decode cX7_set 28 = .ok (.getfield 9, 3) := by decide +kernel
theorem dX7_set_31 : decode cX7_set 31 = .ok (.if_icmp .ge 7, 3) := by decide +kernel
theorem dX7_set_34 : decode cX7_set 34 = .ok (.iconst 1, 1) := by decide +kernel
theorem dX7_set_35 : decode cX7_set 35 = .ok (.goto 4, 3) := by decide +kernel
theorem dX7_set_38 : decode cX7_set 38 = .ok (.iconst 0, 1) := by decide +kernel
theorem dX7_set_39 : decode cX7_set 39 = .ok (.istore 5, 2) := by decide +kernel
theorem dX7_set_41 : decode cX7_set 41 = .ok (.iload 5, 2) := by decide +kernel
theorem dX7_set_43 : decode cX7_set 43 = .ok (.ifCond .eq 26, 3) := by decide +kernel
theorem dX7_set_46 : decode cX7_set 46 = .ok (.iload 4, 2) := by decide +kernel
theorem dX7_set_48 : decode cX7_set 48 = .ok (.ifCond .lt 21, 3) := by decide +kernel
theorem dX7_set_51 : decode cX7_set 51 = .ok (.iload 4, 2) := by decide +kernel
theorem dX7_set_53 : decode cX7_set 53 = .ok (.aload_n 0, 1) := by decide +kernel
theorem dX7_set_54 : decode cX7_set 54 = .ok (.getfield 21, 3) := by decide +kernel
theorem dX7_set_57 : decode cX7_set 57 = .ok (.arraylength, 1) := by decide +kernel
theorem dX7_set_58 : decode cX7_set 58 = .ok (.if_icmp .ge 11, 3) := by decide +kernel
theorem dX7_set_61 : decode cX7_set 61 = .ok (.aload_n 0, 1) := by decide +kernel
theorem dX7_set_62 : decode cX7_set 62 = .ok (.getfield 21, 3) := by decide +kernel
theorem dX7_set_65 : decode cX7_set 65 = .ok (.iload 4, 2) := by decide +kernel
theorem dX7_set_67 : decode cX7_set 67 = .ok (.iload_n 3, 1) := by decide +kernel
theorem dX7_set_68 : decode cX7_set 68 = .ok (.iastore, 1) := by decide +kernel
theorem dX7_set_69 : decode cX7_set 69 = .ok (.return_, 1) := by decide +kernel
theorem dX7_increase_0 : decode cX7_increase 0 = .ok (.aload_n 0, 1) := by decide +kernel
theorem dX7_increase_1 : decode cX7_increase 1 = .ok (.iload_n 1, 1) := by decide +kernel
theorem dX7_increase_2 : decode cX7_increase 2 = .ok (.iload_n 2, 1) := by decide +kernel
theorem dX7_increase_3 : decode cX7_increase 3 = .ok (.aload_n 0, 1) := by decide +kernel
theorem dX7_increase_4 : decode cX7_increase 4 = .ok (.iload_n 1, 1) := by decide +kernel
theorem dX7_increase_5 : decode cX7_increase 5 = .ok (.iload_n 2, 1) := by decide +kernel
theorem dX7_increase_6 : decode cX7_increase 6 = .ok (.invokevirtual 28, 3) := by decide +kernel
theorem dX7_increase_9 : decode cX7_increase 9 = .ok (.iload_n 3, 1) := by decide +kernel
theorem dX7_increase_10 : decode cX7_increase 10 = .ok (.iadd, 1) := by decide +kernel
theorem dX7_increase_11 : decode cX7_increase 11 = .ok (.invokevirtual 31, 3) := by decide +kernel
theorem dX7_increase_14 : decode cX7_increase 14 = .ok (.return_, 1) := by decide +kernel
theorem dX7_isFull_0 : decode cX7_isFull 0 = .ok (.aload_n 0, 1) := by decide +kernel
theorem dX7_isFull_1 : decode cX7_isFull 1 = .ok (.getfield 25, 3) := by decide +kernel
theorem dX7_isFull_4 : decode cX7_isFull 4 = .ok (.iconst 1, 1) := by decide +kernel
theorem dX7_isFull_5 : decode cX7_isFull 5 = .ok (.iadd, 1) := by decide +kernel
theorem dX7_isFull_6 : decode cX7_isFull 6 = .ok (.aload_n 0, 1) := by decide +kernel
theorem dX7_isFull_7 : decode cX7_isFull 7 = .ok (.getfield 9, 3) := by decide +kernel
theorem dX7_isFull_10 : decode cX7_isFull 10 = .ok (.imul, 1) := by decide +kernel
theorem dX7_isFull_11 : decode cX7_isFull 11 = .ok (.aload_n 0, 1) := by decide +kernel
theorem dX7_isFull_12 : decode cX7_isFull 12 = .ok (.getfield 21, 3) := by decide +kernel
theorem dX7_isFull_15 : decode cX7_isFull 15 = .ok (.arraylength, 1) := by decide +kernel
theorem dX7_isFull_16 : decode cX7_isFull 16 = .ok (.if_icmp .le 7, 3) := by decide +kernel
theorem dX7_isFull_19 : decode cX7_isFull 19 = .ok (.iconst 1, 1) := by decide +kernel
theorem dX7_isFull_20 : decode cX7_isFull 20 = .ok (.goto 4, 3) := by decide +kernel
theorem dX7_isFull_23 : decode cX7_isFull 23 = .ok (.iconst 0, 1) := by decide +kernel
theorem dX7_isFull_24 : decode cX7_isFull 24 = .ok (.ireturn, 1) := by decide +kernel
theorem dX7_clear_0 : decode cX7_clear 0 = .ok (.aload_n 0, 1) := by decide +kernel
theorem dX7_clear_1 : decode cX7_clear 1 = .ok (.iconst 0, 1) := by decide +kernel
theorem dX7_clear_2 : decode cX7_clear 2 = .ok (.putfield 25, 3) := by decide +kernel
theorem dX7_clear_5 : decode cX7_clear 5 = .ok (.return_, 1) := by decide +kernel
theorem dX7_insertRow_0 : decode cX7_insertRow 0 = .ok (.aload_n 0, 1) := by decide +kernel
theorem dX7_insertRow_1 : decode cX7_insertRow 1 = .ok (.invokevirtual 35, 3) := by decide +kernel
theorem dX7_insertRow_4 : decode cX7_insertRow 4 = .ok (.ifCond .ne 15, 3) := by decide +kernel
theorem dX7_insertRow_7 : decode cX7_insertRow 7 = .ok (.iload_n 1, 1) := by decide +kernel
theorem dX7_insertRow_8 : decode cX7_insertRow 8 = .ok (.ifCond .lt 11, 3) := by decide +kernel
theorem dX7_insertRow_11 : decode cX7_insertRow 11 = .ok (.iload_n 1, 1) := by decide +kernel
theorem dX7_insertRow_12 : decode cX7_insertRow 12 = .ok (.aload_n 0, 1) := by decide +kernel
theorem dX7_insertRow_13 : decode cX7_insertRow 13 = .ok (.getfield 25, 3) := by decide +kernel
theorem dX7_insertRow_16 : decode cX7_insertRow 16 = .ok (.if_icmp .le 4, 3) := by decide +kernel
theorem dX7_insertRow_19 : decode cX7_insertRow 19 = .ok (.return_, 1) := by decide +kernel
theorem dX7_insertRow_20 : decode cX7_insertRow 20 = .ok (.iload_n 1, 1) := by decide +kernel
theorem dX7_insertRow_21 : decode cX7_insertRow 21 = .ok (.aload_n 0, 1) := by decide +kernel
theorem dX7_insertRow_22 : decode cX7_insertRow 22 = .ok (.getfield 9, 3) := by decide +kernel
theorem dX7_insertRow_25 : decode cX7_insertRow 25 = .ok (.imul, 1) := by decide +kernel
theorem dX7_insertRow_26 : decode cX7_insertRow 26 = .ok (.istore_n 2, 1) := by decide +kernel
theorem dX7_insertRow_27 : decode cX7_insertRow 27 = .ok (.aload_n 0, 1) := by decide +kernel
theorem dX7_insertRow_28 : decode cX7_insertRow 28 = .ok (.getfield 21, 3) := by decide +kernel
theorem dX7_insertRow_31 : decode cX7_insertRow 31 = .ok (.iload_n 2, 1) := by decide +kernel
theorem dX7_insertRow_32 : decode cX7_insertRow 32 = .ok (.aload_n 0, 1) := by decide +kernel
theorem dX7_insertRow_33 : decode cX7_insertRow 33 = .ok (.getfield 21, 3) := by decide +kernel
theorem dX7_insertRow_36 : decode cX7_insertRow 36 = .ok (.iload_n 2, 1) := by decide +kernel
theorem dX7_insertRow_37 : decode cX7_insertRow 37 = .ok (.aload_n 0, 1) := by decide +kernel
theorem dX7_insertRow_38 : decode cX7_insertRow 38 = .ok (.getfield 9, 3) := by decide +kernel
theorem dX7_insertRow_41 : decode cX7_insertRow 41 = .ok (.iadd, 1) := by decide +kernel
theorem dX7_insertRow_42 : decode cX7_insertRow 42 = .ok (.aload_n 0, 1) := by decide +kernel
theorem dX7_insertRow_43 : decode cX7_insertRow 43 = .ok (.getfield 25, 3) := by decide +kernel
theorem dX7_insertRow_46 : decode cX7_insertRow 46 = .ok (.iload_n 1, 1) := by decide +kernel
theorem dX7_insertRow_47 : decode cX7_insertRow 47 = .ok (.isub, 1) := by decide +kernel
theorem dX7_insertRow_48 : decode cX7_insertRow 48 = .ok (.aload_n 0, 1) := by decide +kernel
theorem dX7_insertRow_49 : decode cX7_insertRow 49 = .ok (.getfield 9, 3) := by decide +kernel
theorem dX7_insertRow_52 : decode cX7_insertRow 52 = .ok (.imul, 1) := by decide +kernel
theorem dX7_insertRow_53 : decode cX7_insertRow 53 = .ok (.invokestatic 39, 3) := by decide +kernel
theorem dX7_insertRow_56 : decode cX7_insertRow 56 = .ok (.aload_n 0, 1) := by decide +kernel
theorem dX7_insertRow_57 : decode cX7_insertRow 57 = .ok (.dup, 1) := by decide +kernel
theorem dX7_insertRow_58 : decode cX7_insertRow 58 = .ok (.getfield 25, 3) := by decide +kernel
theorem dX7_insertRow_61 : decode cX7_insertRow 61 = .ok (.iconst 1, 1) := by decide +kernel
theorem dX7_insertRow_62 : decode cX7_insertRow 62 = .ok (.iadd, 1) := by decide +kernel
theorem dX7_insertRow_63 : decode cX7_insertRow 63 = .ok (.putfield 25, 3) := by decide +kernel
theorem dX7_insertRow_66 : decode cX7_insertRow 66 = .ok (.iconst 0, 1) := by decide +kernel
theorem dX7_insertRow_67 : decode cX7_insertRow 67 = .ok (.istore_n 3, 1) := by decide +kernel
theorem dX7_insertRow_68 : decode cX7_insertRow 68 = .ok (.iload_n 3, 1) := by decide +kernel
theorem dX7_insertRow_69 : decode cX7_insertRow 69 = .ok (.aload_n 0, 1) := by decide +kernel
theorem dX7_insertRow_70 : decode cX7_insertRow 70 = .ok (.getfield 9, 3) := by decide +kernel
theorem dX7_insertRow_73 : decode cX7_insertRow 73 = .ok (.if_icmp .ge 16, 3) := by decide +kernel
theorem dX7_insertRow_76 : decode cX7_insertRow 76 = .ok (.aload_n 0, 1) := by decide +kernel
theorem dX7_insertRow_77 : decode cX7_insertRow 77 = .ok (.iload_n 1, 1) := by decide +kernel
theorem dX7_insertRow_78 : decode cX7_insertRow 78 = .ok (.iload_n 3, 1) := by decide +kernel
theorem dX7_insertRow_79 : decode cX7_insertRow 79 = .ok (.iconst 0, 1) := by decide +kernel
theorem dX7_insertRow_80 : decode cX7_insertRow 80 = .ok (.invokevirtual 31, 3) := by decide +kernel
theorem dX7_insertRow_83 : decode cX7_insertRow 83 = .ok (.iinc 3 1, 3) := by decide +kernel
theorem dX7_insertRow_86 : decode cX7_insertRow 86 = .ok (.goto (-18), 3) := by decide +kernel
theorem dX7_insertRow_89 : decode cX7_insertRow 89 = .ok (.return_, 1) := by decide +kernel
theorem dX7_addNamed_0 : decode cX7_addNamed 0 = .ok (.aload_n 0, 1) := by decide +kernel
theorem dX7_addNamed_1 : decode cX7_addNamed 1 = .ok (.getfield 25, 3) := by decide +kernel
theorem dX7_addNamed_4 : decode cX7_addNamed 4 = .ok (.istore_n 2, 1) := by decide +kernel
theorem dX7_addNamed_5 : decode cX7_addNamed 5 = .ok (.aload_n 0, 1) := by decide +kernel
theorem dX7_addNamed_6 : decode cX7_addNamed 6 = .ok (.iload_n 2, 1) := by decide +kernel
theorem dX7_addNamed_7 : decode cX7_addNamed 7 = .ok (.invokevirtual 45, 3) := by decide +kernel
theorem dX7_addNamed_10 : decode cX7_addNamed 10 = .ok (.aload_n 0, 1) := by decide +kernel
theorem dX7_addNamed_11 : decode cX7_addNamed 11 = .ok (.iload_n 2, 1) := by decide +kernel
theorem dX7_addNamed_12 : decode cX7_addNamed 12 = .ok (.aload_n 0, 1) := by decide +kernel
theorem dX7_addNamed_13 : decode cX7_addNamed 13 = .ok (.getfield 9, 3) := by decide +kernel
theorem dX7_addNamed_16 : decode cX7_addNamed 16 = .ok (.iconst 1, 1) := by decide +kernel
theorem dX7_addNamed_17 : decode cX7_addNamed 17 = .ok (.isub, 1) := by decide +kernel
theorem dX7_addNamed_18 : decode cX7_addNamed 18 = .ok (.iload_n 1, 1) := by decide +kernel
theorem dX7_addNamed_19 : decode cX7_addNamed 19 = .ok (.invokevirtual 31, 3) := by decide +kernel
theorem dX7_addNamed_22 : decode cX7_addNamed 22 = .ok (.iload_n 2, 1) := by decide +kernel
theorem dX7_addNamed_23 : decode cX7_addNamed 23 = .ok (.ireturn, 1) := by decide +kernel
theorem dX7_dropFirstRow_0 : decode cX7_dropFirstRow 0 = .ok (.aload_n 0, 1) := by decide +kernel
theorem dX7_dropFirstRow_1 : decode cX7_dropFirstRow 1 = .ok (.getfield 25, 3) := by decide +kernel
theorem dX7_dropFirstRow_4 : decode cX7_dropFirstRow 4 = .ok (.ifCond .le 57, 3) := by decide +kernel
theorem dX7_dropFirstRow_7 : decode cX7_dropFirstRow 7 = .ok (.aload_n 0, 1) := by decide +kernel
theorem dX7_dropFirstRow_8 : decode cX7_dropFirstRow 8 = .ok (.getfield 25, 3) := by decide +kernel
theorem dX7_dropFirstRow_11 : decode cX7_dropFirstRow 11 = .ok (.aload_n 0, 1) := by decide +kernel
theorem dX7_dropFirstRow_12 : decode cX7_dropFirstRow 12 = .ok (.getfield 9, 3) := by decide +kernel
theorem dX7_dropFirstRow_15 : decode cX7_dropFirstRow 15 = .ok (.imul, 1) := by decide +kernel
theorem dX7_dropFirstRow_16 : decode cX7_dropFirstRow 16 = .ok (.aload_n 0, 1) := by decide +kernel
theorem dX7_dropFirstRow_17 : decode cX7_dropFirstRow 17 = .ok (.getfield 21, 3) := by decide +kernel
theorem dX7_dropFirstRow_20 : decode cX7_dropFirstRow 20 = .ok (.arraylength, 1) := by decide +kernel
theorem dX7_dropFirstRow_21 : decode cX7_dropFirstRow 21 = .ok (.if_icmp .gt 40, 3) := by decide +kernel
theorem dX7_dropFirstRow_24 : decode cX7_dropFirstRow 24 = .ok (.aload_n 0, 1) := by decide +kernel
theorem dX7_dropFirstRow_25 : decode cX7_dropFirstRow 25 = .ok (.getfield 21, 3) := by decide +kernel
theorem dX7_dropFirstRow_28 : decode cX7_dropFirstRow 28 = .ok (.aload_n 0, 1) := by decide +kernel
theorem dX7_dropFirstRow_29 : decode cX7_dropFirstRow 29 = .ok (.getfield 9, 3) := by decide +kernel
theorem dX7_dropFirstRow_32 : decode cX7_dropFirstRow 32 = .ok (.aload_n 0, 1) := by decide +kernel
theorem dX7_dropFirstRow_33 : decode cX7_dropFirstRow 33 = .ok (.getfield 21, 3) := by decide +kernel
theorem dX7_dropFirstRow_36 : decode cX7_dropFirstRow 36 = .ok (.iconst 0, 1) := by decide +kernel
theorem dX7_dropFirstRow_37 : decode cX7_dropFirstRow 37 = .ok (.aload_n 0, 1) := by decide +kernel
theorem dX7_dropFirstRow_38 : decode cX7_dropFirstRow 38 = .ok (.getfield 25, 3) := by decide +kernel
theorem dX7_dropFirstRow_41 : decode cX7_dropFirstRow 41 = .ok (.iconst 1, 1) := by decide +kernel
theorem dX7_dropFirstRow_42 : decode cX7_dropFirstRow 42 = .ok (.isub, 1) := by decide +kernel
theorem dX7_dropFirstRow_43 : decode cX7_dropFirstRow 43 = .ok (.aload_n 0, 1) := by decide +kernel
theorem dX7_dropFirstRow_44 : decode cX7_dropFirstRow 44 = .ok (.getfield 9, 3) := by decide +kernel
theorem dX7_dropFirstRow_47 : decode cX7_dropFirstRow 47 = .ok (.imul, 1) := by decide +kernel
theorem dX7_dropFirstRow_48 : decode cX7_dropFirstRow 48 = .ok (.invokestatic 39, 3) := by decide +kernel
theorem dX7_dropFirstRow_51 : decode cX7_dropFirstRow 51 = .ok (.aload_n 0, 1) := by decide +kernel
theorem dX7_dropFirstRow_52 : decode cX7_dropFirstRow 52 = .ok (.dup, 1) := by decide +kernel
theorem dX7_dropFirstRow_53 : decode cX7_dropFirstRow 53 = .ok (.getfield 25, 3) := by decide +kernel
theorem dX7_dropFirstRow_56 : decode cX7_dropFirstRow 56 = .ok (.iconst 1, 1) := by decide +kernel
theorem dX7_dropFirstRow_57 : decode cX7_dropFirstRow 57 = .ok (.isub, 1) := by decide +kernel
theorem dX7_dropFirstRow_58 : decode cX7_dropFirstRow 58 = .ok (.putfield 25, 3) := by decide +kernel
theorem dX7_dropFirstRow_61 : decode cX7_dropFirstRow 61 = .ok (.return_, 1) := by decide +kernel
theorem dX7_rowWith_0 : decode cX7_rowWith 0 = .ok (.iconst 0, 1) := by decide +kernel
theorem dX7_rowWith_1 : decode cX7_rowWith 1 = .ok (.istore_n 3, 1) := by decide +kernel
theorem dX7_rowWith_2 : decode cX7_rowWith 2 = .ok (.iload_n 3, 1) := by decide +kernel
theorem dX7_rowWith_3 : decode cX7_rowWith 3 = .ok (.aload_n 0, 1) := by decide +kernel
theorem dX7_rowWith_4 : decode cX7_rowWith 4 = .ok (.getfield 25, 3) := by decide +kernel
theorem dX7_rowWith_7 : decode cX7_rowWith 7 = .ok (.if_icmp .ge 21, 3) := by decide +kernel
theorem dX7_rowWith_10 : decode cX7_rowWith 10 = .ok (.aload_n 0, 1) := by decide +kernel
theorem dX7_rowWith_11 : decode cX7_rowWith 11 = .ok (.iload_n 3, 1) := by decide +kernel
theorem dX7_rowWith_12 : decode cX7_rowWith 12 = .ok (.iload_n 1, 1) := by decide +kernel
theorem dX7_rowWith_13 : decode cX7_rowWith 13 = .ok (.invokevirtual 28, 3) := by decide +kernel
theorem dX7_rowWith_16 : decode cX7_rowWith 16 = .ok (.iload_n 2, 1) := by decide +kernel
theorem dX7_rowWith_17 : decode cX7_rowWith 17 = .ok (.if_icmp .ne 5, 3) := by decide +kernel
theorem dX7_rowWith_20 : decode cX7_rowWith 20 = .ok (.iload_n 3, 1) := by decide +kernel
theorem dX7_rowWith_21 : decode cX7_rowWith 21 = .ok (.ireturn, 1) := by decide +kernel
theorem dX7_rowWith_22 : decode cX7_rowWith 22 = .ok (.iinc 3 1, 3) := by decide +kernel
theorem dX7_rowWith_25 : decode cX7_rowWith 25 = .ok (.goto (-23), 3) := by decide +kernel
theorem dX7_rowWith_28 : decode cX7_rowWith 28 = .ok (.iconst (-1), 1) := by decide +kernel
theorem dX7_rowWith_29 : decode cX7_rowWith 29 = .ok (.ireturn, 1) := by decide +kernel
theorem dX7_named_0 : decode cX7_named 0 = .ok (.aload_n 0, 1) := by decide +kernel
theorem dX7_named_1 : decode cX7_named 1 = .ok (.aload_n 0, 1) := by decide +kernel
theorem dX7_named_2 : decode cX7_named 2 = .ok (.getfield 9, 3) := by decide +kernel
theorem dX7_named_5 : decode cX7_named 5 = .ok (.iconst 1, 1) := by decide +kernel
theorem dX7_named_6 : decode cX7_named 6 = .ok (.isub, 1) := by decide +kernel
theorem dX7_named_7 : decode cX7_named 7 = .ok (.iload_n 1, 1) := by decide +kernel
theorem dX7_named_8 : decode cX7_named 8 = .ok (.invokevirtual 49, 3) := by decide +kernel
theorem dX7_named_11 : decode cX7_named 11 = .ok (.ireturn, 1) := by decide +kernel
theorem dX7_nameOf_0 : decode cX7_nameOf 0 = .ok (.aload_n 0, 1) := by decide +kernel
theorem dX7_nameOf_1 : decode cX7_nameOf 1 = .ok (.iload_n 1, 1) := by decide +kernel
theorem dX7_nameOf_2 : decode cX7_nameOf 2 = .ok (.aload_n 0, 1) := by decide +kernel
theorem dX7_nameOf_3 : decode cX7_nameOf 3 = .ok (.getfield 9, 3) := by decide +kernel
theorem dX7_nameOf_6 : decode cX7_nameOf 6 = .ok (.iconst 1, 1) := by decide +kernel
theorem dX7_nameOf_7 : decode cX7_nameOf 7 = .ok (.isub, 1) := by decide +kernel
theorem dX7_nameOf_8 : decode cX7_nameOf 8 = .ok (.invokevirtual 28, 3) := by decide +kernel
theorem dX7_nameOf_11 : decode cX7_nameOf 11 = .ok (.ireturn, 1) := by decide +kernel
theorem dX7_copyFrom_0 : decode cX7_copyFrom 0 = .ok (.aload_n 0, 1) := by decide +kernel
theorem dX7_copyFrom_1 : decode cX7_copyFrom 1 = .ok (.aload_n 1, 1) := by decide +kernel
theorem dX7_copyFrom_2 : decode cX7_copyFrom 2 = .ok (.getfield 25, 3) := by decide +kernel
theorem dX7_copyFrom_5 : decode cX7_copyFrom 5 = .ok (.putfield 25, 3) := by decide +kernel
theorem dX7_copyFrom_8 : decode cX7_copyFrom 8 = .ok (.aload_n 1, 1) := by decide +kernel
theorem dX7_copyFrom_9 : decode cX7_copyFrom 9 = .ok (.getfield 21, 3) := by decide +kernel
theorem dX7_copyFrom_12 : decode cX7_copyFrom 12 = .ok (.iconst 0, 1) := by decide +kernel
theorem dX7_copyFrom_13 : decode cX7_copyFrom 13 = .ok (.aload_n 0, 1) := by decide +kernel
theorem dX7_copyFrom_14 : decode cX7_copyFrom 14 = .ok (.getfield 21, 3) := by decide +kernel
theorem dX7_copyFrom_17 : decode cX7_copyFrom 17 = .ok (.iconst 0, 1) := by decide +kernel
theorem dX7_copyFrom_18 : decode cX7_copyFrom 18 = .ok (.aload_n 1, 1) := by decide +kernel
theorem dX7_copyFrom_19 : decode cX7_copyFrom 19 = .ok (.getfield 21, 3) := by decide +kernel
theorem dX7_copyFrom_22 : decode cX7_copyFrom 22 = .ok (.arraylength, 1) := by decide +kernel
theorem dX7_copyFrom_23 : decode cX7_copyFrom 23 = .ok (.aload_n 0, 1) := by decide +kernel
theorem dX7_copyFrom_24 : decode cX7_copyFrom 24 = .ok (.getfield 21, 3) := by decide +kernel
theorem dX7_copyFrom_27 : decode cX7_copyFrom 27 = .ok (.arraylength, 1) := by decide +kernel
theorem dX7_copyFrom_28 : decode cX7_copyFrom 28 = .ok (.invokestatic 52, 3) := by decide +kernel
theorem dX7_copyFrom_31 : decode cX7_copyFrom 31 = .ok (.invokestatic 39, 3) := by decide +kernel
theorem dX7_copyFrom_34 : decode cX7_copyFrom 34 = .ok (.return_, 1) := by decide +kernel
theorem dX8_init_0 : decode cX8_init 0 = .ok (.aload_n 0, 1) := by decide +kernel
theorem dX8_init_1 : decode cX8_init 1 = .ok (.invokespecial 3, 3) := by decide +kernel
theorem dX8_init_4 : decode cX8_init 4 = .ok (.aload_n 0, 1) := by decide +kernel
theorem dX8_init_5 : decode cX8_init 5 = .ok (.bipush 8, 2) := by decide +kernel
theorem dX8_init_7 : decode cX8_init 7 = .ok (.anewarray 9, 3) := by decide +kernel
theorem dX8_init_10 : decode cX8_init 10 = .ok (.putfield 11, 3) := by decide +kernel
theorem dX8_init_13 : decode cX8_init 13 = .ok (.iconst 0, 1) := by decide +kernel
theorem dX8_init_14 : decode cX8_init 14 = .ok (.istore_n 1, 1) := by decide +kernel
theorem dX8_init_15 : decode cX8_init 15 = .ok (.iload_n 1, 1) := by decide +kernel
theorem dX8_init_16 : decode cX8_init 16 = .ok (.aload_n 0, 1) := by decide +kernel
theorem dX8_init_17 : decode cX8_init 17 = .ok (.getfield 11, 3) := by decide +kernel
theorem dX8_init_20 : decode cX8_init 20 = .ok (.arraylength, 1) := by decide +kernel
theorem dX8_init_21 : decode cX8_init 21 = .ok (.if_icmp .ge 22, 3) := by decide +kernel
theorem dX8_init_24 : decode cX8_init 24 = .ok (.aload_n 0, 1) := by decide +kernel
theorem dX8_init_25 : decode cX8_init 25 = .ok (.getfield 11, 3) := by decide +kernel
theorem dX8_init_28 : decode cX8_init 28 = .ok (.iload_n 1, 1) := by decide +kernel
theorem dX8_init_29 : decode cX8_init 29 = .ok (.new 9, 3) := by decide +kernel
theorem dX8_init_32 : decode cX8_init 32 = .ok (.dup, 1) := by decide +kernel
theorem dX8_init_33 : decode cX8_init 33 = .ok (.invokespecial 17, 3) := by decide +kernel
theorem dX8_init_36 : decode cX8_init 36 = .ok (.aastore, 1) := by decide +kernel
theorem dX8_init_37 : decode cX8_init 37 = .ok (.iinc 1 1, 3) := by decide +kernel
theorem dX8_init_40 : decode cX8_init 40 = .ok (.goto (-25), 3) := by decide +kernel
theorem dX8_init_43 : decode cX8_init 43 = .ok (.return_, 1) := by decide +kernel
theorem dX8_keep_0 : decode cX8_keep 0 = .ok (.aload_n 0, 1) := by decide +kernel
theorem dX8_keep_1 : decode cX8_keep 1 = .ok (.getfield 18, 3) := by decide +kernel
theorem dX8_keep_4 : decode cX8_keep 4 = .ok (.bipush 8, 2) := by decide +kernel
theorem dX8_keep_6 : decode cX8_keep 6 = .ok (.if_icmp .ne 26, 3) := by decide +kernel
theorem dX8_keep_9 : decode cX8_keep 9 = .ok (.aload_n 0, 1) := by decide +kernel
theorem dX8_keep_10 : decode cX8_keep 10 = .ok (.aload_n 0, 1) := by decide +kernel
theorem dX8_keep_11 : decode cX8_keep 11 = .ok (.getfield 22, 3) := by decide +kernel
theorem dX8_keep_14 : decode cX8_keep 14 = .ok (.iconst 1, 1) := by decide +kernel
theorem dX8_keep_15 : decode cX8_keep 15 = .ok (.iadd, 1) := by decide +kernel
theorem dX8_keep_16 : decode cX8_keep 16 = .ok (.bipush 8, 2) := by decide +kernel
theorem dX8_keep_18 : decode cX8_keep 18 = .ok (.irem, 1) := by decide +kernel
theorem dX8_keep_19 : decode cX8_keep 19 = .ok (.putfield 22, 3) := by decide +kernel
theorem dX8_keep_22 : decode cX8_keep 22 = .ok (.aload_n 0, 1) := by decide +kernel
theorem dX8_keep_23 : decode cX8_keep 23 = .ok (.dup, 1) := by decide +kernel
theorem dX8_keep_24 : decode cX8_keep 24 = .ok (.getfield 18, 3) := by decide +kernel
theorem dX8_keep_27 : decode cX8_keep 27 = .ok (.iconst 1, 1) := by decide +kernel
theorem dX8_keep_28 : decode cX8_keep 28 = .ok (.isub, 1) := by decide +kernel
theorem dX8_keep_29 : decode cX8_keep 29 = .ok (.putfield 18, 3) := by decide +kernel
theorem dX8_keep_32 : decode cX8_keep 32 = .ok (.aload_n 0, 1) := by decide +kernel
theorem dX8_keep_33 : decode cX8_keep 33 = .ok (.aload_n 0, 1) := by decide +kernel
theorem dX8_keep_34 : decode cX8_keep 34 = .ok (.getfield 18, 3) := by decide +kernel
theorem dX8_keep_37 : decode cX8_keep 37 = .ok (.invokevirtual 25, 3) := by decide +kernel
theorem dX8_keep_40 : decode cX8_keep 40 = .ok (.astore_n 2, 1) := by decide +kernel
theorem dX8_keep_41 : decode cX8_keep 41 = .ok (.aload_n 2, 1) := by decide +kernel
theorem dX8_keep_42 : decode cX8_keep 42 = .ok (.ifnull 18, 3) := by decide +kernel
theorem dX8_keep_45 : decode cX8_keep 45 = .ok (.aload_n 2, 1) := by decide +kernel
theorem dX8_keep_46 : decode cX8_keep 46 = .ok (.aload_n 1, 1) := by decide +kernel
theorem dX8_keep_47 : decode cX8_keep 47 = .ok (.invokevirtual 29, 3) := by decide +kernel
theorem dX8_keep_50 : decode cX8_keep 50 = .ok (.aload_n 0, 1) := by decide +kernel
theorem dX8_keep_51 : decode cX8_keep 51 = .ok (.dup, 1) := by decide +kernel
theorem dX8_keep_52 : decode cX8_keep 52 = .ok (.getfield 18, 3) := by decide +kernel
theorem dX8_keep_55 : decode cX8_keep 55 = .ok (.iconst 1, 1) := by decide +kernel
theorem dX8_keep_56 : decode cX8_keep 56 = .ok (.iadd, 1) := by decide +kernel
theorem dX8_keep_57 : decode cX8_keep 57 = .ok (.putfield 18, 3) := by decide +kernel
theorem dX8_keep_60 : decode cX8_keep 60 = .ok (.return_, 1) := by decide +kernel
theorem dX8_bringBack_0 : decode cX8_bringBack 0 = .ok (.aload_n 0, 1) := by decide +kernel
theorem dX8_bringBack_1 : decode cX8_bringBack 1 = .ok (.aload_n 0, 1) := by decide +kernel
theorem dX8_bringBack_2 : decode cX8_bringBack 2 = .ok (.getfield 18, 3) := by decide +kernel
theorem dX8_bringBack_5 : decode cX8_bringBack 5 = .ok (.iconst 1, 1) := by decide +kernel
theorem dX8_bringBack_6 : decode cX8_bringBack 6 = .ok (.isub, 1) := by decide +kernel
theorem dX8_bringBack_7 : decode cX8_bringBack 7 = .ok (.invokevirtual 25, 3) := by decide +kernel
theorem dX8_bringBack_10 : decode cX8_bringBack 10 = .ok (.astore_n 2, 1) := by decide +kernel
theorem dX8_bringBack_11 : decode cX8_bringBack 11 = .ok (.aload_n 2, 1) := by decide +kernel
theorem dX8_bringBack_12 : decode cX8_bringBack 12 = .ok (.ifnull 18, 3) := by decide +kernel
theorem dX8_bringBack_15 : decode cX8_bringBack 15 = .ok (.aload_n 1, 1) := by decide +kernel
theorem dX8_bringBack_16 : decode cX8_bringBack 16 = .ok (.aload_n 2, 1) := by decide +kernel
theorem dX8_bringBack_17 : decode cX8_bringBack 17 = .ok (.invokevirtual 29, 3) := by decide +kernel
theorem dX8_bringBack_20 : decode cX8_bringBack 20 = .ok (.aload_n 0, 1) := by decide +kernel
theorem dX8_bringBack_21 : decode cX8_bringBack 21 = .ok (.dup, 1) := by decide +kernel
theorem dX8_bringBack_22 : decode cX8_bringBack 22 = .ok (.getfield 18, 3) := by decide +kernel
theorem dX8_bringBack_25 : decode cX8_bringBack 25 = .ok (.iconst 1, 1) := by decide +kernel
theorem dX8_bringBack_26 : decode cX8_bringBack 26 = .ok (.isub, 1) := by decide +kernel
theorem dX8_bringBack_27 : decode cX8_bringBack 27 = .ok (.putfield 18, 3) := by decide +kernel
theorem dX8_bringBack_30 : decode cX8_bringBack 30 = .ok (.return_, 1) := by decide +kernel
theorem dX8_slotAt_0 : decode cX8_slotAt 0 = .ok (.aload_n 0, 1) := by decide +kernel
theorem dX8_slotAt_1 : decode cX8_slotAt 1 = .ok (.getfield 22, 3) := by decide +kernel
theorem dX8_slotAt_4 : decode cX8_slotAt 4 = .ok (.iload_n 1, 1) := by decide +kernel
theorem dX8_slotAt_5 : decode cX8_slotAt 5 = .ok (.iadd, 1) := by decide +kernel
theorem dX8_slotAt_6 : decode cX8_slotAt 6 = .ok (.bipush 8, 2) := by decide +kernel
theorem dX8_slotAt_8 : decode cX8_slotAt 8 = .ok (.irem, 1) := by decide +kernel
theorem dX8_slotAt_9 : decode cX8_slotAt 9 = .ok (.istore_n 2, 1) := by decide +kernel
theorem dX8_slotAt_10 : decode cX8_slotAt 10 = .ok (.iload_n 1, 1) := by decide +kernel
theorem dX8_slotAt_11 : decode cX8_slotAt 11 = .ok (.ifCond .lt 25, 3) := by decide +kernel
theorem dX8_slotAt_14 : decode cX8_slotAt 14 = .ok (.iload_n 2, 1) := by decide +kernel
theorem dX8_slotAt_15 : decode cX8_slotAt 15 = .ok (.ifCond .lt 21, 3) := by decide +kernel
theorem dX8_slotAt_18 : decode cX8_slotAt 18 = .ok (.iload_n 2, 1) := by decide +kernel
theorem dX8_slotAt_19 : decode cX8_slotAt 19 = .ok (.aload_n 0, 1) := by decide +kernel
theorem dX8_slotAt_20 : decode cX8_slotAt 20 = .ok (.getfield 11, 3) := by decide +kernel
theorem dX8_slotAt_23 : decode cX8_slotAt 23 = .ok (.arraylength, 1) := by decide +kernel
theorem dX8_slotAt_24 : decode cX8_slotAt 24 = .ok (.if_icmp .ge 12, 3) := by decide +kernel
theorem dX8_slotAt_27 : decode cX8_slotAt 27 = .ok (.aload_n 0, 1) := by decide +kernel
theorem dX8_slotAt_28 : decode cX8_slotAt 28 = .ok (.getfield 11, 3) := by decide +kernel
theorem dX8_slotAt_31 : decode cX8_slotAt 31 = .ok (.iload_n 2, 1) := by decide +kernel
theorem dX8_slotAt_32 : decode cX8_slotAt 32 = .ok (.aaload, 1) := by decide +kernel
theorem dX8_slotAt_33 : decode cX8_slotAt 33 = .ok (.goto 4, 3) := by decide +kernel
theorem dX8_slotAt_36 : decode cX8_slotAt 36 = .ok (.aconst_null, 1) := by decide +kernel
theorem dX8_slotAt_37 : decode cX8_slotAt 37 = .ok (.areturn, 1) := by decide +kernel
