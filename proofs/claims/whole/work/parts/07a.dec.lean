theorem dd_J0_charAt_5068e_0 : decode mb_J0_charAt_5068e 0 = .ok (.aload_n 0, 1) := by decide +kernel
theorem dd_J0_charAt_5068e_1 : decode mb_J0_charAt_5068e 1 = .ok (.invokevirtual 492, 3) := by decide +kernel
theorem dd_J0_charAt_5068e_4 : decode mb_J0_charAt_5068e 4 = .ok (.ifCond .eq 12, 3) := by decide +kernel
theorem dd_J0_charAt_5068e_7 : decode mb_J0_charAt_5068e 7 = .ok (.aload_n 0, 1) := by decide +kernel
theorem dd_J0_charAt_5068e_8 : decode mb_J0_charAt_5068e 8 = .ok (.getfield 9, 3) := by decide +kernel
theorem dd_J0_charAt_5068e_11 : decode mb_J0_charAt_5068e 11 = .ok (.iload_n 1, 1) := by decide +kernel
theorem dd_J0_charAt_5068e_12 : decode mb_J0_charAt_5068e 12 = .ok (.invokestatic 495, 3) := by decide +kernel
theorem dd_J0_charAt_5068e_15 : decode mb_J0_charAt_5068e 15 = .ok (.ireturn, 1) := by decide +kernel
theorem dd_J0_charAt_5068e_16 : decode mb_J0_charAt_5068e 16 = .ok (.aload_n 0, 1) := by decide +kernel
theorem dd_J0_charAt_5068e_17 : decode mb_J0_charAt_5068e 17 = .ok (.getfield 9, 3) := by decide +kernel
theorem dd_J0_charAt_5068e_20 : decode mb_J0_charAt_5068e 20 = .ok (.iload_n 1, 1) := by decide +kernel
theorem dd_J0_charAt_5068e_21 : decode mb_J0_charAt_5068e 21 = .ok (.invokestatic 498, 3) := by decide +kernel
theorem dd_J0_charAt_5068e_24 : decode mb_J0_charAt_5068e 24 = .ok (.ireturn, 1) := by decide +kernel
theorem dd_J0_checkIndex_df160_0 : decode mb_J0_checkIndex_df160 0 = .ok (.iload_n 0, 1) := by decide +kernel
theorem dd_J0_checkIndex_df160_1 : decode mb_J0_checkIndex_df160 1 = .ok (.iload_n 1, 1) := by decide +kernel
theorem dd_J0_checkIndex_df160_2 : decode mb_J0_checkIndex_df160 2 = .ok (.getstatic 1053, 3) := by decide +kernel
theorem dd_J0_checkIndex_df160_5 : decode mb_J0_checkIndex_df160 5 = .ok (.invokestatic 1059, 3) := by decide +kernel
theorem dd_J0_checkIndex_df160_8 : decode mb_J0_checkIndex_df160 8 = .ok (.pop, 1) := by decide +kernel
theorem dd_J0_checkIndex_df160_9 : decode mb_J0_checkIndex_df160 9 = .ok (.return_, 1) := by decide +kernel
theorem dd_J0_coder_7d493_0 : decode mb_J0_coder_7d493 0 = .ok (.getstatic 38, 3) := by decide +kernel
theorem dd_J0_coder_7d493_3 : decode mb_J0_coder_7d493 3 = .ok (.ifCond .eq 10, 3) := by decide +kernel
theorem dd_J0_coder_7d493_6 : decode mb_J0_coder_7d493 6 = .ok (.aload_n 0, 1) := by decide +kernel
theorem dd_J0_coder_7d493_7 : decode mb_J0_coder_7d493 7 = .ok (.getfield 15, 3) := by decide +kernel
theorem dd_J0_coder_7d493_10 : decode mb_J0_coder_7d493 10 = .ok (.goto 4, 3) := by decide +kernel
theorem dd_J0_coder_7d493_13 : decode mb_J0_coder_7d493 13 = .ok (.iconst 1, 1) := by decide +kernel
theorem dd_J0_coder_7d493_14 : decode mb_J0_coder_7d493 14 = .ok (.ireturn, 1) := by decide +kernel
theorem dd_J0_isLatin1_aae02_0 : decode mb_J0_isLatin1_aae02 0 = .ok (.getstatic 38, 3) := by decide +kernel
theorem dd_J0_isLatin1_aae02_3 : decode mb_J0_isLatin1_aae02 3 = .ok (.ifCond .eq 14, 3) := by decide +kernel
theorem dd_J0_isLatin1_aae02_6 : decode mb_J0_isLatin1_aae02 6 = .ok (.aload_n 0, 1) := by decide +kernel
theorem dd_J0_isLatin1_aae02_7 : decode mb_J0_isLatin1_aae02 7 = .ok (.getfield 15, 3) := by decide +kernel
theorem dd_J0_isLatin1_aae02_10 : decode mb_J0_isLatin1_aae02 10 = .ok (.ifCond .ne 7, 3) := by decide +kernel
theorem dd_J0_isLatin1_aae02_13 : decode mb_J0_isLatin1_aae02 13 = .ok (.iconst 1, 1) := by decide +kernel
theorem dd_J0_isLatin1_aae02_14 : decode mb_J0_isLatin1_aae02 14 = .ok (.goto 4, 3) := by decide +kernel
theorem dd_J0_isLatin1_aae02_17 : decode mb_J0_isLatin1_aae02 17 = .ok (.iconst 0, 1) := by decide +kernel
theorem dd_J0_isLatin1_aae02_18 : decode mb_J0_isLatin1_aae02 18 = .ok (.ireturn, 1) := by decide +kernel
theorem dd_J0_length_8abf5_0 : decode mb_J0_length_8abf5 0 = .ok (.aload_n 0, 1) := by decide +kernel
theorem dd_J0_length_8abf5_1 : decode mb_J0_length_8abf5 1 = .ok (.getfield 9, 3) := by decide +kernel
theorem dd_J0_length_8abf5_4 : decode mb_J0_length_8abf5 4 = .ok (.arraylength, 1) := by decide +kernel
theorem dd_J0_length_8abf5_5 : decode mb_J0_length_8abf5 5 = .ok (.aload_n 0, 1) := by decide +kernel
theorem dd_J0_length_8abf5_6 : decode mb_J0_length_8abf5 6 = .ok (.invokevirtual 335, 3) := by decide +kernel
theorem dd_J0_length_8abf5_9 : decode mb_J0_length_8abf5 9 = .ok (.ishr, 1) := by decide +kernel
theorem dd_J0_length_8abf5_10 : decode mb_J0_length_8abf5 10 = .ok (.ireturn, 1) := by decide +kernel
theorem dd_J1_charAt_3b067_0 : decode mb_J1_charAt_3b067 0 = .ok (.iload_n 1, 1) := by decide +kernel
theorem dd_J1_charAt_3b067_1 : decode mb_J1_charAt_3b067 1 = .ok (.aload_n 0, 1) := by decide +kernel
theorem dd_J1_charAt_3b067_2 : decode mb_J1_charAt_3b067 2 = .ok (.arraylength, 1) := by decide +kernel
theorem dd_J1_charAt_3b067_3 : decode mb_J1_charAt_3b067 3 = .ok (.invokestatic 9, 3) := by decide +kernel
theorem dd_J1_charAt_3b067_6 : decode mb_J1_charAt_3b067 6 = .ok (.aload_n 0, 1) := by decide +kernel
theorem dd_J1_charAt_3b067_7 : decode mb_J1_charAt_3b067 7 = .ok (.iload_n 1, 1) := by decide +kernel
theorem dd_J1_charAt_3b067_8 : decode mb_J1_charAt_3b067 8 = .ok (.baload, 1) := by decide +kernel
theorem dd_J1_charAt_3b067_9 : decode mb_J1_charAt_3b067 9 = .ok (.sipush 255, 3) := by decide +kernel
theorem dd_J1_charAt_3b067_12 : decode mb_J1_charAt_3b067 12 = .ok (.iand, 1) := by decide +kernel
theorem dd_J1_charAt_3b067_13 : decode mb_J1_charAt_3b067 13 = .ok (.i2c, 1) := by decide +kernel
theorem dd_J1_charAt_3b067_14 : decode mb_J1_charAt_3b067 14 = .ok (.ireturn, 1) := by decide +kernel
theorem dd_J2_charAt_3b067_0 : decode mb_J2_charAt_3b067 0 = .ok (.iload_n 1, 1) := by decide +kernel
theorem dd_J2_charAt_3b067_1 : decode mb_J2_charAt_3b067 1 = .ok (.aload_n 0, 1) := by decide +kernel
theorem dd_J2_charAt_3b067_2 : decode mb_J2_charAt_3b067 2 = .ok (.invokestatic 67, 3) := by decide +kernel
theorem dd_J2_charAt_3b067_5 : decode mb_J2_charAt_3b067 5 = .ok (.aload_n 0, 1) := by decide +kernel
theorem dd_J2_charAt_3b067_6 : decode mb_J2_charAt_3b067 6 = .ok (.iload_n 1, 1) := by decide +kernel
theorem dd_J2_charAt_3b067_7 : decode mb_J2_charAt_3b067 7 = .ok (.invokestatic 71, 3) := by decide +kernel
theorem dd_J2_charAt_3b067_10 : decode mb_J2_charAt_3b067 10 = .ok (.ireturn, 1) := by decide +kernel
theorem dd_J2_checkIndex_2214a_0 : decode mb_J2_checkIndex_2214a 0 = .ok (.iload_n 0, 1) := by decide +kernel
theorem dd_J2_checkIndex_2214a_1 : decode mb_J2_checkIndex_2214a 1 = .ok (.aload_n 1, 1) := by decide +kernel
theorem dd_J2_checkIndex_2214a_2 : decode mb_J2_checkIndex_2214a 2 = .ok (.invokestatic 48, 3) := by decide +kernel
theorem dd_J2_checkIndex_2214a_5 : decode mb_J2_checkIndex_2214a 5 = .ok (.invokestatic 414, 3) := by decide +kernel
theorem dd_J2_checkIndex_2214a_8 : decode mb_J2_checkIndex_2214a 8 = .ok (.return_, 1) := by decide +kernel
theorem dd_J2_getChar_3b067_0 : decode mb_J2_getChar_3b067 0 = .ok (.getstatic 44, 3) := by decide +kernel
theorem dd_J2_getChar_3b067_3 : decode mb_J2_getChar_3b067 3 = .ok (.ifCond .ne 25, 3) := by decide +kernel
theorem dd_J2_getChar_3b067_6 : decode mb_J2_getChar_3b067 6 = .ok (.iload_n 1, 1) := by decide +kernel
theorem dd_J2_getChar_3b067_7 : decode mb_J2_getChar_3b067 7 = .ok (.ifCond .lt 11, 3) := by decide +kernel
theorem dd_J2_getChar_3b067_10 : decode mb_J2_getChar_3b067 10 = .ok (.iload_n 1, 1) := by decide +kernel
theorem dd_J2_getChar_3b067_11 : decode mb_J2_getChar_3b067 11 = .ok (.aload_n 0, 1) := by decide +kernel
theorem dd_J2_getChar_3b067_12 : decode mb_J2_getChar_3b067 12 = .ok (.invokestatic 48, 3) := by decide +kernel
theorem dd_J2_getChar_3b067_15 : decode mb_J2_getChar_3b067 15 = .ok (.if_icmp .lt 13, 3) := by decide +kernel
theorem dd_J2_getChar_3b067_18 : decode mb_J2_getChar_3b067 18 = .ok (.new 52, 3) := by decide +kernel
theorem dd_J2_getChar_3b067_21 : decode mb_J2_getChar_3b067 21 = .ok (.dup, 1) := by decide +kernel
theorem dd_J2_getChar_3b067_22 : decode mb_J2_getChar_3b067 22 = .ok (.ldc 54, 2) := by decide +kernel
theorem dd_J2_getChar_3b067_24 : decode mb_J2_getChar_3b067 24 = .ok (.invokespecial 56, 3) := by decide +kernel
theorem dd_J2_getChar_3b067_27 : decode mb_J2_getChar_3b067 27 = .ok (.athrow, 1) := by decide +kernel
theorem dd_J2_getChar_3b067_28 : decode mb_J2_getChar_3b067 28 = .ok (.iload_n 1, 1) := by decide +kernel
theorem dd_J2_getChar_3b067_29 : decode mb_J2_getChar_3b067 29 = .ok (.iconst 1, 1) := by decide +kernel
theorem dd_J2_getChar_3b067_30 : decode mb_J2_getChar_3b067 30 = .ok (.ishl, 1) := by decide +kernel
theorem dd_J2_getChar_3b067_31 : decode mb_J2_getChar_3b067 31 = .ok (.istore_n 1, 1) := by decide +kernel
theorem dd_J2_getChar_3b067_32 : decode mb_J2_getChar_3b067 32 = .ok (.aload_n 0, 1) := by decide +kernel
theorem dd_J2_getChar_3b067_33 : decode mb_J2_getChar_3b067 33 = .ok (.iload_n 1, 1) := by decide +kernel
theorem dd_J2_getChar_3b067_34 : decode mb_J2_getChar_3b067 34 = .ok (.iinc 1 1, 3) := by decide +kernel
theorem dd_J2_getChar_3b067_37 : decode mb_J2_getChar_3b067 37 = .ok (.baload, 1) := by decide +kernel
theorem dd_J2_getChar_3b067_38 : decode mb_J2_getChar_3b067 38 = .ok (.sipush 255, 3) := by decide +kernel
theorem dd_J2_getChar_3b067_41 : decode mb_J2_getChar_3b067 41 = .ok (.iand, 1) := by decide +kernel
theorem dd_J2_getChar_3b067_42 : decode mb_J2_getChar_3b067 42 = .ok (.getstatic 59, 3) := by decide +kernel
theorem dd_J2_getChar_3b067_45 : decode mb_J2_getChar_3b067 45 = .ok (.ishl, 1) := by decide +kernel
theorem dd_J2_getChar_3b067_46 : decode mb_J2_getChar_3b067 46 = .ok (.aload_n 0, 1) := by decide +kernel
theorem dd_J2_getChar_3b067_47 : decode mb_J2_getChar_3b067 47 = .ok (.iload_n 1, 1) := by decide +kernel
theorem dd_J2_getChar_3b067_48 : decode mb_J2_getChar_3b067 48 = .ok (.baload, 1) := by decide +kernel
theorem dd_J2_getChar_3b067_49 : decode mb_J2_getChar_3b067 49 = .ok (.sipush 255, 3) := by decide +kernel
theorem dd_J2_getChar_3b067_52 : decode mb_J2_getChar_3b067 52 = .ok (.iand, 1) := by decide +kernel
theorem dd_J2_getChar_3b067_53 : decode mb_J2_getChar_3b067 53 = .ok (.getstatic 63, 3) := by decide +kernel
theorem dd_J2_getChar_3b067_56 : decode mb_J2_getChar_3b067 56 = .ok (.ishl, 1) := by decide +kernel
theorem dd_J2_getChar_3b067_57 : decode mb_J2_getChar_3b067 57 = .ok (.ior, 1) := by decide +kernel
theorem dd_J2_getChar_3b067_58 : decode mb_J2_getChar_3b067 58 = .ok (.i2c, 1) := by decide +kernel
theorem dd_J2_getChar_3b067_59 : decode mb_J2_getChar_3b067 59 = .ok (.ireturn, 1) := by decide +kernel
theorem dd_J2_length_9d52b_0 : decode mb_J2_length_9d52b 0 = .ok (.aload_n 0, 1) := by decide +kernel
theorem dd_J2_length_9d52b_1 : decode mb_J2_length_9d52b 1 = .ok (.arraylength, 1) := by decide +kernel
theorem dd_J2_length_9d52b_2 : decode mb_J2_length_9d52b 2 = .ok (.iconst 1, 1) := by decide +kernel
theorem dd_J2_length_9d52b_3 : decode mb_J2_length_9d52b 3 = .ok (.ishr, 1) := by decide +kernel
theorem dd_J2_length_9d52b_4 : decode mb_J2_length_9d52b 4 = .ok (.ireturn, 1) := by decide +kernel
theorem dd_J3_checkIndex_8e157_0 : decode mb_J3_checkIndex_8e157 0 = .ok (.iload_n 0, 1) := by decide +kernel
theorem dd_J3_checkIndex_8e157_1 : decode mb_J3_checkIndex_8e157 1 = .ok (.ifCond .lt 8, 3) := by decide +kernel
theorem dd_J3_checkIndex_8e157_4 : decode mb_J3_checkIndex_8e157 4 = .ok (.iload_n 0, 1) := by decide +kernel
theorem dd_J3_checkIndex_8e157_5 : decode mb_J3_checkIndex_8e157 5 = .ok (.iload_n 1, 1) := by decide +kernel
theorem dd_J3_checkIndex_8e157_6 : decode mb_J3_checkIndex_8e157 6 = .ok (.if_icmp .lt 10, 3) := by decide +kernel
theorem dd_J3_checkIndex_8e157_9 : decode mb_J3_checkIndex_8e157 9 = .ok (.aload_n 2, 1) := by decide +kernel
theorem dd_J3_checkIndex_8e157_10 : decode mb_J3_checkIndex_8e157 10 = .ok (.iload_n 0, 1) := by decide +kernel
theorem dd_J3_checkIndex_8e157_11 : decode mb_J3_checkIndex_8e157 11 = .ok (.iload_n 1, 1) := by decide +kernel
theorem dd_J3_checkIndex_8e157_12 : decode mb_J3_checkIndex_8e157 12 = .ok (.invokestatic 95, 3) := by decide +kernel
theorem dd_J3_checkIndex_8e157_15 : decode mb_J3_checkIndex_8e157 15 = .ok (.athrow, 1) := by decide +kernel
theorem dd_J3_checkIndex_8e157_16 : decode mb_J3_checkIndex_8e157 16 = .ok (.iload_n 0, 1) := by decide +kernel
theorem dd_J3_checkIndex_8e157_17 : decode mb_J3_checkIndex_8e157 17 = .ok (.ireturn, 1) := by decide +kernel
theorem dd_J6_bitCount_0f7a4_0 : decode mb_J6_bitCount_0f7a4 0 = .ok (.iload_n 0, 1) := by decide +kernel
theorem dd_J6_bitCount_0f7a4_1 : decode mb_J6_bitCount_0f7a4 1 = .ok (.iload_n 0, 1) := by decide +kernel
theorem dd_J6_bitCount_0f7a4_2 : decode mb_J6_bitCount_0f7a4 2 = .ok (.iconst 1, 1) := by decide +kernel
theorem dd_J6_bitCount_0f7a4_3 : decode mb_J6_bitCount_0f7a4 3 = .ok (.iushr, 1) := by decide +kernel
theorem dd_J6_bitCount_0f7a4_4 : decode mb_J6_bitCount_0f7a4 4 = .ok (.ldc_w 265, 3) := by decide +kernel
theorem dd_J6_bitCount_0f7a4_7 : decode mb_J6_bitCount_0f7a4 7 = .ok (.iand, 1) := by decide +kernel
theorem dd_J6_bitCount_0f7a4_8 : decode mb_J6_bitCount_0f7a4 8 = .ok (.isub, 1) := by decide +kernel
theorem dd_J6_bitCount_0f7a4_9 : decode mb_J6_bitCount_0f7a4 9 = .ok (.istore_n 0, 1) := by decide +kernel
theorem dd_J6_bitCount_0f7a4_10 : decode mb_J6_bitCount_0f7a4 10 = .ok (.iload_n 0, 1) := by decide +kernel
theorem dd_J6_bitCount_0f7a4_11 : decode mb_J6_bitCount_0f7a4 11 = .ok (.ldc_w 266, 3) := by decide +kernel
theorem dd_J6_bitCount_0f7a4_14 : decode mb_J6_bitCount_0f7a4 14 = .ok (.iand, 1) := by decide +kernel
theorem dd_J6_bitCount_0f7a4_15 : decode mb_J6_bitCount_0f7a4 15 = .ok (.iload_n 0, 1) := by decide +kernel
theorem dd_J6_bitCount_0f7a4_16 : decode mb_J6_bitCount_0f7a4 16 = .ok (.iconst 2, 1) := by decide +kernel
theorem dd_J6_bitCount_0f7a4_17 : decode mb_J6_bitCount_0f7a4 17 = .ok (.iushr, 1) := by decide +kernel
theorem dd_J6_bitCount_0f7a4_18 : decode mb_J6_bitCount_0f7a4 18 = .ok (.ldc_w 266, 3) := by decide +kernel
theorem dd_J6_bitCount_0f7a4_21 : decode mb_J6_bitCount_0f7a4 21 = .ok (.iand, 1) := by decide +kernel
theorem dd_J6_bitCount_0f7a4_22 : decode mb_J6_bitCount_0f7a4 22 = .ok (.iadd, 1) := by decide +kernel
theorem dd_J6_bitCount_0f7a4_23 : decode mb_J6_bitCount_0f7a4 23 = .ok (.istore_n 0, 1) := by decide +kernel
theorem dd_J6_bitCount_0f7a4_24 : decode mb_J6_bitCount_0f7a4 24 = .ok (.iload_n 0, 1) := by decide +kernel
theorem dd_J6_bitCount_0f7a4_25 : decode mb_J6_bitCount_0f7a4 25 = .ok (.iload_n 0, 1) := by decide +kernel
theorem dd_J6_bitCount_0f7a4_26 : decode mb_J6_bitCount_0f7a4 26 = .ok (.iconst 4, 1) := by decide +kernel
theorem dd_J6_bitCount_0f7a4_27 : decode mb_J6_bitCount_0f7a4 27 = .ok (.iushr, 1) := by decide +kernel
theorem dd_J6_bitCount_0f7a4_28 : decode mb_J6_bitCount_0f7a4 28 = .ok (.iadd, 1) := by decide +kernel
theorem dd_J6_bitCount_0f7a4_29 : decode mb_J6_bitCount_0f7a4 29 = .ok (.ldc_w 267, 3) := by decide +kernel
theorem dd_J6_bitCount_0f7a4_32 : decode mb_J6_bitCount_0f7a4 32 = .ok (.iand, 1) := by decide +kernel
theorem dd_J6_bitCount_0f7a4_33 : decode mb_J6_bitCount_0f7a4 33 = .ok (.istore_n 0, 1) := by decide +kernel
theorem dd_J6_bitCount_0f7a4_34 : decode mb_J6_bitCount_0f7a4 34 = .ok (.iload_n 0, 1) := by decide +kernel
theorem dd_J6_bitCount_0f7a4_35 : decode mb_J6_bitCount_0f7a4 35 = .ok (.iload_n 0, 1) := by decide +kernel
theorem dd_J6_bitCount_0f7a4_36 : decode mb_J6_bitCount_0f7a4 36 = .ok (.bipush 8, 2) := by decide +kernel
theorem dd_J6_bitCount_0f7a4_38 : decode mb_J6_bitCount_0f7a4 38 = .ok (.iushr, 1) := by decide +kernel
theorem dd_J6_bitCount_0f7a4_39 : decode mb_J6_bitCount_0f7a4 39 = .ok (.iadd, 1) := by decide +kernel
theorem dd_J6_bitCount_0f7a4_40 : decode mb_J6_bitCount_0f7a4 40 = .ok (.istore_n 0, 1) := by decide +kernel
theorem dd_J6_bitCount_0f7a4_41 : decode mb_J6_bitCount_0f7a4 41 = .ok (.iload_n 0, 1) := by decide +kernel
theorem dd_J6_bitCount_0f7a4_42 : decode mb_J6_bitCount_0f7a4 42 = .ok (.iload_n 0, 1) := by decide +kernel
theorem dd_J6_bitCount_0f7a4_43 : decode mb_J6_bitCount_0f7a4 43 = .ok (.bipush 16, 2) := by decide +kernel
theorem dd_J6_bitCount_0f7a4_45 : decode mb_J6_bitCount_0f7a4 45 = .ok (.iushr, 1) := by decide +kernel
theorem dd_J6_bitCount_0f7a4_46 : decode mb_J6_bitCount_0f7a4 46 = .ok (.iadd, 1) := by decide +kernel
theorem dd_J6_bitCount_0f7a4_47 : decode mb_J6_bitCount_0f7a4 47 = .ok (.istore_n 0, 1) := by decide +kernel
theorem dd_J6_bitCount_0f7a4_48 : decode mb_J6_bitCount_0f7a4 48 = .ok (.iload_n 0, 1) := by decide +kernel
theorem dd_J6_bitCount_0f7a4_49 : decode mb_J6_bitCount_0f7a4 49 = .ok (.bipush 63, 2) := by decide +kernel
theorem dd_J6_bitCount_0f7a4_51 : decode mb_J6_bitCount_0f7a4 51 = .ok (.iand, 1) := by decide +kernel
theorem dd_J6_bitCount_0f7a4_52 : decode mb_J6_bitCount_0f7a4 52 = .ok (.ireturn, 1) := by decide +kernel
theorem dd_J7_fill_53178_0 : decode mb_J7_fill_53178 0 = .ok (.iconst 0, 1) := by decide +kernel
theorem dd_J7_fill_53178_1 : decode mb_J7_fill_53178 1 = .ok (.istore_n 2, 1) := by decide +kernel
theorem dd_J7_fill_53178_2 : decode mb_J7_fill_53178 2 = .ok (.aload_n 0, 1) := by decide +kernel
theorem dd_J7_fill_53178_3 : decode mb_J7_fill_53178 3 = .ok (.arraylength, 1) := by decide +kernel
theorem dd_J7_fill_53178_4 : decode mb_J7_fill_53178 4 = .ok (.istore_n 3, 1) := by decide +kernel
theorem dd_J7_fill_53178_5 : decode mb_J7_fill_53178 5 = .ok (.iload_n 2, 1) := by decide +kernel
theorem dd_J7_fill_53178_6 : decode mb_J7_fill_53178 6 = .ok (.iload_n 3, 1) := by decide +kernel
theorem dd_J7_fill_53178_7 : decode mb_J7_fill_53178 7 = .ok (.if_icmp .ge 13, 3) := by decide +kernel
theorem dd_J7_fill_53178_10 : decode mb_J7_fill_53178 10 = .ok (.aload_n 0, 1) := by decide +kernel
theorem dd_J7_fill_53178_11 : decode mb_J7_fill_53178 11 = .ok (.iload_n 2, 1) := by decide +kernel
theorem dd_J7_fill_53178_12 : decode mb_J7_fill_53178 12 = .ok (.iload_n 1, 1) := by decide +kernel
theorem dd_J7_fill_53178_13 : decode mb_J7_fill_53178 13 = .ok (.iastore, 1) := by decide +kernel
theorem dd_J7_fill_53178_14 : decode mb_J7_fill_53178 14 = .ok (.iinc 2 1, 3) := by decide +kernel
theorem dd_J7_fill_53178_17 : decode mb_J7_fill_53178 17 = .ok (.goto (-12), 3) := by decide +kernel
theorem dd_J7_fill_53178_20 : decode mb_J7_fill_53178 20 = .ok (.return_, 1) := by decide +kernel
theorem dd_J7_fill_d0a16_0 : decode mb_J7_fill_d0a16 0 = .ok (.iconst 0, 1) := by decide +kernel
theorem dd_J7_fill_d0a16_1 : decode mb_J7_fill_d0a16 1 = .ok (.istore_n 3, 1) := by decide +kernel
theorem dd_J7_fill_d0a16_2 : decode mb_J7_fill_d0a16 2 = .ok (.aload_n 0, 1) := by decide +kernel
theorem dd_J7_fill_d0a16_3 : decode mb_J7_fill_d0a16 3 = .ok (.arraylength, 1) := by decide +kernel
theorem dd_J7_fill_d0a16_4 : decode mb_J7_fill_d0a16 4 = .ok (.istore 4, 2) := by decide +kernel
theorem dd_J7_fill_d0a16_6 : decode mb_J7_fill_d0a16 6 = .ok (.iload_n 3, 1) := by decide +kernel
theorem dd_J7_fill_d0a16_7 : decode mb_J7_fill_d0a16 7 = .ok (.iload 4, 2) := by decide +kernel
theorem dd_J7_fill_d0a16_9 : decode mb_J7_fill_d0a16 9 = .ok (.if_icmp .ge 13, 3) := by decide +kernel
theorem dd_J7_fill_d0a16_12 : decode mb_J7_fill_d0a16 12 = .ok (.aload_n 0, 1) := by decide +kernel
theorem dd_J7_fill_d0a16_13 : decode mb_J7_fill_d0a16 13 = .ok (.iload_n 3, 1) := by decide +kernel
theorem dd_J7_fill_d0a16_14 : decode mb_J7_fill_d0a16 14 = .ok (.lload_n 1, 1) := by decide +kernel
theorem dd_J7_fill_d0a16_15 : decode mb_J7_fill_d0a16 15 = .ok (.lastore, 1) := by decide +kernel
theorem dd_J7_fill_d0a16_16 : decode mb_J7_fill_d0a16 16 = .ok (.iinc 3 1, 3) := by decide +kernel
theorem dd_J7_fill_d0a16_19 : decode mb_J7_fill_d0a16 19 = .ok (.goto (-13), 3) := by decide +kernel
theorem dd_J7_fill_d0a16_22 : decode mb_J7_fill_d0a16 22 = .ok (.return_, 1) := by decide +kernel
theorem dd_J9_max_7cf53_0 : decode mb_J9_max_7cf53 0 = .ok (.iload_n 0, 1) := by decide +kernel
theorem dd_J9_max_7cf53_1 : decode mb_J9_max_7cf53 1 = .ok (.iload_n 1, 1) := by decide +kernel
theorem dd_J9_max_7cf53_2 : decode mb_J9_max_7cf53 2 = .ok (.if_icmp .lt 7, 3) := by decide +kernel
theorem dd_J9_max_7cf53_5 : decode mb_J9_max_7cf53 5 = .ok (.iload_n 0, 1) := by decide +kernel
theorem dd_J9_max_7cf53_6 : decode mb_J9_max_7cf53 6 = .ok (.goto 4, 3) := by decide +kernel
theorem dd_J9_max_7cf53_9 : decode mb_J9_max_7cf53 9 = .ok (.iload_n 1, 1) := by decide +kernel
theorem dd_J9_max_7cf53_10 : decode mb_J9_max_7cf53 10 = .ok (.ireturn, 1) := by decide +kernel
theorem dd_J9_min_7cf53_0 : decode mb_J9_min_7cf53 0 = .ok (.iload_n 0, 1) := by decide +kernel
theorem dd_J9_min_7cf53_1 : decode mb_J9_min_7cf53 1 = .ok (.iload_n 1, 1) := by decide +kernel
theorem dd_J9_min_7cf53_2 : decode mb_J9_min_7cf53 2 = .ok (.if_icmp .gt 7, 3) := by decide +kernel
theorem dd_J9_min_7cf53_5 : decode mb_J9_min_7cf53 5 = .ok (.iload_n 0, 1) := by decide +kernel
theorem dd_J9_min_7cf53_6 : decode mb_J9_min_7cf53 6 = .ok (.goto 4, 3) := by decide +kernel
theorem dd_J9_min_7cf53_9 : decode mb_J9_min_7cf53 9 = .ok (.iload_n 1, 1) := by decide +kernel
theorem dd_J9_min_7cf53_10 : decode mb_J9_min_7cf53 10 = .ok (.ireturn, 1) := by decide +kernel
theorem dd_L_law_0 : decode code 0 = .ok (.new 7, 3) := by decide +kernel
theorem dd_L_law_3 : decode code 3 = .ok (.dup, 1) := by decide +kernel
theorem dd_L_law_4 : decode code 4 = .ok (.invokespecial 9, 3) := by decide +kernel
theorem dd_L_law_7 : decode code 7 = .ok (.astore_n 1, 1) := by decide +kernel
theorem dd_L_law_8 : decode code 8 = .ok (.new 10, 3) := by decide +kernel
theorem dd_L_law_11 : decode code 11 = .ok (.dup, 1) := by decide +kernel
theorem dd_L_law_12 : decode code 12 = .ok (.invokespecial 12, 3) := by decide +kernel
theorem dd_L_law_15 : decode code 15 = .ok (.astore_n 2, 1) := by decide +kernel
theorem dd_L_law_16 : decode code 16 = .ok (.iconst 0, 1) := by decide +kernel
theorem dd_L_law_17 : decode code 17 = .ok (.istore_n 3, 1) := by decide +kernel
theorem dd_L_law_18 : decode code 18 = .ok (.iload_n 3, 1) := by decide +kernel
theorem dd_L_law_19 : decode code 19 = .ok (.aload_n 0, 1) := by decide +kernel
theorem dd_L_law_20 : decode code 20 = .ok (.arraylength, 1) := by decide +kernel
theorem dd_L_law_21 : decode code 21 = .ok (.bipush 6, 2) := by decide +kernel
theorem dd_L_law_23 : decode code 23 = .ok (.isub, 1) := by decide +kernel
theorem dd_L_law_24 : decode code 24 = .ok (.if_icmp .gt 1713, 3) := by decide +kernel
theorem dd_L_law_27 : decode code 27 = .ok (.aload_n 0, 1) := by decide +kernel
theorem dd_L_law_28 : decode code 28 = .ok (.iload_n 3, 1) := by decide +kernel
theorem dd_L_law_29 : decode code 29 = .ok (.iaload, 1) := by decide +kernel
theorem dd_L_law_30 : decode code 30 = .ok (.bipush 63, 2) := by decide +kernel
theorem dd_L_law_32 : decode code 32 = .ok (.iand, 1) := by decide +kernel
theorem dd_L_law_33 : decode code 33 = .ok (.tableswitch 1698 0 47 #[207, 250, 323, 386, 420, 443, 476, 509, 552, 595, 628, 661, 694, 727, 760, 773, 786, 819, 878, 911, 944, 997, 1030, 1063, 1096, 1129, 1162, 1175, 1198, 1221, 1254, 1277, 1300, 1313, 1336, 1359, 1382, 1435, 1468, 1481, 1494, 1527, 1560, 1593, 1616, 1649, 1662, 1675], 207) := by decide +kernel
theorem dd_L_law_240 : decode code 240 = .ok (.aload_n 1, 1) := by decide +kernel
theorem dd_L_law_241 : decode code 241 = .ok (.aload_n 0, 1) := by decide +kernel
theorem dd_L_law_242 : decode code 242 = .ok (.iload_n 3, 1) := by decide +kernel
theorem dd_L_law_243 : decode code 243 = .ok (.iconst 1, 1) := by decide +kernel
theorem dd_L_law_244 : decode code 244 = .ok (.iadd, 1) := by decide +kernel
theorem dd_L_law_245 : decode code 245 = .ok (.iaload, 1) := by decide +kernel
theorem dd_L_law_246 : decode code 246 = .ok (.aload_n 0, 1) := by decide +kernel
theorem dd_L_law_247 : decode code 247 = .ok (.iload_n 3, 1) := by decide +kernel
theorem dd_L_law_248 : decode code 248 = .ok (.iconst 2, 1) := by decide +kernel
theorem dd_L_law_249 : decode code 249 = .ok (.iadd, 1) := by decide +kernel
theorem dd_L_law_250 : decode code 250 = .ok (.iaload, 1) := by decide +kernel
theorem dd_L_law_251 : decode code 251 = .ok (.aload_n 0, 1) := by decide +kernel
theorem dd_L_law_252 : decode code 252 = .ok (.iload_n 3, 1) := by decide +kernel
theorem dd_L_law_253 : decode code 253 = .ok (.iconst 3, 1) := by decide +kernel
theorem dd_L_law_254 : decode code 254 = .ok (.iadd, 1) := by decide +kernel
theorem dd_L_law_255 : decode code 255 = .ok (.iaload, 1) := by decide +kernel
theorem dd_L_law_256 : decode code 256 = .ok (.invokevirtual 13, 3) := by decide +kernel
theorem dd_L_law_259 : decode code 259 = .ok (.aload_n 2, 1) := by decide +kernel
theorem dd_L_law_260 : decode code 260 = .ok (.aload_n 0, 1) := by decide +kernel
theorem dd_L_law_261 : decode code 261 = .ok (.iload_n 3, 1) := by decide +kernel
theorem dd_L_law_262 : decode code 262 = .ok (.iconst 1, 1) := by decide +kernel
theorem dd_L_law_263 : decode code 263 = .ok (.iadd, 1) := by decide +kernel
theorem dd_L_law_264 : decode code 264 = .ok (.iaload, 1) := by decide +kernel
theorem dd_L_law_265 : decode code 265 = .ok (.aload_n 0, 1) := by decide +kernel
theorem dd_L_law_266 : decode code 266 = .ok (.iload_n 3, 1) := by decide +kernel
theorem dd_L_law_267 : decode code 267 = .ok (.iconst 2, 1) := by decide +kernel
theorem dd_L_law_268 : decode code 268 = .ok (.iadd, 1) := by decide +kernel
theorem dd_L_law_269 : decode code 269 = .ok (.iaload, 1) := by decide +kernel
theorem dd_L_law_270 : decode code 270 = .ok (.aload_n 0, 1) := by decide +kernel
theorem dd_L_law_271 : decode code 271 = .ok (.iload_n 3, 1) := by decide +kernel
theorem dd_L_law_272 : decode code 272 = .ok (.iconst 3, 1) := by decide +kernel
theorem dd_L_law_273 : decode code 273 = .ok (.iadd, 1) := by decide +kernel
theorem dd_L_law_274 : decode code 274 = .ok (.iaload, 1) := by decide +kernel
theorem dd_L_law_275 : decode code 275 = .ok (.invokevirtual 17, 3) := by decide +kernel
theorem dd_L_law_278 : decode code 278 = .ok (.if_icmp .eq 1453, 3) := by decide +kernel
theorem dd_L_law_281 : decode code 281 = .ok (.iconst 0, 1) := by decide +kernel
theorem dd_L_law_282 : decode code 282 = .ok (.ireturn, 1) := by decide +kernel
theorem dd_L_law_283 : decode code 283 = .ok (.aload_n 1, 1) := by decide +kernel
theorem dd_L_law_284 : decode code 284 = .ok (.aload_n 0, 1) := by decide +kernel
theorem dd_L_law_285 : decode code 285 = .ok (.iload_n 3, 1) := by decide +kernel
theorem dd_L_law_286 : decode code 286 = .ok (.iconst 1, 1) := by decide +kernel
theorem dd_L_law_287 : decode code 287 = .ok (.iadd, 1) := by decide +kernel
theorem dd_L_law_288 : decode code 288 = .ok (.iaload, 1) := by decide +kernel
theorem dd_L_law_289 : decode code 289 = .ok (.aload_n 0, 1) := by decide +kernel
theorem dd_L_law_290 : decode code 290 = .ok (.iload_n 3, 1) := by decide +kernel
theorem dd_L_law_291 : decode code 291 = .ok (.iconst 2, 1) := by decide +kernel
theorem dd_L_law_292 : decode code 292 = .ok (.iadd, 1) := by decide +kernel
theorem dd_L_law_293 : decode code 293 = .ok (.iaload, 1) := by decide +kernel
theorem dd_L_law_294 : decode code 294 = .ok (.aload_n 0, 1) := by decide +kernel
theorem dd_L_law_295 : decode code 295 = .ok (.iload_n 3, 1) := by decide +kernel
theorem dd_L_law_296 : decode code 296 = .ok (.iconst 3, 1) := by decide +kernel
theorem dd_L_law_297 : decode code 297 = .ok (.iadd, 1) := by decide +kernel
theorem dd_L_law_298 : decode code 298 = .ok (.iaload, 1) := by decide +kernel
theorem dd_L_law_299 : decode code 299 = .ok (.i2l, 1) := by decide +kernel
theorem dd_L_law_300 : decode code 300 = .ok (.bipush 32, 2) := by decide +kernel
theorem dd_L_law_302 : decode code 302 = .ok (.lshl, 1) := by decide +kernel
theorem dd_L_law_303 : decode code 303 = .ok (.aload_n 0, 1) := by decide +kernel
theorem dd_L_law_304 : decode code 304 = .ok (.iload_n 3, 1) := by decide +kernel
theorem dd_L_law_305 : decode code 305 = .ok (.iconst 4, 1) := by decide +kernel
theorem dd_L_law_306 : decode code 306 = .ok (.iadd, 1) := by decide +kernel
theorem dd_L_law_307 : decode code 307 = .ok (.iaload, 1) := by decide +kernel
theorem dd_L_law_308 : decode code 308 = .ok (.i2l, 1) := by decide +kernel
theorem dd_L_law_309 : decode code 309 = .ok (.ldc2_w 18, 3) := by decide +kernel
theorem dd_L_law_312 : decode code 312 = .ok (.land, 1) := by decide +kernel
theorem dd_L_law_313 : decode code 313 = .ok (.lor, 1) := by decide +kernel
theorem dd_L_law_314 : decode code 314 = .ok (.invokevirtual 20, 3) := by decide +kernel
theorem dd_L_law_317 : decode code 317 = .ok (.aload_n 2, 1) := by decide +kernel
theorem dd_L_law_318 : decode code 318 = .ok (.aload_n 0, 1) := by decide +kernel
theorem dd_L_law_319 : decode code 319 = .ok (.iload_n 3, 1) := by decide +kernel
theorem dd_L_law_320 : decode code 320 = .ok (.iconst 1, 1) := by decide +kernel
theorem dd_L_law_321 : decode code 321 = .ok (.iadd, 1) := by decide +kernel
theorem dd_L_law_322 : decode code 322 = .ok (.iaload, 1) := by decide +kernel
theorem dd_L_law_323 : decode code 323 = .ok (.aload_n 0, 1) := by decide +kernel
theorem dd_L_law_324 : decode code 324 = .ok (.iload_n 3, 1) := by decide +kernel
theorem dd_L_law_325 : decode code 325 = .ok (.iconst 2, 1) := by decide +kernel
theorem dd_L_law_326 : decode code 326 = .ok (.iadd, 1) := by decide +kernel
theorem dd_L_law_327 : decode code 327 = .ok (.iaload, 1) := by decide +kernel
theorem dd_L_law_328 : decode code 328 = .ok (.aload_n 0, 1) := by decide +kernel
theorem dd_L_law_329 : decode code 329 = .ok (.iload_n 3, 1) := by decide +kernel
theorem dd_L_law_330 : decode code 330 = .ok (.iconst 3, 1) := by decide +kernel
theorem dd_L_law_331 : decode code 331 = .ok (.iadd, 1) := by decide +kernel
theorem dd_L_law_332 : decode code 332 = .ok (.iaload, 1) := by decide +kernel
theorem dd_L_law_333 : decode code 333 = .ok (.i2l, 1) := by decide +kernel
theorem dd_L_law_334 : decode code 334 = .ok (.bipush 32, 2) := by decide +kernel
theorem dd_L_law_336 : decode code 336 = .ok (.lshl, 1) := by decide +kernel
theorem dd_L_law_337 : decode code 337 = .ok (.aload_n 0, 1) := by decide +kernel
theorem dd_L_law_338 : decode code 338 = .ok (.iload_n 3, 1) := by decide +kernel
theorem dd_L_law_339 : decode code 339 = .ok (.iconst 4, 1) := by decide +kernel
theorem dd_L_law_340 : decode code 340 = .ok (.iadd, 1) := by decide +kernel
theorem dd_L_law_341 : decode code 341 = .ok (.iaload, 1) := by decide +kernel
theorem dd_L_law_342 : decode code 342 = .ok (.i2l, 1) := by decide +kernel
theorem dd_L_law_343 : decode code 343 = .ok (.ldc2_w 18, 3) := by decide +kernel
theorem dd_L_law_346 : decode code 346 = .ok (.land, 1) := by decide +kernel
theorem dd_L_law_347 : decode code 347 = .ok (.lor, 1) := by decide +kernel
theorem dd_L_law_348 : decode code 348 = .ok (.invokevirtual 24, 3) := by decide +kernel
theorem dd_L_law_351 : decode code 351 = .ok (.if_icmp .eq 1380, 3) := by decide +kernel
theorem dd_L_law_354 : decode code 354 = .ok (.iconst 0, 1) := by decide +kernel
theorem dd_L_law_355 : decode code 355 = .ok (.ireturn, 1) := by decide +kernel
theorem dd_L_law_356 : decode code 356 = .ok (.aload_n 1, 1) := by decide +kernel
theorem dd_L_law_357 : decode code 357 = .ok (.aload_n 0, 1) := by decide +kernel
theorem dd_L_law_358 : decode code 358 = .ok (.iload_n 3, 1) := by decide +kernel
theorem dd_L_law_359 : decode code 359 = .ok (.iconst 1, 1) := by decide +kernel
theorem dd_L_law_360 : decode code 360 = .ok (.iadd, 1) := by decide +kernel
theorem dd_L_law_361 : decode code 361 = .ok (.iaload, 1) := by decide +kernel
theorem dd_L_law_362 : decode code 362 = .ok (.aload_n 0, 1) := by decide +kernel
theorem dd_L_law_363 : decode code 363 = .ok (.iload_n 3, 1) := by decide +kernel
theorem dd_L_law_364 : decode code 364 = .ok (.iconst 2, 1) := by decide +kernel
theorem dd_L_law_365 : decode code 365 = .ok (.iadd, 1) := by decide +kernel
theorem dd_L_law_366 : decode code 366 = .ok (.iaload, 1) := by decide +kernel
theorem dd_L_law_367 : decode code 367 = .ok (.aload_n 0, 1) := by decide +kernel
theorem dd_L_law_368 : decode code 368 = .ok (.iload_n 3, 1) := by decide +kernel
theorem dd_L_law_369 : decode code 369 = .ok (.iconst 3, 1) := by decide +kernel
theorem dd_L_law_370 : decode code 370 = .ok (.iadd, 1) := by decide +kernel
theorem dd_L_law_371 : decode code 371 = .ok (.iaload, 1) := by decide +kernel
theorem dd_L_law_372 : decode code 372 = .ok (.aload_n 0, 1) := by decide +kernel
theorem dd_L_law_373 : decode code 373 = .ok (.iload_n 3, 1) := by decide +kernel
theorem dd_L_law_374 : decode code 374 = .ok (.iconst 4, 1) := by decide +kernel
theorem dd_L_law_375 : decode code 375 = .ok (.iadd, 1) := by decide +kernel
theorem dd_L_law_376 : decode code 376 = .ok (.iaload, 1) := by decide +kernel
theorem dd_L_law_377 : decode code 377 = .ok (.aload_n 0, 1) := by decide +kernel
theorem dd_L_law_378 : decode code 378 = .ok (.iload_n 3, 1) := by decide +kernel
theorem dd_L_law_379 : decode code 379 = .ok (.iconst 5, 1) := by decide +kernel
theorem dd_L_law_380 : decode code 380 = .ok (.iadd, 1) := by decide +kernel
theorem dd_L_law_381 : decode code 381 = .ok (.iaload, 1) := by decide +kernel
theorem dd_L_law_382 : decode code 382 = .ok (.invokevirtual 25, 3) := by decide +kernel
theorem dd_L_law_385 : decode code 385 = .ok (.aload_n 2, 1) := by decide +kernel
theorem dd_L_law_386 : decode code 386 = .ok (.aload_n 0, 1) := by decide +kernel
theorem dd_L_law_387 : decode code 387 = .ok (.iload_n 3, 1) := by decide +kernel
theorem dd_L_law_388 : decode code 388 = .ok (.iconst 1, 1) := by decide +kernel
theorem dd_L_law_389 : decode code 389 = .ok (.iadd, 1) := by decide +kernel
theorem dd_L_law_390 : decode code 390 = .ok (.iaload, 1) := by decide +kernel
theorem dd_L_law_391 : decode code 391 = .ok (.aload_n 0, 1) := by decide +kernel
theorem dd_L_law_392 : decode code 392 = .ok (.iload_n 3, 1) := by decide +kernel
theorem dd_L_law_393 : decode code 393 = .ok (.iconst 2, 1) := by decide +kernel
theorem dd_L_law_394 : decode code 394 = .ok (.iadd, 1) := by decide +kernel
theorem dd_L_law_395 : decode code 395 = .ok (.iaload, 1) := by decide +kernel
theorem dd_L_law_396 : decode code 396 = .ok (.aload_n 0, 1) := by decide +kernel
theorem dd_L_law_397 : decode code 397 = .ok (.iload_n 3, 1) := by decide +kernel
theorem dd_L_law_398 : decode code 398 = .ok (.iconst 3, 1) := by decide +kernel
theorem dd_L_law_399 : decode code 399 = .ok (.iadd, 1) := by decide +kernel
theorem dd_L_law_400 : decode code 400 = .ok (.iaload, 1) := by decide +kernel
theorem dd_L_law_401 : decode code 401 = .ok (.aload_n 0, 1) := by decide +kernel
theorem dd_L_law_402 : decode code 402 = .ok (.iload_n 3, 1) := by decide +kernel
theorem dd_L_law_403 : decode code 403 = .ok (.iconst 4, 1) := by decide +kernel
theorem dd_L_law_404 : decode code 404 = .ok (.iadd, 1) := by decide +kernel
theorem dd_L_law_405 : decode code 405 = .ok (.iaload, 1) := by decide +kernel
theorem dd_L_law_406 : decode code 406 = .ok (.aload_n 0, 1) := by decide +kernel
theorem dd_L_law_407 : decode code 407 = .ok (.iload_n 3, 1) := by decide +kernel
theorem dd_L_law_408 : decode code 408 = .ok (.iconst 5, 1) := by decide +kernel
theorem dd_L_law_409 : decode code 409 = .ok (.iadd, 1) := by decide +kernel
theorem dd_L_law_410 : decode code 410 = .ok (.iaload, 1) := by decide +kernel
theorem dd_L_law_411 : decode code 411 = .ok (.invokevirtual 29, 3) := by decide +kernel
theorem dd_L_law_414 : decode code 414 = .ok (.if_icmp .eq 1317, 3) := by decide +kernel
theorem dd_L_law_417 : decode code 417 = .ok (.iconst 0, 1) := by decide +kernel
theorem dd_L_law_418 : decode code 418 = .ok (.ireturn, 1) := by decide +kernel
theorem dd_L_law_419 : decode code 419 = .ok (.aload_n 1, 1) := by decide +kernel
theorem dd_L_law_420 : decode code 420 = .ok (.aload_n 0, 1) := by decide +kernel
theorem dd_L_law_421 : decode code 421 = .ok (.iload_n 3, 1) := by decide +kernel
theorem dd_L_law_422 : decode code 422 = .ok (.iconst 1, 1) := by decide +kernel
theorem dd_L_law_423 : decode code 423 = .ok (.iadd, 1) := by decide +kernel
theorem dd_L_law_424 : decode code 424 = .ok (.iaload, 1) := by decide +kernel
theorem dd_L_law_425 : decode code 425 = .ok (.aload_n 0, 1) := by decide +kernel
theorem dd_L_law_426 : decode code 426 = .ok (.iload_n 3, 1) := by decide +kernel
theorem dd_L_law_427 : decode code 427 = .ok (.iconst 2, 1) := by decide +kernel
theorem dd_L_law_428 : decode code 428 = .ok (.iadd, 1) := by decide +kernel
theorem dd_L_law_429 : decode code 429 = .ok (.iaload, 1) := by decide +kernel
theorem dd_L_law_430 : decode code 430 = .ok (.invokevirtual 30, 3) := by decide +kernel
theorem dd_L_law_433 : decode code 433 = .ok (.aload_n 2, 1) := by decide +kernel
theorem dd_L_law_434 : decode code 434 = .ok (.aload_n 0, 1) := by decide +kernel
theorem dd_L_law_435 : decode code 435 = .ok (.iload_n 3, 1) := by decide +kernel
theorem dd_L_law_436 : decode code 436 = .ok (.iconst 1, 1) := by decide +kernel
theorem dd_L_law_437 : decode code 437 = .ok (.iadd, 1) := by decide +kernel
theorem dd_L_law_438 : decode code 438 = .ok (.iaload, 1) := by decide +kernel
theorem dd_L_law_439 : decode code 439 = .ok (.aload_n 0, 1) := by decide +kernel
theorem dd_L_law_440 : decode code 440 = .ok (.iload_n 3, 1) := by decide +kernel
theorem dd_L_law_441 : decode code 441 = .ok (.iconst 2, 1) := by decide +kernel
theorem dd_L_law_442 : decode code 442 = .ok (.iadd, 1) := by decide +kernel
theorem dd_L_law_443 : decode code 443 = .ok (.iaload, 1) := by decide +kernel
theorem dd_L_law_444 : decode code 444 = .ok (.invokevirtual 34, 3) := by decide +kernel
theorem dd_L_law_447 : decode code 447 = .ok (.lcmp, 1) := by decide +kernel
theorem dd_L_law_448 : decode code 448 = .ok (.ifCond .eq 1283, 3) := by decide +kernel
theorem dd_L_law_451 : decode code 451 = .ok (.iconst 0, 1) := by decide +kernel
theorem dd_L_law_452 : decode code 452 = .ok (.ireturn, 1) := by decide +kernel
theorem dd_L_law_453 : decode code 453 = .ok (.aload_n 1, 1) := by decide +kernel
theorem dd_L_law_454 : decode code 454 = .ok (.aload_n 0, 1) := by decide +kernel
theorem dd_L_law_455 : decode code 455 = .ok (.iload_n 3, 1) := by decide +kernel
theorem dd_L_law_456 : decode code 456 = .ok (.iconst 1, 1) := by decide +kernel
theorem dd_L_law_457 : decode code 457 = .ok (.iadd, 1) := by decide +kernel
theorem dd_L_law_458 : decode code 458 = .ok (.iaload, 1) := by decide +kernel
theorem dd_L_law_459 : decode code 459 = .ok (.invokevirtual 35, 3) := by decide +kernel
theorem dd_L_law_462 : decode code 462 = .ok (.aload_n 2, 1) := by decide +kernel
theorem dd_L_law_463 : decode code 463 = .ok (.aload_n 0, 1) := by decide +kernel
theorem dd_L_law_464 : decode code 464 = .ok (.iload_n 3, 1) := by decide +kernel
theorem dd_L_law_465 : decode code 465 = .ok (.iconst 1, 1) := by decide +kernel
theorem dd_L_law_466 : decode code 466 = .ok (.iadd, 1) := by decide +kernel
theorem dd_L_law_467 : decode code 467 = .ok (.iaload, 1) := by decide +kernel
theorem dd_L_law_468 : decode code 468 = .ok (.invokevirtual 39, 3) := by decide +kernel
theorem dd_L_law_471 : decode code 471 = .ok (.if_icmp .eq 1260, 3) := by decide +kernel
theorem dd_L_law_474 : decode code 474 = .ok (.iconst 0, 1) := by decide +kernel
theorem dd_L_law_475 : decode code 475 = .ok (.ireturn, 1) := by decide +kernel
theorem dd_L_law_476 : decode code 476 = .ok (.aload_n 1, 1) := by decide +kernel
theorem dd_L_law_477 : decode code 477 = .ok (.aload_n 0, 1) := by decide +kernel
theorem dd_L_law_478 : decode code 478 = .ok (.iload_n 3, 1) := by decide +kernel
theorem dd_L_law_479 : decode code 479 = .ok (.iconst 1, 1) := by decide +kernel
theorem dd_L_law_480 : decode code 480 = .ok (.iadd, 1) := by decide +kernel
theorem dd_L_law_481 : decode code 481 = .ok (.iaload, 1) := by decide +kernel
theorem dd_L_law_482 : decode code 482 = .ok (.aload_n 0, 1) := by decide +kernel
theorem dd_L_law_483 : decode code 483 = .ok (.iload_n 3, 1) := by decide +kernel
theorem dd_L_law_484 : decode code 484 = .ok (.iconst 2, 1) := by decide +kernel
theorem dd_L_law_485 : decode code 485 = .ok (.iadd, 1) := by decide +kernel
theorem dd_L_law_486 : decode code 486 = .ok (.iaload, 1) := by decide +kernel
theorem dd_L_law_487 : decode code 487 = .ok (.invokevirtual 40, 3) := by decide +kernel
theorem dd_L_law_490 : decode code 490 = .ok (.aload_n 2, 1) := by decide +kernel
theorem dd_L_law_491 : decode code 491 = .ok (.aload_n 0, 1) := by decide +kernel
theorem dd_L_law_492 : decode code 492 = .ok (.iload_n 3, 1) := by decide +kernel
theorem dd_L_law_493 : decode code 493 = .ok (.iconst 1, 1) := by decide +kernel
theorem dd_L_law_494 : decode code 494 = .ok (.iadd, 1) := by decide +kernel
theorem dd_L_law_495 : decode code 495 = .ok (.iaload, 1) := by decide +kernel
theorem dd_L_law_496 : decode code 496 = .ok (.aload_n 0, 1) := by decide +kernel
theorem dd_L_law_497 : decode code 497 = .ok (.iload_n 3, 1) := by decide +kernel
theorem dd_L_law_498 : decode code 498 = .ok (.iconst 2, 1) := by decide +kernel
theorem dd_L_law_499 : decode code 499 = .ok (.iadd, 1) := by decide +kernel
theorem dd_L_law_500 : decode code 500 = .ok (.iaload, 1) := by decide +kernel
theorem dd_L_law_501 : decode code 501 = .ok (.invokevirtual 44, 3) := by decide +kernel
theorem dd_L_law_504 : decode code 504 = .ok (.if_icmp .eq 1227, 3) := by decide +kernel
theorem dd_L_law_507 : decode code 507 = .ok (.iconst 0, 1) := by decide +kernel
theorem dd_L_law_508 : decode code 508 = .ok (.ireturn, 1) := by decide +kernel
theorem dd_L_law_509 : decode code 509 = .ok (.aload_n 1, 1) := by decide +kernel
theorem dd_L_law_510 : decode code 510 = .ok (.aload_n 0, 1) := by decide +kernel
theorem dd_L_law_511 : decode code 511 = .ok (.iload_n 3, 1) := by decide +kernel
theorem dd_L_law_512 : decode code 512 = .ok (.iconst 1, 1) := by decide +kernel
theorem dd_L_law_513 : decode code 513 = .ok (.iadd, 1) := by decide +kernel
theorem dd_L_law_514 : decode code 514 = .ok (.iaload, 1) := by decide +kernel
theorem dd_L_law_515 : decode code 515 = .ok (.aload_n 0, 1) := by decide +kernel
theorem dd_L_law_516 : decode code 516 = .ok (.iload_n 3, 1) := by decide +kernel
theorem dd_L_law_517 : decode code 517 = .ok (.iconst 2, 1) := by decide +kernel
theorem dd_L_law_518 : decode code 518 = .ok (.iadd, 1) := by decide +kernel
theorem dd_L_law_519 : decode code 519 = .ok (.iaload, 1) := by decide +kernel
theorem dd_L_law_520 : decode code 520 = .ok (.invokevirtual 45, 3) := by decide +kernel
theorem dd_L_law_523 : decode code 523 = .ok (.aload_n 2, 1) := by decide +kernel
theorem dd_L_law_524 : decode code 524 = .ok (.aload_n 0, 1) := by decide +kernel
theorem dd_L_law_525 : decode code 525 = .ok (.iload_n 3, 1) := by decide +kernel
theorem dd_L_law_526 : decode code 526 = .ok (.iconst 1, 1) := by decide +kernel
theorem dd_L_law_527 : decode code 527 = .ok (.iadd, 1) := by decide +kernel
theorem dd_L_law_528 : decode code 528 = .ok (.iaload, 1) := by decide +kernel
theorem dd_L_law_529 : decode code 529 = .ok (.aload_n 0, 1) := by decide +kernel
theorem dd_L_law_530 : decode code 530 = .ok (.iload_n 3, 1) := by decide +kernel
theorem dd_L_law_531 : decode code 531 = .ok (.iconst 2, 1) := by decide +kernel
theorem dd_L_law_532 : decode code 532 = .ok (.iadd, 1) := by decide +kernel
theorem dd_L_law_533 : decode code 533 = .ok (.iaload, 1) := by decide +kernel
theorem dd_L_law_534 : decode code 534 = .ok (.invokevirtual 48, 3) := by decide +kernel
theorem dd_L_law_537 : decode code 537 = .ok (.if_icmp .eq 1194, 3) := by decide +kernel
theorem dd_L_law_540 : decode code 540 = .ok (.iconst 0, 1) := by decide +kernel
theorem dd_L_law_541 : decode code 541 = .ok (.ireturn, 1) := by decide +kernel
theorem dd_L_law_542 : decode code 542 = .ok (.aload_n 1, 1) := by decide +kernel
theorem dd_L_law_543 : decode code 543 = .ok (.aload_n 0, 1) := by decide +kernel
theorem dd_L_law_544 : decode code 544 = .ok (.iload_n 3, 1) := by decide +kernel
theorem dd_L_law_545 : decode code 545 = .ok (.iconst 1, 1) := by decide +kernel
theorem dd_L_law_546 : decode code 546 = .ok (.iadd, 1) := by decide +kernel
theorem dd_L_law_547 : decode code 547 = .ok (.iaload, 1) := by decide +kernel
theorem dd_L_law_548 : decode code 548 = .ok (.aload_n 0, 1) := by decide +kernel
theorem dd_L_law_549 : decode code 549 = .ok (.iload_n 3, 1) := by decide +kernel
theorem dd_L_law_550 : decode code 550 = .ok (.iconst 2, 1) := by decide +kernel
theorem dd_L_law_551 : decode code 551 = .ok (.iadd, 1) := by decide +kernel
theorem dd_L_law_552 : decode code 552 = .ok (.iaload, 1) := by decide +kernel
theorem dd_L_law_553 : decode code 553 = .ok (.aload_n 0, 1) := by decide +kernel
theorem dd_L_law_554 : decode code 554 = .ok (.iload_n 3, 1) := by decide +kernel
theorem dd_L_law_555 : decode code 555 = .ok (.iconst 3, 1) := by decide +kernel
theorem dd_L_law_556 : decode code 556 = .ok (.iadd, 1) := by decide +kernel
theorem dd_L_law_557 : decode code 557 = .ok (.iaload, 1) := by decide +kernel
theorem dd_L_law_558 : decode code 558 = .ok (.invokevirtual 49, 3) := by decide +kernel
theorem dd_L_law_561 : decode code 561 = .ok (.aload_n 2, 1) := by decide +kernel
theorem dd_L_law_562 : decode code 562 = .ok (.aload_n 0, 1) := by decide +kernel
theorem dd_L_law_563 : decode code 563 = .ok (.iload_n 3, 1) := by decide +kernel
theorem dd_L_law_564 : decode code 564 = .ok (.iconst 1, 1) := by decide +kernel
theorem dd_L_law_565 : decode code 565 = .ok (.iadd, 1) := by decide +kernel
theorem dd_L_law_566 : decode code 566 = .ok (.iaload, 1) := by decide +kernel
theorem dd_L_law_567 : decode code 567 = .ok (.aload_n 0, 1) := by decide +kernel
theorem dd_L_law_568 : decode code 568 = .ok (.iload_n 3, 1) := by decide +kernel
theorem dd_L_law_569 : decode code 569 = .ok (.iconst 2, 1) := by decide +kernel
theorem dd_L_law_570 : decode code 570 = .ok (.iadd, 1) := by decide +kernel
theorem dd_L_law_571 : decode code 571 = .ok (.iaload, 1) := by decide +kernel
theorem dd_L_law_572 : decode code 572 = .ok (.aload_n 0, 1) := by decide +kernel
theorem dd_L_law_573 : decode code 573 = .ok (.iload_n 3, 1) := by decide +kernel
theorem dd_L_law_574 : decode code 574 = .ok (.iconst 3, 1) := by decide +kernel
theorem dd_L_law_575 : decode code 575 = .ok (.iadd, 1) := by decide +kernel
theorem dd_L_law_576 : decode code 576 = .ok (.iaload, 1) := by decide +kernel
theorem dd_L_law_577 : decode code 577 = .ok (.invokevirtual 52, 3) := by decide +kernel
theorem dd_L_law_580 : decode code 580 = .ok (.if_icmp .eq 1151, 3) := by decide +kernel
theorem dd_L_law_583 : decode code 583 = .ok (.iconst 0, 1) := by decide +kernel
theorem dd_L_law_584 : decode code 584 = .ok (.ireturn, 1) := by decide +kernel
theorem dd_L_law_585 : decode code 585 = .ok (.aload_n 1, 1) := by decide +kernel
theorem dd_L_law_586 : decode code 586 = .ok (.aload_n 0, 1) := by decide +kernel
theorem dd_L_law_587 : decode code 587 = .ok (.iload_n 3, 1) := by decide +kernel
theorem dd_L_law_588 : decode code 588 = .ok (.iconst 1, 1) := by decide +kernel
theorem dd_L_law_589 : decode code 589 = .ok (.iadd, 1) := by decide +kernel
theorem dd_L_law_590 : decode code 590 = .ok (.iaload, 1) := by decide +kernel
theorem dd_L_law_591 : decode code 591 = .ok (.aload_n 0, 1) := by decide +kernel
theorem dd_L_law_592 : decode code 592 = .ok (.iload_n 3, 1) := by decide +kernel
theorem dd_L_law_593 : decode code 593 = .ok (.iconst 2, 1) := by decide +kernel
theorem dd_L_law_594 : decode code 594 = .ok (.iadd, 1) := by decide +kernel
theorem dd_L_law_595 : decode code 595 = .ok (.iaload, 1) := by decide +kernel
theorem dd_L_law_596 : decode code 596 = .ok (.aload_n 0, 1) := by decide +kernel
theorem dd_L_law_597 : decode code 597 = .ok (.iload_n 3, 1) := by decide +kernel
theorem dd_L_law_598 : decode code 598 = .ok (.iconst 3, 1) := by decide +kernel
theorem dd_L_law_599 : decode code 599 = .ok (.iadd, 1) := by decide +kernel
theorem dd_L_law_600 : decode code 600 = .ok (.iaload, 1) := by decide +kernel
theorem dd_L_law_601 : decode code 601 = .ok (.invokevirtual 53, 3) := by decide +kernel
theorem dd_L_law_604 : decode code 604 = .ok (.aload_n 2, 1) := by decide +kernel
theorem dd_L_law_605 : decode code 605 = .ok (.aload_n 0, 1) := by decide +kernel
theorem dd_L_law_606 : decode code 606 = .ok (.iload_n 3, 1) := by decide +kernel
theorem dd_L_law_607 : decode code 607 = .ok (.iconst 1, 1) := by decide +kernel
theorem dd_L_law_608 : decode code 608 = .ok (.iadd, 1) := by decide +kernel
theorem dd_L_law_609 : decode code 609 = .ok (.iaload, 1) := by decide +kernel
theorem dd_L_law_610 : decode code 610 = .ok (.aload_n 0, 1) := by decide +kernel
theorem dd_L_law_611 : decode code 611 = .ok (.iload_n 3, 1) := by decide +kernel
theorem dd_L_law_612 : decode code 612 = .ok (.iconst 2, 1) := by decide +kernel
theorem dd_L_law_613 : decode code 613 = .ok (.iadd, 1) := by decide +kernel
theorem dd_L_law_614 : decode code 614 = .ok (.iaload, 1) := by decide +kernel
theorem dd_L_law_615 : decode code 615 = .ok (.aload_n 0, 1) := by decide +kernel
theorem dd_L_law_616 : decode code 616 = .ok (.iload_n 3, 1) := by decide +kernel
theorem dd_L_law_617 : decode code 617 = .ok (.iconst 3, 1) := by decide +kernel
theorem dd_L_law_618 : decode code 618 = .ok (.iadd, 1) := by decide +kernel
theorem dd_L_law_619 : decode code 619 = .ok (.iaload, 1) := by decide +kernel
theorem dd_L_law_620 : decode code 620 = .ok (.invokevirtual 56, 3) := by decide +kernel
theorem dd_L_law_623 : decode code 623 = .ok (.if_icmp .eq 1108, 3) := by decide +kernel
theorem dd_L_law_626 : decode code 626 = .ok (.iconst 0, 1) := by decide +kernel
theorem dd_L_law_627 : decode code 627 = .ok (.ireturn, 1) := by decide +kernel
theorem dd_L_law_628 : decode code 628 = .ok (.aload_n 1, 1) := by decide +kernel
theorem dd_L_law_629 : decode code 629 = .ok (.aload_n 0, 1) := by decide +kernel
theorem dd_L_law_630 : decode code 630 = .ok (.iload_n 3, 1) := by decide +kernel
theorem dd_L_law_631 : decode code 631 = .ok (.iconst 1, 1) := by decide +kernel
theorem dd_L_law_632 : decode code 632 = .ok (.iadd, 1) := by decide +kernel
theorem dd_L_law_633 : decode code 633 = .ok (.iaload, 1) := by decide +kernel
theorem dd_L_law_634 : decode code 634 = .ok (.aload_n 0, 1) := by decide +kernel
theorem dd_L_law_635 : decode code 635 = .ok (.iload_n 3, 1) := by decide +kernel
theorem dd_L_law_636 : decode code 636 = .ok (.iconst 2, 1) := by decide +kernel
theorem dd_L_law_637 : decode code 637 = .ok (.iadd, 1) := by decide +kernel
theorem dd_L_law_638 : decode code 638 = .ok (.iaload, 1) := by decide +kernel
theorem dd_L_law_639 : decode code 639 = .ok (.invokevirtual 57, 3) := by decide +kernel
theorem dd_L_law_642 : decode code 642 = .ok (.aload_n 2, 1) := by decide +kernel
theorem dd_L_law_643 : decode code 643 = .ok (.aload_n 0, 1) := by decide +kernel
theorem dd_L_law_644 : decode code 644 = .ok (.iload_n 3, 1) := by decide +kernel
theorem dd_L_law_645 : decode code 645 = .ok (.iconst 1, 1) := by decide +kernel
theorem dd_L_law_646 : decode code 646 = .ok (.iadd, 1) := by decide +kernel
theorem dd_L_law_647 : decode code 647 = .ok (.iaload, 1) := by decide +kernel
theorem dd_L_law_648 : decode code 648 = .ok (.aload_n 0, 1) := by decide +kernel
theorem dd_L_law_649 : decode code 649 = .ok (.iload_n 3, 1) := by decide +kernel
theorem dd_L_law_650 : decode code 650 = .ok (.iconst 2, 1) := by decide +kernel
theorem dd_L_law_651 : decode code 651 = .ok (.iadd, 1) := by decide +kernel
theorem dd_L_law_652 : decode code 652 = .ok (.iaload, 1) := by decide +kernel
theorem dd_L_law_653 : decode code 653 = .ok (.invokevirtual 60, 3) := by decide +kernel
theorem dd_L_law_656 : decode code 656 = .ok (.if_icmp .eq 1075, 3) := by decide +kernel
theorem dd_L_law_659 : decode code 659 = .ok (.iconst 0, 1) := by decide +kernel
theorem dd_L_law_660 : decode code 660 = .ok (.ireturn, 1) := by decide +kernel
theorem dd_L_law_661 : decode code 661 = .ok (.aload_n 1, 1) := by decide +kernel
theorem dd_L_law_662 : decode code 662 = .ok (.aload_n 0, 1) := by decide +kernel
theorem dd_L_law_663 : decode code 663 = .ok (.iload_n 3, 1) := by decide +kernel
theorem dd_L_law_664 : decode code 664 = .ok (.iconst 1, 1) := by decide +kernel
theorem dd_L_law_665 : decode code 665 = .ok (.iadd, 1) := by decide +kernel
theorem dd_L_law_666 : decode code 666 = .ok (.iaload, 1) := by decide +kernel
theorem dd_L_law_667 : decode code 667 = .ok (.aload_n 0, 1) := by decide +kernel
theorem dd_L_law_668 : decode code 668 = .ok (.iload_n 3, 1) := by decide +kernel
theorem dd_L_law_669 : decode code 669 = .ok (.iconst 2, 1) := by decide +kernel
theorem dd_L_law_670 : decode code 670 = .ok (.iadd, 1) := by decide +kernel
theorem dd_L_law_671 : decode code 671 = .ok (.iaload, 1) := by decide +kernel
theorem dd_L_law_672 : decode code 672 = .ok (.invokevirtual 61, 3) := by decide +kernel
theorem dd_L_law_675 : decode code 675 = .ok (.aload_n 2, 1) := by decide +kernel
theorem dd_L_law_676 : decode code 676 = .ok (.aload_n 0, 1) := by decide +kernel
theorem dd_L_law_677 : decode code 677 = .ok (.iload_n 3, 1) := by decide +kernel
theorem dd_L_law_678 : decode code 678 = .ok (.iconst 1, 1) := by decide +kernel
theorem dd_L_law_679 : decode code 679 = .ok (.iadd, 1) := by decide +kernel
theorem dd_L_law_680 : decode code 680 = .ok (.iaload, 1) := by decide +kernel
theorem dd_L_law_681 : decode code 681 = .ok (.aload_n 0, 1) := by decide +kernel
theorem dd_L_law_682 : decode code 682 = .ok (.iload_n 3, 1) := by decide +kernel
theorem dd_L_law_683 : decode code 683 = .ok (.iconst 2, 1) := by decide +kernel
theorem dd_L_law_684 : decode code 684 = .ok (.iadd, 1) := by decide +kernel
theorem dd_L_law_685 : decode code 685 = .ok (.iaload, 1) := by decide +kernel
theorem dd_L_law_686 : decode code 686 = .ok (.invokevirtual 64, 3) := by decide +kernel
theorem dd_L_law_689 : decode code 689 = .ok (.if_icmp .eq 1042, 3) := by decide +kernel
theorem dd_L_law_692 : decode code 692 = .ok (.iconst 0, 1) := by decide +kernel
theorem dd_L_law_693 : decode code 693 = .ok (.ireturn, 1) := by decide +kernel
theorem dd_L_law_694 : decode code 694 = .ok (.aload_n 1, 1) := by decide +kernel
theorem dd_L_law_695 : decode code 695 = .ok (.aload_n 0, 1) := by decide +kernel
theorem dd_L_law_696 : decode code 696 = .ok (.iload_n 3, 1) := by decide +kernel
theorem dd_L_law_697 : decode code 697 = .ok (.iconst 1, 1) := by decide +kernel
theorem dd_L_law_698 : decode code 698 = .ok (.iadd, 1) := by decide +kernel
theorem dd_L_law_699 : decode code 699 = .ok (.iaload, 1) := by decide +kernel
theorem dd_L_law_700 : decode code 700 = .ok (.aload_n 0, 1) := by decide +kernel
theorem dd_L_law_701 : decode code 701 = .ok (.iload_n 3, 1) := by decide +kernel
theorem dd_L_law_702 : decode code 702 = .ok (.iconst 2, 1) := by decide +kernel
theorem dd_L_law_703 : decode code 703 = .ok (.iadd, 1) := by decide +kernel
theorem dd_L_law_704 : decode code 704 = .ok (.iaload, 1) := by decide +kernel
theorem dd_L_law_705 : decode code 705 = .ok (.invokevirtual 65, 3) := by decide +kernel
theorem dd_L_law_708 : decode code 708 = .ok (.aload_n 2, 1) := by decide +kernel
theorem dd_L_law_709 : decode code 709 = .ok (.aload_n 0, 1) := by decide +kernel
theorem dd_L_law_710 : decode code 710 = .ok (.iload_n 3, 1) := by decide +kernel
theorem dd_L_law_711 : decode code 711 = .ok (.iconst 1, 1) := by decide +kernel
theorem dd_L_law_712 : decode code 712 = .ok (.iadd, 1) := by decide +kernel
theorem dd_L_law_713 : decode code 713 = .ok (.iaload, 1) := by decide +kernel
theorem dd_L_law_714 : decode code 714 = .ok (.aload_n 0, 1) := by decide +kernel
theorem dd_L_law_715 : decode code 715 = .ok (.iload_n 3, 1) := by decide +kernel
theorem dd_L_law_716 : decode code 716 = .ok (.iconst 2, 1) := by decide +kernel
theorem dd_L_law_717 : decode code 717 = .ok (.iadd, 1) := by decide +kernel
theorem dd_L_law_718 : decode code 718 = .ok (.iaload, 1) := by decide +kernel
theorem dd_L_law_719 : decode code 719 = .ok (.invokevirtual 68, 3) := by decide +kernel
theorem dd_L_law_722 : decode code 722 = .ok (.if_icmp .eq 1009, 3) := by decide +kernel
theorem dd_L_law_725 : decode code 725 = .ok (.iconst 0, 1) := by decide +kernel
theorem dd_L_law_726 : decode code 726 = .ok (.ireturn, 1) := by decide +kernel
theorem dd_L_law_727 : decode code 727 = .ok (.aload_n 1, 1) := by decide +kernel
theorem dd_L_law_728 : decode code 728 = .ok (.aload_n 0, 1) := by decide +kernel
theorem dd_L_law_729 : decode code 729 = .ok (.iload_n 3, 1) := by decide +kernel
theorem dd_L_law_730 : decode code 730 = .ok (.iconst 1, 1) := by decide +kernel
theorem dd_L_law_731 : decode code 731 = .ok (.iadd, 1) := by decide +kernel
theorem dd_L_law_732 : decode code 732 = .ok (.iaload, 1) := by decide +kernel
theorem dd_L_law_733 : decode code 733 = .ok (.aload_n 0, 1) := by decide +kernel
theorem dd_L_law_734 : decode code 734 = .ok (.iload_n 3, 1) := by decide +kernel
theorem dd_L_law_735 : decode code 735 = .ok (.iconst 2, 1) := by decide +kernel
theorem dd_L_law_736 : decode code 736 = .ok (.iadd, 1) := by decide +kernel
theorem dd_L_law_737 : decode code 737 = .ok (.iaload, 1) := by decide +kernel
theorem dd_L_law_738 : decode code 738 = .ok (.invokevirtual 69, 3) := by decide +kernel
theorem dd_L_law_741 : decode code 741 = .ok (.aload_n 2, 1) := by decide +kernel
theorem dd_L_law_742 : decode code 742 = .ok (.aload_n 0, 1) := by decide +kernel
theorem dd_L_law_743 : decode code 743 = .ok (.iload_n 3, 1) := by decide +kernel
theorem dd_L_law_744 : decode code 744 = .ok (.iconst 1, 1) := by decide +kernel
theorem dd_L_law_745 : decode code 745 = .ok (.iadd, 1) := by decide +kernel
theorem dd_L_law_746 : decode code 746 = .ok (.iaload, 1) := by decide +kernel
theorem dd_L_law_747 : decode code 747 = .ok (.aload_n 0, 1) := by decide +kernel
theorem dd_L_law_748 : decode code 748 = .ok (.iload_n 3, 1) := by decide +kernel
theorem dd_L_law_749 : decode code 749 = .ok (.iconst 2, 1) := by decide +kernel
theorem dd_L_law_750 : decode code 750 = .ok (.iadd, 1) := by decide +kernel
theorem dd_L_law_751 : decode code 751 = .ok (.iaload, 1) := by decide +kernel
theorem dd_L_law_752 : decode code 752 = .ok (.invokevirtual 72, 3) := by decide +kernel
theorem dd_L_law_755 : decode code 755 = .ok (.if_icmp .eq 976, 3) := by decide +kernel
theorem dd_L_law_758 : decode code 758 = .ok (.iconst 0, 1) := by decide +kernel
theorem dd_L_law_759 : decode code 759 = .ok (.ireturn, 1) := by decide +kernel
theorem dd_L_law_760 : decode code 760 = .ok (.aload_n 1, 1) := by decide +kernel
theorem dd_L_law_761 : decode code 761 = .ok (.aload_n 0, 1) := by decide +kernel
theorem dd_L_law_762 : decode code 762 = .ok (.iload_n 3, 1) := by decide +kernel
theorem dd_L_law_763 : decode code 763 = .ok (.iconst 1, 1) := by decide +kernel
theorem dd_L_law_764 : decode code 764 = .ok (.iadd, 1) := by decide +kernel
theorem dd_L_law_765 : decode code 765 = .ok (.iaload, 1) := by decide +kernel
theorem dd_L_law_766 : decode code 766 = .ok (.aload_n 0, 1) := by decide +kernel
theorem dd_L_law_767 : decode code 767 = .ok (.iload_n 3, 1) := by decide +kernel
theorem dd_L_law_768 : decode code 768 = .ok (.iconst 2, 1) := by decide +kernel
theorem dd_L_law_769 : decode code 769 = .ok (.iadd, 1) := by decide +kernel
theorem dd_L_law_770 : decode code 770 = .ok (.iaload, 1) := by decide +kernel
theorem dd_L_law_771 : decode code 771 = .ok (.invokevirtual 73, 3) := by decide +kernel
theorem dd_L_law_774 : decode code 774 = .ok (.aload_n 2, 1) := by decide +kernel
theorem dd_L_law_775 : decode code 775 = .ok (.aload_n 0, 1) := by decide +kernel
theorem dd_L_law_776 : decode code 776 = .ok (.iload_n 3, 1) := by decide +kernel
theorem dd_L_law_777 : decode code 777 = .ok (.iconst 1, 1) := by decide +kernel
theorem dd_L_law_778 : decode code 778 = .ok (.iadd, 1) := by decide +kernel
theorem dd_L_law_779 : decode code 779 = .ok (.iaload, 1) := by decide +kernel
theorem dd_L_law_780 : decode code 780 = .ok (.aload_n 0, 1) := by decide +kernel
theorem dd_L_law_781 : decode code 781 = .ok (.iload_n 3, 1) := by decide +kernel
theorem dd_L_law_782 : decode code 782 = .ok (.iconst 2, 1) := by decide +kernel
theorem dd_L_law_783 : decode code 783 = .ok (.iadd, 1) := by decide +kernel
theorem dd_L_law_784 : decode code 784 = .ok (.iaload, 1) := by decide +kernel
theorem dd_L_law_785 : decode code 785 = .ok (.invokevirtual 76, 3) := by decide +kernel
theorem dd_L_law_788 : decode code 788 = .ok (.if_icmp .eq 943, 3) := by decide +kernel
theorem dd_L_law_791 : decode code 791 = .ok (.iconst 0, 1) := by decide +kernel
theorem dd_L_law_792 : decode code 792 = .ok (.ireturn, 1) := by decide +kernel
theorem dd_L_law_793 : decode code 793 = .ok (.aload_n 1, 1) := by decide +kernel
theorem dd_L_law_794 : decode code 794 = .ok (.invokevirtual 77, 3) := by decide +kernel
theorem dd_L_law_797 : decode code 797 = .ok (.aload_n 2, 1) := by decide +kernel
theorem dd_L_law_798 : decode code 798 = .ok (.invokevirtual 81, 3) := by decide +kernel
theorem dd_L_law_801 : decode code 801 = .ok (.if_icmp .eq 930, 3) := by decide +kernel
theorem dd_L_law_804 : decode code 804 = .ok (.iconst 0, 1) := by decide +kernel
theorem dd_L_law_805 : decode code 805 = .ok (.ireturn, 1) := by decide +kernel
theorem dd_L_law_806 : decode code 806 = .ok (.aload_n 1, 1) := by decide +kernel
theorem dd_L_law_807 : decode code 807 = .ok (.invokevirtual 82, 3) := by decide +kernel
theorem dd_L_law_810 : decode code 810 = .ok (.aload_n 2, 1) := by decide +kernel
theorem dd_L_law_811 : decode code 811 = .ok (.invokevirtual 85, 3) := by decide +kernel
theorem dd_L_law_814 : decode code 814 = .ok (.if_icmp .eq 917, 3) := by decide +kernel
theorem dd_L_law_817 : decode code 817 = .ok (.iconst 0, 1) := by decide +kernel
theorem dd_L_law_818 : decode code 818 = .ok (.ireturn, 1) := by decide +kernel
theorem dd_L_law_819 : decode code 819 = .ok (.aload_n 1, 1) := by decide +kernel
theorem dd_L_law_820 : decode code 820 = .ok (.aload_n 0, 1) := by decide +kernel
theorem dd_L_law_821 : decode code 821 = .ok (.iload_n 3, 1) := by decide +kernel
theorem dd_L_law_822 : decode code 822 = .ok (.iconst 1, 1) := by decide +kernel
theorem dd_L_law_823 : decode code 823 = .ok (.iadd, 1) := by decide +kernel
theorem dd_L_law_824 : decode code 824 = .ok (.iaload, 1) := by decide +kernel
theorem dd_L_law_825 : decode code 825 = .ok (.aload_n 0, 1) := by decide +kernel
theorem dd_L_law_826 : decode code 826 = .ok (.iload_n 3, 1) := by decide +kernel
theorem dd_L_law_827 : decode code 827 = .ok (.iconst 2, 1) := by decide +kernel
theorem dd_L_law_828 : decode code 828 = .ok (.iadd, 1) := by decide +kernel
theorem dd_L_law_829 : decode code 829 = .ok (.iaload, 1) := by decide +kernel
theorem dd_L_law_830 : decode code 830 = .ok (.invokevirtual 86, 3) := by decide +kernel
theorem dd_L_law_833 : decode code 833 = .ok (.aload_n 2, 1) := by decide +kernel
theorem dd_L_law_834 : decode code 834 = .ok (.aload_n 0, 1) := by decide +kernel
theorem dd_L_law_835 : decode code 835 = .ok (.iload_n 3, 1) := by decide +kernel
theorem dd_L_law_836 : decode code 836 = .ok (.iconst 1, 1) := by decide +kernel
theorem dd_L_law_837 : decode code 837 = .ok (.iadd, 1) := by decide +kernel
theorem dd_L_law_838 : decode code 838 = .ok (.iaload, 1) := by decide +kernel
theorem dd_L_law_839 : decode code 839 = .ok (.aload_n 0, 1) := by decide +kernel
theorem dd_L_law_840 : decode code 840 = .ok (.iload_n 3, 1) := by decide +kernel
theorem dd_L_law_841 : decode code 841 = .ok (.iconst 2, 1) := by decide +kernel
theorem dd_L_law_842 : decode code 842 = .ok (.iadd, 1) := by decide +kernel
theorem dd_L_law_843 : decode code 843 = .ok (.iaload, 1) := by decide +kernel
theorem dd_L_law_844 : decode code 844 = .ok (.invokevirtual 89, 3) := by decide +kernel
theorem dd_L_law_847 : decode code 847 = .ok (.if_icmp .eq 884, 3) := by decide +kernel
theorem dd_L_law_850 : decode code 850 = .ok (.iconst 0, 1) := by decide +kernel
theorem dd_L_law_851 : decode code 851 = .ok (.ireturn, 1) := by decide +kernel
theorem dd_L_law_852 : decode code 852 = .ok (.aload_n 1, 1) := by decide +kernel
theorem dd_L_law_853 : decode code 853 = .ok (.aload_n 0, 1) := by decide +kernel
theorem dd_L_law_854 : decode code 854 = .ok (.iload_n 3, 1) := by decide +kernel
theorem dd_L_law_855 : decode code 855 = .ok (.iconst 1, 1) := by decide +kernel
theorem dd_L_law_856 : decode code 856 = .ok (.iadd, 1) := by decide +kernel
theorem dd_L_law_857 : decode code 857 = .ok (.iaload, 1) := by decide +kernel
theorem dd_L_law_858 : decode code 858 = .ok (.aload_n 0, 1) := by decide +kernel
theorem dd_L_law_859 : decode code 859 = .ok (.iload_n 3, 1) := by decide +kernel
theorem dd_L_law_860 : decode code 860 = .ok (.iconst 2, 1) := by decide +kernel
theorem dd_L_law_861 : decode code 861 = .ok (.iadd, 1) := by decide +kernel
theorem dd_L_law_862 : decode code 862 = .ok (.iaload, 1) := by decide +kernel
theorem dd_L_law_863 : decode code 863 = .ok (.aload_n 0, 1) := by decide +kernel
theorem dd_L_law_864 : decode code 864 = .ok (.iload_n 3, 1) := by decide +kernel
theorem dd_L_law_865 : decode code 865 = .ok (.iconst 3, 1) := by decide +kernel
theorem dd_L_law_866 : decode code 866 = .ok (.iadd, 1) := by decide +kernel
theorem dd_L_law_867 : decode code 867 = .ok (.iaload, 1) := by decide +kernel
theorem dd_L_law_868 : decode code 868 = .ok (.ifCond .eq 7, 3) := by decide +kernel
theorem dd_L_law_871 : decode code 871 = .ok (.iconst 1, 1) := by decide +kernel
theorem dd_L_law_872 : decode code 872 = .ok (.goto 4, 3) := by decide +kernel
theorem dd_L_law_875 : decode code 875 = .ok (.iconst 0, 1) := by decide +kernel
theorem dd_L_law_876 : decode code 876 = .ok (.invokevirtual 90, 3) := by decide +kernel
theorem dd_L_law_879 : decode code 879 = .ok (.aload_n 2, 1) := by decide +kernel
theorem dd_L_law_880 : decode code 880 = .ok (.aload_n 0, 1) := by decide +kernel
theorem dd_L_law_881 : decode code 881 = .ok (.iload_n 3, 1) := by decide +kernel
theorem dd_L_law_882 : decode code 882 = .ok (.iconst 1, 1) := by decide +kernel
theorem dd_L_law_883 : decode code 883 = .ok (.iadd, 1) := by decide +kernel
theorem dd_L_law_884 : decode code 884 = .ok (.iaload, 1) := by decide +kernel
theorem dd_L_law_885 : decode code 885 = .ok (.aload_n 0, 1) := by decide +kernel
theorem dd_L_law_886 : decode code 886 = .ok (.iload_n 3, 1) := by decide +kernel
theorem dd_L_law_887 : decode code 887 = .ok (.iconst 2, 1) := by decide +kernel
theorem dd_L_law_888 : decode code 888 = .ok (.iadd, 1) := by decide +kernel
theorem dd_L_law_889 : decode code 889 = .ok (.iaload, 1) := by decide +kernel
theorem dd_L_law_890 : decode code 890 = .ok (.aload_n 0, 1) := by decide +kernel
theorem dd_L_law_891 : decode code 891 = .ok (.iload_n 3, 1) := by decide +kernel
theorem dd_L_law_892 : decode code 892 = .ok (.iconst 3, 1) := by decide +kernel
theorem dd_L_law_893 : decode code 893 = .ok (.iadd, 1) := by decide +kernel
theorem dd_L_law_894 : decode code 894 = .ok (.iaload, 1) := by decide +kernel
theorem dd_L_law_895 : decode code 895 = .ok (.ifCond .eq 7, 3) := by decide +kernel
theorem dd_L_law_898 : decode code 898 = .ok (.iconst 1, 1) := by decide +kernel
theorem dd_L_law_899 : decode code 899 = .ok (.goto 4, 3) := by decide +kernel
theorem dd_L_law_902 : decode code 902 = .ok (.iconst 0, 1) := by decide +kernel
theorem dd_L_law_903 : decode code 903 = .ok (.invokevirtual 94, 3) := by decide +kernel
theorem dd_L_law_906 : decode code 906 = .ok (.if_icmp .eq 825, 3) := by decide +kernel
theorem dd_L_law_909 : decode code 909 = .ok (.iconst 0, 1) := by decide +kernel
theorem dd_L_law_910 : decode code 910 = .ok (.ireturn, 1) := by decide +kernel
theorem dd_L_law_911 : decode code 911 = .ok (.aload_n 1, 1) := by decide +kernel
theorem dd_L_law_912 : decode code 912 = .ok (.aload_n 0, 1) := by decide +kernel
theorem dd_L_law_913 : decode code 913 = .ok (.iload_n 3, 1) := by decide +kernel
theorem dd_L_law_914 : decode code 914 = .ok (.iconst 1, 1) := by decide +kernel
theorem dd_L_law_915 : decode code 915 = .ok (.iadd, 1) := by decide +kernel
theorem dd_L_law_916 : decode code 916 = .ok (.iaload, 1) := by decide +kernel
theorem dd_L_law_917 : decode code 917 = .ok (.aload_n 0, 1) := by decide +kernel
theorem dd_L_law_918 : decode code 918 = .ok (.iload_n 3, 1) := by decide +kernel
theorem dd_L_law_919 : decode code 919 = .ok (.iconst 2, 1) := by decide +kernel
theorem dd_L_law_920 : decode code 920 = .ok (.iadd, 1) := by decide +kernel
theorem dd_L_law_921 : decode code 921 = .ok (.iaload, 1) := by decide +kernel
theorem dd_L_law_922 : decode code 922 = .ok (.invokevirtual 95, 3) := by decide +kernel
theorem dd_L_law_925 : decode code 925 = .ok (.aload_n 2, 1) := by decide +kernel
theorem dd_L_law_926 : decode code 926 = .ok (.aload_n 0, 1) := by decide +kernel
theorem dd_L_law_927 : decode code 927 = .ok (.iload_n 3, 1) := by decide +kernel
theorem dd_L_law_928 : decode code 928 = .ok (.iconst 1, 1) := by decide +kernel
theorem dd_L_law_929 : decode code 929 = .ok (.iadd, 1) := by decide +kernel
theorem dd_L_law_930 : decode code 930 = .ok (.iaload, 1) := by decide +kernel
theorem dd_L_law_931 : decode code 931 = .ok (.aload_n 0, 1) := by decide +kernel
theorem dd_L_law_932 : decode code 932 = .ok (.iload_n 3, 1) := by decide +kernel
theorem dd_L_law_933 : decode code 933 = .ok (.iconst 2, 1) := by decide +kernel
theorem dd_L_law_934 : decode code 934 = .ok (.iadd, 1) := by decide +kernel
theorem dd_L_law_935 : decode code 935 = .ok (.iaload, 1) := by decide +kernel
theorem dd_L_law_936 : decode code 936 = .ok (.invokevirtual 98, 3) := by decide +kernel
theorem dd_L_law_939 : decode code 939 = .ok (.if_icmp .eq 792, 3) := by decide +kernel
theorem dd_L_law_942 : decode code 942 = .ok (.iconst 0, 1) := by decide +kernel
theorem dd_L_law_943 : decode code 943 = .ok (.ireturn, 1) := by decide +kernel
theorem dd_L_law_944 : decode code 944 = .ok (.aload_n 1, 1) := by decide +kernel
theorem dd_L_law_945 : decode code 945 = .ok (.aload_n 0, 1) := by decide +kernel
theorem dd_L_law_946 : decode code 946 = .ok (.iload_n 3, 1) := by decide +kernel
theorem dd_L_law_947 : decode code 947 = .ok (.iconst 1, 1) := by decide +kernel
theorem dd_L_law_948 : decode code 948 = .ok (.iadd, 1) := by decide +kernel
theorem dd_L_law_949 : decode code 949 = .ok (.iaload, 1) := by decide +kernel
theorem dd_L_law_950 : decode code 950 = .ok (.aload_n 0, 1) := by decide +kernel
theorem dd_L_law_951 : decode code 951 = .ok (.iload_n 3, 1) := by decide +kernel
theorem dd_L_law_952 : decode code 952 = .ok (.iconst 2, 1) := by decide +kernel
theorem dd_L_law_953 : decode code 953 = .ok (.iadd, 1) := by decide +kernel
theorem dd_L_law_954 : decode code 954 = .ok (.iaload, 1) := by decide +kernel
theorem dd_L_law_955 : decode code 955 = .ok (.invokevirtual 99, 3) := by decide +kernel
theorem dd_L_law_958 : decode code 958 = .ok (.aload_n 2, 1) := by decide +kernel
theorem dd_L_law_959 : decode code 959 = .ok (.aload_n 0, 1) := by decide +kernel
theorem dd_L_law_960 : decode code 960 = .ok (.iload_n 3, 1) := by decide +kernel
theorem dd_L_law_961 : decode code 961 = .ok (.iconst 1, 1) := by decide +kernel
theorem dd_L_law_962 : decode code 962 = .ok (.iadd, 1) := by decide +kernel
theorem dd_L_law_963 : decode code 963 = .ok (.iaload, 1) := by decide +kernel
theorem dd_L_law_964 : decode code 964 = .ok (.aload_n 0, 1) := by decide +kernel
theorem dd_L_law_965 : decode code 965 = .ok (.iload_n 3, 1) := by decide +kernel
theorem dd_L_law_966 : decode code 966 = .ok (.iconst 2, 1) := by decide +kernel
theorem dd_L_law_967 : decode code 967 = .ok (.iadd, 1) := by decide +kernel
theorem dd_L_law_968 : decode code 968 = .ok (.iaload, 1) := by decide +kernel
theorem dd_L_law_969 : decode code 969 = .ok (.invokevirtual 102, 3) := by decide +kernel
theorem dd_L_law_972 : decode code 972 = .ok (.if_icmp .eq 759, 3) := by decide +kernel
theorem dd_L_law_975 : decode code 975 = .ok (.iconst 0, 1) := by decide +kernel
theorem dd_L_law_976 : decode code 976 = .ok (.ireturn, 1) := by decide +kernel
theorem dd_L_law_977 : decode code 977 = .ok (.aload_n 1, 1) := by decide +kernel
theorem dd_L_law_978 : decode code 978 = .ok (.aload_n 0, 1) := by decide +kernel
theorem dd_L_law_979 : decode code 979 = .ok (.iload_n 3, 1) := by decide +kernel
theorem dd_L_law_980 : decode code 980 = .ok (.iconst 1, 1) := by decide +kernel
theorem dd_L_law_981 : decode code 981 = .ok (.iadd, 1) := by decide +kernel
theorem dd_L_law_982 : decode code 982 = .ok (.iaload, 1) := by decide +kernel
theorem dd_L_law_983 : decode code 983 = .ok (.aload_n 0, 1) := by decide +kernel
theorem dd_L_law_984 : decode code 984 = .ok (.iload_n 3, 1) := by decide +kernel
theorem dd_L_law_985 : decode code 985 = .ok (.iconst 2, 1) := by decide +kernel
theorem dd_L_law_986 : decode code 986 = .ok (.iadd, 1) := by decide +kernel
theorem dd_L_law_987 : decode code 987 = .ok (.iaload, 1) := by decide +kernel
theorem dd_L_law_988 : decode code 988 = .ok (.aload_n 0, 1) := by decide +kernel
theorem dd_L_law_989 : decode code 989 = .ok (.iload_n 3, 1) := by decide +kernel
theorem dd_L_law_990 : decode code 990 = .ok (.iconst 3, 1) := by decide +kernel
theorem dd_L_law_991 : decode code 991 = .ok (.iadd, 1) := by decide +kernel
theorem dd_L_law_992 : decode code 992 = .ok (.iaload, 1) := by decide +kernel
theorem dd_L_law_993 : decode code 993 = .ok (.aload_n 0, 1) := by decide +kernel
theorem dd_L_law_994 : decode code 994 = .ok (.iload_n 3, 1) := by decide +kernel
theorem dd_L_law_995 : decode code 995 = .ok (.iconst 4, 1) := by decide +kernel
theorem dd_L_law_996 : decode code 996 = .ok (.iadd, 1) := by decide +kernel
theorem dd_L_law_997 : decode code 997 = .ok (.iaload, 1) := by decide +kernel
theorem dd_L_law_998 : decode code 998 = .ok (.invokevirtual 103, 3) := by decide +kernel
theorem dd_L_law_1001 : decode code 1001 = .ok (.aload_n 2, 1) := by decide +kernel
theorem dd_L_law_1002 : decode code 1002 = .ok (.aload_n 0, 1) := by decide +kernel
theorem dd_L_law_1003 : decode code 1003 = .ok (.iload_n 3, 1) := by decide +kernel
theorem dd_L_law_1004 : decode code 1004 = .ok (.iconst 1, 1) := by decide +kernel
theorem dd_L_law_1005 : decode code 1005 = .ok (.iadd, 1) := by decide +kernel
theorem dd_L_law_1006 : decode code 1006 = .ok (.iaload, 1) := by decide +kernel
theorem dd_L_law_1007 : decode code 1007 = .ok (.aload_n 0, 1) := by decide +kernel
theorem dd_L_law_1008 : decode code 1008 = .ok (.iload_n 3, 1) := by decide +kernel
theorem dd_L_law_1009 : decode code 1009 = .ok (.iconst 2, 1) := by decide +kernel
theorem dd_L_law_1010 : decode code 1010 = .ok (.iadd, 1) := by decide +kernel
theorem dd_L_law_1011 : decode code 1011 = .ok (.iaload, 1) := by decide +kernel
theorem dd_L_law_1012 : decode code 1012 = .ok (.aload_n 0, 1) := by decide +kernel
theorem dd_L_law_1013 : decode code 1013 = .ok (.iload_n 3, 1) := by decide +kernel
theorem dd_L_law_1014 : decode code 1014 = .ok (.iconst 3, 1) := by decide +kernel
theorem dd_L_law_1015 : decode code 1015 = .ok (.iadd, 1) := by decide +kernel
theorem dd_L_law_1016 : decode code 1016 = .ok (.iaload, 1) := by decide +kernel
theorem dd_L_law_1017 : decode code 1017 = .ok (.aload_n 0, 1) := by decide +kernel
theorem dd_L_law_1018 : decode code 1018 = .ok (.iload_n 3, 1) := by decide +kernel
theorem dd_L_law_1019 : decode code 1019 = .ok (.iconst 4, 1) := by decide +kernel
theorem dd_L_law_1020 : decode code 1020 = .ok (.iadd, 1) := by decide +kernel
theorem dd_L_law_1021 : decode code 1021 = .ok (.iaload, 1) := by decide +kernel
theorem dd_L_law_1022 : decode code 1022 = .ok (.invokevirtual 107, 3) := by decide +kernel
theorem dd_L_law_1025 : decode code 1025 = .ok (.if_icmp .eq 706, 3) := by decide +kernel
theorem dd_L_law_1028 : decode code 1028 = .ok (.iconst 0, 1) := by decide +kernel
theorem dd_L_law_1029 : decode code 1029 = .ok (.ireturn, 1) := by decide +kernel
theorem dd_L_law_1030 : decode code 1030 = .ok (.aload_n 1, 1) := by decide +kernel
theorem dd_L_law_1031 : decode code 1031 = .ok (.aload_n 0, 1) := by decide +kernel
theorem dd_L_law_1032 : decode code 1032 = .ok (.iload_n 3, 1) := by decide +kernel
theorem dd_L_law_1033 : decode code 1033 = .ok (.iconst 1, 1) := by decide +kernel
theorem dd_L_law_1034 : decode code 1034 = .ok (.iadd, 1) := by decide +kernel
theorem dd_L_law_1035 : decode code 1035 = .ok (.iaload, 1) := by decide +kernel
theorem dd_L_law_1036 : decode code 1036 = .ok (.aload_n 0, 1) := by decide +kernel
theorem dd_L_law_1037 : decode code 1037 = .ok (.iload_n 3, 1) := by decide +kernel
theorem dd_L_law_1038 : decode code 1038 = .ok (.iconst 2, 1) := by decide +kernel
theorem dd_L_law_1039 : decode code 1039 = .ok (.iadd, 1) := by decide +kernel
theorem dd_L_law_1040 : decode code 1040 = .ok (.iaload, 1) := by decide +kernel
theorem dd_L_law_1041 : decode code 1041 = .ok (.invokevirtual 108, 3) := by decide +kernel
theorem dd_L_law_1044 : decode code 1044 = .ok (.aload_n 2, 1) := by decide +kernel
theorem dd_L_law_1045 : decode code 1045 = .ok (.aload_n 0, 1) := by decide +kernel
theorem dd_L_law_1046 : decode code 1046 = .ok (.iload_n 3, 1) := by decide +kernel
theorem dd_L_law_1047 : decode code 1047 = .ok (.iconst 1, 1) := by decide +kernel
theorem dd_L_law_1048 : decode code 1048 = .ok (.iadd, 1) := by decide +kernel
theorem dd_L_law_1049 : decode code 1049 = .ok (.iaload, 1) := by decide +kernel
theorem dd_L_law_1050 : decode code 1050 = .ok (.aload_n 0, 1) := by decide +kernel
theorem dd_L_law_1051 : decode code 1051 = .ok (.iload_n 3, 1) := by decide +kernel
theorem dd_L_law_1052 : decode code 1052 = .ok (.iconst 2, 1) := by decide +kernel
theorem dd_L_law_1053 : decode code 1053 = .ok (.iadd, 1) := by decide +kernel
theorem dd_L_law_1054 : decode code 1054 = .ok (.iaload, 1) := by decide +kernel
theorem dd_L_law_1055 : decode code 1055 = .ok (.invokevirtual 111, 3) := by decide +kernel
theorem dd_L_law_1058 : decode code 1058 = .ok (.if_icmp .eq 673, 3) := by decide +kernel
theorem dd_L_law_1061 : decode code 1061 = .ok (.iconst 0, 1) := by decide +kernel
theorem dd_L_law_1062 : decode code 1062 = .ok (.ireturn, 1) := by decide +kernel
theorem dd_L_law_1063 : decode code 1063 = .ok (.aload_n 1, 1) := by decide +kernel
theorem dd_L_law_1064 : decode code 1064 = .ok (.aload_n 0, 1) := by decide +kernel
theorem dd_L_law_1065 : decode code 1065 = .ok (.iload_n 3, 1) := by decide +kernel
theorem dd_L_law_1066 : decode code 1066 = .ok (.iconst 1, 1) := by decide +kernel
theorem dd_L_law_1067 : decode code 1067 = .ok (.iadd, 1) := by decide +kernel
theorem dd_L_law_1068 : decode code 1068 = .ok (.iaload, 1) := by decide +kernel
theorem dd_L_law_1069 : decode code 1069 = .ok (.aload_n 0, 1) := by decide +kernel
theorem dd_L_law_1070 : decode code 1070 = .ok (.iload_n 3, 1) := by decide +kernel
theorem dd_L_law_1071 : decode code 1071 = .ok (.iconst 2, 1) := by decide +kernel
theorem dd_L_law_1072 : decode code 1072 = .ok (.iadd, 1) := by decide +kernel
theorem dd_L_law_1073 : decode code 1073 = .ok (.iaload, 1) := by decide +kernel
theorem dd_L_law_1074 : decode code 1074 = .ok (.invokevirtual 112, 3) := by decide +kernel
theorem dd_L_law_1077 : decode code 1077 = .ok (.aload_n 2, 1) := by decide +kernel
theorem dd_L_law_1078 : decode code 1078 = .ok (.aload_n 0, 1) := by decide +kernel
theorem dd_L_law_1079 : decode code 1079 = .ok (.iload_n 3, 1) := by decide +kernel
theorem dd_L_law_1080 : decode code 1080 = .ok (.iconst 1, 1) := by decide +kernel
theorem dd_L_law_1081 : decode code 1081 = .ok (.iadd, 1) := by decide +kernel
theorem dd_L_law_1082 : decode code 1082 = .ok (.iaload, 1) := by decide +kernel
theorem dd_L_law_1083 : decode code 1083 = .ok (.aload_n 0, 1) := by decide +kernel
theorem dd_L_law_1084 : decode code 1084 = .ok (.iload_n 3, 1) := by decide +kernel
theorem dd_L_law_1085 : decode code 1085 = .ok (.iconst 2, 1) := by decide +kernel
theorem dd_L_law_1086 : decode code 1086 = .ok (.iadd, 1) := by decide +kernel
theorem dd_L_law_1087 : decode code 1087 = .ok (.iaload, 1) := by decide +kernel
theorem dd_L_law_1088 : decode code 1088 = .ok (.invokevirtual 115, 3) := by decide +kernel
theorem dd_L_law_1091 : decode code 1091 = .ok (.if_icmp .eq 640, 3) := by decide +kernel
theorem dd_L_law_1094 : decode code 1094 = .ok (.iconst 0, 1) := by decide +kernel
theorem dd_L_law_1095 : decode code 1095 = .ok (.ireturn, 1) := by decide +kernel
theorem dd_L_law_1096 : decode code 1096 = .ok (.aload_n 1, 1) := by decide +kernel
theorem dd_L_law_1097 : decode code 1097 = .ok (.aload_n 0, 1) := by decide +kernel
theorem dd_L_law_1098 : decode code 1098 = .ok (.iload_n 3, 1) := by decide +kernel
theorem dd_L_law_1099 : decode code 1099 = .ok (.iconst 1, 1) := by decide +kernel
theorem dd_L_law_1100 : decode code 1100 = .ok (.iadd, 1) := by decide +kernel
theorem dd_L_law_1101 : decode code 1101 = .ok (.iaload, 1) := by decide +kernel
theorem dd_L_law_1102 : decode code 1102 = .ok (.aload_n 0, 1) := by decide +kernel
theorem dd_L_law_1103 : decode code 1103 = .ok (.iload_n 3, 1) := by decide +kernel
theorem dd_L_law_1104 : decode code 1104 = .ok (.iconst 2, 1) := by decide +kernel
theorem dd_L_law_1105 : decode code 1105 = .ok (.iadd, 1) := by decide +kernel
theorem dd_L_law_1106 : decode code 1106 = .ok (.iaload, 1) := by decide +kernel
theorem dd_L_law_1107 : decode code 1107 = .ok (.invokevirtual 116, 3) := by decide +kernel
theorem dd_L_law_1110 : decode code 1110 = .ok (.aload_n 2, 1) := by decide +kernel
theorem dd_L_law_1111 : decode code 1111 = .ok (.aload_n 0, 1) := by decide +kernel
theorem dd_L_law_1112 : decode code 1112 = .ok (.iload_n 3, 1) := by decide +kernel
theorem dd_L_law_1113 : decode code 1113 = .ok (.iconst 1, 1) := by decide +kernel
theorem dd_L_law_1114 : decode code 1114 = .ok (.iadd, 1) := by decide +kernel
theorem dd_L_law_1115 : decode code 1115 = .ok (.iaload, 1) := by decide +kernel
theorem dd_L_law_1116 : decode code 1116 = .ok (.aload_n 0, 1) := by decide +kernel
theorem dd_L_law_1117 : decode code 1117 = .ok (.iload_n 3, 1) := by decide +kernel
theorem dd_L_law_1118 : decode code 1118 = .ok (.iconst 2, 1) := by decide +kernel
theorem dd_L_law_1119 : decode code 1119 = .ok (.iadd, 1) := by decide +kernel
theorem dd_L_law_1120 : decode code 1120 = .ok (.iaload, 1) := by decide +kernel
theorem dd_L_law_1121 : decode code 1121 = .ok (.invokevirtual 119, 3) := by decide +kernel
theorem dd_L_law_1124 : decode code 1124 = .ok (.if_icmp .eq 607, 3) := by decide +kernel
theorem dd_L_law_1127 : decode code 1127 = .ok (.iconst 0, 1) := by decide +kernel
theorem dd_L_law_1128 : decode code 1128 = .ok (.ireturn, 1) := by decide +kernel
theorem dd_L_law_1129 : decode code 1129 = .ok (.aload_n 1, 1) := by decide +kernel
theorem dd_L_law_1130 : decode code 1130 = .ok (.aload_n 0, 1) := by decide +kernel
theorem dd_L_law_1131 : decode code 1131 = .ok (.iload_n 3, 1) := by decide +kernel
theorem dd_L_law_1132 : decode code 1132 = .ok (.iconst 1, 1) := by decide +kernel
theorem dd_L_law_1133 : decode code 1133 = .ok (.iadd, 1) := by decide +kernel
theorem dd_L_law_1134 : decode code 1134 = .ok (.iaload, 1) := by decide +kernel
theorem dd_L_law_1135 : decode code 1135 = .ok (.aload_n 0, 1) := by decide +kernel
theorem dd_L_law_1136 : decode code 1136 = .ok (.iload_n 3, 1) := by decide +kernel
theorem dd_L_law_1137 : decode code 1137 = .ok (.iconst 2, 1) := by decide +kernel
theorem dd_L_law_1138 : decode code 1138 = .ok (.iadd, 1) := by decide +kernel
theorem dd_L_law_1139 : decode code 1139 = .ok (.iaload, 1) := by decide +kernel
theorem dd_L_law_1140 : decode code 1140 = .ok (.invokevirtual 120, 3) := by decide +kernel
theorem dd_L_law_1143 : decode code 1143 = .ok (.aload_n 2, 1) := by decide +kernel
theorem dd_L_law_1144 : decode code 1144 = .ok (.aload_n 0, 1) := by decide +kernel
theorem dd_L_law_1145 : decode code 1145 = .ok (.iload_n 3, 1) := by decide +kernel
theorem dd_L_law_1146 : decode code 1146 = .ok (.iconst 1, 1) := by decide +kernel
theorem dd_L_law_1147 : decode code 1147 = .ok (.iadd, 1) := by decide +kernel
theorem dd_L_law_1148 : decode code 1148 = .ok (.iaload, 1) := by decide +kernel
theorem dd_L_law_1149 : decode code 1149 = .ok (.aload_n 0, 1) := by decide +kernel
theorem dd_L_law_1150 : decode code 1150 = .ok (.iload_n 3, 1) := by decide +kernel
theorem dd_L_law_1151 : decode code 1151 = .ok (.iconst 2, 1) := by decide +kernel
theorem dd_L_law_1152 : decode code 1152 = .ok (.iadd, 1) := by decide +kernel
theorem dd_L_law_1153 : decode code 1153 = .ok (.iaload, 1) := by decide +kernel
theorem dd_L_law_1154 : decode code 1154 = .ok (.invokevirtual 123, 3) := by decide +kernel
theorem dd_L_law_1157 : decode code 1157 = .ok (.if_icmp .eq 574, 3) := by decide +kernel
theorem dd_L_law_1160 : decode code 1160 = .ok (.iconst 0, 1) := by decide +kernel
theorem dd_L_law_1161 : decode code 1161 = .ok (.ireturn, 1) := by decide +kernel
theorem dd_L_law_1162 : decode code 1162 = .ok (.aload_n 1, 1) := by decide +kernel
theorem dd_L_law_1163 : decode code 1163 = .ok (.aload_n 0, 1) := by decide +kernel
theorem dd_L_law_1164 : decode code 1164 = .ok (.iload_n 3, 1) := by decide +kernel
theorem dd_L_law_1165 : decode code 1165 = .ok (.iconst 1, 1) := by decide +kernel
theorem dd_L_law_1166 : decode code 1166 = .ok (.iadd, 1) := by decide +kernel
theorem dd_L_law_1167 : decode code 1167 = .ok (.iaload, 1) := by decide +kernel
theorem dd_L_law_1168 : decode code 1168 = .ok (.aload_n 0, 1) := by decide +kernel
theorem dd_L_law_1169 : decode code 1169 = .ok (.iload_n 3, 1) := by decide +kernel
theorem dd_L_law_1170 : decode code 1170 = .ok (.iconst 2, 1) := by decide +kernel
theorem dd_L_law_1171 : decode code 1171 = .ok (.iadd, 1) := by decide +kernel
theorem dd_L_law_1172 : decode code 1172 = .ok (.iaload, 1) := by decide +kernel
theorem dd_L_law_1173 : decode code 1173 = .ok (.invokevirtual 124, 3) := by decide +kernel
theorem dd_L_law_1176 : decode code 1176 = .ok (.aload_n 2, 1) := by decide +kernel
theorem dd_L_law_1177 : decode code 1177 = .ok (.aload_n 0, 1) := by decide +kernel
theorem dd_L_law_1178 : decode code 1178 = .ok (.iload_n 3, 1) := by decide +kernel
theorem dd_L_law_1179 : decode code 1179 = .ok (.iconst 1, 1) := by decide +kernel
theorem dd_L_law_1180 : decode code 1180 = .ok (.iadd, 1) := by decide +kernel
theorem dd_L_law_1181 : decode code 1181 = .ok (.iaload, 1) := by decide +kernel
theorem dd_L_law_1182 : decode code 1182 = .ok (.aload_n 0, 1) := by decide +kernel
theorem dd_L_law_1183 : decode code 1183 = .ok (.iload_n 3, 1) := by decide +kernel
theorem dd_L_law_1184 : decode code 1184 = .ok (.iconst 2, 1) := by decide +kernel
theorem dd_L_law_1185 : decode code 1185 = .ok (.iadd, 1) := by decide +kernel
theorem dd_L_law_1186 : decode code 1186 = .ok (.iaload, 1) := by decide +kernel
theorem dd_L_law_1187 : decode code 1187 = .ok (.invokevirtual 127, 3) := by decide +kernel
theorem dd_L_law_1190 : decode code 1190 = .ok (.if_icmp .eq 541, 3) := by decide +kernel
theorem dd_L_law_1193 : decode code 1193 = .ok (.iconst 0, 1) := by decide +kernel
theorem dd_L_law_1194 : decode code 1194 = .ok (.ireturn, 1) := by decide +kernel
theorem dd_L_law_1195 : decode code 1195 = .ok (.aload_n 1, 1) := by decide +kernel
theorem dd_L_law_1196 : decode code 1196 = .ok (.invokevirtual 128, 3) := by decide +kernel
theorem dd_L_law_1199 : decode code 1199 = .ok (.aload_n 2, 1) := by decide +kernel
theorem dd_L_law_1200 : decode code 1200 = .ok (.invokevirtual 131, 3) := by decide +kernel
theorem dd_L_law_1203 : decode code 1203 = .ok (.if_icmp .eq 528, 3) := by decide +kernel
theorem dd_L_law_1206 : decode code 1206 = .ok (.iconst 0, 1) := by decide +kernel
theorem dd_L_law_1207 : decode code 1207 = .ok (.ireturn, 1) := by decide +kernel
theorem dd_L_law_1208 : decode code 1208 = .ok (.aload_n 1, 1) := by decide +kernel
theorem dd_L_law_1209 : decode code 1209 = .ok (.aload_n 0, 1) := by decide +kernel
theorem dd_L_law_1210 : decode code 1210 = .ok (.iload_n 3, 1) := by decide +kernel
theorem dd_L_law_1211 : decode code 1211 = .ok (.iconst 1, 1) := by decide +kernel
theorem dd_L_law_1212 : decode code 1212 = .ok (.iadd, 1) := by decide +kernel
theorem dd_L_law_1213 : decode code 1213 = .ok (.iaload, 1) := by decide +kernel
theorem dd_L_law_1214 : decode code 1214 = .ok (.invokevirtual 132, 3) := by decide +kernel
theorem dd_L_law_1217 : decode code 1217 = .ok (.aload_n 2, 1) := by decide +kernel
theorem dd_L_law_1218 : decode code 1218 = .ok (.aload_n 0, 1) := by decide +kernel
theorem dd_L_law_1219 : decode code 1219 = .ok (.iload_n 3, 1) := by decide +kernel
theorem dd_L_law_1220 : decode code 1220 = .ok (.iconst 1, 1) := by decide +kernel
theorem dd_L_law_1221 : decode code 1221 = .ok (.iadd, 1) := by decide +kernel
theorem dd_L_law_1222 : decode code 1222 = .ok (.iaload, 1) := by decide +kernel
theorem dd_L_law_1223 : decode code 1223 = .ok (.invokevirtual 135, 3) := by decide +kernel
theorem dd_L_law_1226 : decode code 1226 = .ok (.if_icmp .eq 505, 3) := by decide +kernel
theorem dd_L_law_1229 : decode code 1229 = .ok (.iconst 0, 1) := by decide +kernel
theorem dd_L_law_1230 : decode code 1230 = .ok (.ireturn, 1) := by decide +kernel
theorem dd_L_law_1231 : decode code 1231 = .ok (.aload_n 1, 1) := by decide +kernel
theorem dd_L_law_1232 : decode code 1232 = .ok (.aload_n 0, 1) := by decide +kernel
theorem dd_L_law_1233 : decode code 1233 = .ok (.iload_n 3, 1) := by decide +kernel
theorem dd_L_law_1234 : decode code 1234 = .ok (.iconst 1, 1) := by decide +kernel
theorem dd_L_law_1235 : decode code 1235 = .ok (.iadd, 1) := by decide +kernel
theorem dd_L_law_1236 : decode code 1236 = .ok (.iaload, 1) := by decide +kernel
theorem dd_L_law_1237 : decode code 1237 = .ok (.invokevirtual 136, 3) := by decide +kernel
theorem dd_L_law_1240 : decode code 1240 = .ok (.aload_n 2, 1) := by decide +kernel
theorem dd_L_law_1241 : decode code 1241 = .ok (.aload_n 0, 1) := by decide +kernel
theorem dd_L_law_1242 : decode code 1242 = .ok (.iload_n 3, 1) := by decide +kernel
theorem dd_L_law_1243 : decode code 1243 = .ok (.iconst 1, 1) := by decide +kernel
theorem dd_L_law_1244 : decode code 1244 = .ok (.iadd, 1) := by decide +kernel
theorem dd_L_law_1245 : decode code 1245 = .ok (.iaload, 1) := by decide +kernel
theorem dd_L_law_1246 : decode code 1246 = .ok (.invokevirtual 139, 3) := by decide +kernel
theorem dd_L_law_1249 : decode code 1249 = .ok (.if_icmp .eq 482, 3) := by decide +kernel
theorem dd_L_law_1252 : decode code 1252 = .ok (.iconst 0, 1) := by decide +kernel
theorem dd_L_law_1253 : decode code 1253 = .ok (.ireturn, 1) := by decide +kernel
theorem dd_L_law_1254 : decode code 1254 = .ok (.aload_n 1, 1) := by decide +kernel
theorem dd_L_law_1255 : decode code 1255 = .ok (.aload_n 0, 1) := by decide +kernel
theorem dd_L_law_1256 : decode code 1256 = .ok (.iload_n 3, 1) := by decide +kernel
theorem dd_L_law_1257 : decode code 1257 = .ok (.iconst 1, 1) := by decide +kernel
theorem dd_L_law_1258 : decode code 1258 = .ok (.iadd, 1) := by decide +kernel
theorem dd_L_law_1259 : decode code 1259 = .ok (.iaload, 1) := by decide +kernel
theorem dd_L_law_1260 : decode code 1260 = .ok (.aload_n 0, 1) := by decide +kernel
theorem dd_L_law_1261 : decode code 1261 = .ok (.iload_n 3, 1) := by decide +kernel
theorem dd_L_law_1262 : decode code 1262 = .ok (.iconst 2, 1) := by decide +kernel
theorem dd_L_law_1263 : decode code 1263 = .ok (.iadd, 1) := by decide +kernel
theorem dd_L_law_1264 : decode code 1264 = .ok (.iaload, 1) := by decide +kernel
theorem dd_L_law_1265 : decode code 1265 = .ok (.invokevirtual 140, 3) := by decide +kernel
theorem dd_L_law_1268 : decode code 1268 = .ok (.aload_n 2, 1) := by decide +kernel
theorem dd_L_law_1269 : decode code 1269 = .ok (.aload_n 0, 1) := by decide +kernel
theorem dd_L_law_1270 : decode code 1270 = .ok (.iload_n 3, 1) := by decide +kernel
theorem dd_L_law_1271 : decode code 1271 = .ok (.iconst 1, 1) := by decide +kernel
theorem dd_L_law_1272 : decode code 1272 = .ok (.iadd, 1) := by decide +kernel
theorem dd_L_law_1273 : decode code 1273 = .ok (.iaload, 1) := by decide +kernel
theorem dd_L_law_1274 : decode code 1274 = .ok (.aload_n 0, 1) := by decide +kernel
theorem dd_L_law_1275 : decode code 1275 = .ok (.iload_n 3, 1) := by decide +kernel
theorem dd_L_law_1276 : decode code 1276 = .ok (.iconst 2, 1) := by decide +kernel
theorem dd_L_law_1277 : decode code 1277 = .ok (.iadd, 1) := by decide +kernel
theorem dd_L_law_1278 : decode code 1278 = .ok (.iaload, 1) := by decide +kernel
theorem dd_L_law_1279 : decode code 1279 = .ok (.invokevirtual 143, 3) := by decide +kernel
theorem dd_L_law_1282 : decode code 1282 = .ok (.if_icmp .eq 449, 3) := by decide +kernel
theorem dd_L_law_1285 : decode code 1285 = .ok (.iconst 0, 1) := by decide +kernel
theorem dd_L_law_1286 : decode code 1286 = .ok (.ireturn, 1) := by decide +kernel
theorem dd_L_law_1287 : decode code 1287 = .ok (.aload_n 1, 1) := by decide +kernel
theorem dd_L_law_1288 : decode code 1288 = .ok (.aload_n 0, 1) := by decide +kernel
theorem dd_L_law_1289 : decode code 1289 = .ok (.iload_n 3, 1) := by decide +kernel
theorem dd_L_law_1290 : decode code 1290 = .ok (.iconst 1, 1) := by decide +kernel
theorem dd_L_law_1291 : decode code 1291 = .ok (.iadd, 1) := by decide +kernel
theorem dd_L_law_1292 : decode code 1292 = .ok (.iaload, 1) := by decide +kernel
theorem dd_L_law_1293 : decode code 1293 = .ok (.invokevirtual 144, 3) := by decide +kernel
theorem dd_L_law_1296 : decode code 1296 = .ok (.aload_n 2, 1) := by decide +kernel
theorem dd_L_law_1297 : decode code 1297 = .ok (.aload_n 0, 1) := by decide +kernel
theorem dd_L_law_1298 : decode code 1298 = .ok (.iload_n 3, 1) := by decide +kernel
theorem dd_L_law_1299 : decode code 1299 = .ok (.iconst 1, 1) := by decide +kernel
theorem dd_L_law_1300 : decode code 1300 = .ok (.iadd, 1) := by decide +kernel
theorem dd_L_law_1301 : decode code 1301 = .ok (.iaload, 1) := by decide +kernel
theorem dd_L_law_1302 : decode code 1302 = .ok (.invokevirtual 147, 3) := by decide +kernel
theorem dd_L_law_1305 : decode code 1305 = .ok (.if_icmp .eq 426, 3) := by decide +kernel
theorem dd_L_law_1308 : decode code 1308 = .ok (.iconst 0, 1) := by decide +kernel
theorem dd_L_law_1309 : decode code 1309 = .ok (.ireturn, 1) := by decide +kernel
theorem dd_L_law_1310 : decode code 1310 = .ok (.aload_n 1, 1) := by decide +kernel
theorem dd_L_law_1311 : decode code 1311 = .ok (.aload_n 0, 1) := by decide +kernel
theorem dd_L_law_1312 : decode code 1312 = .ok (.iload_n 3, 1) := by decide +kernel
theorem dd_L_law_1313 : decode code 1313 = .ok (.iconst 1, 1) := by decide +kernel
theorem dd_L_law_1314 : decode code 1314 = .ok (.iadd, 1) := by decide +kernel
theorem dd_L_law_1315 : decode code 1315 = .ok (.iaload, 1) := by decide +kernel
theorem dd_L_law_1316 : decode code 1316 = .ok (.invokevirtual 148, 3) := by decide +kernel
theorem dd_L_law_1319 : decode code 1319 = .ok (.aload_n 2, 1) := by decide +kernel
theorem dd_L_law_1320 : decode code 1320 = .ok (.aload_n 0, 1) := by decide +kernel
theorem dd_L_law_1321 : decode code 1321 = .ok (.iload_n 3, 1) := by decide +kernel
theorem dd_L_law_1322 : decode code 1322 = .ok (.iconst 1, 1) := by decide +kernel
theorem dd_L_law_1323 : decode code 1323 = .ok (.iadd, 1) := by decide +kernel
theorem dd_L_law_1324 : decode code 1324 = .ok (.iaload, 1) := by decide +kernel
theorem dd_L_law_1325 : decode code 1325 = .ok (.invokevirtual 151, 3) := by decide +kernel
theorem dd_L_law_1328 : decode code 1328 = .ok (.if_icmp .eq 403, 3) := by decide +kernel
theorem dd_L_law_1331 : decode code 1331 = .ok (.iconst 0, 1) := by decide +kernel
theorem dd_L_law_1332 : decode code 1332 = .ok (.ireturn, 1) := by decide +kernel
theorem dd_L_law_1333 : decode code 1333 = .ok (.aload_n 1, 1) := by decide +kernel
theorem dd_L_law_1334 : decode code 1334 = .ok (.invokevirtual 152, 3) := by decide +kernel
theorem dd_L_law_1337 : decode code 1337 = .ok (.aload_n 2, 1) := by decide +kernel
theorem dd_L_law_1338 : decode code 1338 = .ok (.invokevirtual 155, 3) := by decide +kernel
theorem dd_L_law_1341 : decode code 1341 = .ok (.if_icmp .eq 390, 3) := by decide +kernel
theorem dd_L_law_1344 : decode code 1344 = .ok (.iconst 0, 1) := by decide +kernel
theorem dd_L_law_1345 : decode code 1345 = .ok (.ireturn, 1) := by decide +kernel
theorem dd_L_law_1346 : decode code 1346 = .ok (.aload_n 1, 1) := by decide +kernel
theorem dd_L_law_1347 : decode code 1347 = .ok (.aload_n 0, 1) := by decide +kernel
theorem dd_L_law_1348 : decode code 1348 = .ok (.iload_n 3, 1) := by decide +kernel
theorem dd_L_law_1349 : decode code 1349 = .ok (.iconst 1, 1) := by decide +kernel
theorem dd_L_law_1350 : decode code 1350 = .ok (.iadd, 1) := by decide +kernel
theorem dd_L_law_1351 : decode code 1351 = .ok (.iaload, 1) := by decide +kernel
theorem dd_L_law_1352 : decode code 1352 = .ok (.invokevirtual 156, 3) := by decide +kernel
theorem dd_L_law_1355 : decode code 1355 = .ok (.aload_n 2, 1) := by decide +kernel
theorem dd_L_law_1356 : decode code 1356 = .ok (.aload_n 0, 1) := by decide +kernel
theorem dd_L_law_1357 : decode code 1357 = .ok (.iload_n 3, 1) := by decide +kernel
theorem dd_L_law_1358 : decode code 1358 = .ok (.iconst 1, 1) := by decide +kernel
theorem dd_L_law_1359 : decode code 1359 = .ok (.iadd, 1) := by decide +kernel
theorem dd_L_law_1360 : decode code 1360 = .ok (.iaload, 1) := by decide +kernel
theorem dd_L_law_1361 : decode code 1361 = .ok (.invokevirtual 159, 3) := by decide +kernel
theorem dd_L_law_1364 : decode code 1364 = .ok (.if_icmp .eq 367, 3) := by decide +kernel
theorem dd_L_law_1367 : decode code 1367 = .ok (.iconst 0, 1) := by decide +kernel
theorem dd_L_law_1368 : decode code 1368 = .ok (.ireturn, 1) := by decide +kernel
theorem dd_L_law_1369 : decode code 1369 = .ok (.aload_n 1, 1) := by decide +kernel
theorem dd_L_law_1370 : decode code 1370 = .ok (.aload_n 0, 1) := by decide +kernel
theorem dd_L_law_1371 : decode code 1371 = .ok (.iload_n 3, 1) := by decide +kernel
theorem dd_L_law_1372 : decode code 1372 = .ok (.iconst 1, 1) := by decide +kernel
theorem dd_L_law_1373 : decode code 1373 = .ok (.iadd, 1) := by decide +kernel
theorem dd_L_law_1374 : decode code 1374 = .ok (.iaload, 1) := by decide +kernel
theorem dd_L_law_1375 : decode code 1375 = .ok (.invokevirtual 160, 3) := by decide +kernel
theorem dd_L_law_1378 : decode code 1378 = .ok (.aload_n 2, 1) := by decide +kernel
theorem dd_L_law_1379 : decode code 1379 = .ok (.aload_n 0, 1) := by decide +kernel
theorem dd_L_law_1380 : decode code 1380 = .ok (.iload_n 3, 1) := by decide +kernel
theorem dd_L_law_1381 : decode code 1381 = .ok (.iconst 1, 1) := by decide +kernel
theorem dd_L_law_1382 : decode code 1382 = .ok (.iadd, 1) := by decide +kernel
theorem dd_L_law_1383 : decode code 1383 = .ok (.iaload, 1) := by decide +kernel
theorem dd_L_law_1384 : decode code 1384 = .ok (.invokevirtual 163, 3) := by decide +kernel
theorem dd_L_law_1387 : decode code 1387 = .ok (.if_icmp .eq 344, 3) := by decide +kernel
theorem dd_L_law_1390 : decode code 1390 = .ok (.iconst 0, 1) := by decide +kernel
theorem dd_L_law_1391 : decode code 1391 = .ok (.ireturn, 1) := by decide +kernel
theorem dd_L_law_1392 : decode code 1392 = .ok (.aload_n 1, 1) := by decide +kernel
theorem dd_L_law_1393 : decode code 1393 = .ok (.aload_n 0, 1) := by decide +kernel
theorem dd_L_law_1394 : decode code 1394 = .ok (.iload_n 3, 1) := by decide +kernel
theorem dd_L_law_1395 : decode code 1395 = .ok (.iconst 1, 1) := by decide +kernel
theorem dd_L_law_1396 : decode code 1396 = .ok (.iadd, 1) := by decide +kernel
theorem dd_L_law_1397 : decode code 1397 = .ok (.iaload, 1) := by decide +kernel
theorem dd_L_law_1398 : decode code 1398 = .ok (.invokevirtual 164, 3) := by decide +kernel
theorem dd_L_law_1401 : decode code 1401 = .ok (.aload_n 2, 1) := by decide +kernel
theorem dd_L_law_1402 : decode code 1402 = .ok (.aload_n 0, 1) := by decide +kernel
theorem dd_L_law_1403 : decode code 1403 = .ok (.iload_n 3, 1) := by decide +kernel
theorem dd_L_law_1404 : decode code 1404 = .ok (.iconst 1, 1) := by decide +kernel
theorem dd_L_law_1405 : decode code 1405 = .ok (.iadd, 1) := by decide +kernel
theorem dd_L_law_1406 : decode code 1406 = .ok (.iaload, 1) := by decide +kernel
theorem dd_L_law_1407 : decode code 1407 = .ok (.invokevirtual 167, 3) := by decide +kernel
theorem dd_L_law_1410 : decode code 1410 = .ok (.if_icmp .eq 321, 3) := by decide +kernel
theorem dd_L_law_1413 : decode code 1413 = .ok (.iconst 0, 1) := by decide +kernel
theorem dd_L_law_1414 : decode code 1414 = .ok (.ireturn, 1) := by decide +kernel
theorem dd_L_law_1415 : decode code 1415 = .ok (.aload_n 1, 1) := by decide +kernel
theorem dd_L_law_1416 : decode code 1416 = .ok (.aload_n 0, 1) := by decide +kernel
theorem dd_L_law_1417 : decode code 1417 = .ok (.iload_n 3, 1) := by decide +kernel
theorem dd_L_law_1418 : decode code 1418 = .ok (.iconst 1, 1) := by decide +kernel
theorem dd_L_law_1419 : decode code 1419 = .ok (.iadd, 1) := by decide +kernel
theorem dd_L_law_1420 : decode code 1420 = .ok (.iaload, 1) := by decide +kernel
theorem dd_L_law_1421 : decode code 1421 = .ok (.aload_n 0, 1) := by decide +kernel
theorem dd_L_law_1422 : decode code 1422 = .ok (.iload_n 3, 1) := by decide +kernel
theorem dd_L_law_1423 : decode code 1423 = .ok (.iconst 2, 1) := by decide +kernel
theorem dd_L_law_1424 : decode code 1424 = .ok (.iadd, 1) := by decide +kernel
theorem dd_L_law_1425 : decode code 1425 = .ok (.iaload, 1) := by decide +kernel
theorem dd_L_law_1426 : decode code 1426 = .ok (.aload_n 0, 1) := by decide +kernel
theorem dd_L_law_1427 : decode code 1427 = .ok (.iload_n 3, 1) := by decide +kernel
theorem dd_L_law_1428 : decode code 1428 = .ok (.iconst 3, 1) := by decide +kernel
theorem dd_L_law_1429 : decode code 1429 = .ok (.iadd, 1) := by decide +kernel
theorem dd_L_law_1430 : decode code 1430 = .ok (.iaload, 1) := by decide +kernel
theorem dd_L_law_1431 : decode code 1431 = .ok (.aload_n 0, 1) := by decide +kernel
theorem dd_L_law_1432 : decode code 1432 = .ok (.iload_n 3, 1) := by decide +kernel
theorem dd_L_law_1433 : decode code 1433 = .ok (.iconst 4, 1) := by decide +kernel
theorem dd_L_law_1434 : decode code 1434 = .ok (.iadd, 1) := by decide +kernel
theorem dd_L_law_1435 : decode code 1435 = .ok (.iaload, 1) := by decide +kernel
theorem dd_L_law_1436 : decode code 1436 = .ok (.invokevirtual 168, 3) := by decide +kernel
theorem dd_L_law_1439 : decode code 1439 = .ok (.aload_n 2, 1) := by decide +kernel
theorem dd_L_law_1440 : decode code 1440 = .ok (.aload_n 0, 1) := by decide +kernel
theorem dd_L_law_1441 : decode code 1441 = .ok (.iload_n 3, 1) := by decide +kernel
theorem dd_L_law_1442 : decode code 1442 = .ok (.iconst 1, 1) := by decide +kernel
theorem dd_L_law_1443 : decode code 1443 = .ok (.iadd, 1) := by decide +kernel
theorem dd_L_law_1444 : decode code 1444 = .ok (.iaload, 1) := by decide +kernel
theorem dd_L_law_1445 : decode code 1445 = .ok (.aload_n 0, 1) := by decide +kernel
theorem dd_L_law_1446 : decode code 1446 = .ok (.iload_n 3, 1) := by decide +kernel
theorem dd_L_law_1447 : decode code 1447 = .ok (.iconst 2, 1) := by decide +kernel
theorem dd_L_law_1448 : decode code 1448 = .ok (.iadd, 1) := by decide +kernel
theorem dd_L_law_1449 : decode code 1449 = .ok (.iaload, 1) := by decide +kernel
theorem dd_L_law_1450 : decode code 1450 = .ok (.aload_n 0, 1) := by decide +kernel
theorem dd_L_law_1451 : decode code 1451 = .ok (.iload_n 3, 1) := by decide +kernel
theorem dd_L_law_1452 : decode code 1452 = .ok (.iconst 3, 1) := by decide +kernel
theorem dd_L_law_1453 : decode code 1453 = .ok (.iadd, 1) := by decide +kernel
theorem dd_L_law_1454 : decode code 1454 = .ok (.iaload, 1) := by decide +kernel
theorem dd_L_law_1455 : decode code 1455 = .ok (.aload_n 0, 1) := by decide +kernel
theorem dd_L_law_1456 : decode code 1456 = .ok (.iload_n 3, 1) := by decide +kernel
theorem dd_L_law_1457 : decode code 1457 = .ok (.iconst 4, 1) := by decide +kernel
theorem dd_L_law_1458 : decode code 1458 = .ok (.iadd, 1) := by decide +kernel
theorem dd_L_law_1459 : decode code 1459 = .ok (.iaload, 1) := by decide +kernel
theorem dd_L_law_1460 : decode code 1460 = .ok (.invokevirtual 171, 3) := by decide +kernel
theorem dd_L_law_1463 : decode code 1463 = .ok (.if_icmp .eq 268, 3) := by decide +kernel
theorem dd_L_law_1466 : decode code 1466 = .ok (.iconst 0, 1) := by decide +kernel
theorem dd_L_law_1467 : decode code 1467 = .ok (.ireturn, 1) := by decide +kernel
theorem dd_L_law_1468 : decode code 1468 = .ok (.aload_n 1, 1) := by decide +kernel
theorem dd_L_law_1469 : decode code 1469 = .ok (.aload_n 0, 1) := by decide +kernel
theorem dd_L_law_1470 : decode code 1470 = .ok (.iload_n 3, 1) := by decide +kernel
theorem dd_L_law_1471 : decode code 1471 = .ok (.iconst 1, 1) := by decide +kernel
theorem dd_L_law_1472 : decode code 1472 = .ok (.iadd, 1) := by decide +kernel
theorem dd_L_law_1473 : decode code 1473 = .ok (.iaload, 1) := by decide +kernel
theorem dd_L_law_1474 : decode code 1474 = .ok (.aload_n 0, 1) := by decide +kernel
theorem dd_L_law_1475 : decode code 1475 = .ok (.iload_n 3, 1) := by decide +kernel
theorem dd_L_law_1476 : decode code 1476 = .ok (.iconst 2, 1) := by decide +kernel
theorem dd_L_law_1477 : decode code 1477 = .ok (.iadd, 1) := by decide +kernel
theorem dd_L_law_1478 : decode code 1478 = .ok (.iaload, 1) := by decide +kernel
theorem dd_L_law_1479 : decode code 1479 = .ok (.invokevirtual 172, 3) := by decide +kernel
theorem dd_L_law_1482 : decode code 1482 = .ok (.aload_n 2, 1) := by decide +kernel
theorem dd_L_law_1483 : decode code 1483 = .ok (.aload_n 0, 1) := by decide +kernel
theorem dd_L_law_1484 : decode code 1484 = .ok (.iload_n 3, 1) := by decide +kernel
theorem dd_L_law_1485 : decode code 1485 = .ok (.iconst 1, 1) := by decide +kernel
theorem dd_L_law_1486 : decode code 1486 = .ok (.iadd, 1) := by decide +kernel
theorem dd_L_law_1487 : decode code 1487 = .ok (.iaload, 1) := by decide +kernel
theorem dd_L_law_1488 : decode code 1488 = .ok (.aload_n 0, 1) := by decide +kernel
theorem dd_L_law_1489 : decode code 1489 = .ok (.iload_n 3, 1) := by decide +kernel
theorem dd_L_law_1490 : decode code 1490 = .ok (.iconst 2, 1) := by decide +kernel
theorem dd_L_law_1491 : decode code 1491 = .ok (.iadd, 1) := by decide +kernel
theorem dd_L_law_1492 : decode code 1492 = .ok (.iaload, 1) := by decide +kernel
theorem dd_L_law_1493 : decode code 1493 = .ok (.invokevirtual 175, 3) := by decide +kernel
theorem dd_L_law_1496 : decode code 1496 = .ok (.if_icmp .eq 235, 3) := by decide +kernel
theorem dd_L_law_1499 : decode code 1499 = .ok (.iconst 0, 1) := by decide +kernel
theorem dd_L_law_1500 : decode code 1500 = .ok (.ireturn, 1) := by decide +kernel
theorem dd_L_law_1501 : decode code 1501 = .ok (.aload_n 1, 1) := by decide +kernel
theorem dd_L_law_1502 : decode code 1502 = .ok (.invokevirtual 176, 3) := by decide +kernel
theorem dd_L_law_1505 : decode code 1505 = .ok (.aload_n 2, 1) := by decide +kernel
theorem dd_L_law_1506 : decode code 1506 = .ok (.invokevirtual 179, 3) := by decide +kernel
theorem dd_L_law_1509 : decode code 1509 = .ok (.if_icmp .eq 222, 3) := by decide +kernel
theorem dd_L_law_1512 : decode code 1512 = .ok (.iconst 0, 1) := by decide +kernel
theorem dd_L_law_1513 : decode code 1513 = .ok (.ireturn, 1) := by decide +kernel
theorem dd_L_law_1514 : decode code 1514 = .ok (.aload_n 1, 1) := by decide +kernel
theorem dd_L_law_1515 : decode code 1515 = .ok (.invokevirtual 180, 3) := by decide +kernel
theorem dd_L_law_1518 : decode code 1518 = .ok (.aload_n 2, 1) := by decide +kernel
theorem dd_L_law_1519 : decode code 1519 = .ok (.invokevirtual 183, 3) := by decide +kernel
theorem dd_L_law_1522 : decode code 1522 = .ok (.if_icmp .eq 209, 3) := by decide +kernel
theorem dd_L_law_1525 : decode code 1525 = .ok (.iconst 0, 1) := by decide +kernel
theorem dd_L_law_1526 : decode code 1526 = .ok (.ireturn, 1) := by decide +kernel
theorem dd_L_law_1527 : decode code 1527 = .ok (.aload_n 1, 1) := by decide +kernel
theorem dd_L_law_1528 : decode code 1528 = .ok (.aload_n 0, 1) := by decide +kernel
theorem dd_L_law_1529 : decode code 1529 = .ok (.iload_n 3, 1) := by decide +kernel
theorem dd_L_law_1530 : decode code 1530 = .ok (.iconst 1, 1) := by decide +kernel
theorem dd_L_law_1531 : decode code 1531 = .ok (.iadd, 1) := by decide +kernel
theorem dd_L_law_1532 : decode code 1532 = .ok (.iaload, 1) := by decide +kernel
theorem dd_L_law_1533 : decode code 1533 = .ok (.aload_n 0, 1) := by decide +kernel
theorem dd_L_law_1534 : decode code 1534 = .ok (.iload_n 3, 1) := by decide +kernel
theorem dd_L_law_1535 : decode code 1535 = .ok (.iconst 2, 1) := by decide +kernel
theorem dd_L_law_1536 : decode code 1536 = .ok (.iadd, 1) := by decide +kernel
theorem dd_L_law_1537 : decode code 1537 = .ok (.iaload, 1) := by decide +kernel
theorem dd_L_law_1538 : decode code 1538 = .ok (.invokevirtual 184, 3) := by decide +kernel
theorem dd_L_law_1541 : decode code 1541 = .ok (.aload_n 2, 1) := by decide +kernel
theorem dd_L_law_1542 : decode code 1542 = .ok (.aload_n 0, 1) := by decide +kernel
theorem dd_L_law_1543 : decode code 1543 = .ok (.iload_n 3, 1) := by decide +kernel
theorem dd_L_law_1544 : decode code 1544 = .ok (.iconst 1, 1) := by decide +kernel
theorem dd_L_law_1545 : decode code 1545 = .ok (.iadd, 1) := by decide +kernel
theorem dd_L_law_1546 : decode code 1546 = .ok (.iaload, 1) := by decide +kernel
theorem dd_L_law_1547 : decode code 1547 = .ok (.aload_n 0, 1) := by decide +kernel
theorem dd_L_law_1548 : decode code 1548 = .ok (.iload_n 3, 1) := by decide +kernel
theorem dd_L_law_1549 : decode code 1549 = .ok (.iconst 2, 1) := by decide +kernel
theorem dd_L_law_1550 : decode code 1550 = .ok (.iadd, 1) := by decide +kernel
theorem dd_L_law_1551 : decode code 1551 = .ok (.iaload, 1) := by decide +kernel
theorem dd_L_law_1552 : decode code 1552 = .ok (.invokevirtual 187, 3) := by decide +kernel
theorem dd_L_law_1555 : decode code 1555 = .ok (.if_icmp .eq 176, 3) := by decide +kernel
theorem dd_L_law_1558 : decode code 1558 = .ok (.iconst 0, 1) := by decide +kernel
theorem dd_L_law_1559 : decode code 1559 = .ok (.ireturn, 1) := by decide +kernel
theorem dd_L_law_1560 : decode code 1560 = .ok (.aload_n 1, 1) := by decide +kernel
theorem dd_L_law_1561 : decode code 1561 = .ok (.aload_n 0, 1) := by decide +kernel
theorem dd_L_law_1562 : decode code 1562 = .ok (.iload_n 3, 1) := by decide +kernel
theorem dd_L_law_1563 : decode code 1563 = .ok (.iconst 1, 1) := by decide +kernel
theorem dd_L_law_1564 : decode code 1564 = .ok (.iadd, 1) := by decide +kernel
theorem dd_L_law_1565 : decode code 1565 = .ok (.iaload, 1) := by decide +kernel
theorem dd_L_law_1566 : decode code 1566 = .ok (.aload_n 0, 1) := by decide +kernel
theorem dd_L_law_1567 : decode code 1567 = .ok (.iload_n 3, 1) := by decide +kernel
theorem dd_L_law_1568 : decode code 1568 = .ok (.iconst 2, 1) := by decide +kernel
theorem dd_L_law_1569 : decode code 1569 = .ok (.iadd, 1) := by decide +kernel
theorem dd_L_law_1570 : decode code 1570 = .ok (.iaload, 1) := by decide +kernel
theorem dd_L_law_1571 : decode code 1571 = .ok (.invokevirtual 188, 3) := by decide +kernel
theorem dd_L_law_1574 : decode code 1574 = .ok (.aload_n 2, 1) := by decide +kernel
theorem dd_L_law_1575 : decode code 1575 = .ok (.aload_n 0, 1) := by decide +kernel
theorem dd_L_law_1576 : decode code 1576 = .ok (.iload_n 3, 1) := by decide +kernel
theorem dd_L_law_1577 : decode code 1577 = .ok (.iconst 1, 1) := by decide +kernel
theorem dd_L_law_1578 : decode code 1578 = .ok (.iadd, 1) := by decide +kernel
theorem dd_L_law_1579 : decode code 1579 = .ok (.iaload, 1) := by decide +kernel
theorem dd_L_law_1580 : decode code 1580 = .ok (.aload_n 0, 1) := by decide +kernel
theorem dd_L_law_1581 : decode code 1581 = .ok (.iload_n 3, 1) := by decide +kernel
theorem dd_L_law_1582 : decode code 1582 = .ok (.iconst 2, 1) := by decide +kernel
theorem dd_L_law_1583 : decode code 1583 = .ok (.iadd, 1) := by decide +kernel
theorem dd_L_law_1584 : decode code 1584 = .ok (.iaload, 1) := by decide +kernel
theorem dd_L_law_1585 : decode code 1585 = .ok (.invokevirtual 191, 3) := by decide +kernel
theorem dd_L_law_1588 : decode code 1588 = .ok (.if_icmp .eq 143, 3) := by decide +kernel
theorem dd_L_law_1591 : decode code 1591 = .ok (.iconst 0, 1) := by decide +kernel
theorem dd_L_law_1592 : decode code 1592 = .ok (.ireturn, 1) := by decide +kernel
theorem dd_L_law_1593 : decode code 1593 = .ok (.aload_n 1, 1) := by decide +kernel
theorem dd_L_law_1594 : decode code 1594 = .ok (.aload_n 0, 1) := by decide +kernel
theorem dd_L_law_1595 : decode code 1595 = .ok (.iload_n 3, 1) := by decide +kernel
theorem dd_L_law_1596 : decode code 1596 = .ok (.iconst 1, 1) := by decide +kernel
theorem dd_L_law_1597 : decode code 1597 = .ok (.iadd, 1) := by decide +kernel
theorem dd_L_law_1598 : decode code 1598 = .ok (.iaload, 1) := by decide +kernel
theorem dd_L_law_1599 : decode code 1599 = .ok (.aload_n 0, 1) := by decide +kernel
theorem dd_L_law_1600 : decode code 1600 = .ok (.iload_n 3, 1) := by decide +kernel
theorem dd_L_law_1601 : decode code 1601 = .ok (.iconst 2, 1) := by decide +kernel
theorem dd_L_law_1602 : decode code 1602 = .ok (.iadd, 1) := by decide +kernel
theorem dd_L_law_1603 : decode code 1603 = .ok (.iaload, 1) := by decide +kernel
theorem dd_L_law_1604 : decode code 1604 = .ok (.invokevirtual 192, 3) := by decide +kernel
theorem dd_L_law_1607 : decode code 1607 = .ok (.aload_n 2, 1) := by decide +kernel
theorem dd_L_law_1608 : decode code 1608 = .ok (.aload_n 0, 1) := by decide +kernel
theorem dd_L_law_1609 : decode code 1609 = .ok (.iload_n 3, 1) := by decide +kernel
theorem dd_L_law_1610 : decode code 1610 = .ok (.iconst 1, 1) := by decide +kernel
theorem dd_L_law_1611 : decode code 1611 = .ok (.iadd, 1) := by decide +kernel
theorem dd_L_law_1612 : decode code 1612 = .ok (.iaload, 1) := by decide +kernel
theorem dd_L_law_1613 : decode code 1613 = .ok (.aload_n 0, 1) := by decide +kernel
theorem dd_L_law_1614 : decode code 1614 = .ok (.iload_n 3, 1) := by decide +kernel
theorem dd_L_law_1615 : decode code 1615 = .ok (.iconst 2, 1) := by decide +kernel
theorem dd_L_law_1616 : decode code 1616 = .ok (.iadd, 1) := by decide +kernel
theorem dd_L_law_1617 : decode code 1617 = .ok (.iaload, 1) := by decide +kernel
theorem dd_L_law_1618 : decode code 1618 = .ok (.invokevirtual 195, 3) := by decide +kernel
theorem dd_L_law_1621 : decode code 1621 = .ok (.if_icmp .eq 110, 3) := by decide +kernel
theorem dd_L_law_1624 : decode code 1624 = .ok (.iconst 0, 1) := by decide +kernel
theorem dd_L_law_1625 : decode code 1625 = .ok (.ireturn, 1) := by decide +kernel
theorem dd_L_law_1626 : decode code 1626 = .ok (.aload_n 1, 1) := by decide +kernel
theorem dd_L_law_1627 : decode code 1627 = .ok (.aload_n 0, 1) := by decide +kernel
theorem dd_L_law_1628 : decode code 1628 = .ok (.iload_n 3, 1) := by decide +kernel
theorem dd_L_law_1629 : decode code 1629 = .ok (.iconst 1, 1) := by decide +kernel
theorem dd_L_law_1630 : decode code 1630 = .ok (.iadd, 1) := by decide +kernel
theorem dd_L_law_1631 : decode code 1631 = .ok (.iaload, 1) := by decide +kernel
theorem dd_L_law_1632 : decode code 1632 = .ok (.invokevirtual 196, 3) := by decide +kernel
theorem dd_L_law_1635 : decode code 1635 = .ok (.aload_n 2, 1) := by decide +kernel
theorem dd_L_law_1636 : decode code 1636 = .ok (.aload_n 0, 1) := by decide +kernel
theorem dd_L_law_1637 : decode code 1637 = .ok (.iload_n 3, 1) := by decide +kernel
theorem dd_L_law_1638 : decode code 1638 = .ok (.iconst 1, 1) := by decide +kernel
theorem dd_L_law_1639 : decode code 1639 = .ok (.iadd, 1) := by decide +kernel
theorem dd_L_law_1640 : decode code 1640 = .ok (.iaload, 1) := by decide +kernel
theorem dd_L_law_1641 : decode code 1641 = .ok (.invokevirtual 199, 3) := by decide +kernel
theorem dd_L_law_1644 : decode code 1644 = .ok (.if_icmp .eq 87, 3) := by decide +kernel
theorem dd_L_law_1647 : decode code 1647 = .ok (.iconst 0, 1) := by decide +kernel
theorem dd_L_law_1648 : decode code 1648 = .ok (.ireturn, 1) := by decide +kernel
theorem dd_L_law_1649 : decode code 1649 = .ok (.aload_n 1, 1) := by decide +kernel
theorem dd_L_law_1650 : decode code 1650 = .ok (.aload_n 0, 1) := by decide +kernel
theorem dd_L_law_1651 : decode code 1651 = .ok (.iload_n 3, 1) := by decide +kernel
theorem dd_L_law_1652 : decode code 1652 = .ok (.iconst 1, 1) := by decide +kernel
theorem dd_L_law_1653 : decode code 1653 = .ok (.iadd, 1) := by decide +kernel
theorem dd_L_law_1654 : decode code 1654 = .ok (.iaload, 1) := by decide +kernel
theorem dd_L_law_1655 : decode code 1655 = .ok (.aload_n 0, 1) := by decide +kernel
theorem dd_L_law_1656 : decode code 1656 = .ok (.iload_n 3, 1) := by decide +kernel
theorem dd_L_law_1657 : decode code 1657 = .ok (.iconst 2, 1) := by decide +kernel
theorem dd_L_law_1658 : decode code 1658 = .ok (.iadd, 1) := by decide +kernel
theorem dd_L_law_1659 : decode code 1659 = .ok (.iaload, 1) := by decide +kernel
theorem dd_L_law_1660 : decode code 1660 = .ok (.invokevirtual 200, 3) := by decide +kernel
theorem dd_L_law_1663 : decode code 1663 = .ok (.aload_n 2, 1) := by decide +kernel
theorem dd_L_law_1664 : decode code 1664 = .ok (.aload_n 0, 1) := by decide +kernel
theorem dd_L_law_1665 : decode code 1665 = .ok (.iload_n 3, 1) := by decide +kernel
theorem dd_L_law_1666 : decode code 1666 = .ok (.iconst 1, 1) := by decide +kernel
theorem dd_L_law_1667 : decode code 1667 = .ok (.iadd, 1) := by decide +kernel
theorem dd_L_law_1668 : decode code 1668 = .ok (.iaload, 1) := by decide +kernel
theorem dd_L_law_1669 : decode code 1669 = .ok (.aload_n 0, 1) := by decide +kernel
theorem dd_L_law_1670 : decode code 1670 = .ok (.iload_n 3, 1) := by decide +kernel
theorem dd_L_law_1671 : decode code 1671 = .ok (.iconst 2, 1) := by decide +kernel
theorem dd_L_law_1672 : decode code 1672 = .ok (.iadd, 1) := by decide +kernel
theorem dd_L_law_1673 : decode code 1673 = .ok (.iaload, 1) := by decide +kernel
theorem dd_L_law_1674 : decode code 1674 = .ok (.invokevirtual 203, 3) := by decide +kernel
theorem dd_L_law_1677 : decode code 1677 = .ok (.if_icmp .eq 54, 3) := by decide +kernel
theorem dd_L_law_1680 : decode code 1680 = .ok (.iconst 0, 1) := by decide +kernel
theorem dd_L_law_1681 : decode code 1681 = .ok (.ireturn, 1) := by decide +kernel
theorem dd_L_law_1682 : decode code 1682 = .ok (.aload_n 1, 1) := by decide +kernel
theorem dd_L_law_1683 : decode code 1683 = .ok (.invokevirtual 204, 3) := by decide +kernel
theorem dd_L_law_1686 : decode code 1686 = .ok (.aload_n 2, 1) := by decide +kernel
theorem dd_L_law_1687 : decode code 1687 = .ok (.invokevirtual 207, 3) := by decide +kernel
theorem dd_L_law_1690 : decode code 1690 = .ok (.if_icmp .eq 41, 3) := by decide +kernel
theorem dd_L_law_1693 : decode code 1693 = .ok (.iconst 0, 1) := by decide +kernel
theorem dd_L_law_1694 : decode code 1694 = .ok (.ireturn, 1) := by decide +kernel
theorem dd_L_law_1695 : decode code 1695 = .ok (.aload_n 1, 1) := by decide +kernel
theorem dd_L_law_1696 : decode code 1696 = .ok (.invokevirtual 208, 3) := by decide +kernel
theorem dd_L_law_1699 : decode code 1699 = .ok (.aload_n 2, 1) := by decide +kernel
theorem dd_L_law_1700 : decode code 1700 = .ok (.invokevirtual 211, 3) := by decide +kernel
theorem dd_L_law_1703 : decode code 1703 = .ok (.if_icmp .eq 28, 3) := by decide +kernel
theorem dd_L_law_1706 : decode code 1706 = .ok (.iconst 0, 1) := by decide +kernel
theorem dd_L_law_1707 : decode code 1707 = .ok (.ireturn, 1) := by decide +kernel
theorem dd_L_law_1708 : decode code 1708 = .ok (.aload_n 1, 1) := by decide +kernel
theorem dd_L_law_1709 : decode code 1709 = .ok (.aload_n 0, 1) := by decide +kernel
theorem dd_L_law_1710 : decode code 1710 = .ok (.iload_n 3, 1) := by decide +kernel
theorem dd_L_law_1711 : decode code 1711 = .ok (.iconst 1, 1) := by decide +kernel
theorem dd_L_law_1712 : decode code 1712 = .ok (.iadd, 1) := by decide +kernel
theorem dd_L_law_1713 : decode code 1713 = .ok (.iaload, 1) := by decide +kernel
theorem dd_L_law_1714 : decode code 1714 = .ok (.invokevirtual 212, 3) := by decide +kernel
theorem dd_L_law_1717 : decode code 1717 = .ok (.aload_n 2, 1) := by decide +kernel
theorem dd_L_law_1718 : decode code 1718 = .ok (.aload_n 0, 1) := by decide +kernel
theorem dd_L_law_1719 : decode code 1719 = .ok (.iload_n 3, 1) := by decide +kernel
theorem dd_L_law_1720 : decode code 1720 = .ok (.iconst 1, 1) := by decide +kernel
theorem dd_L_law_1721 : decode code 1721 = .ok (.iadd, 1) := by decide +kernel
theorem dd_L_law_1722 : decode code 1722 = .ok (.iaload, 1) := by decide +kernel
theorem dd_L_law_1723 : decode code 1723 = .ok (.invokevirtual 215, 3) := by decide +kernel
theorem dd_L_law_1726 : decode code 1726 = .ok (.if_icmp .eq 5, 3) := by decide +kernel
theorem dd_L_law_1729 : decode code 1729 = .ok (.iconst 0, 1) := by decide +kernel
theorem dd_L_law_1730 : decode code 1730 = .ok (.ireturn, 1) := by decide +kernel
theorem dd_L_law_1731 : decode code 1731 = .ok (.iinc 3 6, 3) := by decide +kernel
theorem dd_L_law_1734 : decode code 1734 = .ok (.goto (-1716), 3) := by decide +kernel
theorem dd_L_law_1737 : decode code 1737 = .ok (.iconst 1, 1) := by decide +kernel
theorem dd_L_law_1738 : decode code 1738 = .ok (.ireturn, 1) := by decide +kernel
theorem dd_X0_add_0 : decode mb_X0_add 0 = .ok (.aload_n 0, 1) := by decide +kernel
theorem dd_X0_add_1 : decode mb_X0_add 1 = .ok (.getfield 9, 3) := by decide +kernel
theorem dd_X0_add_4 : decode mb_X0_add 4 = .ok (.aload_n 0, 1) := by decide +kernel
theorem dd_X0_add_5 : decode mb_X0_add 5 = .ok (.getfield 27, 3) := by decide +kernel
theorem dd_X0_add_8 : decode mb_X0_add 8 = .ok (.iload_n 1, 1) := by decide +kernel
theorem dd_X0_add_9 : decode mb_X0_add 9 = .ok (.iastore, 1) := by decide +kernel
theorem dd_X0_add_10 : decode mb_X0_add 10 = .ok (.aload_n 0, 1) := by decide +kernel
theorem dd_X0_add_11 : decode mb_X0_add 11 = .ok (.getfield 15, 3) := by decide +kernel
theorem dd_X0_add_14 : decode mb_X0_add 14 = .ok (.aload_n 0, 1) := by decide +kernel
theorem dd_X0_add_15 : decode mb_X0_add 15 = .ok (.getfield 27, 3) := by decide +kernel
theorem dd_X0_add_18 : decode mb_X0_add 18 = .ok (.iload_n 2, 1) := by decide +kernel
theorem dd_X0_add_19 : decode mb_X0_add 19 = .ok (.iastore, 1) := by decide +kernel
theorem dd_X0_add_20 : decode mb_X0_add 20 = .ok (.aload_n 0, 1) := by decide +kernel
theorem dd_X0_add_21 : decode mb_X0_add 21 = .ok (.getfield 18, 3) := by decide +kernel
theorem dd_X0_add_24 : decode mb_X0_add 24 = .ok (.aload_n 0, 1) := by decide +kernel
theorem dd_X0_add_25 : decode mb_X0_add 25 = .ok (.getfield 27, 3) := by decide +kernel
theorem dd_X0_add_28 : decode mb_X0_add 28 = .ok (.iload_n 3, 1) := by decide +kernel
theorem dd_X0_add_29 : decode mb_X0_add 29 = .ok (.iastore, 1) := by decide +kernel
theorem dd_X0_add_30 : decode mb_X0_add 30 = .ok (.aload_n 0, 1) := by decide +kernel
theorem dd_X0_add_31 : decode mb_X0_add 31 = .ok (.getfield 21, 3) := by decide +kernel
theorem dd_X0_add_34 : decode mb_X0_add 34 = .ok (.aload_n 0, 1) := by decide +kernel
theorem dd_X0_add_35 : decode mb_X0_add 35 = .ok (.getfield 27, 3) := by decide +kernel
theorem dd_X0_add_38 : decode mb_X0_add 38 = .ok (.iload 4, 2) := by decide +kernel
theorem dd_X0_add_40 : decode mb_X0_add 40 = .ok (.iastore, 1) := by decide +kernel
theorem dd_X0_add_41 : decode mb_X0_add 41 = .ok (.aload_n 0, 1) := by decide +kernel
theorem dd_X0_add_42 : decode mb_X0_add 42 = .ok (.getfield 24, 3) := by decide +kernel
theorem dd_X0_add_45 : decode mb_X0_add 45 = .ok (.aload_n 0, 1) := by decide +kernel
theorem dd_X0_add_46 : decode mb_X0_add 46 = .ok (.getfield 27, 3) := by decide +kernel
theorem dd_X0_add_49 : decode mb_X0_add 49 = .ok (.iconst 0, 1) := by decide +kernel
theorem dd_X0_add_50 : decode mb_X0_add 50 = .ok (.iastore, 1) := by decide +kernel
theorem dd_X0_add_51 : decode mb_X0_add 51 = .ok (.aload_n 0, 1) := by decide +kernel
theorem dd_X0_add_52 : decode mb_X0_add 52 = .ok (.dup, 1) := by decide +kernel
theorem dd_X0_add_53 : decode mb_X0_add 53 = .ok (.getfield 27, 3) := by decide +kernel
theorem dd_X0_add_56 : decode mb_X0_add 56 = .ok (.iconst 1, 1) := by decide +kernel
theorem dd_X0_add_57 : decode mb_X0_add 57 = .ok (.iadd, 1) := by decide +kernel
theorem dd_X0_add_58 : decode mb_X0_add 58 = .ok (.putfield 27, 3) := by decide +kernel
theorem dd_X0_add_61 : decode mb_X0_add 61 = .ok (.aload_n 0, 1) := by decide +kernel
theorem dd_X0_add_62 : decode mb_X0_add 62 = .ok (.getfield 27, 3) := by decide +kernel
theorem dd_X0_add_65 : decode mb_X0_add 65 = .ok (.iconst 1, 1) := by decide +kernel
theorem dd_X0_add_66 : decode mb_X0_add 66 = .ok (.isub, 1) := by decide +kernel
theorem dd_X0_add_67 : decode mb_X0_add 67 = .ok (.ireturn, 1) := by decide +kernel
theorem dd_X0_become_0 : decode mb_X0_become 0 = .ok (.aload_n 1, 1) := by decide +kernel
theorem dd_X0_become_1 : decode mb_X0_become 1 = .ok (.getfield 9, 3) := by decide +kernel
theorem dd_X0_become_4 : decode mb_X0_become 4 = .ok (.iconst 0, 1) := by decide +kernel
theorem dd_X0_become_5 : decode mb_X0_become 5 = .ok (.aload_n 0, 1) := by decide +kernel
theorem dd_X0_become_6 : decode mb_X0_become 6 = .ok (.getfield 9, 3) := by decide +kernel
theorem dd_X0_become_9 : decode mb_X0_become 9 = .ok (.iconst 0, 1) := by decide +kernel
theorem dd_X0_become_10 : decode mb_X0_become 10 = .ok (.bipush 12, 2) := by decide +kernel
theorem dd_X0_become_12 : decode mb_X0_become 12 = .ok (.invokestatic 35, 3) := by decide +kernel
theorem dd_X0_become_15 : decode mb_X0_become 15 = .ok (.aload_n 1, 1) := by decide +kernel
theorem dd_X0_become_16 : decode mb_X0_become 16 = .ok (.getfield 15, 3) := by decide +kernel
theorem dd_X0_become_19 : decode mb_X0_become 19 = .ok (.iconst 0, 1) := by decide +kernel
theorem dd_X0_become_20 : decode mb_X0_become 20 = .ok (.aload_n 0, 1) := by decide +kernel
theorem dd_X0_become_21 : decode mb_X0_become 21 = .ok (.getfield 15, 3) := by decide +kernel
theorem dd_X0_become_24 : decode mb_X0_become 24 = .ok (.iconst 0, 1) := by decide +kernel
theorem dd_X0_become_25 : decode mb_X0_become 25 = .ok (.bipush 12, 2) := by decide +kernel
theorem dd_X0_become_27 : decode mb_X0_become 27 = .ok (.invokestatic 35, 3) := by decide +kernel
theorem dd_X0_become_30 : decode mb_X0_become 30 = .ok (.aload_n 1, 1) := by decide +kernel
theorem dd_X0_become_31 : decode mb_X0_become 31 = .ok (.getfield 18, 3) := by decide +kernel
theorem dd_X0_become_34 : decode mb_X0_become 34 = .ok (.iconst 0, 1) := by decide +kernel
theorem dd_X0_become_35 : decode mb_X0_become 35 = .ok (.aload_n 0, 1) := by decide +kernel
theorem dd_X0_become_36 : decode mb_X0_become 36 = .ok (.getfield 18, 3) := by decide +kernel
theorem dd_X0_become_39 : decode mb_X0_become 39 = .ok (.iconst 0, 1) := by decide +kernel
theorem dd_X0_become_40 : decode mb_X0_become 40 = .ok (.bipush 12, 2) := by decide +kernel
theorem dd_X0_become_42 : decode mb_X0_become 42 = .ok (.invokestatic 35, 3) := by decide +kernel
theorem dd_X0_become_45 : decode mb_X0_become 45 = .ok (.aload_n 1, 1) := by decide +kernel
theorem dd_X0_become_46 : decode mb_X0_become 46 = .ok (.getfield 21, 3) := by decide +kernel
theorem dd_X0_become_49 : decode mb_X0_become 49 = .ok (.iconst 0, 1) := by decide +kernel
theorem dd_X0_become_50 : decode mb_X0_become 50 = .ok (.aload_n 0, 1) := by decide +kernel
theorem dd_X0_become_51 : decode mb_X0_become 51 = .ok (.getfield 21, 3) := by decide +kernel
theorem dd_X0_become_54 : decode mb_X0_become 54 = .ok (.iconst 0, 1) := by decide +kernel
theorem dd_X0_become_55 : decode mb_X0_become 55 = .ok (.bipush 12, 2) := by decide +kernel
theorem dd_X0_become_57 : decode mb_X0_become 57 = .ok (.invokestatic 35, 3) := by decide +kernel
theorem dd_X0_become_60 : decode mb_X0_become 60 = .ok (.aload_n 1, 1) := by decide +kernel
theorem dd_X0_become_61 : decode mb_X0_become 61 = .ok (.getfield 24, 3) := by decide +kernel
theorem dd_X0_become_64 : decode mb_X0_become 64 = .ok (.iconst 0, 1) := by decide +kernel
theorem dd_X0_become_65 : decode mb_X0_become 65 = .ok (.aload_n 0, 1) := by decide +kernel
theorem dd_X0_become_66 : decode mb_X0_become 66 = .ok (.getfield 24, 3) := by decide +kernel
theorem dd_X0_become_69 : decode mb_X0_become 69 = .ok (.iconst 0, 1) := by decide +kernel
theorem dd_X0_become_70 : decode mb_X0_become 70 = .ok (.bipush 12, 2) := by decide +kernel
theorem dd_X0_become_72 : decode mb_X0_become 72 = .ok (.invokestatic 35, 3) := by decide +kernel
theorem dd_X0_become_75 : decode mb_X0_become 75 = .ok (.aload_n 0, 1) := by decide +kernel
theorem dd_X0_become_76 : decode mb_X0_become 76 = .ok (.aload_n 1, 1) := by decide +kernel
theorem dd_X0_become_77 : decode mb_X0_become 77 = .ok (.getfield 27, 3) := by decide +kernel
theorem dd_X0_become_80 : decode mb_X0_become 80 = .ok (.putfield 27, 3) := by decide +kernel
theorem dd_X0_become_83 : decode mb_X0_become 83 = .ok (.return_, 1) := by decide +kernel
theorem dd_X0_has_0 : decode mb_X0_has 0 = .ok (.iload_n 1, 1) := by decide +kernel
theorem dd_X0_has_1 : decode mb_X0_has 1 = .ok (.iconst 0, 1) := by decide +kernel
theorem dd_X0_has_2 : decode mb_X0_has 2 = .ok (.aload_n 0, 1) := by decide +kernel
theorem dd_X0_has_3 : decode mb_X0_has 3 = .ok (.getfield 27, 3) := by decide +kernel
theorem dd_X0_has_6 : decode mb_X0_has 6 = .ok (.iconst 1, 1) := by decide +kernel
theorem dd_X0_has_7 : decode mb_X0_has 7 = .ok (.isub, 1) := by decide +kernel
theorem dd_X0_has_8 : decode mb_X0_has 8 = .ok (.invokestatic 31, 3) := by decide +kernel
theorem dd_X0_has_11 : decode mb_X0_has 11 = .ok (.ireturn, 1) := by decide +kernel
theorem dd_X0_init_0 : decode mb_X0_init 0 = .ok (.aload_n 0, 1) := by decide +kernel
theorem dd_X0_init_1 : decode mb_X0_init 1 = .ok (.invokespecial 3, 3) := by decide +kernel
theorem dd_X0_init_4 : decode mb_X0_init 4 = .ok (.aload_n 0, 1) := by decide +kernel
theorem dd_X0_init_5 : decode mb_X0_init 5 = .ok (.bipush 12, 2) := by decide +kernel
theorem dd_X0_init_7 : decode mb_X0_init 7 = .ok (.newarray .int, 2) := by decide +kernel
theorem dd_X0_init_9 : decode mb_X0_init 9 = .ok (.putfield 9, 3) := by decide +kernel
theorem dd_X0_init_12 : decode mb_X0_init 12 = .ok (.aload_n 0, 1) := by decide +kernel
theorem dd_X0_init_13 : decode mb_X0_init 13 = .ok (.bipush 12, 2) := by decide +kernel
theorem dd_X0_init_15 : decode mb_X0_init 15 = .ok (.newarray .int, 2) := by decide +kernel
theorem dd_X0_init_17 : decode mb_X0_init 17 = .ok (.putfield 15, 3) := by decide +kernel
theorem dd_X0_init_20 : decode mb_X0_init 20 = .ok (.aload_n 0, 1) := by decide +kernel
theorem dd_X0_init_21 : decode mb_X0_init 21 = .ok (.bipush 12, 2) := by decide +kernel
theorem dd_X0_init_23 : decode mb_X0_init 23 = .ok (.newarray .int, 2) := by decide +kernel
theorem dd_X0_init_25 : decode mb_X0_init 25 = .ok (.putfield 18, 3) := by decide +kernel
theorem dd_X0_init_28 : decode mb_X0_init 28 = .ok (.aload_n 0, 1) := by decide +kernel
theorem dd_X0_init_29 : decode mb_X0_init 29 = .ok (.bipush 12, 2) := by decide +kernel
theorem dd_X0_init_31 : decode mb_X0_init 31 = .ok (.newarray .int, 2) := by decide +kernel
theorem dd_X0_init_33 : decode mb_X0_init 33 = .ok (.putfield 21, 3) := by decide +kernel
theorem dd_X0_init_36 : decode mb_X0_init 36 = .ok (.aload_n 0, 1) := by decide +kernel
theorem dd_X0_init_37 : decode mb_X0_init 37 = .ok (.bipush 12, 2) := by decide +kernel
theorem dd_X0_init_39 : decode mb_X0_init 39 = .ok (.newarray .int, 2) := by decide +kernel
theorem dd_X0_init_41 : decode mb_X0_init 41 = .ok (.putfield 24, 3) := by decide +kernel
theorem dd_X0_init_44 : decode mb_X0_init 44 = .ok (.aload_n 0, 1) := by decide +kernel
theorem dd_X0_init_45 : decode mb_X0_init 45 = .ok (.iconst 0, 1) := by decide +kernel
theorem dd_X0_init_46 : decode mb_X0_init 46 = .ok (.putfield 27, 3) := by decide +kernel
theorem dd_X0_init_49 : decode mb_X0_init 49 = .ok (.return_, 1) := by decide +kernel
theorem dd_X10_add_0 : decode mb_X10_add 0 = .ok (.aload_n 0, 1) := by decide +kernel
theorem dd_X10_add_1 : decode mb_X10_add 1 = .ok (.getfield 9, 3) := by decide +kernel
theorem dd_X10_add_4 : decode mb_X10_add 4 = .ok (.aload_n 0, 1) := by decide +kernel
theorem dd_X10_add_5 : decode mb_X10_add 5 = .ok (.getfield 30, 3) := by decide +kernel
theorem dd_X10_add_8 : decode mb_X10_add 8 = .ok (.iload_n 1, 1) := by decide +kernel
theorem dd_X10_add_9 : decode mb_X10_add 9 = .ok (.iastore, 1) := by decide +kernel
theorem dd_X10_add_10 : decode mb_X10_add 10 = .ok (.aload_n 0, 1) := by decide +kernel
theorem dd_X10_add_11 : decode mb_X10_add 11 = .ok (.getfield 15, 3) := by decide +kernel
theorem dd_X10_add_14 : decode mb_X10_add 14 = .ok (.aload_n 0, 1) := by decide +kernel
theorem dd_X10_add_15 : decode mb_X10_add 15 = .ok (.getfield 30, 3) := by decide +kernel
theorem dd_X10_add_18 : decode mb_X10_add 18 = .ok (.iload_n 2, 1) := by decide +kernel
theorem dd_X10_add_19 : decode mb_X10_add 19 = .ok (.iastore, 1) := by decide +kernel
theorem dd_X10_add_20 : decode mb_X10_add 20 = .ok (.aload_n 0, 1) := by decide +kernel
theorem dd_X10_add_21 : decode mb_X10_add 21 = .ok (.getfield 18, 3) := by decide +kernel
theorem dd_X10_add_24 : decode mb_X10_add 24 = .ok (.aload_n 0, 1) := by decide +kernel
theorem dd_X10_add_25 : decode mb_X10_add 25 = .ok (.getfield 30, 3) := by decide +kernel
theorem dd_X10_add_28 : decode mb_X10_add 28 = .ok (.iload_n 3, 1) := by decide +kernel
theorem dd_X10_add_29 : decode mb_X10_add 29 = .ok (.iastore, 1) := by decide +kernel
theorem dd_X10_add_30 : decode mb_X10_add 30 = .ok (.aload_n 0, 1) := by decide +kernel
theorem dd_X10_add_31 : decode mb_X10_add 31 = .ok (.getfield 21, 3) := by decide +kernel
theorem dd_X10_add_34 : decode mb_X10_add 34 = .ok (.aload_n 0, 1) := by decide +kernel
theorem dd_X10_add_35 : decode mb_X10_add 35 = .ok (.getfield 30, 3) := by decide +kernel
theorem dd_X10_add_38 : decode mb_X10_add 38 = .ok (.iconst (-1), 1) := by decide +kernel
theorem dd_X10_add_39 : decode mb_X10_add 39 = .ok (.iastore, 1) := by decide +kernel
theorem dd_X10_add_40 : decode mb_X10_add 40 = .ok (.aload_n 0, 1) := by decide +kernel
theorem dd_X10_add_41 : decode mb_X10_add 41 = .ok (.getfield 24, 3) := by decide +kernel
theorem dd_X10_add_44 : decode mb_X10_add 44 = .ok (.aload_n 0, 1) := by decide +kernel
theorem dd_X10_add_45 : decode mb_X10_add 45 = .ok (.getfield 30, 3) := by decide +kernel
theorem dd_X10_add_48 : decode mb_X10_add 48 = .ok (.iconst (-1), 1) := by decide +kernel
theorem dd_X10_add_49 : decode mb_X10_add 49 = .ok (.iastore, 1) := by decide +kernel
theorem dd_X10_add_50 : decode mb_X10_add 50 = .ok (.aload_n 0, 1) := by decide +kernel
theorem dd_X10_add_51 : decode mb_X10_add 51 = .ok (.getfield 27, 3) := by decide +kernel
theorem dd_X10_add_54 : decode mb_X10_add 54 = .ok (.aload_n 0, 1) := by decide +kernel
theorem dd_X10_add_55 : decode mb_X10_add 55 = .ok (.getfield 30, 3) := by decide +kernel
theorem dd_X10_add_58 : decode mb_X10_add 58 = .ok (.iconst (-1), 1) := by decide +kernel
theorem dd_X10_add_59 : decode mb_X10_add 59 = .ok (.iastore, 1) := by decide +kernel
theorem dd_X10_add_60 : decode mb_X10_add 60 = .ok (.aload_n 0, 1) := by decide +kernel
theorem dd_X10_add_61 : decode mb_X10_add 61 = .ok (.dup, 1) := by decide +kernel
theorem dd_X10_add_62 : decode mb_X10_add 62 = .ok (.getfield 30, 3) := by decide +kernel
theorem dd_X10_add_65 : decode mb_X10_add 65 = .ok (.iconst 1, 1) := by decide +kernel
theorem dd_X10_add_66 : decode mb_X10_add 66 = .ok (.iadd, 1) := by decide +kernel
theorem dd_X10_add_67 : decode mb_X10_add 67 = .ok (.putfield 30, 3) := by decide +kernel
theorem dd_X10_add_70 : decode mb_X10_add 70 = .ok (.aload_n 0, 1) := by decide +kernel
theorem dd_X10_add_71 : decode mb_X10_add 71 = .ok (.getfield 30, 3) := by decide +kernel
theorem dd_X10_add_74 : decode mb_X10_add 74 = .ok (.iconst 1, 1) := by decide +kernel
theorem dd_X10_add_75 : decode mb_X10_add 75 = .ok (.isub, 1) := by decide +kernel
theorem dd_X10_add_76 : decode mb_X10_add 76 = .ok (.ireturn, 1) := by decide +kernel
theorem dd_X10_asVase_0 : decode mb_X10_asVase 0 = .ok (.aload_n 0, 1) := by decide +kernel
theorem dd_X10_asVase_1 : decode mb_X10_asVase 1 = .ok (.getfield 18, 3) := by decide +kernel
theorem dd_X10_asVase_4 : decode mb_X10_asVase 4 = .ok (.iload_n 1, 1) := by decide +kernel
theorem dd_X10_asVase_5 : decode mb_X10_asVase 5 = .ok (.iaload, 1) := by decide +kernel
theorem dd_X10_asVase_6 : decode mb_X10_asVase 6 = .ok (.iconst 0, 1) := by decide +kernel
theorem dd_X10_asVase_7 : decode mb_X10_asVase 7 = .ok (.invokestatic 45, 3) := by decide +kernel
theorem dd_X10_asVase_10 : decode mb_X10_asVase 10 = .ok (.ifCond .eq 9, 3) := by decide +kernel
theorem dd_X10_asVase_13 : decode mb_X10_asVase 13 = .ok (.iload_n 2, 1) := by decide +kernel
theorem dd_X10_asVase_14 : decode mb_X10_asVase 14 = .ok (.iconst 2, 1) := by decide +kernel
theorem dd_X10_asVase_15 : decode mb_X10_asVase 15 = .ok (.idiv, 1) := by decide +kernel
theorem dd_X10_asVase_16 : decode mb_X10_asVase 16 = .ok (.goto 4, 3) := by decide +kernel
theorem dd_X10_asVase_19 : decode mb_X10_asVase 19 = .ok (.iload_n 2, 1) := by decide +kernel
theorem dd_X10_asVase_20 : decode mb_X10_asVase 20 = .ok (.ireturn, 1) := by decide +kernel
theorem dd_X10_become_0 : decode mb_X10_become 0 = .ok (.aload_n 1, 1) := by decide +kernel
theorem dd_X10_become_1 : decode mb_X10_become 1 = .ok (.getfield 9, 3) := by decide +kernel
theorem dd_X10_become_4 : decode mb_X10_become 4 = .ok (.iconst 0, 1) := by decide +kernel
theorem dd_X10_become_5 : decode mb_X10_become 5 = .ok (.aload_n 0, 1) := by decide +kernel
theorem dd_X10_become_6 : decode mb_X10_become 6 = .ok (.getfield 9, 3) := by decide +kernel
theorem dd_X10_become_9 : decode mb_X10_become 9 = .ok (.iconst 0, 1) := by decide +kernel
theorem dd_X10_become_10 : decode mb_X10_become 10 = .ok (.bipush 30, 2) := by decide +kernel
theorem dd_X10_become_12 : decode mb_X10_become 12 = .ok (.invokestatic 98, 3) := by decide +kernel
theorem dd_X10_become_15 : decode mb_X10_become 15 = .ok (.aload_n 1, 1) := by decide +kernel
theorem dd_X10_become_16 : decode mb_X10_become 16 = .ok (.getfield 15, 3) := by decide +kernel
theorem dd_X10_become_19 : decode mb_X10_become 19 = .ok (.iconst 0, 1) := by decide +kernel
theorem dd_X10_become_20 : decode mb_X10_become 20 = .ok (.aload_n 0, 1) := by decide +kernel
theorem dd_X10_become_21 : decode mb_X10_become 21 = .ok (.getfield 15, 3) := by decide +kernel
theorem dd_X10_become_24 : decode mb_X10_become 24 = .ok (.iconst 0, 1) := by decide +kernel
theorem dd_X10_become_25 : decode mb_X10_become 25 = .ok (.bipush 30, 2) := by decide +kernel
theorem dd_X10_become_27 : decode mb_X10_become 27 = .ok (.invokestatic 98, 3) := by decide +kernel
theorem dd_X10_become_30 : decode mb_X10_become 30 = .ok (.aload_n 1, 1) := by decide +kernel
theorem dd_X10_become_31 : decode mb_X10_become 31 = .ok (.getfield 18, 3) := by decide +kernel
theorem dd_X10_become_34 : decode mb_X10_become 34 = .ok (.iconst 0, 1) := by decide +kernel
theorem dd_X10_become_35 : decode mb_X10_become 35 = .ok (.aload_n 0, 1) := by decide +kernel
theorem dd_X10_become_36 : decode mb_X10_become 36 = .ok (.getfield 18, 3) := by decide +kernel
theorem dd_X10_become_39 : decode mb_X10_become 39 = .ok (.iconst 0, 1) := by decide +kernel
theorem dd_X10_become_40 : decode mb_X10_become 40 = .ok (.bipush 30, 2) := by decide +kernel
theorem dd_X10_become_42 : decode mb_X10_become 42 = .ok (.invokestatic 98, 3) := by decide +kernel
theorem dd_X10_become_45 : decode mb_X10_become 45 = .ok (.aload_n 1, 1) := by decide +kernel
theorem dd_X10_become_46 : decode mb_X10_become 46 = .ok (.getfield 21, 3) := by decide +kernel
theorem dd_X10_become_49 : decode mb_X10_become 49 = .ok (.iconst 0, 1) := by decide +kernel
theorem dd_X10_become_50 : decode mb_X10_become 50 = .ok (.aload_n 0, 1) := by decide +kernel
theorem dd_X10_become_51 : decode mb_X10_become 51 = .ok (.getfield 21, 3) := by decide +kernel
theorem dd_X10_become_54 : decode mb_X10_become 54 = .ok (.iconst 0, 1) := by decide +kernel
theorem dd_X10_become_55 : decode mb_X10_become 55 = .ok (.bipush 30, 2) := by decide +kernel
theorem dd_X10_become_57 : decode mb_X10_become 57 = .ok (.invokestatic 98, 3) := by decide +kernel
theorem dd_X10_become_60 : decode mb_X10_become 60 = .ok (.aload_n 1, 1) := by decide +kernel
theorem dd_X10_become_61 : decode mb_X10_become 61 = .ok (.getfield 24, 3) := by decide +kernel
theorem dd_X10_become_64 : decode mb_X10_become 64 = .ok (.iconst 0, 1) := by decide +kernel
theorem dd_X10_become_65 : decode mb_X10_become 65 = .ok (.aload_n 0, 1) := by decide +kernel
theorem dd_X10_become_66 : decode mb_X10_become 66 = .ok (.getfield 24, 3) := by decide +kernel
theorem dd_X10_become_69 : decode mb_X10_become 69 = .ok (.iconst 0, 1) := by decide +kernel
theorem dd_X10_become_70 : decode mb_X10_become 70 = .ok (.bipush 30, 2) := by decide +kernel
theorem dd_X10_become_72 : decode mb_X10_become 72 = .ok (.invokestatic 98, 3) := by decide +kernel
theorem dd_X10_become_75 : decode mb_X10_become 75 = .ok (.aload_n 1, 1) := by decide +kernel
theorem dd_X10_become_76 : decode mb_X10_become 76 = .ok (.getfield 27, 3) := by decide +kernel
theorem dd_X10_become_79 : decode mb_X10_become 79 = .ok (.iconst 0, 1) := by decide +kernel
theorem dd_X10_become_80 : decode mb_X10_become 80 = .ok (.aload_n 0, 1) := by decide +kernel
theorem dd_X10_become_81 : decode mb_X10_become 81 = .ok (.getfield 27, 3) := by decide +kernel
theorem dd_X10_become_84 : decode mb_X10_become 84 = .ok (.iconst 0, 1) := by decide +kernel
theorem dd_X10_become_85 : decode mb_X10_become 85 = .ok (.bipush 30, 2) := by decide +kernel
theorem dd_X10_become_87 : decode mb_X10_become 87 = .ok (.invokestatic 98, 3) := by decide +kernel
theorem dd_X10_become_90 : decode mb_X10_become 90 = .ok (.aload_n 0, 1) := by decide +kernel
theorem dd_X10_become_91 : decode mb_X10_become 91 = .ok (.aload_n 1, 1) := by decide +kernel
theorem dd_X10_become_92 : decode mb_X10_become 92 = .ok (.getfield 30, 3) := by decide +kernel
theorem dd_X10_become_95 : decode mb_X10_become 95 = .ok (.putfield 30, 3) := by decide +kernel
theorem dd_X10_become_98 : decode mb_X10_become 98 = .ok (.return_, 1) := by decide +kernel
theorem dd_X10_chinaWorth_0 : decode mb_X10_chinaWorth 0 = .ok (.iconst 0, 1) := by decide +kernel
theorem dd_X10_chinaWorth_1 : decode mb_X10_chinaWorth 1 = .ok (.aload_n 0, 1) := by decide +kernel
theorem dd_X10_chinaWorth_2 : decode mb_X10_chinaWorth 2 = .ok (.getfield 15, 3) := by decide +kernel
theorem dd_X10_chinaWorth_5 : decode mb_X10_chinaWorth 5 = .ok (.iload_n 1, 1) := by decide +kernel
theorem dd_X10_chinaWorth_6 : decode mb_X10_chinaWorth 6 = .ok (.iaload, 1) := by decide +kernel
theorem dd_X10_chinaWorth_7 : decode mb_X10_chinaWorth 7 = .ok (.aload_n 0, 1) := by decide +kernel
theorem dd_X10_chinaWorth_8 : decode mb_X10_chinaWorth 8 = .ok (.getfield 15, 3) := by decide +kernel
theorem dd_X10_chinaWorth_11 : decode mb_X10_chinaWorth 11 = .ok (.iload_n 1, 1) := by decide +kernel
theorem dd_X10_chinaWorth_12 : decode mb_X10_chinaWorth 12 = .ok (.iaload, 1) := by decide +kernel
theorem dd_X10_chinaWorth_13 : decode mb_X10_chinaWorth 13 = .ok (.bipush 10, 2) := by decide +kernel
theorem dd_X10_chinaWorth_15 : decode mb_X10_chinaWorth 15 = .ok (.idiv, 1) := by decide +kernel
theorem dd_X10_chinaWorth_16 : decode mb_X10_chinaWorth 16 = .ok (.aload_n 0, 1) := by decide +kernel
theorem dd_X10_chinaWorth_17 : decode mb_X10_chinaWorth 17 = .ok (.getfield 18, 3) := by decide +kernel
theorem dd_X10_chinaWorth_20 : decode mb_X10_chinaWorth 20 = .ok (.iload_n 1, 1) := by decide +kernel
theorem dd_X10_chinaWorth_21 : decode mb_X10_chinaWorth 21 = .ok (.iaload, 1) := by decide +kernel
theorem dd_X10_chinaWorth_22 : decode mb_X10_chinaWorth 22 = .ok (.invokestatic 68, 3) := by decide +kernel
theorem dd_X10_chinaWorth_25 : decode mb_X10_chinaWorth 25 = .ok (.imul, 1) := by decide +kernel
theorem dd_X10_chinaWorth_26 : decode mb_X10_chinaWorth 26 = .ok (.isub, 1) := by decide +kernel
theorem dd_X10_chinaWorth_27 : decode mb_X10_chinaWorth 27 = .ok (.invokestatic 73, 3) := by decide +kernel
theorem dd_X10_chinaWorth_30 : decode mb_X10_chinaWorth 30 = .ok (.ireturn, 1) := by decide +kernel
theorem dd_X10_countLeft_0 : decode mb_X10_countLeft 0 = .ok (.iconst 0, 1) := by decide +kernel
theorem dd_X10_countLeft_1 : decode mb_X10_countLeft 1 = .ok (.istore_n 1, 1) := by decide +kernel
theorem dd_X10_countLeft_2 : decode mb_X10_countLeft 2 = .ok (.iconst 0, 1) := by decide +kernel
theorem dd_X10_countLeft_3 : decode mb_X10_countLeft 3 = .ok (.istore_n 2, 1) := by decide +kernel
theorem dd_X10_countLeft_4 : decode mb_X10_countLeft 4 = .ok (.iload_n 2, 1) := by decide +kernel
theorem dd_X10_countLeft_5 : decode mb_X10_countLeft 5 = .ok (.aload_n 0, 1) := by decide +kernel
theorem dd_X10_countLeft_6 : decode mb_X10_countLeft 6 = .ok (.getfield 30, 3) := by decide +kernel
theorem dd_X10_countLeft_9 : decode mb_X10_countLeft 9 = .ok (.if_icmp .ge 20, 3) := by decide +kernel
theorem dd_X10_countLeft_12 : decode mb_X10_countLeft 12 = .ok (.aload_n 0, 1) := by decide +kernel
theorem dd_X10_countLeft_13 : decode mb_X10_countLeft 13 = .ok (.iload_n 2, 1) := by decide +kernel
theorem dd_X10_countLeft_14 : decode mb_X10_countLeft 14 = .ok (.invokevirtual 41, 3) := by decide +kernel
theorem dd_X10_countLeft_17 : decode mb_X10_countLeft 17 = .ok (.ifCond .ne 6, 3) := by decide +kernel
theorem dd_X10_countLeft_20 : decode mb_X10_countLeft 20 = .ok (.iinc 1 1, 3) := by decide +kernel
theorem dd_X10_countLeft_23 : decode mb_X10_countLeft 23 = .ok (.iinc 2 1, 3) := by decide +kernel
theorem dd_X10_countLeft_26 : decode mb_X10_countLeft 26 = .ok (.goto (-22), 3) := by decide +kernel
theorem dd_X10_countLeft_29 : decode mb_X10_countLeft 29 = .ok (.iload_n 1, 1) := by decide +kernel
theorem dd_X10_countLeft_30 : decode mb_X10_countLeft 30 = .ok (.ireturn, 1) := by decide +kernel
theorem dd_X10_dearestUnshared_0 : decode mb_X10_dearestUnshared 0 = .ok (.iconst (-1), 1) := by decide +kernel
theorem dd_X10_dearestUnshared_1 : decode mb_X10_dearestUnshared 1 = .ok (.istore_n 2, 1) := by decide +kernel
theorem dd_X10_dearestUnshared_2 : decode mb_X10_dearestUnshared 2 = .ok (.iconst 0, 1) := by decide +kernel
theorem dd_X10_dearestUnshared_3 : decode mb_X10_dearestUnshared 3 = .ok (.istore_n 3, 1) := by decide +kernel
theorem dd_X10_dearestUnshared_4 : decode mb_X10_dearestUnshared 4 = .ok (.iconst 0, 1) := by decide +kernel
theorem dd_X10_dearestUnshared_5 : decode mb_X10_dearestUnshared 5 = .ok (.istore 4, 2) := by decide +kernel
theorem dd_X10_dearestUnshared_7 : decode mb_X10_dearestUnshared 7 = .ok (.iload 4, 2) := by decide +kernel
theorem dd_X10_dearestUnshared_9 : decode mb_X10_dearestUnshared 9 = .ok (.aload_n 0, 1) := by decide +kernel
theorem dd_X10_dearestUnshared_10 : decode mb_X10_dearestUnshared 10 = .ok (.getfield 30, 3) := by decide +kernel
theorem dd_X10_dearestUnshared_13 : decode mb_X10_dearestUnshared 13 = .ok (.if_icmp .ge 59, 3) := by decide +kernel
theorem dd_X10_dearestUnshared_16 : decode mb_X10_dearestUnshared 16 = .ok (.aload_n 0, 1) := by decide +kernel
theorem dd_X10_dearestUnshared_17 : decode mb_X10_dearestUnshared 17 = .ok (.iload 4, 2) := by decide +kernel
theorem dd_X10_dearestUnshared_19 : decode mb_X10_dearestUnshared 19 = .ok (.invokevirtual 41, 3) := by decide +kernel
theorem dd_X10_dearestUnshared_22 : decode mb_X10_dearestUnshared 22 = .ok (.ifCond .ne 44, 3) := by decide +kernel
theorem dd_X10_dearestUnshared_25 : decode mb_X10_dearestUnshared 25 = .ok (.aload_n 0, 1) := by decide +kernel
theorem dd_X10_dearestUnshared_26 : decode mb_X10_dearestUnshared 26 = .ok (.getfield 34, 3) := by decide +kernel
theorem dd_X10_dearestUnshared_29 : decode mb_X10_dearestUnshared 29 = .ok (.iload 4, 2) := by decide +kernel
theorem dd_X10_dearestUnshared_31 : decode mb_X10_dearestUnshared 31 = .ok (.iaload, 1) := by decide +kernel
theorem dd_X10_dearestUnshared_32 : decode mb_X10_dearestUnshared 32 = .ok (.iconst (-1), 1) := by decide +kernel
theorem dd_X10_dearestUnshared_33 : decode mb_X10_dearestUnshared 33 = .ok (.if_icmp .ne 33, 3) := by decide +kernel
theorem dd_X10_dearestUnshared_36 : decode mb_X10_dearestUnshared 36 = .ok (.aload_n 0, 1) := by decide +kernel
theorem dd_X10_dearestUnshared_37 : decode mb_X10_dearestUnshared 37 = .ok (.iload 4, 2) := by decide +kernel
theorem dd_X10_dearestUnshared_39 : decode mb_X10_dearestUnshared 39 = .ok (.iload_n 1, 1) := by decide +kernel
theorem dd_X10_dearestUnshared_40 : decode mb_X10_dearestUnshared 40 = .ok (.invokevirtual 79, 3) := by decide +kernel
theorem dd_X10_dearestUnshared_43 : decode mb_X10_dearestUnshared 43 = .ok (.ifCond .eq 23, 3) := by decide +kernel
theorem dd_X10_dearestUnshared_46 : decode mb_X10_dearestUnshared 46 = .ok (.aload_n 0, 1) := by decide +kernel
theorem dd_X10_dearestUnshared_47 : decode mb_X10_dearestUnshared 47 = .ok (.iload 4, 2) := by decide +kernel
theorem dd_X10_dearestUnshared_49 : decode mb_X10_dearestUnshared 49 = .ok (.invokevirtual 76, 3) := by decide +kernel
theorem dd_X10_dearestUnshared_52 : decode mb_X10_dearestUnshared 52 = .ok (.iload_n 3, 1) := by decide +kernel
theorem dd_X10_dearestUnshared_53 : decode mb_X10_dearestUnshared 53 = .ok (.if_icmp .lt 13, 3) := by decide +kernel
theorem dd_X10_dearestUnshared_56 : decode mb_X10_dearestUnshared 56 = .ok (.iload 4, 2) := by decide +kernel
theorem dd_X10_dearestUnshared_58 : decode mb_X10_dearestUnshared 58 = .ok (.istore_n 2, 1) := by decide +kernel
theorem dd_X10_dearestUnshared_59 : decode mb_X10_dearestUnshared 59 = .ok (.aload_n 0, 1) := by decide +kernel
theorem dd_X10_dearestUnshared_60 : decode mb_X10_dearestUnshared 60 = .ok (.iload 4, 2) := by decide +kernel
theorem dd_X10_dearestUnshared_62 : decode mb_X10_dearestUnshared 62 = .ok (.invokevirtual 76, 3) := by decide +kernel
theorem dd_X10_dearestUnshared_65 : decode mb_X10_dearestUnshared 65 = .ok (.istore_n 3, 1) := by decide +kernel
theorem dd_X10_dearestUnshared_66 : decode mb_X10_dearestUnshared 66 = .ok (.iinc 4 1, 3) := by decide +kernel
theorem dd_X10_dearestUnshared_69 : decode mb_X10_dearestUnshared 69 = .ok (.goto (-62), 3) := by decide +kernel
theorem dd_X10_dearestUnshared_72 : decode mb_X10_dearestUnshared 72 = .ok (.iload_n 2, 1) := by decide +kernel
theorem dd_X10_dearestUnshared_73 : decode mb_X10_dearestUnshared 73 = .ok (.ireturn, 1) := by decide +kernel
theorem dd_X10_has_0 : decode mb_X10_has 0 = .ok (.iload_n 1, 1) := by decide +kernel
theorem dd_X10_has_1 : decode mb_X10_has 1 = .ok (.iconst 0, 1) := by decide +kernel
theorem dd_X10_has_2 : decode mb_X10_has 2 = .ok (.aload_n 0, 1) := by decide +kernel
theorem dd_X10_has_3 : decode mb_X10_has 3 = .ok (.getfield 30, 3) := by decide +kernel
theorem dd_X10_has_6 : decode mb_X10_has 6 = .ok (.iconst 1, 1) := by decide +kernel
theorem dd_X10_has_7 : decode mb_X10_has 7 = .ok (.isub, 1) := by decide +kernel
theorem dd_X10_has_8 : decode mb_X10_has 8 = .ok (.invokestatic 37, 3) := by decide +kernel
theorem dd_X10_has_11 : decode mb_X10_has 11 = .ok (.ireturn, 1) := by decide +kernel
theorem dd_X10_init_0 : decode mb_X10_init 0 = .ok (.aload_n 0, 1) := by decide +kernel
theorem dd_X10_init_1 : decode mb_X10_init 1 = .ok (.invokespecial 3, 3) := by decide +kernel
theorem dd_X10_init_4 : decode mb_X10_init 4 = .ok (.aload_n 0, 1) := by decide +kernel
theorem dd_X10_init_5 : decode mb_X10_init 5 = .ok (.bipush 30, 2) := by decide +kernel
theorem dd_X10_init_7 : decode mb_X10_init 7 = .ok (.newarray .int, 2) := by decide +kernel
theorem dd_X10_init_9 : decode mb_X10_init 9 = .ok (.putfield 9, 3) := by decide +kernel
theorem dd_X10_init_12 : decode mb_X10_init 12 = .ok (.aload_n 0, 1) := by decide +kernel
theorem dd_X10_init_13 : decode mb_X10_init 13 = .ok (.bipush 30, 2) := by decide +kernel
theorem dd_X10_init_15 : decode mb_X10_init 15 = .ok (.newarray .int, 2) := by decide +kernel
theorem dd_X10_init_17 : decode mb_X10_init 17 = .ok (.putfield 15, 3) := by decide +kernel
theorem dd_X10_init_20 : decode mb_X10_init 20 = .ok (.aload_n 0, 1) := by decide +kernel
theorem dd_X10_init_21 : decode mb_X10_init 21 = .ok (.bipush 30, 2) := by decide +kernel
theorem dd_X10_init_23 : decode mb_X10_init 23 = .ok (.newarray .int, 2) := by decide +kernel
theorem dd_X10_init_25 : decode mb_X10_init 25 = .ok (.putfield 18, 3) := by decide +kernel
theorem dd_X10_init_28 : decode mb_X10_init 28 = .ok (.aload_n 0, 1) := by decide +kernel
theorem dd_X10_init_29 : decode mb_X10_init 29 = .ok (.bipush 30, 2) := by decide +kernel
theorem dd_X10_init_31 : decode mb_X10_init 31 = .ok (.newarray .int, 2) := by decide +kernel
theorem dd_X10_init_33 : decode mb_X10_init 33 = .ok (.putfield 21, 3) := by decide +kernel
theorem dd_X10_init_36 : decode mb_X10_init 36 = .ok (.aload_n 0, 1) := by decide +kernel
theorem dd_X10_init_37 : decode mb_X10_init 37 = .ok (.bipush 30, 2) := by decide +kernel
theorem dd_X10_init_39 : decode mb_X10_init 39 = .ok (.newarray .int, 2) := by decide +kernel
theorem dd_X10_init_41 : decode mb_X10_init 41 = .ok (.putfield 24, 3) := by decide +kernel
theorem dd_X10_init_44 : decode mb_X10_init 44 = .ok (.aload_n 0, 1) := by decide +kernel
theorem dd_X10_init_45 : decode mb_X10_init 45 = .ok (.bipush 30, 2) := by decide +kernel
theorem dd_X10_init_47 : decode mb_X10_init 47 = .ok (.newarray .int, 2) := by decide +kernel
theorem dd_X10_init_49 : decode mb_X10_init 49 = .ok (.putfield 27, 3) := by decide +kernel
theorem dd_X10_init_52 : decode mb_X10_init 52 = .ok (.aload_n 0, 1) := by decide +kernel
theorem dd_X10_init_53 : decode mb_X10_init 53 = .ok (.iconst 0, 1) := by decide +kernel
theorem dd_X10_init_54 : decode mb_X10_init 54 = .ok (.putfield 30, 3) := by decide +kernel
theorem dd_X10_init_57 : decode mb_X10_init 57 = .ok (.aload_n 0, 1) := by decide +kernel
theorem dd_X10_init_58 : decode mb_X10_init 58 = .ok (.bipush 30, 2) := by decide +kernel
theorem dd_X10_init_60 : decode mb_X10_init 60 = .ok (.newarray .int, 2) := by decide +kernel
theorem dd_X10_init_62 : decode mb_X10_init 62 = .ok (.putfield 34, 3) := by decide +kernel
theorem dd_X10_init_65 : decode mb_X10_init 65 = .ok (.return_, 1) := by decide +kernel
theorem dd_X10_isOfKinds_0 : decode mb_X10_isOfKinds 0 = .ok (.iload_n 2, 1) := by decide +kernel
theorem dd_X10_isOfKinds_1 : decode mb_X10_isOfKinds 1 = .ok (.aload_n 0, 1) := by decide +kernel
theorem dd_X10_isOfKinds_2 : decode mb_X10_isOfKinds 2 = .ok (.getfield 9, 3) := by decide +kernel
theorem dd_X10_isOfKinds_5 : decode mb_X10_isOfKinds 5 = .ok (.iload_n 1, 1) := by decide +kernel
theorem dd_X10_isOfKinds_6 : decode mb_X10_isOfKinds 6 = .ok (.iaload, 1) := by decide +kernel
theorem dd_X10_isOfKinds_7 : decode mb_X10_isOfKinds 7 = .ok (.invokestatic 45, 3) := by decide +kernel
theorem dd_X10_isOfKinds_10 : decode mb_X10_isOfKinds 10 = .ok (.ireturn, 1) := by decide +kernel
theorem dd_X10_isOfOrUnder_0 : decode mb_X10_isOfOrUnder 0 = .ok (.aload_n 0, 1) := by decide +kernel
theorem dd_X10_isOfOrUnder_1 : decode mb_X10_isOfOrUnder 1 = .ok (.getfield 9, 3) := by decide +kernel
theorem dd_X10_isOfOrUnder_4 : decode mb_X10_isOfOrUnder 4 = .ok (.iload_n 1, 1) := by decide +kernel
theorem dd_X10_isOfOrUnder_5 : decode mb_X10_isOfOrUnder 5 = .ok (.iaload, 1) := by decide +kernel
theorem dd_X10_isOfOrUnder_6 : decode mb_X10_isOfOrUnder 6 = .ok (.istore_n 3, 1) := by decide +kernel
theorem dd_X10_isOfOrUnder_7 : decode mb_X10_isOfOrUnder 7 = .ok (.iconst 0, 1) := by decide +kernel
theorem dd_X10_isOfOrUnder_8 : decode mb_X10_isOfOrUnder 8 = .ok (.istore 4, 2) := by decide +kernel
theorem dd_X10_isOfOrUnder_10 : decode mb_X10_isOfOrUnder 10 = .ok (.iload 4, 2) := by decide +kernel
theorem dd_X10_isOfOrUnder_12 : decode mb_X10_isOfOrUnder 12 = .ok (.bipush 6, 2) := by decide +kernel
theorem dd_X10_isOfOrUnder_14 : decode mb_X10_isOfOrUnder 14 = .ok (.if_icmp .ge 27, 3) := by decide +kernel
theorem dd_X10_isOfOrUnder_17 : decode mb_X10_isOfOrUnder 17 = .ok (.iload_n 3, 1) := by decide +kernel
theorem dd_X10_isOfOrUnder_18 : decode mb_X10_isOfOrUnder 18 = .ok (.iconst (-1), 1) := by decide +kernel
theorem dd_X10_isOfOrUnder_19 : decode mb_X10_isOfOrUnder 19 = .ok (.if_icmp .eq 22, 3) := by decide +kernel
theorem dd_X10_isOfOrUnder_22 : decode mb_X10_isOfOrUnder 22 = .ok (.iload_n 3, 1) := by decide +kernel
theorem dd_X10_isOfOrUnder_23 : decode mb_X10_isOfOrUnder 23 = .ok (.iload_n 2, 1) := by decide +kernel
theorem dd_X10_isOfOrUnder_24 : decode mb_X10_isOfOrUnder 24 = .ok (.if_icmp .ne 5, 3) := by decide +kernel
theorem dd_X10_isOfOrUnder_27 : decode mb_X10_isOfOrUnder 27 = .ok (.iconst 1, 1) := by decide +kernel
theorem dd_X10_isOfOrUnder_28 : decode mb_X10_isOfOrUnder 28 = .ok (.ireturn, 1) := by decide +kernel
theorem dd_X10_isOfOrUnder_29 : decode mb_X10_isOfOrUnder 29 = .ok (.getstatic 49, 3) := by decide +kernel
theorem dd_X10_isOfOrUnder_32 : decode mb_X10_isOfOrUnder 32 = .ok (.iload_n 3, 1) := by decide +kernel
theorem dd_X10_isOfOrUnder_33 : decode mb_X10_isOfOrUnder 33 = .ok (.iaload, 1) := by decide +kernel
theorem dd_X10_isOfOrUnder_34 : decode mb_X10_isOfOrUnder 34 = .ok (.istore_n 3, 1) := by decide +kernel
theorem dd_X10_isOfOrUnder_35 : decode mb_X10_isOfOrUnder 35 = .ok (.iinc 4 1, 3) := by decide +kernel
theorem dd_X10_isOfOrUnder_38 : decode mb_X10_isOfOrUnder 38 = .ok (.goto (-28), 3) := by decide +kernel
theorem dd_X10_isOfOrUnder_41 : decode mb_X10_isOfOrUnder 41 = .ok (.iconst 0, 1) := by decide +kernel
theorem dd_X10_isOfOrUnder_42 : decode mb_X10_isOfOrUnder 42 = .ok (.ireturn, 1) := by decide +kernel
theorem dd_X10_isOffered_0 : decode mb_X10_isOffered 0 = .ok (.aload_n 0, 1) := by decide +kernel
theorem dd_X10_isOffered_1 : decode mb_X10_isOffered 1 = .ok (.getfield 21, 3) := by decide +kernel
theorem dd_X10_isOffered_4 : decode mb_X10_isOffered 4 = .ok (.iload_n 1, 1) := by decide +kernel
theorem dd_X10_isOffered_5 : decode mb_X10_isOffered 5 = .ok (.iaload, 1) := by decide +kernel
theorem dd_X10_isOffered_6 : decode mb_X10_isOffered 6 = .ok (.iconst (-1), 1) := by decide +kernel
theorem dd_X10_isOffered_7 : decode mb_X10_isOffered 7 = .ok (.if_icmp .eq 15, 3) := by decide +kernel
theorem dd_X10_isOffered_10 : decode mb_X10_isOffered 10 = .ok (.aload_n 0, 1) := by decide +kernel
theorem dd_X10_isOffered_11 : decode mb_X10_isOffered 11 = .ok (.iload_n 1, 1) := by decide +kernel
theorem dd_X10_isOffered_12 : decode mb_X10_isOffered 12 = .ok (.invokevirtual 41, 3) := by decide +kernel
theorem dd_X10_isOffered_15 : decode mb_X10_isOffered 15 = .ok (.ifCond .ne 7, 3) := by decide +kernel
theorem dd_X10_isOffered_18 : decode mb_X10_isOffered 18 = .ok (.iconst 1, 1) := by decide +kernel
theorem dd_X10_isOffered_19 : decode mb_X10_isOffered 19 = .ok (.goto 4, 3) := by decide +kernel
theorem dd_X10_isOffered_22 : decode mb_X10_isOffered 22 = .ok (.iconst 0, 1) := by decide +kernel
theorem dd_X10_isOffered_23 : decode mb_X10_isOffered 23 = .ok (.ireturn, 1) := by decide +kernel
theorem dd_X10_isSold_0 : decode mb_X10_isSold 0 = .ok (.aload_n 0, 1) := by decide +kernel
theorem dd_X10_isSold_1 : decode mb_X10_isSold 1 = .ok (.getfield 24, 3) := by decide +kernel
theorem dd_X10_isSold_4 : decode mb_X10_isSold 4 = .ok (.iload_n 1, 1) := by decide +kernel
theorem dd_X10_isSold_5 : decode mb_X10_isSold 5 = .ok (.iaload, 1) := by decide +kernel
theorem dd_X10_isSold_6 : decode mb_X10_isSold 6 = .ok (.iconst (-1), 1) := by decide +kernel
theorem dd_X10_isSold_7 : decode mb_X10_isSold 7 = .ok (.if_icmp .eq 7, 3) := by decide +kernel
theorem dd_X10_isSold_10 : decode mb_X10_isSold 10 = .ok (.iconst 1, 1) := by decide +kernel
theorem dd_X10_isSold_11 : decode mb_X10_isSold 11 = .ok (.goto 4, 3) := by decide +kernel
theorem dd_X10_isSold_14 : decode mb_X10_isSold 14 = .ok (.iconst 0, 1) := by decide +kernel
theorem dd_X10_isSold_15 : decode mb_X10_isSold 15 = .ok (.ireturn, 1) := by decide +kernel
theorem dd_X10_lidWorth_0 : decode mb_X10_lidWorth 0 = .ok (.aload_n 0, 1) := by decide +kernel
theorem dd_X10_lidWorth_1 : decode mb_X10_lidWorth 1 = .ok (.getfield 18, 3) := by decide +kernel
theorem dd_X10_lidWorth_4 : decode mb_X10_lidWorth 4 = .ok (.iload_n 1, 1) := by decide +kernel
theorem dd_X10_lidWorth_5 : decode mb_X10_lidWorth 5 = .ok (.iaload, 1) := by decide +kernel
theorem dd_X10_lidWorth_6 : decode mb_X10_lidWorth 6 = .ok (.bipush 7, 2) := by decide +kernel
theorem dd_X10_lidWorth_8 : decode mb_X10_lidWorth 8 = .ok (.invokestatic 45, 3) := by decide +kernel
theorem dd_X10_lidWorth_11 : decode mb_X10_lidWorth 11 = .ok (.ifCond .eq 7, 3) := by decide +kernel
theorem dd_X10_lidWorth_14 : decode mb_X10_lidWorth 14 = .ok (.iconst 0, 1) := by decide +kernel
theorem dd_X10_lidWorth_15 : decode mb_X10_lidWorth 15 = .ok (.goto 5, 3) := by decide +kernel
theorem dd_X10_lidWorth_18 : decode mb_X10_lidWorth 18 = .ok (.bipush 50, 2) := by decide +kernel
theorem dd_X10_lidWorth_20 : decode mb_X10_lidWorth 20 = .ok (.ireturn, 1) := by decide +kernel
theorem dd_X10_share_0 : decode mb_X10_share 0 = .ok (.aload_n 0, 1) := by decide +kernel
theorem dd_X10_share_1 : decode mb_X10_share 1 = .ok (.getfield 34, 3) := by decide +kernel
theorem dd_X10_share_4 : decode mb_X10_share 4 = .ok (.iconst (-1), 1) := by decide +kernel
theorem dd_X10_share_5 : decode mb_X10_share 5 = .ok (.invokestatic 82, 3) := by decide +kernel
theorem dd_X10_share_8 : decode mb_X10_share 8 = .ok (.aload_n 0, 1) := by decide +kernel
theorem dd_X10_share_9 : decode mb_X10_share 9 = .ok (.invokevirtual 88, 3) := by decide +kernel
theorem dd_X10_share_12 : decode mb_X10_share 12 = .ok (.istore_n 2, 1) := by decide +kernel
theorem dd_X10_share_13 : decode mb_X10_share 13 = .ok (.iconst 0, 1) := by decide +kernel
theorem dd_X10_share_14 : decode mb_X10_share 14 = .ok (.istore_n 3, 1) := by decide +kernel
theorem dd_X10_share_15 : decode mb_X10_share 15 = .ok (.iload_n 3, 1) := by decide +kernel
theorem dd_X10_share_16 : decode mb_X10_share 16 = .ok (.iload_n 2, 1) := by decide +kernel
theorem dd_X10_share_17 : decode mb_X10_share 17 = .ok (.if_icmp .ge 57, 3) := by decide +kernel
theorem dd_X10_share_20 : decode mb_X10_share 20 = .ok (.iload_n 1, 1) := by decide +kernel
theorem dd_X10_share_21 : decode mb_X10_share 21 = .ok (.iload_n 3, 1) := by decide +kernel
theorem dd_X10_share_22 : decode mb_X10_share 22 = .ok (.iadd, 1) := by decide +kernel
theorem dd_X10_share_23 : decode mb_X10_share 23 = .ok (.iconst 3, 1) := by decide +kernel
theorem dd_X10_share_24 : decode mb_X10_share 24 = .ok (.irem, 1) := by decide +kernel
theorem dd_X10_share_25 : decode mb_X10_share 25 = .ok (.istore 4, 2) := by decide +kernel
theorem dd_X10_share_27 : decode mb_X10_share 27 = .ok (.aload_n 0, 1) := by decide +kernel
theorem dd_X10_share_28 : decode mb_X10_share 28 = .ok (.getstatic 92, 3) := by decide +kernel
theorem dd_X10_share_31 : decode mb_X10_share 31 = .ok (.iload 4, 2) := by decide +kernel
theorem dd_X10_share_33 : decode mb_X10_share 33 = .ok (.iaload, 1) := by decide +kernel
theorem dd_X10_share_34 : decode mb_X10_share 34 = .ok (.invokevirtual 95, 3) := by decide +kernel
theorem dd_X10_share_37 : decode mb_X10_share 37 = .ok (.istore 5, 2) := by decide +kernel
theorem dd_X10_share_39 : decode mb_X10_share 39 = .ok (.iload 5, 2) := by decide +kernel
theorem dd_X10_share_41 : decode mb_X10_share 41 = .ok (.iconst (-1), 1) := by decide +kernel
theorem dd_X10_share_42 : decode mb_X10_share 42 = .ok (.if_icmp .ne 11, 3) := by decide +kernel
theorem dd_X10_share_45 : decode mb_X10_share 45 = .ok (.aload_n 0, 1) := by decide +kernel
theorem dd_X10_share_46 : decode mb_X10_share 46 = .ok (.bipush 63, 2) := by decide +kernel
theorem dd_X10_share_48 : decode mb_X10_share 48 = .ok (.invokevirtual 95, 3) := by decide +kernel
theorem dd_X10_share_51 : decode mb_X10_share 51 = .ok (.istore 5, 2) := by decide +kernel
theorem dd_X10_share_53 : decode mb_X10_share 53 = .ok (.iload 5, 2) := by decide +kernel
theorem dd_X10_share_55 : decode mb_X10_share 55 = .ok (.iconst (-1), 1) := by decide +kernel
theorem dd_X10_share_56 : decode mb_X10_share 56 = .ok (.if_icmp .eq 12, 3) := by decide +kernel
theorem dd_X10_share_59 : decode mb_X10_share 59 = .ok (.aload_n 0, 1) := by decide +kernel
theorem dd_X10_share_60 : decode mb_X10_share 60 = .ok (.getfield 34, 3) := by decide +kernel
theorem dd_X10_share_63 : decode mb_X10_share 63 = .ok (.iload 5, 2) := by decide +kernel
theorem dd_X10_share_65 : decode mb_X10_share 65 = .ok (.iload 4, 2) := by decide +kernel
theorem dd_X10_share_67 : decode mb_X10_share 67 = .ok (.iastore, 1) := by decide +kernel
theorem dd_X10_share_68 : decode mb_X10_share 68 = .ok (.iinc 3 1, 3) := by decide +kernel
theorem dd_X10_share_71 : decode mb_X10_share 71 = .ok (.goto (-56), 3) := by decide +kernel
theorem dd_X10_share_74 : decode mb_X10_share 74 = .ok (.return_, 1) := by decide +kernel
theorem dd_X10_trueWorth_0 : decode mb_X10_trueWorth 0 = .ok (.aload_n 0, 1) := by decide +kernel
theorem dd_X10_trueWorth_1 : decode mb_X10_trueWorth 1 = .ok (.getfield 9, 3) := by decide +kernel
theorem dd_X10_trueWorth_4 : decode mb_X10_trueWorth 4 = .ok (.iload_n 1, 1) := by decide +kernel
theorem dd_X10_trueWorth_5 : decode mb_X10_trueWorth 5 = .ok (.iaload, 1) := by decide +kernel
theorem dd_X10_trueWorth_6 : decode mb_X10_trueWorth 6 = .ok (.tableswitch 77 1 4 #[30, 36, 47, 64], 30) := by decide +kernel
theorem dd_X10_trueWorth_36 : decode mb_X10_trueWorth 36 = .ok (.aload_n 0, 1) := by decide +kernel
theorem dd_X10_trueWorth_37 : decode mb_X10_trueWorth 37 = .ok (.iload_n 1, 1) := by decide +kernel
theorem dd_X10_trueWorth_38 : decode mb_X10_trueWorth 38 = .ok (.invokevirtual 52, 3) := by decide +kernel
theorem dd_X10_trueWorth_41 : decode mb_X10_trueWorth 41 = .ok (.ireturn, 1) := by decide +kernel
theorem dd_X10_trueWorth_42 : decode mb_X10_trueWorth 42 = .ok (.aload_n 0, 1) := by decide +kernel
theorem dd_X10_trueWorth_43 : decode mb_X10_trueWorth 43 = .ok (.iload_n 1, 1) := by decide +kernel
theorem dd_X10_trueWorth_44 : decode mb_X10_trueWorth 44 = .ok (.aload_n 0, 1) := by decide +kernel
theorem dd_X10_trueWorth_45 : decode mb_X10_trueWorth 45 = .ok (.iload_n 1, 1) := by decide +kernel
theorem dd_X10_trueWorth_46 : decode mb_X10_trueWorth 46 = .ok (.invokevirtual 52, 3) := by decide +kernel
theorem dd_X10_trueWorth_49 : decode mb_X10_trueWorth 49 = .ok (.invokevirtual 56, 3) := by decide +kernel
theorem dd_X10_trueWorth_52 : decode mb_X10_trueWorth 52 = .ok (.ireturn, 1) := by decide +kernel
theorem dd_X10_trueWorth_53 : decode mb_X10_trueWorth 53 = .ok (.aload_n 0, 1) := by decide +kernel
theorem dd_X10_trueWorth_54 : decode mb_X10_trueWorth 54 = .ok (.iload_n 1, 1) := by decide +kernel
theorem dd_X10_trueWorth_55 : decode mb_X10_trueWorth 55 = .ok (.aload_n 0, 1) := by decide +kernel
theorem dd_X10_trueWorth_56 : decode mb_X10_trueWorth 56 = .ok (.iload_n 1, 1) := by decide +kernel
theorem dd_X10_trueWorth_57 : decode mb_X10_trueWorth 57 = .ok (.invokevirtual 52, 3) := by decide +kernel
theorem dd_X10_trueWorth_60 : decode mb_X10_trueWorth 60 = .ok (.invokevirtual 56, 3) := by decide +kernel
theorem dd_X10_trueWorth_63 : decode mb_X10_trueWorth 63 = .ok (.aload_n 0, 1) := by decide +kernel
theorem dd_X10_trueWorth_64 : decode mb_X10_trueWorth 64 = .ok (.iload_n 1, 1) := by decide +kernel
theorem dd_X10_trueWorth_65 : decode mb_X10_trueWorth 65 = .ok (.invokevirtual 60, 3) := by decide +kernel
theorem dd_X10_trueWorth_68 : decode mb_X10_trueWorth 68 = .ok (.iadd, 1) := by decide +kernel
theorem dd_X10_trueWorth_69 : decode mb_X10_trueWorth 69 = .ok (.ireturn, 1) := by decide +kernel
theorem dd_X10_trueWorth_70 : decode mb_X10_trueWorth 70 = .ok (.aload_n 0, 1) := by decide +kernel
theorem dd_X10_trueWorth_71 : decode mb_X10_trueWorth 71 = .ok (.getfield 15, 3) := by decide +kernel
theorem dd_X10_trueWorth_74 : decode mb_X10_trueWorth 74 = .ok (.iload_n 1, 1) := by decide +kernel
theorem dd_X10_trueWorth_75 : decode mb_X10_trueWorth 75 = .ok (.iaload, 1) := by decide +kernel
theorem dd_X10_trueWorth_76 : decode mb_X10_trueWorth 76 = .ok (.sipush 200, 3) := by decide +kernel
theorem dd_X10_trueWorth_79 : decode mb_X10_trueWorth 79 = .ok (.invokestatic 63, 3) := by decide +kernel
theorem dd_X10_trueWorth_82 : decode mb_X10_trueWorth 82 = .ok (.ireturn, 1) := by decide +kernel
theorem dd_X10_trueWorth_83 : decode mb_X10_trueWorth 83 = .ok (.aload_n 0, 1) := by decide +kernel
theorem dd_X10_trueWorth_84 : decode mb_X10_trueWorth 84 = .ok (.getfield 15, 3) := by decide +kernel
theorem dd_X10_trueWorth_87 : decode mb_X10_trueWorth 87 = .ok (.iload_n 1, 1) := by decide +kernel
theorem dd_X10_trueWorth_88 : decode mb_X10_trueWorth 88 = .ok (.iaload, 1) := by decide +kernel
theorem dd_X10_trueWorth_89 : decode mb_X10_trueWorth 89 = .ok (.ireturn, 1) := by decide +kernel
theorem dd_X10_wordOf_0 : decode mb_X10_wordOf 0 = .ok (.iload_n 2, 1) := by decide +kernel
theorem dd_X10_wordOf_1 : decode mb_X10_wordOf 1 = .ok (.tableswitch 92 1 5 #[35, 45, 64, 70, 85], 35) := by decide +kernel
theorem dd_X10_wordOf_36 : decode mb_X10_wordOf 36 = .ok (.aload_n 0, 1) := by decide +kernel
theorem dd_X10_wordOf_37 : decode mb_X10_wordOf 37 = .ok (.getfield 18, 3) := by decide +kernel
theorem dd_X10_wordOf_40 : decode mb_X10_wordOf 40 = .ok (.iload_n 1, 1) := by decide +kernel
theorem dd_X10_wordOf_41 : decode mb_X10_wordOf 41 = .ok (.iaload, 1) := by decide +kernel
theorem dd_X10_wordOf_42 : decode mb_X10_wordOf 42 = .ok (.invokestatic 68, 3) := by decide +kernel
theorem dd_X10_wordOf_45 : decode mb_X10_wordOf 45 = .ok (.ireturn, 1) := by decide +kernel
theorem dd_X10_wordOf_46 : decode mb_X10_wordOf 46 = .ok (.aload_n 0, 1) := by decide +kernel
theorem dd_X10_wordOf_47 : decode mb_X10_wordOf 47 = .ok (.getfield 18, 3) := by decide +kernel
theorem dd_X10_wordOf_50 : decode mb_X10_wordOf 50 = .ok (.iload_n 1, 1) := by decide +kernel
theorem dd_X10_wordOf_51 : decode mb_X10_wordOf 51 = .ok (.iaload, 1) := by decide +kernel
theorem dd_X10_wordOf_52 : decode mb_X10_wordOf 52 = .ok (.iconst 0, 1) := by decide +kernel
theorem dd_X10_wordOf_53 : decode mb_X10_wordOf 53 = .ok (.invokestatic 45, 3) := by decide +kernel
theorem dd_X10_wordOf_56 : decode mb_X10_wordOf 56 = .ok (.ifCond .eq 7, 3) := by decide +kernel
theorem dd_X10_wordOf_59 : decode mb_X10_wordOf 59 = .ok (.iconst 1, 1) := by decide +kernel
theorem dd_X10_wordOf_60 : decode mb_X10_wordOf 60 = .ok (.goto 4, 3) := by decide +kernel
theorem dd_X10_wordOf_63 : decode mb_X10_wordOf 63 = .ok (.iconst 0, 1) := by decide +kernel
theorem dd_X10_wordOf_64 : decode mb_X10_wordOf 64 = .ok (.ireturn, 1) := by decide +kernel
theorem dd_X10_wordOf_65 : decode mb_X10_wordOf 65 = .ok (.aload_n 0, 1) := by decide +kernel
theorem dd_X10_wordOf_66 : decode mb_X10_wordOf 66 = .ok (.iload_n 1, 1) := by decide +kernel
theorem dd_X10_wordOf_67 : decode mb_X10_wordOf 67 = .ok (.invokevirtual 60, 3) := by decide +kernel
theorem dd_X10_wordOf_70 : decode mb_X10_wordOf 70 = .ok (.ireturn, 1) := by decide +kernel
theorem dd_X10_wordOf_71 : decode mb_X10_wordOf 71 = .ok (.iconst 0, 1) := by decide +kernel
theorem dd_X10_wordOf_72 : decode mb_X10_wordOf 72 = .ok (.aload_n 0, 1) := by decide +kernel
theorem dd_X10_wordOf_73 : decode mb_X10_wordOf 73 = .ok (.getfield 15, 3) := by decide +kernel
theorem dd_X10_wordOf_76 : decode mb_X10_wordOf 76 = .ok (.iload_n 1, 1) := by decide +kernel
theorem dd_X10_wordOf_77 : decode mb_X10_wordOf 77 = .ok (.iaload, 1) := by decide +kernel
theorem dd_X10_wordOf_78 : decode mb_X10_wordOf 78 = .ok (.sipush 200, 3) := by decide +kernel
theorem dd_X10_wordOf_81 : decode mb_X10_wordOf 81 = .ok (.isub, 1) := by decide +kernel
theorem dd_X10_wordOf_82 : decode mb_X10_wordOf 82 = .ok (.invokestatic 73, 3) := by decide +kernel
theorem dd_X10_wordOf_85 : decode mb_X10_wordOf 85 = .ok (.ireturn, 1) := by decide +kernel
theorem dd_X10_wordOf_86 : decode mb_X10_wordOf 86 = .ok (.aload_n 0, 1) := by decide +kernel
theorem dd_X10_wordOf_87 : decode mb_X10_wordOf 87 = .ok (.getfield 15, 3) := by decide +kernel
theorem dd_X10_wordOf_90 : decode mb_X10_wordOf 90 = .ok (.iload_n 1, 1) := by decide +kernel
theorem dd_X10_wordOf_91 : decode mb_X10_wordOf 91 = .ok (.iaload, 1) := by decide +kernel
theorem dd_X10_wordOf_92 : decode mb_X10_wordOf 92 = .ok (.ireturn, 1) := by decide +kernel
theorem dd_X10_wordOf_93 : decode mb_X10_wordOf 93 = .ok (.aload_n 0, 1) := by decide +kernel
theorem dd_X10_wordOf_94 : decode mb_X10_wordOf 94 = .ok (.iload_n 1, 1) := by decide +kernel
theorem dd_X10_wordOf_95 : decode mb_X10_wordOf 95 = .ok (.invokevirtual 76, 3) := by decide +kernel
theorem dd_X10_wordOf_98 : decode mb_X10_wordOf 98 = .ok (.ireturn, 1) := by decide +kernel
theorem dd_X10_worthLeft_0 : decode mb_X10_worthLeft 0 = .ok (.iconst 0, 1) := by decide +kernel
theorem dd_X10_worthLeft_1 : decode mb_X10_worthLeft 1 = .ok (.istore_n 2, 1) := by decide +kernel
theorem dd_X10_worthLeft_2 : decode mb_X10_worthLeft 2 = .ok (.iconst 0, 1) := by decide +kernel
theorem dd_X10_worthLeft_3 : decode mb_X10_worthLeft 3 = .ok (.istore_n 3, 1) := by decide +kernel
theorem dd_X10_worthLeft_4 : decode mb_X10_worthLeft 4 = .ok (.iload_n 3, 1) := by decide +kernel
theorem dd_X10_worthLeft_5 : decode mb_X10_worthLeft 5 = .ok (.aload_n 0, 1) := by decide +kernel
theorem dd_X10_worthLeft_6 : decode mb_X10_worthLeft 6 = .ok (.getfield 30, 3) := by decide +kernel
theorem dd_X10_worthLeft_9 : decode mb_X10_worthLeft 9 = .ok (.if_icmp .ge 34, 3) := by decide +kernel
theorem dd_X10_worthLeft_12 : decode mb_X10_worthLeft 12 = .ok (.aload_n 0, 1) := by decide +kernel
theorem dd_X10_worthLeft_13 : decode mb_X10_worthLeft 13 = .ok (.iload_n 3, 1) := by decide +kernel
theorem dd_X10_worthLeft_14 : decode mb_X10_worthLeft 14 = .ok (.invokevirtual 41, 3) := by decide +kernel
theorem dd_X10_worthLeft_17 : decode mb_X10_worthLeft 17 = .ok (.ifCond .ne 20, 3) := by decide +kernel
theorem dd_X10_worthLeft_20 : decode mb_X10_worthLeft 20 = .ok (.aload_n 0, 1) := by decide +kernel
theorem dd_X10_worthLeft_21 : decode mb_X10_worthLeft 21 = .ok (.iload_n 3, 1) := by decide +kernel
theorem dd_X10_worthLeft_22 : decode mb_X10_worthLeft 22 = .ok (.iload_n 1, 1) := by decide +kernel
theorem dd_X10_worthLeft_23 : decode mb_X10_worthLeft 23 = .ok (.invokevirtual 79, 3) := by decide +kernel
theorem dd_X10_worthLeft_26 : decode mb_X10_worthLeft 26 = .ok (.ifCond .eq 11, 3) := by decide +kernel
theorem dd_X10_worthLeft_29 : decode mb_X10_worthLeft 29 = .ok (.iload_n 2, 1) := by decide +kernel
theorem dd_X10_worthLeft_30 : decode mb_X10_worthLeft 30 = .ok (.aload_n 0, 1) := by decide +kernel
theorem dd_X10_worthLeft_31 : decode mb_X10_worthLeft 31 = .ok (.iload_n 3, 1) := by decide +kernel
theorem dd_X10_worthLeft_32 : decode mb_X10_worthLeft 32 = .ok (.invokevirtual 76, 3) := by decide +kernel
theorem dd_X10_worthLeft_35 : decode mb_X10_worthLeft 35 = .ok (.iadd, 1) := by decide +kernel
theorem dd_X10_worthLeft_36 : decode mb_X10_worthLeft 36 = .ok (.istore_n 2, 1) := by decide +kernel
theorem dd_X10_worthLeft_37 : decode mb_X10_worthLeft 37 = .ok (.iinc 3 1, 3) := by decide +kernel
theorem dd_X10_worthLeft_40 : decode mb_X10_worthLeft 40 = .ok (.goto (-36), 3) := by decide +kernel
theorem dd_X10_worthLeft_43 : decode mb_X10_worthLeft 43 = .ok (.iload_n 2, 1) := by decide +kernel
theorem dd_X10_worthLeft_44 : decode mb_X10_worthLeft 44 = .ok (.ireturn, 1) := by decide +kernel
theorem dd_X11_back_0 : decode mb_X11_back 0 = .ok (.aload_n 0, 1) := by decide +kernel
theorem dd_X11_back_1 : decode mb_X11_back 1 = .ok (.getfield 50, 3) := by decide +kernel
theorem dd_X11_back_4 : decode mb_X11_back 4 = .ok (.ifCond .ne 10, 3) := by decide +kernel
theorem dd_X11_back_7 : decode mb_X11_back 7 = .ok (.aload_n 0, 1) := by decide +kernel
theorem dd_X11_back_8 : decode mb_X11_back 8 = .ok (.bipush (-5), 2) := by decide +kernel
theorem dd_X11_back_10 : decode mb_X11_back 10 = .ok (.invokevirtual 63, 3) := by decide +kernel
theorem dd_X11_back_13 : decode mb_X11_back 13 = .ok (.ireturn, 1) := by decide +kernel
theorem dd_X11_back_14 : decode mb_X11_back 14 = .ok (.aload_n 0, 1) := by decide +kernel
theorem dd_X11_back_15 : decode mb_X11_back 15 = .ok (.getfield 29, 3) := by decide +kernel
theorem dd_X11_back_18 : decode mb_X11_back 18 = .ok (.aload_n 0, 1) := by decide +kernel
theorem dd_X11_back_19 : decode mb_X11_back 19 = .ok (.getfield 33, 3) := by decide +kernel
theorem dd_X11_back_22 : decode mb_X11_back 22 = .ok (.invokevirtual 369, 3) := by decide +kernel
theorem dd_X11_back_25 : decode mb_X11_back 25 = .ok (.iconst 0, 1) := by decide +kernel
theorem dd_X11_back_26 : decode mb_X11_back 26 = .ok (.istore_n 1, 1) := by decide +kernel
theorem dd_X11_back_27 : decode mb_X11_back 27 = .ok (.iload_n 1, 1) := by decide +kernel
theorem dd_X11_back_28 : decode mb_X11_back 28 = .ok (.bipush 8, 2) := by decide +kernel
theorem dd_X11_back_30 : decode mb_X11_back 30 = .ok (.if_icmp .ge 56, 3) := by decide +kernel
theorem dd_X11_back_33 : decode mb_X11_back 33 = .ok (.aload_n 0, 1) := by decide +kernel
theorem dd_X11_back_34 : decode mb_X11_back 34 = .ok (.getfield 11, 3) := by decide +kernel
theorem dd_X11_back_37 : decode mb_X11_back 37 = .ok (.iload_n 1, 1) := by decide +kernel
theorem dd_X11_back_38 : decode mb_X11_back 38 = .ok (.aaload, 1) := by decide +kernel
theorem dd_X11_back_39 : decode mb_X11_back 39 = .ok (.invokevirtual 82, 3) := by decide +kernel
theorem dd_X11_back_42 : decode mb_X11_back 42 = .ok (.ifCond .eq 38, 3) := by decide +kernel
theorem dd_X11_back_45 : decode mb_X11_back 45 = .ok (.aload_n 0, 1) := by decide +kernel
theorem dd_X11_back_46 : decode mb_X11_back 46 = .ok (.getfield 29, 3) := by decide +kernel
theorem dd_X11_back_49 : decode mb_X11_back 49 = .ok (.getfield 113, 3) := by decide +kernel
theorem dd_X11_back_52 : decode mb_X11_back 52 = .ok (.aload_n 0, 1) := by decide +kernel
theorem dd_X11_back_53 : decode mb_X11_back 53 = .ok (.getfield 11, 3) := by decide +kernel
theorem dd_X11_back_56 : decode mb_X11_back 56 = .ok (.iload_n 1, 1) := by decide +kernel
theorem dd_X11_back_57 : decode mb_X11_back 57 = .ok (.aaload, 1) := by decide +kernel
theorem dd_X11_back_58 : decode mb_X11_back 58 = .ok (.getfield 89, 3) := by decide +kernel
theorem dd_X11_back_61 : decode mb_X11_back 61 = .ok (.bipush 10, 2) := by decide +kernel
theorem dd_X11_back_63 : decode mb_X11_back 63 = .ok (.isub, 1) := by decide +kernel
theorem dd_X11_back_64 : decode mb_X11_back 64 = .ok (.invokevirtual 117, 3) := by decide +kernel
theorem dd_X11_back_67 : decode mb_X11_back 67 = .ok (.ifCond .ne 13, 3) := by decide +kernel
theorem dd_X11_back_70 : decode mb_X11_back 70 = .ok (.aload_n 0, 1) := by decide +kernel
theorem dd_X11_back_71 : decode mb_X11_back 71 = .ok (.getfield 11, 3) := by decide +kernel
theorem dd_X11_back_74 : decode mb_X11_back 74 = .ok (.iload_n 1, 1) := by decide +kernel
theorem dd_X11_back_75 : decode mb_X11_back 75 = .ok (.aaload, 1) := by decide +kernel
theorem dd_X11_back_76 : decode mb_X11_back 76 = .ok (.iconst (-1), 1) := by decide +kernel
theorem dd_X11_back_77 : decode mb_X11_back 77 = .ok (.putfield 89, 3) := by decide +kernel
theorem dd_X11_back_80 : decode mb_X11_back 80 = .ok (.iinc 1 1, 3) := by decide +kernel
theorem dd_X11_back_83 : decode mb_X11_back 83 = .ok (.goto (-56), 3) := by decide +kernel
theorem dd_X11_back_86 : decode mb_X11_back 86 = .ok (.iconst 1, 1) := by decide +kernel
theorem dd_X11_back_87 : decode mb_X11_back 87 = .ok (.ireturn, 1) := by decide +kernel
theorem dd_X11_best_0 : decode mb_X11_best 0 = .ok (.aload_n 0, 1) := by decide +kernel
theorem dd_X11_best_1 : decode mb_X11_best 1 = .ok (.getfield 39, 3) := by decide +kernel
theorem dd_X11_best_4 : decode mb_X11_best 4 = .ok (.aload_n 0, 1) := by decide +kernel
theorem dd_X11_best_5 : decode mb_X11_best 5 = .ok (.getfield 29, 3) := by decide +kernel
theorem dd_X11_best_8 : decode mb_X11_best 8 = .ok (.invokevirtual 268, 3) := by decide +kernel
theorem dd_X11_best_11 : decode mb_X11_best 11 = .ok (.ireturn, 1) := by decide +kernel
theorem dd_X11_buyer_0 : decode mb_X11_buyer 0 = .ok (.iload_n 1, 1) := by decide +kernel
theorem dd_X11_buyer_1 : decode mb_X11_buyer 1 = .ok (.invokestatic 216, 3) := by decide +kernel
theorem dd_X11_buyer_4 : decode mb_X11_buyer 4 = .ok (.ifCond .eq 33, 3) := by decide +kernel
theorem dd_X11_buyer_7 : decode mb_X11_buyer 7 = .ok (.iload_n 2, 1) := by decide +kernel
theorem dd_X11_buyer_8 : decode mb_X11_buyer 8 = .ok (.iconst 0, 1) := by decide +kernel
theorem dd_X11_buyer_9 : decode mb_X11_buyer 9 = .ok (.sipush 9999, 3) := by decide +kernel
theorem dd_X11_buyer_12 : decode mb_X11_buyer 12 = .ok (.invokestatic 59, 3) := by decide +kernel
theorem dd_X11_buyer_15 : decode mb_X11_buyer 15 = .ok (.ifCond .eq 22, 3) := by decide +kernel
theorem dd_X11_buyer_18 : decode mb_X11_buyer 18 = .ok (.iload_n 3, 1) := by decide +kernel
theorem dd_X11_buyer_19 : decode mb_X11_buyer 19 = .ok (.invokestatic 165, 3) := by decide +kernel
theorem dd_X11_buyer_22 : decode mb_X11_buyer 22 = .ok (.ifCond .eq 15, 3) := by decide +kernel
theorem dd_X11_buyer_25 : decode mb_X11_buyer 25 = .ok (.iload 4, 2) := by decide +kernel
theorem dd_X11_buyer_27 : decode mb_X11_buyer 27 = .ok (.iconst 0, 1) := by decide +kernel
theorem dd_X11_buyer_28 : decode mb_X11_buyer 28 = .ok (.sipush 300, 3) := by decide +kernel
theorem dd_X11_buyer_31 : decode mb_X11_buyer 31 = .ok (.invokestatic 59, 3) := by decide +kernel
theorem dd_X11_buyer_34 : decode mb_X11_buyer 34 = .ok (.ifCond .ne 10, 3) := by decide +kernel
theorem dd_X11_buyer_37 : decode mb_X11_buyer 37 = .ok (.aload_n 0, 1) := by decide +kernel
theorem dd_X11_buyer_38 : decode mb_X11_buyer 38 = .ok (.bipush (-2), 2) := by decide +kernel
theorem dd_X11_buyer_40 : decode mb_X11_buyer 40 = .ok (.invokevirtual 63, 3) := by decide +kernel
theorem dd_X11_buyer_43 : decode mb_X11_buyer 43 = .ok (.ireturn, 1) := by decide +kernel
theorem dd_X11_buyer_44 : decode mb_X11_buyer 44 = .ok (.aload_n 0, 1) := by decide +kernel
theorem dd_X11_buyer_45 : decode mb_X11_buyer 45 = .ok (.getfield 29, 3) := by decide +kernel
theorem dd_X11_buyer_48 : decode mb_X11_buyer 48 = .ok (.getfield 219, 3) := by decide +kernel
theorem dd_X11_buyer_51 : decode mb_X11_buyer 51 = .ok (.getfield 223, 3) := by decide +kernel
theorem dd_X11_buyer_54 : decode mb_X11_buyer 54 = .ok (.bipush 12, 2) := by decide +kernel
theorem dd_X11_buyer_56 : decode mb_X11_buyer 56 = .ok (.if_icmp .lt 10, 3) := by decide +kernel
theorem dd_X11_buyer_59 : decode mb_X11_buyer 59 = .ok (.aload_n 0, 1) := by decide +kernel
theorem dd_X11_buyer_60 : decode mb_X11_buyer 60 = .ok (.bipush (-6), 2) := by decide +kernel
theorem dd_X11_buyer_62 : decode mb_X11_buyer 62 = .ok (.invokevirtual 63, 3) := by decide +kernel
theorem dd_X11_buyer_65 : decode mb_X11_buyer 65 = .ok (.ireturn, 1) := by decide +kernel
theorem dd_X11_buyer_66 : decode mb_X11_buyer 66 = .ok (.aload_n 0, 1) := by decide +kernel
theorem dd_X11_buyer_67 : decode mb_X11_buyer 67 = .ok (.getfield 29, 3) := by decide +kernel
theorem dd_X11_buyer_70 : decode mb_X11_buyer 70 = .ok (.getfield 219, 3) := by decide +kernel
theorem dd_X11_buyer_73 : decode mb_X11_buyer 73 = .ok (.iload_n 1, 1) := by decide +kernel
theorem dd_X11_buyer_74 : decode mb_X11_buyer 74 = .ok (.iload_n 2, 1) := by decide +kernel
theorem dd_X11_buyer_75 : decode mb_X11_buyer 75 = .ok (.iload_n 3, 1) := by decide +kernel
theorem dd_X11_buyer_76 : decode mb_X11_buyer 76 = .ok (.iload 4, 2) := by decide +kernel
theorem dd_X11_buyer_78 : decode mb_X11_buyer 78 = .ok (.invokevirtual 226, 3) := by decide +kernel
theorem dd_X11_buyer_81 : decode mb_X11_buyer 81 = .ok (.ireturn, 1) := by decide +kernel
theorem dd_X11_buyerOf_0 : decode mb_X11_buyerOf 0 = .ok (.aload_n 0, 1) := by decide +kernel
theorem dd_X11_buyerOf_1 : decode mb_X11_buyerOf 1 = .ok (.getfield 29, 3) := by decide +kernel
theorem dd_X11_buyerOf_4 : decode mb_X11_buyerOf 4 = .ok (.getfield 219, 3) := by decide +kernel
theorem dd_X11_buyerOf_7 : decode mb_X11_buyerOf 7 = .ok (.iload_n 1, 1) := by decide +kernel
theorem dd_X11_buyerOf_8 : decode mb_X11_buyerOf 8 = .ok (.invokevirtual 229, 3) := by decide +kernel
theorem dd_X11_buyerOf_11 : decode mb_X11_buyerOf 11 = .ok (.ifCond .ne 10, 3) := by decide +kernel
theorem dd_X11_buyerOf_14 : decode mb_X11_buyerOf 14 = .ok (.aload_n 0, 1) := by decide +kernel
theorem dd_X11_buyerOf_15 : decode mb_X11_buyerOf 15 = .ok (.bipush (-2), 2) := by decide +kernel
theorem dd_X11_buyerOf_17 : decode mb_X11_buyerOf 17 = .ok (.invokevirtual 63, 3) := by decide +kernel
theorem dd_X11_buyerOf_20 : decode mb_X11_buyerOf 20 = .ok (.ireturn, 1) := by decide +kernel
theorem dd_X11_buyerOf_21 : decode mb_X11_buyerOf 21 = .ok (.iload_n 2, 1) := by decide +kernel
theorem dd_X11_buyerOf_22 : decode mb_X11_buyerOf 22 = .ok (.tableswitch 99 0 4 #[34, 47, 60, 73, 86], 34) := by decide +kernel
theorem dd_X11_buyerOf_56 : decode mb_X11_buyerOf 56 = .ok (.aload_n 0, 1) := by decide +kernel
theorem dd_X11_buyerOf_57 : decode mb_X11_buyerOf 57 = .ok (.getfield 29, 3) := by decide +kernel
theorem dd_X11_buyerOf_60 : decode mb_X11_buyerOf 60 = .ok (.getfield 219, 3) := by decide +kernel
theorem dd_X11_buyerOf_63 : decode mb_X11_buyerOf 63 = .ok (.getfield 230, 3) := by decide +kernel
theorem dd_X11_buyerOf_66 : decode mb_X11_buyerOf 66 = .ok (.iload_n 1, 1) := by decide +kernel
theorem dd_X11_buyerOf_67 : decode mb_X11_buyerOf 67 = .ok (.iaload, 1) := by decide +kernel
theorem dd_X11_buyerOf_68 : decode mb_X11_buyerOf 68 = .ok (.ireturn, 1) := by decide +kernel
theorem dd_X11_buyerOf_69 : decode mb_X11_buyerOf 69 = .ok (.aload_n 0, 1) := by decide +kernel
theorem dd_X11_buyerOf_70 : decode mb_X11_buyerOf 70 = .ok (.getfield 29, 3) := by decide +kernel
theorem dd_X11_buyerOf_73 : decode mb_X11_buyerOf 73 = .ok (.getfield 219, 3) := by decide +kernel
theorem dd_X11_buyerOf_76 : decode mb_X11_buyerOf 76 = .ok (.getfield 233, 3) := by decide +kernel
