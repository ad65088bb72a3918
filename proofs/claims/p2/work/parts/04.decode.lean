theorem dJ0_charAt_5068e_0 : decode cJ0_charAt_5068e 0 = .ok (.aload_n 0, 1) := by decide +kernel
theorem dJ0_charAt_5068e_1 : decode cJ0_charAt_5068e 1 = .ok (.invokevirtual 492, 3) := by decide +kernel
theorem dJ0_charAt_5068e_4 : decode cJ0_charAt_5068e 4 = .ok (.ifCond .eq 12, 3) := by decide +kernel
theorem dJ0_charAt_5068e_7 : decode cJ0_charAt_5068e 7 = .ok (.aload_n 0, 1) := by decide +kernel
theorem dJ0_charAt_5068e_8 : decode cJ0_charAt_5068e 8 = .ok (.getfield 9, 3) := by decide +kernel
theorem dJ0_charAt_5068e_11 : decode cJ0_charAt_5068e 11 = .ok (.iload_n 1, 1) := by decide +kernel
theorem dJ0_charAt_5068e_12 : decode cJ0_charAt_5068e 12 = .ok (.invokestatic 495, 3) := by decide +kernel
theorem dJ0_charAt_5068e_15 : decode cJ0_charAt_5068e 15 = .ok (.ireturn, 1) := by decide +kernel
theorem dJ0_charAt_5068e_16 : decode cJ0_charAt_5068e 16 = .ok (.aload_n 0, 1) := by decide +kernel
theorem dJ0_charAt_5068e_17 : decode cJ0_charAt_5068e 17 = .ok (.getfield 9, 3) := by decide +kernel
theorem dJ0_charAt_5068e_20 : decode cJ0_charAt_5068e 20 = .ok (.iload_n 1, 1) := by decide +kernel
theorem dJ0_charAt_5068e_21 : decode cJ0_charAt_5068e 21 = .ok (.invokestatic 498, 3) := by decide +kernel
theorem dJ0_charAt_5068e_24 : decode cJ0_charAt_5068e 24 = .ok (.ireturn, 1) := by decide +kernel
theorem dJ0_checkIndex_df160_0 : decode cJ0_checkIndex_df160 0 = .ok (.iload_n 0, 1) := by decide +kernel
theorem dJ0_checkIndex_df160_1 : decode cJ0_checkIndex_df160 1 = .ok (.iload_n 1, 1) := by decide +kernel
theorem dJ0_checkIndex_df160_2 : decode cJ0_checkIndex_df160 2 = .ok (.getstatic 1053, 3) := by decide +kernel
theorem dJ0_checkIndex_df160_5 : decode cJ0_checkIndex_df160 5 = .ok (.invokestatic 1059, 3) := by decide +kernel
theorem dJ0_checkIndex_df160_8 : decode cJ0_checkIndex_df160 8 = .ok (.pop, 1) := by decide +kernel
theorem dJ0_checkIndex_df160_9 : decode cJ0_checkIndex_df160 9 = .ok (.return_, 1) := by decide +kernel
theorem dJ0_coder_7d493_0 : decode cJ0_coder_7d493 0 = .ok (.getstatic 38, 3) := by decide +kernel
theorem dJ0_coder_7d493_3 : decode cJ0_coder_7d493 3 = .ok (.ifCond .eq 10, 3) := by decide +kernel
theorem dJ0_coder_7d493_6 : decode cJ0_coder_7d493 6 = .ok (.aload_n 0, 1) := by decide +kernel
theorem dJ0_coder_7d493_7 : decode cJ0_coder_7d493 7 = .ok (.getfield 15, 3) := by decide +kernel
theorem dJ0_coder_7d493_10 : decode cJ0_coder_7d493 10 = .ok (.goto 4, 3) := by decide +kernel
theorem dJ0_coder_7d493_13 : decode cJ0_coder_7d493 13 = .ok (.iconst 1, 1) := by decide +kernel
theorem dJ0_coder_7d493_14 : decode cJ0_coder_7d493 14 = .ok (.ireturn, 1) := by decide +kernel
theorem dJ0_isEmpty_aae02_0 : decode cJ0_isEmpty_aae02 0 = .ok (.aload_n 0, 1) := by decide +kernel
theorem dJ0_isEmpty_aae02_1 : decode cJ0_isEmpty_aae02 1 = .ok (.getfield 9, 3) := by decide +kernel
theorem dJ0_isEmpty_aae02_4 : decode cJ0_isEmpty_aae02 4 = .ok (.arraylength, 1) := by decide +kernel
theorem dJ0_isEmpty_aae02_5 : decode cJ0_isEmpty_aae02 5 = .ok (.ifCond .ne 7, 3) := by decide +kernel
theorem dJ0_isEmpty_aae02_8 : decode cJ0_isEmpty_aae02 8 = .ok (.iconst 1, 1) := by decide +kernel
theorem dJ0_isEmpty_aae02_9 : decode cJ0_isEmpty_aae02 9 = .ok (.goto 4, 3) := by decide +kernel
theorem dJ0_isEmpty_aae02_12 : decode cJ0_isEmpty_aae02 12 = .ok (.iconst 0, 1) := by decide +kernel
theorem dJ0_isEmpty_aae02_13 : decode cJ0_isEmpty_aae02 13 = .ok (.ireturn, 1) := by decide +kernel
theorem dJ0_isLatin1_aae02_0 : decode cJ0_isLatin1_aae02 0 = .ok (.getstatic 38, 3) := by decide +kernel
theorem dJ0_isLatin1_aae02_3 : decode cJ0_isLatin1_aae02 3 = .ok (.ifCond .eq 14, 3) := by decide +kernel
theorem dJ0_isLatin1_aae02_6 : decode cJ0_isLatin1_aae02 6 = .ok (.aload_n 0, 1) := by decide +kernel
theorem dJ0_isLatin1_aae02_7 : decode cJ0_isLatin1_aae02 7 = .ok (.getfield 15, 3) := by decide +kernel
theorem dJ0_isLatin1_aae02_10 : decode cJ0_isLatin1_aae02 10 = .ok (.ifCond .ne 7, 3) := by decide +kernel
theorem dJ0_isLatin1_aae02_13 : decode cJ0_isLatin1_aae02 13 = .ok (.iconst 1, 1) := by decide +kernel
theorem dJ0_isLatin1_aae02_14 : decode cJ0_isLatin1_aae02 14 = .ok (.goto 4, 3) := by decide +kernel
theorem dJ0_isLatin1_aae02_17 : decode cJ0_isLatin1_aae02 17 = .ok (.iconst 0, 1) := by decide +kernel
theorem dJ0_isLatin1_aae02_18 : decode cJ0_isLatin1_aae02 18 = .ok (.ireturn, 1) := by decide +kernel
theorem dJ0_length_8abf5_0 : decode cJ0_length_8abf5 0 = .ok (.aload_n 0, 1) := by decide +kernel
theorem dJ0_length_8abf5_1 : decode cJ0_length_8abf5 1 = .ok (.getfield 9, 3) := by decide +kernel
theorem dJ0_length_8abf5_4 : decode cJ0_length_8abf5 4 = .ok (.arraylength, 1) := by decide +kernel
theorem dJ0_length_8abf5_5 : decode cJ0_length_8abf5 5 = .ok (.aload_n 0, 1) := by decide +kernel
theorem dJ0_length_8abf5_6 : decode cJ0_length_8abf5 6 = .ok (.invokevirtual 335, 3) := by decide +kernel
theorem dJ0_length_8abf5_9 : decode cJ0_length_8abf5 9 = .ok (.ishr, 1) := by decide +kernel
theorem dJ0_length_8abf5_10 : decode cJ0_length_8abf5 10 = .ok (.ireturn, 1) := by decide +kernel
theorem dJ1_charAt_3b067_0 : decode cJ1_charAt_3b067 0 = .ok (.iload_n 1, 1) := by decide +kernel
theorem dJ1_charAt_3b067_1 : decode cJ1_charAt_3b067 1 = .ok (.aload_n 0, 1) := by decide +kernel
theorem dJ1_charAt_3b067_2 : decode cJ1_charAt_3b067 2 = .ok (.arraylength, 1) := by decide +kernel
theorem dJ1_charAt_3b067_3 : decode cJ1_charAt_3b067 3 = .ok (.invokestatic 9, 3) := by decide +kernel
theorem dJ1_charAt_3b067_6 : decode cJ1_charAt_3b067 6 = .ok (.aload_n 0, 1) := by decide +kernel
theorem dJ1_charAt_3b067_7 : decode cJ1_charAt_3b067 7 = .ok (.iload_n 1, 1) := by decide +kernel
theorem dJ1_charAt_3b067_8 : decode cJ1_charAt_3b067 8 = .ok (.baload, 1) := by decide +kernel
theorem dJ1_charAt_3b067_9 : decode cJ1_charAt_3b067 9 = .ok (.sipush 255, 3) := by decide +kernel
theorem dJ1_charAt_3b067_12 : decode cJ1_charAt_3b067 12 = .ok (.iand, 1) := by decide +kernel
theorem dJ1_charAt_3b067_13 : decode cJ1_charAt_3b067 13 = .ok (.i2c, 1) := by decide +kernel
theorem dJ1_charAt_3b067_14 : decode cJ1_charAt_3b067 14 = .ok (.ireturn, 1) := by decide +kernel
theorem dJ2_charAt_3b067_0 : decode cJ2_charAt_3b067 0 = .ok (.iload_n 1, 1) := by decide +kernel
theorem dJ2_charAt_3b067_1 : decode cJ2_charAt_3b067 1 = .ok (.aload_n 0, 1) := by decide +kernel
theorem dJ2_charAt_3b067_2 : decode cJ2_charAt_3b067 2 = .ok (.invokestatic 67, 3) := by decide +kernel
theorem dJ2_charAt_3b067_5 : decode cJ2_charAt_3b067 5 = .ok (.aload_n 0, 1) := by decide +kernel
theorem dJ2_charAt_3b067_6 : decode cJ2_charAt_3b067 6 = .ok (.iload_n 1, 1) := by decide +kernel
theorem dJ2_charAt_3b067_7 : decode cJ2_charAt_3b067 7 = .ok (.invokestatic 71, 3) := by decide +kernel
theorem dJ2_charAt_3b067_10 : decode cJ2_charAt_3b067 10 = .ok (.ireturn, 1) := by decide +kernel
theorem dJ2_checkIndex_2214a_0 : decode cJ2_checkIndex_2214a 0 = .ok (.iload_n 0, 1) := by decide +kernel
theorem dJ2_checkIndex_2214a_1 : decode cJ2_checkIndex_2214a 1 = .ok (.aload_n 1, 1) := by decide +kernel
theorem dJ2_checkIndex_2214a_2 : decode cJ2_checkIndex_2214a 2 = .ok (.invokestatic 48, 3) := by decide +kernel
theorem dJ2_checkIndex_2214a_5 : decode cJ2_checkIndex_2214a 5 = .ok (.invokestatic 414, 3) := by decide +kernel
theorem dJ2_checkIndex_2214a_8 : decode cJ2_checkIndex_2214a 8 = .ok (.return_, 1) := by decide +kernel
theorem dJ2_getChar_3b067_0 : decode cJ2_getChar_3b067 0 = .ok (.getstatic 44, 3) := by decide +kernel
theorem dJ2_getChar_3b067_3 : decode cJ2_getChar_3b067 3 = .ok (.ifCond .ne 25, 3) := by decide +kernel
theorem dJ2_getChar_3b067_6 : decode cJ2_getChar_3b067 6 = .ok (.iload_n 1, 1) := by decide +kernel
theorem dJ2_getChar_3b067_7 : decode cJ2_getChar_3b067 7 = .ok (.ifCond .lt 11, 3) := by decide +kernel
theorem dJ2_getChar_3b067_10 : decode cJ2_getChar_3b067 10 = .ok (.iload_n 1, 1) := by decide +kernel
theorem dJ2_getChar_3b067_11 : decode cJ2_getChar_3b067 11 = .ok (.aload_n 0, 1) := by decide +kernel
theorem dJ2_getChar_3b067_12 : decode cJ2_getChar_3b067 12 = .ok (.invokestatic 48, 3) := by decide +kernel
theorem dJ2_getChar_3b067_15 : decode cJ2_getChar_3b067 15 = .ok (.if_icmp .lt 13, 3) := by decide +kernel
theorem dJ2_getChar_3b067_18 : decode cJ2_getChar_3b067 18 = .ok (.new 52, 3) := by decide +kernel
theorem dJ2_getChar_3b067_21 : decode cJ2_getChar_3b067 21 = .ok (.dup, 1) := by decide +kernel
theorem dJ2_getChar_3b067_22 : decode cJ2_getChar_3b067 22 = .ok (.ldc 54, 2) := by decide +kernel
theorem dJ2_getChar_3b067_24 : decode cJ2_getChar_3b067 24 = .ok (.invokespecial 56, 3) := by decide +kernel
theorem dJ2_getChar_3b067_27 : decode cJ2_getChar_3b067 27 = .ok (.athrow, 1) := by decide +kernel
theorem dJ2_getChar_3b067_28 : decode cJ2_getChar_3b067 28 = .ok (.iload_n 1, 1) := by decide +kernel
theorem dJ2_getChar_3b067_29 : decode cJ2_getChar_3b067 29 = .ok (.iconst 1, 1) := by decide +kernel
theorem dJ2_getChar_3b067_30 : decode cJ2_getChar_3b067 30 = .ok (.ishl, 1) := by decide +kernel
theorem dJ2_getChar_3b067_31 : decode cJ2_getChar_3b067 31 = .ok (.istore_n 1, 1) := by decide +kernel
theorem dJ2_getChar_3b067_32 : decode cJ2_getChar_3b067 32 = .ok (.aload_n 0, 1) := by decide +kernel
theorem dJ2_getChar_3b067_33 : decode cJ2_getChar_3b067 33 = .ok (.iload_n 1, 1) := by decide +kernel
theorem dJ2_getChar_3b067_34 : decode cJ2_getChar_3b067 34 = .ok (.iinc 1 1, 3) := by decide +kernel
theorem dJ2_getChar_3b067_37 : decode cJ2_getChar_3b067 37 = .ok (.baload, 1) := by decide +kernel
theorem dJ2_getChar_3b067_38 : decode cJ2_getChar_3b067 38 = .ok (.sipush 255, 3) := by decide +kernel
theorem dJ2_getChar_3b067_41 : decode cJ2_getChar_3b067 41 = .ok (.iand, 1) := by decide +kernel
theorem dJ2_getChar_3b067_42 : decode cJ2_getChar_3b067 42 = .ok (.getstatic 59, 3) := by decide +kernel
theorem dJ2_getChar_3b067_45 : decode cJ2_getChar_3b067 45 = .ok (.ishl, 1) := by decide +kernel
theorem dJ2_getChar_3b067_46 : decode cJ2_getChar_3b067 46 = .ok (.aload_n 0, 1) := by decide +kernel
theorem dJ2_getChar_3b067_47 : decode cJ2_getChar_3b067 47 = .ok (.iload_n 1, 1) := by decide +kernel
theorem dJ2_getChar_3b067_48 : decode cJ2_getChar_3b067 48 = .ok (.baload, 1) := by decide +kernel
theorem dJ2_getChar_3b067_49 : decode cJ2_getChar_3b067 49 = .ok (.sipush 255, 3) := by decide +kernel
theorem dJ2_getChar_3b067_52 : decode cJ2_getChar_3b067 52 = .ok (.iand, 1) := by decide +kernel
theorem dJ2_getChar_3b067_53 : decode cJ2_getChar_3b067 53 = .ok (.getstatic 63, 3) := by decide +kernel
theorem dJ2_getChar_3b067_56 : decode cJ2_getChar_3b067 56 = .ok (.ishl, 1) := by decide +kernel
theorem dJ2_getChar_3b067_57 : decode cJ2_getChar_3b067 57 = .ok (.ior, 1) := by decide +kernel
theorem dJ2_getChar_3b067_58 : decode cJ2_getChar_3b067 58 = .ok (.i2c, 1) := by decide +kernel
theorem dJ2_getChar_3b067_59 : decode cJ2_getChar_3b067 59 = .ok (.ireturn, 1) := by decide +kernel
theorem dJ2_length_9d52b_0 : decode cJ2_length_9d52b 0 = .ok (.aload_n 0, 1) := by decide +kernel
theorem dJ2_length_9d52b_1 : decode cJ2_length_9d52b 1 = .ok (.arraylength, 1) := by decide +kernel
theorem dJ2_length_9d52b_2 : decode cJ2_length_9d52b 2 = .ok (.iconst 1, 1) := by decide +kernel
theorem dJ2_length_9d52b_3 : decode cJ2_length_9d52b 3 = .ok (.ishr, 1) := by decide +kernel
theorem dJ2_length_9d52b_4 : decode cJ2_length_9d52b 4 = .ok (.ireturn, 1) := by decide +kernel
theorem dJ3_checkIndex_8e157_0 : decode cJ3_checkIndex_8e157 0 = .ok (.iload_n 0, 1) := by decide +kernel
theorem dJ3_checkIndex_8e157_1 : decode cJ3_checkIndex_8e157 1 = .ok (.ifCond .lt 8, 3) := by decide +kernel
theorem dJ3_checkIndex_8e157_4 : decode cJ3_checkIndex_8e157 4 = .ok (.iload_n 0, 1) := by decide +kernel
theorem dJ3_checkIndex_8e157_5 : decode cJ3_checkIndex_8e157 5 = .ok (.iload_n 1, 1) := by decide +kernel
theorem dJ3_checkIndex_8e157_6 : decode cJ3_checkIndex_8e157 6 = .ok (.if_icmp .lt 10, 3) := by decide +kernel
theorem dJ3_checkIndex_8e157_9 : decode cJ3_checkIndex_8e157 9 = .ok (.aload_n 2, 1) := by decide +kernel
theorem dJ3_checkIndex_8e157_10 : decode cJ3_checkIndex_8e157 10 = .ok (.iload_n 0, 1) := by decide +kernel
theorem dJ3_checkIndex_8e157_11 : decode cJ3_checkIndex_8e157 11 = .ok (.iload_n 1, 1) := by decide +kernel
theorem dJ3_checkIndex_8e157_12 : decode cJ3_checkIndex_8e157 12 = .ok (.invokestatic 95, 3) := by decide +kernel
theorem dJ3_checkIndex_8e157_15 : decode cJ3_checkIndex_8e157 15 = .ok (.athrow, 1) := by decide +kernel
theorem dJ3_checkIndex_8e157_16 : decode cJ3_checkIndex_8e157 16 = .ok (.iload_n 0, 1) := by decide +kernel
theorem dJ3_checkIndex_8e157_17 : decode cJ3_checkIndex_8e157 17 = .ok (.ireturn, 1) := by decide +kernel
theorem dJ6_bitCount_0f7a4_0 : decode cJ6_bitCount_0f7a4 0 = .ok (.iload_n 0, 1) := by decide +kernel
theorem dJ6_bitCount_0f7a4_1 : decode cJ6_bitCount_0f7a4 1 = .ok (.iload_n 0, 1) := by decide +kernel
theorem dJ6_bitCount_0f7a4_2 : decode cJ6_bitCount_0f7a4 2 = .ok (.iconst 1, 1) := by decide +kernel
theorem dJ6_bitCount_0f7a4_3 : decode cJ6_bitCount_0f7a4 3 = .ok (.iushr, 1) := by decide +kernel
theorem dJ6_bitCount_0f7a4_4 : decode cJ6_bitCount_0f7a4 4 = .ok (.ldc_w 265, 3) := by decide +kernel
theorem dJ6_bitCount_0f7a4_7 : decode cJ6_bitCount_0f7a4 7 = .ok (.iand, 1) := by decide +kernel
theorem dJ6_bitCount_0f7a4_8 : decode cJ6_bitCount_0f7a4 8 = .ok (.isub, 1) := by decide +kernel
theorem dJ6_bitCount_0f7a4_9 : decode cJ6_bitCount_0f7a4 9 = .ok (.istore_n 0, 1) := by decide +kernel
theorem dJ6_bitCount_0f7a4_10 : decode cJ6_bitCount_0f7a4 10 = .ok (.iload_n 0, 1) := by decide +kernel
theorem dJ6_bitCount_0f7a4_11 : decode cJ6_bitCount_0f7a4 11 = .ok (.ldc_w 266, 3) := by decide +kernel
theorem dJ6_bitCount_0f7a4_14 : decode cJ6_bitCount_0f7a4 14 = .ok (.iand, 1) := by decide +kernel
theorem dJ6_bitCount_0f7a4_15 : decode cJ6_bitCount_0f7a4 15 = .ok (.iload_n 0, 1) := by decide +kernel
theorem dJ6_bitCount_0f7a4_16 : decode cJ6_bitCount_0f7a4 16 = .ok (.iconst 2, 1) := by decide +kernel
theorem dJ6_bitCount_0f7a4_17 : decode cJ6_bitCount_0f7a4 17 = .ok (.iushr, 1) := by decide +kernel
theorem dJ6_bitCount_0f7a4_18 : decode cJ6_bitCount_0f7a4 18 = .ok (.ldc_w 266, 3) := by decide +kernel
theorem dJ6_bitCount_0f7a4_21 : decode cJ6_bitCount_0f7a4 21 = .ok (.iand, 1) := by decide +kernel
theorem dJ6_bitCount_0f7a4_22 : decode cJ6_bitCount_0f7a4 22 = .ok (.iadd, 1) := by decide +kernel
theorem dJ6_bitCount_0f7a4_23 : decode cJ6_bitCount_0f7a4 23 = .ok (.istore_n 0, 1) := by decide +kernel
theorem dJ6_bitCount_0f7a4_24 : decode cJ6_bitCount_0f7a4 24 = .ok (.iload_n 0, 1) := by decide +kernel
theorem dJ6_bitCount_0f7a4_25 : decode cJ6_bitCount_0f7a4 25 = .ok (.iload_n 0, 1) := by decide +kernel
theorem dJ6_bitCount_0f7a4_26 : decode cJ6_bitCount_0f7a4 26 = .ok (.iconst 4, 1) := by decide +kernel
theorem dJ6_bitCount_0f7a4_27 : decode cJ6_bitCount_0f7a4 27 = .ok (.iushr, 1) := by decide +kernel
theorem dJ6_bitCount_0f7a4_28 : decode cJ6_bitCount_0f7a4 28 = .ok (.iadd, 1) := by decide +kernel
theorem dJ6_bitCount_0f7a4_29 : decode cJ6_bitCount_0f7a4 29 = .ok (.ldc_w 267, 3) := by decide +kernel
theorem dJ6_bitCount_0f7a4_32 : decode cJ6_bitCount_0f7a4 32 = .ok (.iand, 1) := by decide +kernel
theorem dJ6_bitCount_0f7a4_33 : decode cJ6_bitCount_0f7a4 33 = .ok (.istore_n 0, 1) := by decide +kernel
theorem dJ6_bitCount_0f7a4_34 : decode cJ6_bitCount_0f7a4 34 = .ok (.iload_n 0, 1) := by decide +kernel
theorem dJ6_bitCount_0f7a4_35 : decode cJ6_bitCount_0f7a4 35 = .ok (.iload_n 0, 1) := by decide +kernel
theorem dJ6_bitCount_0f7a4_36 : decode cJ6_bitCount_0f7a4 36 = .ok (.bipush 8, 2) := by decide +kernel
theorem dJ6_bitCount_0f7a4_38 : decode cJ6_bitCount_0f7a4 38 = .ok (.iushr, 1) := by decide +kernel
theorem dJ6_bitCount_0f7a4_39 : decode cJ6_bitCount_0f7a4 39 = .ok (.iadd, 1) := by decide +kernel
theorem dJ6_bitCount_0f7a4_40 : decode cJ6_bitCount_0f7a4 40 = .ok (.istore_n 0, 1) := by decide +kernel
theorem dJ6_bitCount_0f7a4_41 : decode cJ6_bitCount_0f7a4 41 = .ok (.iload_n 0, 1) := by decide +kernel
theorem dJ6_bitCount_0f7a4_42 : decode cJ6_bitCount_0f7a4 42 = .ok (.iload_n 0, 1) := by decide +kernel
theorem dJ6_bitCount_0f7a4_43 : decode cJ6_bitCount_0f7a4 43 = .ok (.bipush 16, 2) := by decide +kernel
theorem dJ6_bitCount_0f7a4_45 : decode cJ6_bitCount_0f7a4 45 = .ok (.iushr, 1) := by decide +kernel
theorem dJ6_bitCount_0f7a4_46 : decode cJ6_bitCount_0f7a4 46 = .ok (.iadd, 1) := by decide +kernel
theorem dJ6_bitCount_0f7a4_47 : decode cJ6_bitCount_0f7a4 47 = .ok (.istore_n 0, 1) := by decide +kernel
theorem dJ6_bitCount_0f7a4_48 : decode cJ6_bitCount_0f7a4 48 = .ok (.iload_n 0, 1) := by decide +kernel
theorem dJ6_bitCount_0f7a4_49 : decode cJ6_bitCount_0f7a4 49 = .ok (.bipush 63, 2) := by decide +kernel
theorem dJ6_bitCount_0f7a4_51 : decode cJ6_bitCount_0f7a4 51 = .ok (.iand, 1) := by decide +kernel
theorem dJ6_bitCount_0f7a4_52 : decode cJ6_bitCount_0f7a4 52 = .ok (.ireturn, 1) := by decide +kernel
theorem dJ7_fill_53178_0 : decode cJ7_fill_53178 0 = .ok (.iconst 0, 1) := by decide +kernel
theorem dJ7_fill_53178_1 : decode cJ7_fill_53178 1 = .ok (.istore_n 2, 1) := by decide +kernel
theorem dJ7_fill_53178_2 : decode cJ7_fill_53178 2 = .ok (.aload_n 0, 1) := by decide +kernel
theorem dJ7_fill_53178_3 : decode cJ7_fill_53178 3 = .ok (.arraylength, 1) := by decide +kernel
theorem dJ7_fill_53178_4 : decode cJ7_fill_53178 4 = .ok (.istore_n 3, 1) := by decide +kernel
theorem dJ7_fill_53178_5 : decode cJ7_fill_53178 5 = .ok (.iload_n 2, 1) := by decide +kernel
theorem dJ7_fill_53178_6 : decode cJ7_fill_53178 6 = .ok (.iload_n 3, 1) := by decide +kernel
theorem dJ7_fill_53178_7 : decode cJ7_fill_53178 7 = .ok (.if_icmp .ge 13, 3) := by decide +kernel
theorem dJ7_fill_53178_10 : decode cJ7_fill_53178 10 = .ok (.aload_n 0, 1) := by decide +kernel
theorem dJ7_fill_53178_11 : decode cJ7_fill_53178 11 = .ok (.iload_n 2, 1) := by decide +kernel
theorem dJ7_fill_53178_12 : decode cJ7_fill_53178 12 = .ok (.iload_n 1, 1) := by decide +kernel
theorem dJ7_fill_53178_13 : decode cJ7_fill_53178 13 = .ok (.iastore, 1) := by decide +kernel
theorem dJ7_fill_53178_14 : decode cJ7_fill_53178 14 = .ok (.iinc 2 1, 3) := by decide +kernel
theorem dJ7_fill_53178_17 : decode cJ7_fill_53178 17 = .ok (.goto (-12), 3) := by decide +kernel
theorem dJ7_fill_53178_20 : decode cJ7_fill_53178 20 = .ok (.return_, 1) := by decide +kernel
theorem dJ7_fill_d0a16_0 : decode cJ7_fill_d0a16 0 = .ok (.iconst 0, 1) := by decide +kernel
theorem dJ7_fill_d0a16_1 : decode cJ7_fill_d0a16 1 = .ok (.istore_n 3, 1) := by decide +kernel
theorem dJ7_fill_d0a16_2 : decode cJ7_fill_d0a16 2 = .ok (.aload_n 0, 1) := by decide +kernel
theorem dJ7_fill_d0a16_3 : decode cJ7_fill_d0a16 3 = .ok (.arraylength, 1) := by decide +kernel
theorem dJ7_fill_d0a16_4 : decode cJ7_fill_d0a16 4 = .ok (.istore 4, 2) := by decide +kernel
theorem dJ7_fill_d0a16_6 : decode cJ7_fill_d0a16 6 = .ok (.iload_n 3, 1) := by decide +kernel
theorem dJ7_fill_d0a16_7 : decode cJ7_fill_d0a16 7 = .ok (.iload 4, 2) := by decide +kernel
theorem dJ7_fill_d0a16_9 : decode cJ7_fill_d0a16 9 = .ok (.if_icmp .ge 13, 3) := by decide +kernel
theorem dJ7_fill_d0a16_12 : decode cJ7_fill_d0a16 12 = .ok (.aload_n 0, 1) := by decide +kernel
theorem dJ7_fill_d0a16_13 : decode cJ7_fill_d0a16 13 = .ok (.iload_n 3, 1) := by decide +kernel
theorem dJ7_fill_d0a16_14 : decode cJ7_fill_d0a16 14 = .ok (.lload_n 1, 1) := by decide +kernel
theorem dJ7_fill_d0a16_15 : decode cJ7_fill_d0a16 15 = .ok (.lastore, 1) := by decide +kernel
theorem dJ7_fill_d0a16_16 : decode cJ7_fill_d0a16 16 = .ok (.iinc 3 1, 3) := by decide +kernel
theorem dJ7_fill_d0a16_19 : decode cJ7_fill_d0a16 19 = .ok (.goto (-13), 3) := by decide +kernel
theorem dJ7_fill_d0a16_22 : decode cJ7_fill_d0a16 22 = .ok (.return_, 1) := by decide +kernel
theorem dJ9_floorMod_7cf53_0 : decode cJ9_floorMod_7cf53 0 = .ok (.iload_n 0, 1) := by decide +kernel
theorem dJ9_floorMod_7cf53_1 : decode cJ9_floorMod_7cf53 1 = .ok (.iload_n 1, 1) := by decide +kernel
theorem dJ9_floorMod_7cf53_2 : decode cJ9_floorMod_7cf53 2 = .ok (.irem, 1) := by decide +kernel
theorem dJ9_floorMod_7cf53_3 : decode cJ9_floorMod_7cf53 3 = .ok (.istore_n 2, 1) := by decide +kernel
theorem dJ9_floorMod_7cf53_4 : decode cJ9_floorMod_7cf53 4 = .ok (.iload_n 0, 1) := by decide +kernel
theorem dJ9_floorMod_7cf53_5 : decode cJ9_floorMod_7cf53 5 = .ok (.iload_n 1, 1) := by decide +kernel
theorem dJ9_floorMod_7cf53_6 : decode cJ9_floorMod_7cf53 6 = .ok (.ixor, 1) := by decide +kernel
theorem dJ9_floorMod_7cf53_7 : decode cJ9_floorMod_7cf53 7 = .ok (.ifCond .ge 11, 3) := by decide +kernel
theorem dJ9_floorMod_7cf53_10 : decode cJ9_floorMod_7cf53 10 = .ok (.iload_n 2, 1) := by decide +kernel
theorem dJ9_floorMod_7cf53_11 : decode cJ9_floorMod_7cf53 11 = .ok (.ifCond .eq 7, 3) := by decide +kernel
theorem dJ9_floorMod_7cf53_14 : decode cJ9_floorMod_7cf53 14 = .ok (.iload_n 2, 1) := by decide +kernel
theorem dJ9_floorMod_7cf53_15 : decode cJ9_floorMod_7cf53 15 = .ok (.iload_n 1, 1) := by decide +kernel
theorem dJ9_floorMod_7cf53_16 : decode cJ9_floorMod_7cf53 16 = .ok (.iadd, 1) := by decide +kernel
theorem dJ9_floorMod_7cf53_17 : decode cJ9_floorMod_7cf53 17 = .ok (.ireturn, 1) := by decide +kernel
theorem dJ9_floorMod_7cf53_18 : decode cJ9_floorMod_7cf53 18 = .ok (.iload_n 2, 1) := by decide +kernel
theorem dJ9_floorMod_7cf53_19 : decode cJ9_floorMod_7cf53 19 = .ok (.ireturn, 1) := by decide +kernel
theorem dJ9_max_7cf53_0 : decode cJ9_max_7cf53 0 = .ok (.iload_n 0, 1) := by decide +kernel
theorem dJ9_max_7cf53_1 : decode cJ9_max_7cf53 1 = .ok (.iload_n 1, 1) := by decide +kernel
theorem dJ9_max_7cf53_2 : decode cJ9_max_7cf53 2 = .ok (.if_icmp .lt 7, 3) := by decide +kernel
theorem dJ9_max_7cf53_5 : decode cJ9_max_7cf53 5 = .ok (.iload_n 0, 1) := by decide +kernel
theorem dJ9_max_7cf53_6 : decode cJ9_max_7cf53 6 = .ok (.goto 4, 3) := by decide +kernel
theorem dJ9_max_7cf53_9 : decode cJ9_max_7cf53 9 = .ok (.iload_n 1, 1) := by decide +kernel
theorem dJ9_max_7cf53_10 : decode cJ9_max_7cf53 10 = .ok (.ireturn, 1) := by decide +kernel
theorem dJ9_min_7cf53_0 : decode cJ9_min_7cf53 0 = .ok (.iload_n 0, 1) := by decide +kernel
theorem dJ9_min_7cf53_1 : decode cJ9_min_7cf53 1 = .ok (.iload_n 1, 1) := by decide +kernel
theorem dJ9_min_7cf53_2 : decode cJ9_min_7cf53 2 = .ok (.if_icmp .gt 7, 3) := by decide +kernel
theorem dJ9_min_7cf53_5 : decode cJ9_min_7cf53 5 = .ok (.iload_n 0, 1) := by decide +kernel
theorem dJ9_min_7cf53_6 : decode cJ9_min_7cf53 6 = .ok (.goto 4, 3) := by decide +kernel
theorem dJ9_min_7cf53_9 : decode cJ9_min_7cf53 9 = .ok (.iload_n 1, 1) := by decide +kernel
theorem dJ9_min_7cf53_10 : decode cJ9_min_7cf53 10 = .ok (.ireturn, 1) := by decide +kernel
theorem dX0_begun_0 : decode cX0_begun 0 = .ok (.aload_n 0, 1) := by decide +kernel
theorem dX0_begun_1 : decode cX0_begun 1 = .ok (.getfield 21, 3) := by decide +kernel
theorem dX0_begun_4 : decode cX0_begun 4 = .ok (.iload_n 1, 1) := by decide +kernel
theorem dX0_begun_5 : decode cX0_begun 5 = .ok (.iload_n 2, 1) := by decide +kernel
theorem dX0_begun_6 : decode cX0_begun 6 = .ok (.iload_n 3, 1) := by decide +kernel
theorem dX0_begun_7 : decode cX0_begun 7 = .ok (.invokevirtual 78, 3) := by decide +kernel
theorem dX0_begun_10 : decode cX0_begun 10 = .ok (.aload_n 0, 1) := by decide +kernel
theorem dX0_begun_11 : decode cX0_begun 11 = .ok (.getfield 21, 3) := by decide +kernel
theorem dX0_begun_14 : decode cX0_begun 14 = .ok (.aload_n 0, 1) := by decide +kernel
theorem dX0_begun_15 : decode cX0_begun 15 = .ok (.getfield 41, 3) := by decide +kernel
theorem dX0_begun_18 : decode cX0_begun 18 = .ok (.invokevirtual 82, 3) := by decide +kernel
theorem dX0_begun_21 : decode cX0_begun 21 = .ok (.aload_n 0, 1) := by decide +kernel
theorem dX0_begun_22 : decode cX0_begun 22 = .ok (.getfield 21, 3) := by decide +kernel
theorem dX0_begun_25 : decode cX0_begun 25 = .ok (.areturn, 1) := by decide +kernel
theorem dX0_behind_0 : decode cX0_behind 0 = .ok (.aload_n 0, 1) := by decide +kernel
theorem dX0_behind_1 : decode cX0_behind 1 = .ok (.getfield 25, 3) := by decide +kernel
theorem dX0_behind_4 : decode cX0_behind 4 = .ok (.aload_n 1, 1) := by decide +kernel
theorem dX0_behind_5 : decode cX0_behind 5 = .ok (.invokevirtual 70, 3) := by decide +kernel
theorem dX0_behind_8 : decode cX0_behind 8 = .ok (.iconst 0, 1) := by decide +kernel
theorem dX0_behind_9 : decode cX0_behind 9 = .ok (.istore_n 3, 1) := by decide +kernel
theorem dX0_behind_10 : decode cX0_behind 10 = .ok (.iload_n 3, 1) := by decide +kernel
theorem dX0_behind_11 : decode cX0_behind 11 = .ok (.iload_n 2, 1) := by decide +kernel
theorem dX0_behind_12 : decode cX0_behind 12 = .ok (.if_icmp .ge 21, 3) := by decide +kernel
theorem dX0_behind_15 : decode cX0_behind 15 = .ok (.aload_n 0, 1) := by decide +kernel
theorem dX0_behind_16 : decode cX0_behind 16 = .ok (.getfield 12, 3) := by decide +kernel
theorem dX0_behind_19 : decode cX0_behind 19 = .ok (.aload_n 0, 1) := by decide +kernel
theorem dX0_behind_20 : decode cX0_behind 20 = .ok (.getfield 25, 3) := by decide +kernel
theorem dX0_behind_23 : decode cX0_behind 23 = .ok (.invokevirtual 74, 3) := by decide +kernel
theorem dX0_behind_26 : decode cX0_behind 26 = .ok (.pop, 1) := by decide +kernel
theorem dX0_behind_27 : decode cX0_behind 27 = .ok (.iinc 3 1, 3) := by decide +kernel
theorem dX0_behind_30 : decode cX0_behind 30 = .ok (.goto (-20), 3) := by decide +kernel
theorem dX0_behind_33 : decode cX0_behind 33 = .ok (.aload_n 0, 1) := by decide +kernel
theorem dX0_behind_34 : decode cX0_behind 34 = .ok (.getfield 25, 3) := by decide +kernel
theorem dX0_behind_37 : decode cX0_behind 37 = .ok (.areturn, 1) := by decide +kernel
theorem dX0_course_0 : decode cX0_course 0 = .ok (.iload_n 2, 1) := by decide +kernel
theorem dX0_course_1 : decode cX0_course 1 = .ok (.iconst 3, 1) := by decide +kernel
theorem dX0_course_2 : decode cX0_course 2 = .ok (.imul, 1) := by decide +kernel
theorem dX0_course_3 : decode cX0_course 3 = .ok (.istore 4, 2) := by decide +kernel
theorem dX0_course_5 : decode cX0_course 5 = .ok (.aload_n 0, 1) := by decide +kernel
theorem dX0_course_6 : decode cX0_course 6 = .ok (.getfield 49, 3) := by decide +kernel
theorem dX0_course_9 : decode cX0_course 9 = .ok (.iload_n 2, 1) := by decide +kernel
theorem dX0_course_10 : decode cX0_course 10 = .ok (.ishr, 1) := by decide +kernel
theorem dX0_course_11 : decode cX0_course 11 = .ok (.iconst 1, 1) := by decide +kernel
theorem dX0_course_12 : decode cX0_course 12 = .ok (.iand, 1) := by decide +kernel
theorem dX0_course_13 : decode cX0_course 13 = .ok (.ifCond .ne 118, 3) := by decide +kernel
theorem dX0_course_16 : decode cX0_course 16 = .ok (.aload_n 0, 1) := by decide +kernel
theorem dX0_course_17 : decode cX0_course 17 = .ok (.aload_n 1, 1) := by decide +kernel
theorem dX0_course_18 : decode cX0_course 18 = .ok (.invokevirtual 85, 3) := by decide +kernel
theorem dX0_course_21 : decode cX0_course 21 = .ok (.istore 5, 2) := by decide +kernel
theorem dX0_course_23 : decode cX0_course 23 = .ok (.iconst (-1), 1) := by decide +kernel
theorem dX0_course_24 : decode cX0_course 24 = .ok (.istore 6, 2) := by decide +kernel
theorem dX0_course_26 : decode cX0_course 26 = .ok (.aload_n 0, 1) := by decide +kernel
theorem dX0_course_27 : decode cX0_course 27 = .ok (.getfield 31, 3) := by decide +kernel
theorem dX0_course_30 : decode cX0_course 30 = .ok (.iload 4, 2) := by decide +kernel
theorem dX0_course_32 : decode cX0_course 32 = .ok (.aload_n 0, 1) := by decide +kernel
theorem dX0_course_33 : decode cX0_course 33 = .ok (.getfield 25, 3) := by decide +kernel
theorem dX0_course_36 : decode cX0_course 36 = .ok (.invokevirtual 89, 3) := by decide +kernel
theorem dX0_course_39 : decode cX0_course 39 = .ok (.ifCond .eq 7, 3) := by decide +kernel
theorem dX0_course_42 : decode cX0_course 42 = .ok (.iconst 0, 1) := by decide +kernel
theorem dX0_course_43 : decode cX0_course 43 = .ok (.goto 4, 3) := by decide +kernel
theorem dX0_course_46 : decode cX0_course 46 = .ok (.iconst 1, 1) := by decide +kernel
theorem dX0_course_47 : decode cX0_course 47 = .ok (.iastore, 1) := by decide +kernel
theorem dX0_course_48 : decode cX0_course 48 = .ok (.iload 5, 2) := by decide +kernel
theorem dX0_course_50 : decode cX0_course 50 = .ok (.iconst (-1), 1) := by decide +kernel
theorem dX0_course_51 : decode cX0_course 51 = .ok (.if_icmp .ne 36, 3) := by decide +kernel
theorem dX0_course_54 : decode cX0_course 54 = .ok (.aload_n 0, 1) := by decide +kernel
theorem dX0_course_55 : decode cX0_course 55 = .ok (.invokevirtual 93, 3) := by decide +kernel
theorem dX0_course_58 : decode cX0_course 58 = .ok (.istore 6, 2) := by decide +kernel
theorem dX0_course_60 : decode cX0_course 60 = .ok (.aload_n 0, 1) := by decide +kernel
theorem dX0_course_61 : decode cX0_course 61 = .ok (.aload_n 1, 1) := by decide +kernel
theorem dX0_course_62 : decode cX0_course 62 = .ok (.iload 6, 2) := by decide +kernel
theorem dX0_course_64 : decode cX0_course 64 = .ok (.invokevirtual 97, 3) := by decide +kernel
theorem dX0_course_67 : decode cX0_course 67 = .ok (.istore 5, 2) := by decide +kernel
theorem dX0_course_69 : decode cX0_course 69 = .ok (.aload_n 0, 1) := by decide +kernel
theorem dX0_course_70 : decode cX0_course 70 = .ok (.getfield 31, 3) := by decide +kernel
theorem dX0_course_73 : decode cX0_course 73 = .ok (.iload 4, 2) := by decide +kernel
theorem dX0_course_75 : decode cX0_course 75 = .ok (.iload 5, 2) := by decide +kernel
theorem dX0_course_77 : decode cX0_course 77 = .ok (.iconst (-1), 1) := by decide +kernel
theorem dX0_course_78 : decode cX0_course 78 = .ok (.if_icmp .ne 7, 3) := by decide +kernel
theorem dX0_course_81 : decode cX0_course 81 = .ok (.iconst 3, 1) := by decide +kernel
theorem dX0_course_82 : decode cX0_course 82 = .ok (.goto 4, 3) := by decide +kernel
theorem dX0_course_85 : decode cX0_course 85 = .ok (.iconst 2, 1) := by decide +kernel
theorem dX0_course_86 : decode cX0_course 86 = .ok (.iastore, 1) := by decide +kernel
theorem dX0_course_87 : decode cX0_course 87 = .ok (.aload_n 0, 1) := by decide +kernel
theorem dX0_course_88 : decode cX0_course 88 = .ok (.getfield 31, 3) := by decide +kernel
theorem dX0_course_91 : decode cX0_course 91 = .ok (.iload 4, 2) := by decide +kernel
theorem dX0_course_93 : decode cX0_course 93 = .ok (.iconst 1, 1) := by decide +kernel
theorem dX0_course_94 : decode cX0_course 94 = .ok (.iadd, 1) := by decide +kernel
theorem dX0_course_95 : decode cX0_course 95 = .ok (.iload 5, 2) := by decide +kernel
theorem dX0_course_97 : decode cX0_course 97 = .ok (.iastore, 1) := by decide +kernel
theorem dX0_course_98 : decode cX0_course 98 = .ok (.aload_n 0, 1) := by decide +kernel
theorem dX0_course_99 : decode cX0_course 99 = .ok (.getfield 31, 3) := by decide +kernel
theorem dX0_course_102 : decode cX0_course 102 = .ok (.iload 4, 2) := by decide +kernel
theorem dX0_course_104 : decode cX0_course 104 = .ok (.iconst 2, 1) := by decide +kernel
theorem dX0_course_105 : decode cX0_course 105 = .ok (.iadd, 1) := by decide +kernel
theorem dX0_course_106 : decode cX0_course 106 = .ok (.iload 5, 2) := by decide +kernel
theorem dX0_course_108 : decode cX0_course 108 = .ok (.iconst (-1), 1) := by decide +kernel
theorem dX0_course_109 : decode cX0_course 109 = .ok (.if_icmp .ne 7, 3) := by decide +kernel
theorem dX0_course_112 : decode cX0_course 112 = .ok (.iconst (-1), 1) := by decide +kernel
theorem dX0_course_113 : decode cX0_course 113 = .ok (.goto 5, 3) := by decide +kernel
theorem dX0_course_116 : decode cX0_course 116 = .ok (.iload 6, 2) := by decide +kernel
theorem dX0_course_118 : decode cX0_course 118 = .ok (.iastore, 1) := by decide +kernel
theorem dX0_course_119 : decode cX0_course 119 = .ok (.aload_n 0, 1) := by decide +kernel
theorem dX0_course_120 : decode cX0_course 120 = .ok (.dup, 1) := by decide +kernel
theorem dX0_course_121 : decode cX0_course 121 = .ok (.getfield 49, 3) := by decide +kernel
theorem dX0_course_124 : decode cX0_course 124 = .ok (.iconst 1, 1) := by decide +kernel
theorem dX0_course_125 : decode cX0_course 125 = .ok (.iload_n 2, 1) := by decide +kernel
theorem dX0_course_126 : decode cX0_course 126 = .ok (.ishl, 1) := by decide +kernel
theorem dX0_course_127 : decode cX0_course 127 = .ok (.ior, 1) := by decide +kernel
theorem dX0_course_128 : decode cX0_course 128 = .ok (.putfield 49, 3) := by decide +kernel
theorem dX0_course_131 : decode cX0_course 131 = .ok (.aload_n 0, 1) := by decide +kernel
theorem dX0_course_132 : decode cX0_course 132 = .ok (.getfield 31, 3) := by decide +kernel
theorem dX0_course_135 : decode cX0_course 135 = .ok (.iload 4, 2) := by decide +kernel
theorem dX0_course_137 : decode cX0_course 137 = .ok (.iload_n 3, 1) := by decide +kernel
theorem dX0_course_138 : decode cX0_course 138 = .ok (.iadd, 1) := by decide +kernel
theorem dX0_course_139 : decode cX0_course 139 = .ok (.iaload, 1) := by decide +kernel
theorem dX0_course_140 : decode cX0_course 140 = .ok (.ireturn, 1) := by decide +kernel
theorem dX0_cyclesToRest_0 : decode cX0_cyclesToRest 0 = .ok (.aload_n 0, 1) := by decide +kernel
theorem dX0_cyclesToRest_1 : decode cX0_cyclesToRest 1 = .ok (.getfield 25, 3) := by decide +kernel
theorem dX0_cyclesToRest_4 : decode cX0_cyclesToRest 4 = .ok (.aload_n 1, 1) := by decide +kernel
theorem dX0_cyclesToRest_5 : decode cX0_cyclesToRest 5 = .ok (.invokevirtual 70, 3) := by decide +kernel
theorem dX0_cyclesToRest_8 : decode cX0_cyclesToRest 8 = .ok (.iconst 0, 1) := by decide +kernel
theorem dX0_cyclesToRest_9 : decode cX0_cyclesToRest 9 = .ok (.istore_n 2, 1) := by decide +kernel
theorem dX0_cyclesToRest_10 : decode cX0_cyclesToRest 10 = .ok (.iload_n 2, 1) := by decide +kernel
theorem dX0_cyclesToRest_11 : decode cX0_cyclesToRest 11 = .ok (.sipush 400, 3) := by decide +kernel
theorem dX0_cyclesToRest_14 : decode cX0_cyclesToRest 14 = .ok (.if_icmp .ge 33, 3) := by decide +kernel
theorem dX0_cyclesToRest_17 : decode cX0_cyclesToRest 17 = .ok (.aload_n 0, 1) := by decide +kernel
theorem dX0_cyclesToRest_18 : decode cX0_cyclesToRest 18 = .ok (.getfield 25, 3) := by decide +kernel
theorem dX0_cyclesToRest_21 : decode cX0_cyclesToRest 21 = .ok (.invokevirtual 101, 3) := by decide +kernel
theorem dX0_cyclesToRest_24 : decode cX0_cyclesToRest 24 = .ok (.ifCond .eq 5, 3) := by decide +kernel
theorem dX0_cyclesToRest_27 : decode cX0_cyclesToRest 27 = .ok (.iload_n 2, 1) := by decide +kernel
theorem dX0_cyclesToRest_28 : decode cX0_cyclesToRest 28 = .ok (.ireturn, 1) := by decide +kernel
theorem dX0_cyclesToRest_29 : decode cX0_cyclesToRest 29 = .ok (.aload_n 0, 1) := by decide +kernel
theorem dX0_cyclesToRest_30 : decode cX0_cyclesToRest 30 = .ok (.getfield 12, 3) := by decide +kernel
theorem dX0_cyclesToRest_33 : decode cX0_cyclesToRest 33 = .ok (.aload_n 0, 1) := by decide +kernel
theorem dX0_cyclesToRest_34 : decode cX0_cyclesToRest 34 = .ok (.getfield 25, 3) := by decide +kernel
theorem dX0_cyclesToRest_37 : decode cX0_cyclesToRest 37 = .ok (.invokevirtual 74, 3) := by decide +kernel
theorem dX0_cyclesToRest_40 : decode cX0_cyclesToRest 40 = .ok (.pop, 1) := by decide +kernel
theorem dX0_cyclesToRest_41 : decode cX0_cyclesToRest 41 = .ok (.iinc 2 1, 3) := by decide +kernel
theorem dX0_cyclesToRest_44 : decode cX0_cyclesToRest 44 = .ok (.goto (-34), 3) := by decide +kernel
theorem dX0_cyclesToRest_47 : decode cX0_cyclesToRest 47 = .ok (.aload_n 0, 1) := by decide +kernel
theorem dX0_cyclesToRest_48 : decode cX0_cyclesToRest 48 = .ok (.getfield 25, 3) := by decide +kernel
theorem dX0_cyclesToRest_51 : decode cX0_cyclesToRest 51 = .ok (.invokevirtual 101, 3) := by decide +kernel
theorem dX0_cyclesToRest_54 : decode cX0_cyclesToRest 54 = .ok (.ifCond .eq 9, 3) := by decide +kernel
theorem dX0_cyclesToRest_57 : decode cX0_cyclesToRest 57 = .ok (.sipush 400, 3) := by decide +kernel
theorem dX0_cyclesToRest_60 : decode cX0_cyclesToRest 60 = .ok (.goto 4, 3) := by decide +kernel
theorem dX0_cyclesToRest_63 : decode cX0_cyclesToRest 63 = .ok (.iconst (-1), 1) := by decide +kernel
theorem dX0_cyclesToRest_64 : decode cX0_cyclesToRest 64 = .ok (.ireturn, 1) := by decide +kernel
theorem dX0_cyclesWith_0 : decode cX0_cyclesWith 0 = .ok (.aload_n 0, 1) := by decide +kernel
theorem dX0_cyclesWith_1 : decode cX0_cyclesWith 1 = .ok (.getfield 35, 3) := by decide +kernel
theorem dX0_cyclesWith_4 : decode cX0_cyclesWith 4 = .ok (.iload_n 1, 1) := by decide +kernel
theorem dX0_cyclesWith_5 : decode cX0_cyclesWith 5 = .ok (.bipush 16, 2) := by decide +kernel
theorem dX0_cyclesWith_7 : decode cX0_cyclesWith 7 = .ok (.imul, 1) := by decide +kernel
theorem dX0_cyclesWith_8 : decode cX0_cyclesWith 8 = .ok (.iload_n 2, 1) := by decide +kernel
theorem dX0_cyclesWith_9 : decode cX0_cyclesWith 9 = .ok (.iadd, 1) := by decide +kernel
theorem dX0_cyclesWith_10 : decode cX0_cyclesWith 10 = .ok (.iaload, 1) := by decide +kernel
theorem dX0_cyclesWith_11 : decode cX0_cyclesWith 11 = .ok (.ireturn, 1) := by decide +kernel
theorem dX0_firstAgain_0 : decode cX0_firstAgain 0 = .ok (.iload_n 2, 1) := by decide +kernel
theorem dX0_firstAgain_1 : decode cX0_firstAgain 1 = .ok (.iconst (-1), 1) := by decide +kernel
theorem dX0_firstAgain_2 : decode cX0_firstAgain 2 = .ok (.if_icmp .ne 5, 3) := by decide +kernel
theorem dX0_firstAgain_5 : decode cX0_firstAgain 5 = .ok (.iconst (-1), 1) := by decide +kernel
theorem dX0_firstAgain_6 : decode cX0_firstAgain 6 = .ok (.ireturn, 1) := by decide +kernel
theorem dX0_firstAgain_7 : decode cX0_firstAgain 7 = .ok (.aload_n 0, 1) := by decide +kernel
theorem dX0_firstAgain_8 : decode cX0_firstAgain 8 = .ok (.getfield 28, 3) := by decide +kernel
theorem dX0_firstAgain_11 : decode cX0_firstAgain 11 = .ok (.aload_n 1, 1) := by decide +kernel
theorem dX0_firstAgain_12 : decode cX0_firstAgain 12 = .ok (.invokevirtual 70, 3) := by decide +kernel
theorem dX0_firstAgain_15 : decode cX0_firstAgain 15 = .ok (.aload_n 0, 1) := by decide +kernel
theorem dX0_firstAgain_16 : decode cX0_firstAgain 16 = .ok (.getfield 25, 3) := by decide +kernel
theorem dX0_firstAgain_19 : decode cX0_firstAgain 19 = .ok (.aload_n 1, 1) := by decide +kernel
theorem dX0_firstAgain_20 : decode cX0_firstAgain 20 = .ok (.invokevirtual 70, 3) := by decide +kernel
theorem dX0_firstAgain_23 : decode cX0_firstAgain 23 = .ok (.iconst 0, 1) := by decide +kernel
theorem dX0_firstAgain_24 : decode cX0_firstAgain 24 = .ok (.istore_n 3, 1) := by decide +kernel
theorem dX0_firstAgain_25 : decode cX0_firstAgain 25 = .ok (.iload_n 3, 1) := by decide +kernel
theorem dX0_firstAgain_26 : decode cX0_firstAgain 26 = .ok (.iload_n 2, 1) := by decide +kernel
theorem dX0_firstAgain_27 : decode cX0_firstAgain 27 = .ok (.if_icmp .ge 21, 3) := by decide +kernel
theorem dX0_firstAgain_30 : decode cX0_firstAgain 30 = .ok (.aload_n 0, 1) := by decide +kernel
theorem dX0_firstAgain_31 : decode cX0_firstAgain 31 = .ok (.getfield 12, 3) := by decide +kernel
theorem dX0_firstAgain_34 : decode cX0_firstAgain 34 = .ok (.aload_n 0, 1) := by decide +kernel
theorem dX0_firstAgain_35 : decode cX0_firstAgain 35 = .ok (.getfield 25, 3) := by decide +kernel
theorem dX0_firstAgain_38 : decode cX0_firstAgain 38 = .ok (.invokevirtual 74, 3) := by decide +kernel
theorem dX0_firstAgain_41 : decode cX0_firstAgain 41 = .ok (.pop, 1) := by decide +kernel
theorem dX0_firstAgain_42 : decode cX0_firstAgain 42 = .ok (.iinc 3 1, 3) := by decide +kernel
theorem dX0_firstAgain_45 : decode cX0_firstAgain 45 = .ok (.goto (-20), 3) := by decide +kernel
theorem dX0_firstAgain_48 : decode cX0_firstAgain 48 = .ok (.iload_n 2, 1) := by decide +kernel
theorem dX0_firstAgain_49 : decode cX0_firstAgain 49 = .ok (.istore_n 3, 1) := by decide +kernel
theorem dX0_firstAgain_50 : decode cX0_firstAgain 50 = .ok (.iload_n 3, 1) := by decide +kernel
theorem dX0_firstAgain_51 : decode cX0_firstAgain 51 = .ok (.sipush 400, 3) := by decide +kernel
theorem dX0_firstAgain_54 : decode cX0_firstAgain 54 = .ok (.if_icmp .gt 49, 3) := by decide +kernel
theorem dX0_firstAgain_57 : decode cX0_firstAgain 57 = .ok (.aload_n 0, 1) := by decide +kernel
theorem dX0_firstAgain_58 : decode cX0_firstAgain 58 = .ok (.getfield 25, 3) := by decide +kernel
theorem dX0_firstAgain_61 : decode cX0_firstAgain 61 = .ok (.aload_n 0, 1) := by decide +kernel
theorem dX0_firstAgain_62 : decode cX0_firstAgain 62 = .ok (.getfield 28, 3) := by decide +kernel
theorem dX0_firstAgain_65 : decode cX0_firstAgain 65 = .ok (.invokevirtual 104, 3) := by decide +kernel
theorem dX0_firstAgain_68 : decode cX0_firstAgain 68 = .ok (.ifCond .eq 5, 3) := by decide +kernel
theorem dX0_firstAgain_71 : decode cX0_firstAgain 71 = .ok (.iload_n 3, 1) := by decide +kernel
theorem dX0_firstAgain_72 : decode cX0_firstAgain 72 = .ok (.ireturn, 1) := by decide +kernel
theorem dX0_firstAgain_73 : decode cX0_firstAgain 73 = .ok (.aload_n 0, 1) := by decide +kernel
theorem dX0_firstAgain_74 : decode cX0_firstAgain 74 = .ok (.getfield 12, 3) := by decide +kernel
theorem dX0_firstAgain_77 : decode cX0_firstAgain 77 = .ok (.aload_n 0, 1) := by decide +kernel
theorem dX0_firstAgain_78 : decode cX0_firstAgain 78 = .ok (.getfield 25, 3) := by decide +kernel
theorem dX0_firstAgain_81 : decode cX0_firstAgain 81 = .ok (.invokevirtual 74, 3) := by decide +kernel
theorem dX0_firstAgain_84 : decode cX0_firstAgain 84 = .ok (.pop, 1) := by decide +kernel
theorem dX0_firstAgain_85 : decode cX0_firstAgain 85 = .ok (.aload_n 0, 1) := by decide +kernel
theorem dX0_firstAgain_86 : decode cX0_firstAgain 86 = .ok (.getfield 12, 3) := by decide +kernel
theorem dX0_firstAgain_89 : decode cX0_firstAgain 89 = .ok (.aload_n 0, 1) := by decide +kernel
theorem dX0_firstAgain_90 : decode cX0_firstAgain 90 = .ok (.getfield 28, 3) := by decide +kernel
theorem dX0_firstAgain_93 : decode cX0_firstAgain 93 = .ok (.invokevirtual 74, 3) := by decide +kernel
theorem dX0_firstAgain_96 : decode cX0_firstAgain 96 = .ok (.pop, 1) := by decide +kernel
theorem dX0_firstAgain_97 : decode cX0_firstAgain 97 = .ok (.iinc 3 1, 3) := by decide +kernel
theorem dX0_firstAgain_100 : decode cX0_firstAgain 100 = .ok (.goto (-50), 3) := by decide +kernel
theorem dX0_firstAgain_103 : decode cX0_firstAgain 103 = .ok (.iconst (-1), 1) := by decide +kernel
theorem dX0_firstAgain_104 : decode cX0_firstAgain 104 = .ok (.ireturn, 1) := by decide +kernel
theorem dX0_forgetAhead_0 : decode cX0_forgetAhead 0 = .ok (.aload_n 0, 1) := by decide +kernel
theorem dX0_forgetAhead_1 : decode cX0_forgetAhead 1 = .ok (.dup, 1) := by decide +kernel
theorem dX0_forgetAhead_2 : decode cX0_forgetAhead 2 = .ok (.getfield 49, 3) := by decide +kernel
theorem dX0_forgetAhead_5 : decode cX0_forgetAhead 5 = .ok (.ldc 60, 2) := by decide +kernel
theorem dX0_forgetAhead_7 : decode cX0_forgetAhead 7 = .ok (.iand, 1) := by decide +kernel
theorem dX0_forgetAhead_8 : decode cX0_forgetAhead 8 = .ok (.putfield 49, 3) := by decide +kernel
theorem dX0_forgetAhead_11 : decode cX0_forgetAhead 11 = .ok (.return_, 1) := by decide +kernel
theorem dX0_init_0 : decode cX0_init 0 = .ok (.aload_n 0, 1) := by decide +kernel
theorem dX0_init_1 : decode cX0_init 1 = .ok (.invokespecial 3, 3) := by decide +kernel
theorem dX0_init_4 : decode cX0_init 4 = .ok (.aload_n 0, 1) := by decide +kernel
theorem dX0_init_5 : decode cX0_init 5 = .ok (.new 9, 3) := by decide +kernel
theorem dX0_init_8 : decode cX0_init 8 = .ok (.dup, 1) := by decide +kernel
theorem dX0_init_9 : decode cX0_init 9 = .ok (.invokespecial 11, 3) := by decide +kernel
theorem dX0_init_12 : decode cX0_init 12 = .ok (.putfield 12, 3) := by decide +kernel
theorem dX0_init_15 : decode cX0_init 15 = .ok (.aload_n 0, 1) := by decide +kernel
theorem dX0_init_16 : decode cX0_init 16 = .ok (.new 18, 3) := by decide +kernel
theorem dX0_init_19 : decode cX0_init 19 = .ok (.dup, 1) := by decide +kernel
theorem dX0_init_20 : decode cX0_init 20 = .ok (.invokespecial 20, 3) := by decide +kernel
theorem dX0_init_23 : decode cX0_init 23 = .ok (.putfield 21, 3) := by decide +kernel
theorem dX0_init_26 : decode cX0_init 26 = .ok (.aload_n 0, 1) := by decide +kernel
theorem dX0_init_27 : decode cX0_init 27 = .ok (.new 18, 3) := by decide +kernel
theorem dX0_init_30 : decode cX0_init 30 = .ok (.dup, 1) := by decide +kernel
theorem dX0_init_31 : decode cX0_init 31 = .ok (.invokespecial 20, 3) := by decide +kernel
theorem dX0_init_34 : decode cX0_init 34 = .ok (.putfield 25, 3) := by decide +kernel
theorem dX0_init_37 : decode cX0_init 37 = .ok (.aload_n 0, 1) := by decide +kernel
theorem dX0_init_38 : decode cX0_init 38 = .ok (.new 18, 3) := by decide +kernel
theorem dX0_init_41 : decode cX0_init 41 = .ok (.dup, 1) := by decide +kernel
theorem dX0_init_42 : decode cX0_init 42 = .ok (.invokespecial 20, 3) := by decide +kernel
theorem dX0_init_45 : decode cX0_init 45 = .ok (.putfield 28, 3) := by decide +kernel
theorem dX0_init_48 : decode cX0_init 48 = .ok (.aload_n 0, 1) := by decide +kernel
theorem dX0_init_49 : decode cX0_init 49 = .ok (.bipush 51, 2) := by decide +kernel
theorem dX0_init_51 : decode cX0_init 51 = .ok (.newarray .int, 2) := by decide +kernel
theorem dX0_init_53 : decode cX0_init 53 = .ok (.putfield 31, 3) := by decide +kernel
theorem dX0_init_56 : decode cX0_init 56 = .ok (.aload_n 0, 1) := by decide +kernel
theorem dX0_init_57 : decode cX0_init 57 = .ok (.sipush 1024, 3) := by decide +kernel
theorem dX0_init_60 : decode cX0_init 60 = .ok (.newarray .int, 2) := by decide +kernel
theorem dX0_init_62 : decode cX0_init 62 = .ok (.putfield 35, 3) := by decide +kernel
theorem dX0_init_65 : decode cX0_init 65 = .ok (.aload_n 0, 1) := by decide +kernel
theorem dX0_init_66 : decode cX0_init 66 = .ok (.sipush 160, 3) := by decide +kernel
theorem dX0_init_69 : decode cX0_init 69 = .ok (.newarray .int, 2) := by decide +kernel
theorem dX0_init_71 : decode cX0_init 71 = .ok (.putfield 38, 3) := by decide +kernel
theorem dX0_init_74 : decode cX0_init 74 = .ok (.return_, 1) := by decide +kernel
theorem dX0_roundFromHere_0 : decode cX0_roundFromHere 0 = .ok (.aload_n 0, 1) := by decide +kernel
theorem dX0_roundFromHere_1 : decode cX0_roundFromHere 1 = .ok (.getfield 28, 3) := by decide +kernel
theorem dX0_roundFromHere_4 : decode cX0_roundFromHere 4 = .ok (.aload_n 0, 1) := by decide +kernel
theorem dX0_roundFromHere_5 : decode cX0_roundFromHere 5 = .ok (.getfield 25, 3) := by decide +kernel
theorem dX0_roundFromHere_8 : decode cX0_roundFromHere 8 = .ok (.invokevirtual 70, 3) := by decide +kernel
theorem dX0_roundFromHere_11 : decode cX0_roundFromHere 11 = .ok (.iconst 1, 1) := by decide +kernel
theorem dX0_roundFromHere_12 : decode cX0_roundFromHere 12 = .ok (.istore_n 1, 1) := by decide +kernel
theorem dX0_roundFromHere_13 : decode cX0_roundFromHere 13 = .ok (.iload_n 1, 1) := by decide +kernel
theorem dX0_roundFromHere_14 : decode cX0_roundFromHere 14 = .ok (.sipush 400, 3) := by decide +kernel
theorem dX0_roundFromHere_17 : decode cX0_roundFromHere 17 = .ok (.if_icmp .gt 37, 3) := by decide +kernel
theorem dX0_roundFromHere_20 : decode cX0_roundFromHere 20 = .ok (.aload_n 0, 1) := by decide +kernel
theorem dX0_roundFromHere_21 : decode cX0_roundFromHere 21 = .ok (.getfield 12, 3) := by decide +kernel
theorem dX0_roundFromHere_24 : decode cX0_roundFromHere 24 = .ok (.aload_n 0, 1) := by decide +kernel
theorem dX0_roundFromHere_25 : decode cX0_roundFromHere 25 = .ok (.getfield 25, 3) := by decide +kernel
theorem dX0_roundFromHere_28 : decode cX0_roundFromHere 28 = .ok (.invokevirtual 74, 3) := by decide +kernel
theorem dX0_roundFromHere_31 : decode cX0_roundFromHere 31 = .ok (.pop, 1) := by decide +kernel
theorem dX0_roundFromHere_32 : decode cX0_roundFromHere 32 = .ok (.aload_n 0, 1) := by decide +kernel
theorem dX0_roundFromHere_33 : decode cX0_roundFromHere 33 = .ok (.getfield 25, 3) := by decide +kernel
theorem dX0_roundFromHere_36 : decode cX0_roundFromHere 36 = .ok (.aload_n 0, 1) := by decide +kernel
theorem dX0_roundFromHere_37 : decode cX0_roundFromHere 37 = .ok (.getfield 28, 3) := by decide +kernel
theorem dX0_roundFromHere_40 : decode cX0_roundFromHere 40 = .ok (.invokevirtual 104, 3) := by decide +kernel
theorem dX0_roundFromHere_43 : decode cX0_roundFromHere 43 = .ok (.ifCond .eq 5, 3) := by decide +kernel
theorem dX0_roundFromHere_46 : decode cX0_roundFromHere 46 = .ok (.iload_n 1, 1) := by decide +kernel
theorem dX0_roundFromHere_47 : decode cX0_roundFromHere 47 = .ok (.ireturn, 1) := by decide +kernel
theorem dX0_roundFromHere_48 : decode cX0_roundFromHere 48 = .ok (.iinc 1 1, 3) := by decide +kernel
theorem dX0_roundFromHere_51 : decode cX0_roundFromHere 51 = .ok (.goto (-38), 3) := by decide +kernel
theorem dX0_roundFromHere_54 : decode cX0_roundFromHere 54 = .ok (.iconst (-1), 1) := by decide +kernel
theorem dX0_roundFromHere_55 : decode cX0_roundFromHere 55 = .ok (.ireturn, 1) := by decide +kernel
theorem dX0_solo_0 : decode cX0_solo 0 = .ok (.aload_n 0, 1) := by decide +kernel
theorem dX0_solo_1 : decode cX0_solo 1 = .ok (.getfield 38, 3) := by decide +kernel
theorem dX0_solo_4 : decode cX0_solo 4 = .ok (.iload_n 1, 1) := by decide +kernel
theorem dX0_solo_5 : decode cX0_solo 5 = .ok (.bipush 8, 2) := by decide +kernel
theorem dX0_solo_7 : decode cX0_solo 7 = .ok (.imul, 1) := by decide +kernel
theorem dX0_solo_8 : decode cX0_solo 8 = .ok (.iload_n 2, 1) := by decide +kernel
theorem dX0_solo_9 : decode cX0_solo 9 = .ok (.iadd, 1) := by decide +kernel
theorem dX0_solo_10 : decode cX0_solo 10 = .ok (.iconst 5, 1) := by decide +kernel
theorem dX0_solo_11 : decode cX0_solo 11 = .ok (.imul, 1) := by decide +kernel
theorem dX0_solo_12 : decode cX0_solo 12 = .ok (.iload_n 3, 1) := by decide +kernel
theorem dX0_solo_13 : decode cX0_solo 13 = .ok (.iadd, 1) := by decide +kernel
theorem dX0_solo_14 : decode cX0_solo 14 = .ok (.iaload, 1) := by decide +kernel
theorem dX0_solo_15 : decode cX0_solo 15 = .ok (.ireturn, 1) := by decide +kernel
theorem dX0_take_0 : decode cX0_take 0 = .ok (.aload_n 0, 1) := by decide +kernel
theorem dX0_take_1 : decode cX0_take 1 = .ok (.aload_n 1, 1) := by decide +kernel
theorem dX0_take_2 : decode cX0_take 2 = .ok (.putfield 41, 3) := by decide +kernel
theorem dX0_take_5 : decode cX0_take 5 = .ok (.aload_n 0, 1) := by decide +kernel
theorem dX0_take_6 : decode cX0_take 6 = .ok (.getfield 12, 3) := by decide +kernel
theorem dX0_take_9 : decode cX0_take 9 = .ok (.aload_n 1, 1) := by decide +kernel
theorem dX0_take_10 : decode cX0_take 10 = .ok (.invokevirtual 45, 3) := by decide +kernel
theorem dX0_take_13 : decode cX0_take 13 = .ok (.aload_n 0, 1) := by decide +kernel
theorem dX0_take_14 : decode cX0_take 14 = .ok (.iconst 0, 1) := by decide +kernel
theorem dX0_take_15 : decode cX0_take 15 = .ok (.putfield 49, 3) := by decide +kernel
theorem dX0_take_18 : decode cX0_take 18 = .ok (.aload_n 0, 1) := by decide +kernel
theorem dX0_take_19 : decode cX0_take 19 = .ok (.lconst 0, 1) := by decide +kernel
theorem dX0_take_20 : decode cX0_take 20 = .ok (.putfield 53, 3) := by decide +kernel
theorem dX0_take_23 : decode cX0_take 23 = .ok (.aload_n 0, 1) := by decide +kernel
theorem dX0_take_24 : decode cX0_take 24 = .ok (.iconst 0, 1) := by decide +kernel
theorem dX0_take_25 : decode cX0_take 25 = .ok (.putfield 57, 3) := by decide +kernel
theorem dX0_take_28 : decode cX0_take 28 = .ok (.return_, 1) := by decide +kernel
theorem dX0_tryBy_0 : decode cX0_tryBy 0 = .ok (.aload_n 0, 1) := by decide +kernel
theorem dX0_tryBy_1 : decode cX0_tryBy 1 = .ok (.getfield 61, 3) := by decide +kernel
theorem dX0_tryBy_4 : decode cX0_tryBy 4 = .ok (.iload_n 1, 1) := by decide +kernel
theorem dX0_tryBy_5 : decode cX0_tryBy 5 = .ok (.if_icmp .ne 19, 3) := by decide +kernel
theorem dX0_tryBy_8 : decode cX0_tryBy 8 = .ok (.aload_n 0, 1) := by decide +kernel
theorem dX0_tryBy_9 : decode cX0_tryBy 9 = .ok (.getfield 64, 3) := by decide +kernel
theorem dX0_tryBy_12 : decode cX0_tryBy 12 = .ok (.iload_n 2, 1) := by decide +kernel
theorem dX0_tryBy_13 : decode cX0_tryBy 13 = .ok (.if_icmp .ne 11, 3) := by decide +kernel
theorem dX0_tryBy_16 : decode cX0_tryBy 16 = .ok (.aload_n 0, 1) := by decide +kernel
theorem dX0_tryBy_17 : decode cX0_tryBy 17 = .ok (.getfield 67, 3) := by decide +kernel
theorem dX0_tryBy_20 : decode cX0_tryBy 20 = .ok (.iload_n 3, 1) := by decide +kernel
theorem dX0_tryBy_21 : decode cX0_tryBy 21 = .ok (.if_icmp .eq 28, 3) := by decide +kernel
theorem dX0_tryBy_24 : decode cX0_tryBy 24 = .ok (.aload_n 0, 1) := by decide +kernel
theorem dX0_tryBy_25 : decode cX0_tryBy 25 = .ok (.iload_n 1, 1) := by decide +kernel
theorem dX0_tryBy_26 : decode cX0_tryBy 26 = .ok (.putfield 61, 3) := by decide +kernel
theorem dX0_tryBy_29 : decode cX0_tryBy 29 = .ok (.aload_n 0, 1) := by decide +kernel
theorem dX0_tryBy_30 : decode cX0_tryBy 30 = .ok (.iload_n 2, 1) := by decide +kernel
theorem dX0_tryBy_31 : decode cX0_tryBy 31 = .ok (.putfield 64, 3) := by decide +kernel
theorem dX0_tryBy_34 : decode cX0_tryBy 34 = .ok (.aload_n 0, 1) := by decide +kernel
theorem dX0_tryBy_35 : decode cX0_tryBy 35 = .ok (.iload_n 3, 1) := by decide +kernel
theorem dX0_tryBy_36 : decode cX0_tryBy 36 = .ok (.putfield 67, 3) := by decide +kernel
theorem dX0_tryBy_39 : decode cX0_tryBy 39 = .ok (.aload_n 0, 1) := by decide +kernel
theorem dX0_tryBy_40 : decode cX0_tryBy 40 = .ok (.lconst 0, 1) := by decide +kernel
theorem dX0_tryBy_41 : decode cX0_tryBy 41 = .ok (.putfield 53, 3) := by decide +kernel
theorem dX0_tryBy_44 : decode cX0_tryBy 44 = .ok (.aload_n 0, 1) := by decide +kernel
theorem dX0_tryBy_45 : decode cX0_tryBy 45 = .ok (.iconst 0, 1) := by decide +kernel
theorem dX0_tryBy_46 : decode cX0_tryBy 46 = .ok (.putfield 57, 3) := by decide +kernel
theorem dX0_tryBy_49 : decode cX0_tryBy 49 = .ok (.return_, 1) := by decide +kernel
theorem dX0_tryLane_0 : decode cX0_tryLane 0 = .ok (.iload_n 1, 1) := by decide +kernel
theorem dX0_tryLane_1 : decode cX0_tryLane 1 = .ok (.bipush 8, 2) := by decide +kernel
theorem dX0_tryLane_3 : decode cX0_tryLane 3 = .ok (.imul, 1) := by decide +kernel
theorem dX0_tryLane_4 : decode cX0_tryLane 4 = .ok (.iload_n 2, 1) := by decide +kernel
theorem dX0_tryLane_5 : decode cX0_tryLane 5 = .ok (.iadd, 1) := by decide +kernel
theorem dX0_tryLane_6 : decode cX0_tryLane 6 = .ok (.istore_n 3, 1) := by decide +kernel
theorem dX0_tryLane_7 : decode cX0_tryLane 7 = .ok (.aload_n 0, 1) := by decide +kernel
theorem dX0_tryLane_8 : decode cX0_tryLane 8 = .ok (.getfield 57, 3) := by decide +kernel
theorem dX0_tryLane_11 : decode cX0_tryLane 11 = .ok (.iload_n 3, 1) := by decide +kernel
theorem dX0_tryLane_12 : decode cX0_tryLane 12 = .ok (.ishr, 1) := by decide +kernel
theorem dX0_tryLane_13 : decode cX0_tryLane 13 = .ok (.iconst 1, 1) := by decide +kernel
theorem dX0_tryLane_14 : decode cX0_tryLane 14 = .ok (.iand, 1) := by decide +kernel
theorem dX0_tryLane_15 : decode cX0_tryLane 15 = .ok (.ifCond .eq 4, 3) := by decide +kernel
theorem dX0_tryLane_18 : decode cX0_tryLane 18 = .ok (.return_, 1) := by decide +kernel
theorem dX0_tryLane_19 : decode cX0_tryLane 19 = .ok (.aload_n 0, 1) := by decide +kernel
theorem dX0_tryLane_20 : decode cX0_tryLane 20 = .ok (.aload_n 0, 1) := by decide +kernel
theorem dX0_tryLane_21 : decode cX0_tryLane 21 = .ok (.getfield 61, 3) := by decide +kernel
theorem dX0_tryLane_24 : decode cX0_tryLane 24 = .ok (.aload_n 0, 1) := by decide +kernel
theorem dX0_tryLane_25 : decode cX0_tryLane 25 = .ok (.getfield 64, 3) := by decide +kernel
theorem dX0_tryLane_28 : decode cX0_tryLane 28 = .ok (.aload_n 0, 1) := by decide +kernel
theorem dX0_tryLane_29 : decode cX0_tryLane 29 = .ok (.getfield 67, 3) := by decide +kernel
theorem dX0_tryLane_32 : decode cX0_tryLane 32 = .ok (.invokevirtual 107, 3) := by decide +kernel
theorem dX0_tryLane_35 : decode cX0_tryLane 35 = .ok (.iload_n 1, 1) := by decide +kernel
theorem dX0_tryLane_36 : decode cX0_tryLane 36 = .ok (.iload_n 2, 1) := by decide +kernel
theorem dX0_tryLane_37 : decode cX0_tryLane 37 = .ok (.aload_n 0, 1) := by decide +kernel
theorem dX0_tryLane_38 : decode cX0_tryLane 38 = .ok (.getfield 41, 3) := by decide +kernel
theorem dX0_tryLane_41 : decode cX0_tryLane 41 = .ok (.getfield 121, 3) := by decide +kernel
theorem dX0_tryLane_44 : decode cX0_tryLane 44 = .ok (.invokevirtual 126, 3) := by decide +kernel
theorem dX0_tryLane_47 : decode cX0_tryLane 47 = .ok (.aload_n 0, 1) := by decide +kernel
theorem dX0_tryLane_48 : decode cX0_tryLane 48 = .ok (.aload_n 0, 1) := by decide +kernel
theorem dX0_tryLane_49 : decode cX0_tryLane 49 = .ok (.getfield 21, 3) := by decide +kernel
theorem dX0_tryLane_52 : decode cX0_tryLane 52 = .ok (.invokevirtual 85, 3) := by decide +kernel
theorem dX0_tryLane_55 : decode cX0_tryLane 55 = .ok (.istore 4, 2) := by decide +kernel
theorem dX0_tryLane_57 : decode cX0_tryLane 57 = .ok (.aload_n 0, 1) := by decide +kernel
theorem dX0_tryLane_58 : decode cX0_tryLane 58 = .ok (.getfield 25, 3) := by decide +kernel
theorem dX0_tryLane_61 : decode cX0_tryLane 61 = .ok (.invokevirtual 89, 3) := by decide +kernel
theorem dX0_tryLane_64 : decode cX0_tryLane 64 = .ok (.istore 5, 2) := by decide +kernel
theorem dX0_tryLane_66 : decode cX0_tryLane 66 = .ok (.iload_n 3, 1) := by decide +kernel
theorem dX0_tryLane_67 : decode cX0_tryLane 67 = .ok (.iconst 5, 1) := by decide +kernel
theorem dX0_tryLane_68 : decode cX0_tryLane 68 = .ok (.imul, 1) := by decide +kernel
theorem dX0_tryLane_69 : decode cX0_tryLane 69 = .ok (.istore 6, 2) := by decide +kernel
theorem dX0_tryLane_71 : decode cX0_tryLane 71 = .ok (.iconst 0, 1) := by decide +kernel
theorem dX0_tryLane_72 : decode cX0_tryLane 72 = .ok (.istore 7, 2) := by decide +kernel
theorem dX0_tryLane_74 : decode cX0_tryLane 74 = .ok (.iload 7, 2) := by decide +kernel
theorem dX0_tryLane_76 : decode cX0_tryLane 76 = .ok (.iconst 4, 1) := by decide +kernel
theorem dX0_tryLane_77 : decode cX0_tryLane 77 = .ok (.if_icmp .ge 48, 3) := by decide +kernel
theorem dX0_tryLane_80 : decode cX0_tryLane 80 = .ok (.aload_n 0, 1) := by decide +kernel
theorem dX0_tryLane_81 : decode cX0_tryLane 81 = .ok (.getfield 38, 3) := by decide +kernel
theorem dX0_tryLane_84 : decode cX0_tryLane 84 = .ok (.iload 6, 2) := by decide +kernel
theorem dX0_tryLane_86 : decode cX0_tryLane 86 = .ok (.iload 7, 2) := by decide +kernel
theorem dX0_tryLane_88 : decode cX0_tryLane 88 = .ok (.iadd, 1) := by decide +kernel
theorem dX0_tryLane_89 : decode cX0_tryLane 89 = .ok (.iload 5, 2) := by decide +kernel
theorem dX0_tryLane_91 : decode cX0_tryLane 91 = .ok (.ifCond .eq 25, 3) := by decide +kernel
theorem dX0_tryLane_94 : decode cX0_tryLane 94 = .ok (.aload_n 0, 1) := by decide +kernel
theorem dX0_tryLane_95 : decode cX0_tryLane 95 = .ok (.getfield 25, 3) := by decide +kernel
theorem dX0_tryLane_98 : decode cX0_tryLane 98 = .ok (.getfield 129, 3) := by decide +kernel
theorem dX0_tryLane_101 : decode cX0_tryLane 101 = .ok (.iload_n 1, 1) := by decide +kernel
theorem dX0_tryLane_102 : decode cX0_tryLane 102 = .ok (.aaload, 1) := by decide +kernel
theorem dX0_tryLane_103 : decode cX0_tryLane 103 = .ok (.getfield 133, 3) := by decide +kernel
theorem dX0_tryLane_106 : decode cX0_tryLane 106 = .ok (.iload_n 2, 1) := by decide +kernel
theorem dX0_tryLane_107 : decode cX0_tryLane 107 = .ok (.iconst 4, 1) := by decide +kernel
theorem dX0_tryLane_108 : decode cX0_tryLane 108 = .ok (.imul, 1) := by decide +kernel
theorem dX0_tryLane_109 : decode cX0_tryLane 109 = .ok (.iload 7, 2) := by decide +kernel
theorem dX0_tryLane_111 : decode cX0_tryLane 111 = .ok (.iadd, 1) := by decide +kernel
theorem dX0_tryLane_112 : decode cX0_tryLane 112 = .ok (.iaload, 1) := by decide +kernel
theorem dX0_tryLane_113 : decode cX0_tryLane 113 = .ok (.goto 5, 3) := by decide +kernel
theorem dX0_tryLane_116 : decode cX0_tryLane 116 = .ok (.ldc 138, 2) := by decide +kernel
theorem dX0_tryLane_118 : decode cX0_tryLane 118 = .ok (.iastore, 1) := by decide +kernel
theorem dX0_tryLane_119 : decode cX0_tryLane 119 = .ok (.iinc 7 1, 3) := by decide +kernel
theorem dX0_tryLane_122 : decode cX0_tryLane 122 = .ok (.goto (-48), 3) := by decide +kernel
theorem dX0_tryLane_125 : decode cX0_tryLane 125 = .ok (.aload_n 0, 1) := by decide +kernel
theorem dX0_tryLane_126 : decode cX0_tryLane 126 = .ok (.getfield 38, 3) := by decide +kernel
theorem dX0_tryLane_129 : decode cX0_tryLane 129 = .ok (.iload 6, 2) := by decide +kernel
theorem dX0_tryLane_131 : decode cX0_tryLane 131 = .ok (.iconst 4, 1) := by decide +kernel
theorem dX0_tryLane_132 : decode cX0_tryLane 132 = .ok (.iadd, 1) := by decide +kernel
theorem dX0_tryLane_133 : decode cX0_tryLane 133 = .ok (.iload 5, 2) := by decide +kernel
theorem dX0_tryLane_135 : decode cX0_tryLane 135 = .ok (.ifCond .eq 8, 3) := by decide +kernel
theorem dX0_tryLane_138 : decode cX0_tryLane 138 = .ok (.iload 4, 2) := by decide +kernel
theorem dX0_tryLane_140 : decode cX0_tryLane 140 = .ok (.goto 5, 3) := by decide +kernel
theorem dX0_tryLane_143 : decode cX0_tryLane 143 = .ok (.ldc 138, 2) := by decide +kernel
theorem dX0_tryLane_145 : decode cX0_tryLane 145 = .ok (.iastore, 1) := by decide +kernel
theorem dX0_tryLane_146 : decode cX0_tryLane 146 = .ok (.aload_n 0, 1) := by decide +kernel
theorem dX0_tryLane_147 : decode cX0_tryLane 147 = .ok (.dup, 1) := by decide +kernel
theorem dX0_tryLane_148 : decode cX0_tryLane 148 = .ok (.getfield 57, 3) := by decide +kernel
theorem dX0_tryLane_151 : decode cX0_tryLane 151 = .ok (.iconst 1, 1) := by decide +kernel
theorem dX0_tryLane_152 : decode cX0_tryLane 152 = .ok (.iload_n 3, 1) := by decide +kernel
theorem dX0_tryLane_153 : decode cX0_tryLane 153 = .ok (.ishl, 1) := by decide +kernel
theorem dX0_tryLane_154 : decode cX0_tryLane 154 = .ok (.ior, 1) := by decide +kernel
theorem dX0_tryLane_155 : decode cX0_tryLane 155 = .ok (.putfield 57, 3) := by decide +kernel
theorem dX0_tryLane_158 : decode cX0_tryLane 158 = .ok (.return_, 1) := by decide +kernel
theorem dX0_tryWord_0 : decode cX0_tryWord 0 = .ok (.aload_n 0, 1) := by decide +kernel
theorem dX0_tryWord_1 : decode cX0_tryWord 1 = .ok (.getfield 53, 3) := by decide +kernel
theorem dX0_tryWord_4 : decode cX0_tryWord 4 = .ok (.iload_n 1, 1) := by decide +kernel
theorem dX0_tryWord_5 : decode cX0_tryWord 5 = .ok (.lshr, 1) := by decide +kernel
theorem dX0_tryWord_6 : decode cX0_tryWord 6 = .ok (.lconst 1, 1) := by decide +kernel
theorem dX0_tryWord_7 : decode cX0_tryWord 7 = .ok (.land, 1) := by decide +kernel
theorem dX0_tryWord_8 : decode cX0_tryWord 8 = .ok (.lconst 0, 1) := by decide +kernel
theorem dX0_tryWord_9 : decode cX0_tryWord 9 = .ok (.lcmp, 1) := by decide +kernel
theorem dX0_tryWord_10 : decode cX0_tryWord 10 = .ok (.ifCond .eq 4, 3) := by decide +kernel
theorem dX0_tryWord_13 : decode cX0_tryWord 13 = .ok (.return_, 1) := by decide +kernel
theorem dX0_tryWord_14 : decode cX0_tryWord 14 = .ok (.iconst 1, 1) := by decide +kernel
theorem dX0_tryWord_15 : decode cX0_tryWord 15 = .ok (.istore_n 2, 1) := by decide +kernel
theorem dX0_tryWord_16 : decode cX0_tryWord 16 = .ok (.iconst 0, 1) := by decide +kernel
theorem dX0_tryWord_17 : decode cX0_tryWord 17 = .ok (.istore_n 3, 1) := by decide +kernel
theorem dX0_tryWord_18 : decode cX0_tryWord 18 = .ok (.iload_n 3, 1) := by decide +kernel
theorem dX0_tryWord_19 : decode cX0_tryWord 19 = .ok (.bipush 16, 2) := by decide +kernel
theorem dX0_tryWord_21 : decode cX0_tryWord 21 = .ok (.if_icmp .ge 125, 3) := by decide +kernel
theorem dX0_tryWord_24 : decode cX0_tryWord 24 = .ok (.iload_n 1, 1) := by decide +kernel
theorem dX0_tryWord_25 : decode cX0_tryWord 25 = .ok (.bipush 16, 2) := by decide +kernel
theorem dX0_tryWord_27 : decode cX0_tryWord 27 = .ok (.imul, 1) := by decide +kernel
theorem dX0_tryWord_28 : decode cX0_tryWord 28 = .ok (.iload_n 3, 1) := by decide +kernel
theorem dX0_tryWord_29 : decode cX0_tryWord 29 = .ok (.iadd, 1) := by decide +kernel
theorem dX0_tryWord_30 : decode cX0_tryWord 30 = .ok (.istore 4, 2) := by decide +kernel
theorem dX0_tryWord_32 : decode cX0_tryWord 32 = .ok (.iload_n 2, 1) := by decide +kernel
theorem dX0_tryWord_33 : decode cX0_tryWord 33 = .ok (.ifCond .eq 91, 3) := by decide +kernel
theorem dX0_tryWord_36 : decode cX0_tryWord 36 = .ok (.aload_n 0, 1) := by decide +kernel
theorem dX0_tryWord_37 : decode cX0_tryWord 37 = .ok (.aload_n 0, 1) := by decide +kernel
theorem dX0_tryWord_38 : decode cX0_tryWord 38 = .ok (.getfield 61, 3) := by decide +kernel
theorem dX0_tryWord_41 : decode cX0_tryWord 41 = .ok (.aload_n 0, 1) := by decide +kernel
theorem dX0_tryWord_42 : decode cX0_tryWord 42 = .ok (.getfield 64, 3) := by decide +kernel
theorem dX0_tryWord_45 : decode cX0_tryWord 45 = .ok (.aload_n 0, 1) := by decide +kernel
theorem dX0_tryWord_46 : decode cX0_tryWord 46 = .ok (.getfield 67, 3) := by decide +kernel
theorem dX0_tryWord_49 : decode cX0_tryWord 49 = .ok (.invokevirtual 107, 3) := by decide +kernel
theorem dX0_tryWord_52 : decode cX0_tryWord 52 = .ok (.getfield 111, 3) := by decide +kernel
theorem dX0_tryWord_55 : decode cX0_tryWord 55 = .ok (.iload_n 1, 1) := by decide +kernel
theorem dX0_tryWord_56 : decode cX0_tryWord 56 = .ok (.iload_n 3, 1) := by decide +kernel
theorem dX0_tryWord_57 : decode cX0_tryWord 57 = .ok (.iastore, 1) := by decide +kernel
theorem dX0_tryWord_58 : decode cX0_tryWord 58 = .ok (.aload_n 0, 1) := by decide +kernel
theorem dX0_tryWord_59 : decode cX0_tryWord 59 = .ok (.getfield 12, 3) := by decide +kernel
theorem dX0_tryWord_62 : decode cX0_tryWord 62 = .ok (.lconst 0, 1) := by decide +kernel
theorem dX0_tryWord_63 : decode cX0_tryWord 63 = .ok (.putfield 114, 3) := by decide +kernel
theorem dX0_tryWord_66 : decode cX0_tryWord 66 = .ok (.aload_n 0, 1) := by decide +kernel
theorem dX0_tryWord_67 : decode cX0_tryWord 67 = .ok (.aload_n 0, 1) := by decide +kernel
theorem dX0_tryWord_68 : decode cX0_tryWord 68 = .ok (.getfield 21, 3) := by decide +kernel
theorem dX0_tryWord_71 : decode cX0_tryWord 71 = .ok (.invokevirtual 85, 3) := by decide +kernel
theorem dX0_tryWord_74 : decode cX0_tryWord 74 = .ok (.istore 5, 2) := by decide +kernel
theorem dX0_tryWord_76 : decode cX0_tryWord 76 = .ok (.aload_n 0, 1) := by decide +kernel
theorem dX0_tryWord_77 : decode cX0_tryWord 77 = .ok (.getfield 35, 3) := by decide +kernel
theorem dX0_tryWord_80 : decode cX0_tryWord 80 = .ok (.iload 4, 2) := by decide +kernel
theorem dX0_tryWord_82 : decode cX0_tryWord 82 = .ok (.aload_n 0, 1) := by decide +kernel
theorem dX0_tryWord_83 : decode cX0_tryWord 83 = .ok (.getfield 25, 3) := by decide +kernel
theorem dX0_tryWord_86 : decode cX0_tryWord 86 = .ok (.invokevirtual 89, 3) := by decide +kernel
theorem dX0_tryWord_89 : decode cX0_tryWord 89 = .ok (.ifCond .eq 8, 3) := by decide +kernel
theorem dX0_tryWord_92 : decode cX0_tryWord 92 = .ok (.iload 5, 2) := by decide +kernel
theorem dX0_tryWord_94 : decode cX0_tryWord 94 = .ok (.goto 4, 3) := by decide +kernel
theorem dX0_tryWord_97 : decode cX0_tryWord 97 = .ok (.iconst (-1), 1) := by decide +kernel
theorem dX0_tryWord_98 : decode cX0_tryWord 98 = .ok (.iastore, 1) := by decide +kernel
theorem dX0_tryWord_99 : decode cX0_tryWord 99 = .ok (.aload_n 0, 1) := by decide +kernel
theorem dX0_tryWord_100 : decode cX0_tryWord 100 = .ok (.getfield 12, 3) := by decide +kernel
theorem dX0_tryWord_103 : decode cX0_tryWord 103 = .ok (.getfield 114, 3) := by decide +kernel
theorem dX0_tryWord_106 : decode cX0_tryWord 106 = .ok (.iload_n 1, 1) := by decide +kernel
theorem dX0_tryWord_107 : decode cX0_tryWord 107 = .ok (.lshr, 1) := by decide +kernel
theorem dX0_tryWord_108 : decode cX0_tryWord 108 = .ok (.lconst 1, 1) := by decide +kernel
theorem dX0_tryWord_109 : decode cX0_tryWord 109 = .ok (.land, 1) := by decide +kernel
theorem dX0_tryWord_110 : decode cX0_tryWord 110 = .ok (.lconst 0, 1) := by decide +kernel
theorem dX0_tryWord_111 : decode cX0_tryWord 111 = .ok (.lcmp, 1) := by decide +kernel
theorem dX0_tryWord_112 : decode cX0_tryWord 112 = .ok (.ifCond .eq 7, 3) := by decide +kernel
theorem dX0_tryWord_115 : decode cX0_tryWord 115 = .ok (.iconst 1, 1) := by decide +kernel
theorem dX0_tryWord_116 : decode cX0_tryWord 116 = .ok (.goto 4, 3) := by decide +kernel
theorem dX0_tryWord_119 : decode cX0_tryWord 119 = .ok (.iconst 0, 1) := by decide +kernel
theorem dX0_tryWord_120 : decode cX0_tryWord 120 = .ok (.istore_n 2, 1) := by decide +kernel
theorem dX0_tryWord_121 : decode cX0_tryWord 121 = .ok (.goto 19, 3) := by decide +kernel
theorem dX0_tryWord_124 : decode cX0_tryWord 124 = .ok (.aload_n 0, 1) := by decide +kernel
theorem dX0_tryWord_125 : decode cX0_tryWord 125 = .ok (.getfield 35, 3) := by decide +kernel
theorem dX0_tryWord_128 : decode cX0_tryWord 128 = .ok (.iload 4, 2) := by decide +kernel
theorem dX0_tryWord_130 : decode cX0_tryWord 130 = .ok (.aload_n 0, 1) := by decide +kernel
theorem dX0_tryWord_131 : decode cX0_tryWord 131 = .ok (.getfield 35, 3) := by decide +kernel
theorem dX0_tryWord_134 : decode cX0_tryWord 134 = .ok (.iload 4, 2) := by decide +kernel
theorem dX0_tryWord_136 : decode cX0_tryWord 136 = .ok (.iconst 1, 1) := by decide +kernel
theorem dX0_tryWord_137 : decode cX0_tryWord 137 = .ok (.isub, 1) := by decide +kernel
theorem dX0_tryWord_138 : decode cX0_tryWord 138 = .ok (.iaload, 1) := by decide +kernel
theorem dX0_tryWord_139 : decode cX0_tryWord 139 = .ok (.iastore, 1) := by decide +kernel
theorem dX0_tryWord_140 : decode cX0_tryWord 140 = .ok (.iinc 3 1, 3) := by decide +kernel
theorem dX0_tryWord_143 : decode cX0_tryWord 143 = .ok (.goto (-125), 3) := by decide +kernel
theorem dX0_tryWord_146 : decode cX0_tryWord 146 = .ok (.aload_n 0, 1) := by decide +kernel
theorem dX0_tryWord_147 : decode cX0_tryWord 147 = .ok (.dup, 1) := by decide +kernel
theorem dX0_tryWord_148 : decode cX0_tryWord 148 = .ok (.getfield 53, 3) := by decide +kernel
theorem dX0_tryWord_151 : decode cX0_tryWord 151 = .ok (.lconst 1, 1) := by decide +kernel
theorem dX0_tryWord_152 : decode cX0_tryWord 152 = .ok (.iload_n 1, 1) := by decide +kernel
theorem dX0_tryWord_153 : decode cX0_tryWord 153 = .ok (.lshl, 1) := by decide +kernel
theorem dX0_tryWord_154 : decode cX0_tryWord 154 = .ok (.lor, 1) := by decide +kernel
theorem dX0_tryWord_155 : decode cX0_tryWord 155 = .ok (.putfield 53, 3) := by decide +kernel
theorem dX0_tryWord_158 : decode cX0_tryWord 158 = .ok (.return_, 1) := by decide +kernel
theorem dX0_unlike_0 : decode cX0_unlike 0 = .ok (.iconst 0, 1) := by decide +kernel
theorem dX0_unlike_1 : decode cX0_unlike 1 = .ok (.istore_n 2, 1) := by decide +kernel
theorem dX0_unlike_2 : decode cX0_unlike 2 = .ok (.iconst 0, 1) := by decide +kernel
theorem dX0_unlike_3 : decode cX0_unlike 3 = .ok (.istore_n 3, 1) := by decide +kernel
theorem dX0_unlike_4 : decode cX0_unlike 4 = .ok (.iload_n 3, 1) := by decide +kernel
theorem dX0_unlike_5 : decode cX0_unlike 5 = .ok (.bipush 16, 2) := by decide +kernel
theorem dX0_unlike_7 : decode cX0_unlike 7 = .ok (.if_icmp .ge 63, 3) := by decide +kernel
theorem dX0_unlike_10 : decode cX0_unlike 10 = .ok (.iconst 1, 1) := by decide +kernel
theorem dX0_unlike_11 : decode cX0_unlike 11 = .ok (.istore 4, 2) := by decide +kernel
theorem dX0_unlike_13 : decode cX0_unlike 13 = .ok (.iconst 0, 1) := by decide +kernel
theorem dX0_unlike_14 : decode cX0_unlike 14 = .ok (.istore 5, 2) := by decide +kernel
theorem dX0_unlike_16 : decode cX0_unlike 16 = .ok (.iload 4, 2) := by decide +kernel
theorem dX0_unlike_18 : decode cX0_unlike 18 = .ok (.ifCond .eq 38, 3) := by decide +kernel
theorem dX0_unlike_21 : decode cX0_unlike 21 = .ok (.iload 5, 2) := by decide +kernel
theorem dX0_unlike_23 : decode cX0_unlike 23 = .ok (.iload_n 3, 1) := by decide +kernel
theorem dX0_unlike_24 : decode cX0_unlike 24 = .ok (.if_icmp .ge 32, 3) := by decide +kernel
theorem dX0_unlike_27 : decode cX0_unlike 27 = .ok (.aload_n 0, 1) := by decide +kernel
theorem dX0_unlike_28 : decode cX0_unlike 28 = .ok (.iload_n 1, 1) := by decide +kernel
theorem dX0_unlike_29 : decode cX0_unlike 29 = .ok (.iload 5, 2) := by decide +kernel
theorem dX0_unlike_31 : decode cX0_unlike 31 = .ok (.invokevirtual 117, 3) := by decide +kernel
theorem dX0_unlike_34 : decode cX0_unlike 34 = .ok (.aload_n 0, 1) := by decide +kernel
theorem dX0_unlike_35 : decode cX0_unlike 35 = .ok (.iload_n 1, 1) := by decide +kernel
theorem dX0_unlike_36 : decode cX0_unlike 36 = .ok (.iload_n 3, 1) := by decide +kernel
theorem dX0_unlike_37 : decode cX0_unlike 37 = .ok (.invokevirtual 117, 3) := by decide +kernel
theorem dX0_unlike_40 : decode cX0_unlike 40 = .ok (.if_icmp .eq 7, 3) := by decide +kernel
theorem dX0_unlike_43 : decode cX0_unlike 43 = .ok (.iconst 1, 1) := by decide +kernel
theorem dX0_unlike_44 : decode cX0_unlike 44 = .ok (.goto 4, 3) := by decide +kernel
theorem dX0_unlike_47 : decode cX0_unlike 47 = .ok (.iconst 0, 1) := by decide +kernel
theorem dX0_unlike_48 : decode cX0_unlike 48 = .ok (.istore 4, 2) := by decide +kernel
theorem dX0_unlike_50 : decode cX0_unlike 50 = .ok (.iinc 5 1, 3) := by decide +kernel
theorem dX0_unlike_53 : decode cX0_unlike 53 = .ok (.goto (-37), 3) := by decide +kernel
theorem dX0_unlike_56 : decode cX0_unlike 56 = .ok (.iload 4, 2) := by decide +kernel
theorem dX0_unlike_58 : decode cX0_unlike 58 = .ok (.ifCond .eq 6, 3) := by decide +kernel
theorem dX0_unlike_61 : decode cX0_unlike 61 = .ok (.iinc 2 1, 3) := by decide +kernel
theorem dX0_unlike_64 : decode cX0_unlike 64 = .ok (.iinc 3 1, 3) := by decide +kernel
theorem dX0_unlike_67 : decode cX0_unlike 67 = .ok (.goto (-63), 3) := by decide +kernel
theorem dX0_unlike_70 : decode cX0_unlike 70 = .ok (.iload_n 2, 1) := by decide +kernel
theorem dX0_unlike_71 : decode cX0_unlike 71 = .ok (.ireturn, 1) := by decide +kernel
theorem dX1_ask_0 : decode cX1_ask 0 = .ok (.aload_n 0, 1) := by decide +kernel
theorem dX1_ask_1 : decode cX1_ask 1 = .ok (.getfield 9, 3) := by decide +kernel
theorem dX1_ask_4 : decode cX1_ask 4 = .ok (.iload_n 2, 1) := by decide +kernel
theorem dX1_ask_5 : decode cX1_ask 5 = .ok (.iaload, 1) := by decide +kernel
theorem dX1_ask_6 : decode cX1_ask 6 = .ok (.istore_n 3, 1) := by decide +kernel
theorem dX1_ask_7 : decode cX1_ask 7 = .ok (.iload_n 2, 1) := by decide +kernel
theorem dX1_ask_8 : decode cX1_ask 8 = .ok (.iconst 4, 1) := by decide +kernel
theorem dX1_ask_9 : decode cX1_ask 9 = .ok (.imul, 1) := by decide +kernel
theorem dX1_ask_10 : decode cX1_ask 10 = .ok (.aload_n 0, 1) := by decide +kernel
theorem dX1_ask_11 : decode cX1_ask 11 = .ok (.getfield 86, 3) := by decide +kernel
theorem dX1_ask_14 : decode cX1_ask 14 = .ok (.iconst 1, 1) := by decide +kernel
theorem dX1_ask_15 : decode cX1_ask 15 = .ok (.iaload, 1) := by decide +kernel
theorem dX1_ask_16 : decode cX1_ask 16 = .ok (.iconst 0, 1) := by decide +kernel
theorem dX1_ask_17 : decode cX1_ask 17 = .ok (.invokestatic 125, 3) := by decide +kernel
theorem dX1_ask_20 : decode cX1_ask 20 = .ok (.iadd, 1) := by decide +kernel
theorem dX1_ask_21 : decode cX1_ask 21 = .ok (.istore 4, 2) := by decide +kernel
theorem dX1_ask_23 : decode cX1_ask 23 = .ok (.iload_n 1, 1) := by decide +kernel
theorem dX1_ask_24 : decode cX1_ask 24 = .ok (.bipush 9, 2) := by decide +kernel
theorem dX1_ask_26 : decode cX1_ask 26 = .ok (.if_icmp .lt 7, 3) := by decide +kernel
theorem dX1_ask_29 : decode cX1_ask 29 = .ok (.iconst 1, 1) := by decide +kernel
theorem dX1_ask_30 : decode cX1_ask 30 = .ok (.goto 4, 3) := by decide +kernel
theorem dX1_ask_33 : decode cX1_ask 33 = .ok (.iconst 0, 1) := by decide +kernel
theorem dX1_ask_34 : decode cX1_ask 34 = .ok (.istore 5, 2) := by decide +kernel
theorem dX1_ask_36 : decode cX1_ask 36 = .ok (.iload 5, 2) := by decide +kernel
theorem dX1_ask_38 : decode cX1_ask 38 = .ok (.ifCond .eq 13, 3) := by decide +kernel
theorem dX1_ask_41 : decode cX1_ask 41 = .ok (.aload_n 0, 1) := by decide +kernel
theorem dX1_ask_42 : decode cX1_ask 42 = .ok (.getfield 68, 3) := by decide +kernel
theorem dX1_ask_45 : decode cX1_ask 45 = .ok (.getfield 192, 3) := by decide +kernel
theorem dX1_ask_48 : decode cX1_ask 48 = .ok (.goto 10, 3) := by decide +kernel
theorem dX1_ask_51 : decode cX1_ask 51 = .ok (.aload_n 0, 1) := by decide +kernel
theorem dX1_ask_52 : decode cX1_ask 52 = .ok (.getfield 68, 3) := by decide +kernel
theorem dX1_ask_55 : decode cX1_ask 55 = .ok (.getfield 195, 3) := by decide +kernel
theorem dX1_ask_58 : decode cX1_ask 58 = .ok (.astore 6, 2) := by decide +kernel
theorem dX1_ask_60 : decode cX1_ask 60 = .ok (.iload_n 1, 1) := by decide +kernel
theorem dX1_ask_61 : decode cX1_ask 61 = .ok (.bipush 11, 2) := by decide +kernel
theorem dX1_ask_63 : decode cX1_ask 63 = .ok (.if_icmp .ne 36, 3) := by decide +kernel
theorem dX1_ask_66 : decode cX1_ask 66 = .ok (.aload 6, 2) := by decide +kernel
theorem dX1_ask_68 : decode cX1_ask 68 = .ok (.iload_n 3, 1) := by decide +kernel
theorem dX1_ask_69 : decode cX1_ask 69 = .ok (.iaload, 1) := by decide +kernel
theorem dX1_ask_70 : decode cX1_ask 70 = .ok (.istore 7, 2) := by decide +kernel
theorem dX1_ask_72 : decode cX1_ask 72 = .ok (.aload 6, 2) := by decide +kernel
theorem dX1_ask_74 : decode cX1_ask 74 = .ok (.iload_n 3, 1) := by decide +kernel
theorem dX1_ask_75 : decode cX1_ask 75 = .ok (.aload_n 0, 1) := by decide +kernel
theorem dX1_ask_76 : decode cX1_ask 76 = .ok (.getfield 29, 3) := by decide +kernel
theorem dX1_ask_79 : decode cX1_ask 79 = .ok (.getfield 139, 3) := by decide +kernel
theorem dX1_ask_82 : decode cX1_ask 82 = .ok (.iload 4, 2) := by decide +kernel
theorem dX1_ask_84 : decode cX1_ask 84 = .ok (.iaload, 1) := by decide +kernel
theorem dX1_ask_85 : decode cX1_ask 85 = .ok (.iastore, 1) := by decide +kernel
theorem dX1_ask_86 : decode cX1_ask 86 = .ok (.aload_n 0, 1) := by decide +kernel
theorem dX1_ask_87 : decode cX1_ask 87 = .ok (.getfield 29, 3) := by decide +kernel
theorem dX1_ask_90 : decode cX1_ask 90 = .ok (.getfield 139, 3) := by decide +kernel
theorem dX1_ask_93 : decode cX1_ask 93 = .ok (.iload 4, 2) := by decide +kernel
theorem dX1_ask_95 : decode cX1_ask 95 = .ok (.iload 7, 2) := by decide +kernel
theorem dX1_ask_97 : decode cX1_ask 97 = .ok (.iastore, 1) := by decide +kernel
theorem dX1_ask_98 : decode cX1_ask 98 = .ok (.return_, 1) := by decide +kernel
theorem dX1_ask_99 : decode cX1_ask 99 = .ok (.iload_n 1, 1) := by decide +kernel
theorem dX1_ask_100 : decode cX1_ask 100 = .ok (.bipush 8, 2) := by decide +kernel
theorem dX1_ask_102 : decode cX1_ask 102 = .ok (.if_icmp .eq 9, 3) := by decide +kernel
theorem dX1_ask_105 : decode cX1_ask 105 = .ok (.iload_n 1, 1) := by decide +kernel
theorem dX1_ask_106 : decode cX1_ask 106 = .ok (.bipush 10, 2) := by decide +kernel
theorem dX1_ask_108 : decode cX1_ask 108 = .ok (.if_icmp .ne 7, 3) := by decide +kernel
theorem dX1_ask_111 : decode cX1_ask 111 = .ok (.iconst 1, 1) := by decide +kernel
theorem dX1_ask_112 : decode cX1_ask 112 = .ok (.goto 4, 3) := by decide +kernel
theorem dX1_ask_115 : decode cX1_ask 115 = .ok (.iconst 0, 1) := by decide +kernel
theorem dX1_ask_116 : decode cX1_ask 116 = .ok (.istore 7, 2) := by decide +kernel
theorem dX1_ask_118 : decode cX1_ask 118 = .ok (.iload 7, 2) := by decide +kernel
theorem dX1_ask_120 : decode cX1_ask 120 = .ok (.ifCond .eq 21, 3) := by decide +kernel
theorem dX1_ask_123 : decode cX1_ask 123 = .ok (.aload 6, 2) := by decide +kernel
theorem dX1_ask_125 : decode cX1_ask 125 = .ok (.iload_n 3, 1) := by decide +kernel
theorem dX1_ask_126 : decode cX1_ask 126 = .ok (.aload_n 0, 1) := by decide +kernel
theorem dX1_ask_127 : decode cX1_ask 127 = .ok (.aload_n 0, 1) := by decide +kernel
theorem dX1_ask_128 : decode cX1_ask 128 = .ok (.getfield 86, 3) := by decide +kernel
theorem dX1_ask_131 : decode cX1_ask 131 = .ok (.iconst 3, 1) := by decide +kernel
theorem dX1_ask_132 : decode cX1_ask 132 = .ok (.iaload, 1) := by decide +kernel
theorem dX1_ask_133 : decode cX1_ask 133 = .ok (.iload_n 2, 1) := by decide +kernel
theorem dX1_ask_134 : decode cX1_ask 134 = .ok (.invokevirtual 145, 3) := by decide +kernel
theorem dX1_ask_137 : decode cX1_ask 137 = .ok (.iastore, 1) := by decide +kernel
theorem dX1_ask_138 : decode cX1_ask 138 = .ok (.goto 17, 3) := by decide +kernel
theorem dX1_ask_141 : decode cX1_ask 141 = .ok (.aload_n 0, 1) := by decide +kernel
theorem dX1_ask_142 : decode cX1_ask 142 = .ok (.getfield 29, 3) := by decide +kernel
theorem dX1_ask_145 : decode cX1_ask 145 = .ok (.getfield 139, 3) := by decide +kernel
theorem dX1_ask_148 : decode cX1_ask 148 = .ok (.iload 4, 2) := by decide +kernel
theorem dX1_ask_150 : decode cX1_ask 150 = .ok (.aload 6, 2) := by decide +kernel
theorem dX1_ask_152 : decode cX1_ask 152 = .ok (.iload_n 3, 1) := by decide +kernel
theorem dX1_ask_153 : decode cX1_ask 153 = .ok (.iaload, 1) := by decide +kernel
theorem dX1_ask_154 : decode cX1_ask 154 = .ok (.iastore, 1) := by decide +kernel
theorem dX1_ask_155 : decode cX1_ask 155 = .ok (.iload_n 1, 1) := by decide +kernel
theorem dX1_ask_156 : decode cX1_ask 156 = .ok (.bipush 7, 2) := by decide +kernel
theorem dX1_ask_158 : decode cX1_ask 158 = .ok (.if_icmp .ne 15, 3) := by decide +kernel
theorem dX1_ask_161 : decode cX1_ask 161 = .ok (.aload_n 0, 1) := by decide +kernel
theorem dX1_ask_162 : decode cX1_ask 162 = .ok (.dup, 1) := by decide +kernel
theorem dX1_ask_163 : decode cX1_ask 163 = .ok (.getfield 198, 3) := by decide +kernel
theorem dX1_ask_166 : decode cX1_ask 166 = .ok (.lconst 1, 1) := by decide +kernel
theorem dX1_ask_167 : decode cX1_ask 167 = .ok (.iload_n 3, 1) := by decide +kernel
theorem dX1_ask_168 : decode cX1_ask 168 = .ok (.lshl, 1) := by decide +kernel
theorem dX1_ask_169 : decode cX1_ask 169 = .ok (.lor, 1) := by decide +kernel
theorem dX1_ask_170 : decode cX1_ask 170 = .ok (.putfield 198, 3) := by decide +kernel
theorem dX1_ask_173 : decode cX1_ask 173 = .ok (.aload_n 0, 1) := by decide +kernel
theorem dX1_ask_174 : decode cX1_ask 174 = .ok (.getfield 68, 3) := by decide +kernel
theorem dX1_ask_177 : decode cX1_ask 177 = .ok (.iload 5, 2) := by decide +kernel
theorem dX1_ask_179 : decode cX1_ask 179 = .ok (.ifCond .eq 10, 3) := by decide +kernel
theorem dX1_ask_182 : decode cX1_ask 182 = .ok (.bipush 64, 2) := by decide +kernel
theorem dX1_ask_184 : decode cX1_ask 184 = .ok (.iload_n 3, 1) := by decide +kernel
theorem dX1_ask_185 : decode cX1_ask 185 = .ok (.iadd, 1) := by decide +kernel
theorem dX1_ask_186 : decode cX1_ask 186 = .ok (.goto 4, 3) := by decide +kernel
theorem dX1_ask_189 : decode cX1_ask 189 = .ok (.iload_n 3, 1) := by decide +kernel
theorem dX1_ask_190 : decode cX1_ask 190 = .ok (.aload_n 0, 1) := by decide +kernel
theorem dX1_ask_191 : decode cX1_ask 191 = .ok (.getfield 105, 3) := by decide +kernel
theorem dX1_ask_194 : decode cX1_ask 194 = .ok (.bipush 8, 2) := by decide +kernel
theorem dX1_ask_196 : decode cX1_ask 196 = .ok (.imul, 1) := by decide +kernel
theorem dX1_ask_197 : decode cX1_ask 197 = .ok (.iload_n 2, 1) := by decide +kernel
theorem dX1_ask_198 : decode cX1_ask 198 = .ok (.iadd, 1) := by decide +kernel
theorem dX1_ask_199 : decode cX1_ask 199 = .ok (.iload 7, 2) := by decide +kernel
theorem dX1_ask_201 : decode cX1_ask 201 = .ok (.invokevirtual 202, 3) := by decide +kernel
theorem dX1_ask_204 : decode cX1_ask 204 = .ok (.return_, 1) := by decide +kernel
theorem dX1_bounded_0 : decode cX1_bounded 0 = .ok (.sipush (-9999), 3) := by decide +kernel
theorem dX1_bounded_3 : decode cX1_bounded 3 = .ok (.sipush 9999, 3) := by decide +kernel
theorem dX1_bounded_6 : decode cX1_bounded 6 = .ok (.iload_n 0, 1) := by decide +kernel
theorem dX1_bounded_7 : decode cX1_bounded 7 = .ok (.invokestatic 189, 3) := by decide +kernel
theorem dX1_bounded_10 : decode cX1_bounded 10 = .ok (.invokestatic 125, 3) := by decide +kernel
theorem dX1_bounded_13 : decode cX1_bounded 13 = .ok (.ireturn, 1) := by decide +kernel
theorem dX1_foresee_0 : decode cX1_foresee 0 = .ok (.aload_n 0, 1) := by decide +kernel
theorem dX1_foresee_1 : decode cX1_foresee 1 = .ok (.aload_n 1, 1) := by decide +kernel
theorem dX1_foresee_2 : decode cX1_foresee 2 = .ok (.putfield 68, 3) := by decide +kernel
theorem dX1_foresee_5 : decode cX1_foresee 5 = .ok (.aload_n 0, 1) := by decide +kernel
theorem dX1_foresee_6 : decode cX1_foresee 6 = .ok (.invokevirtual 72, 3) := by decide +kernel
theorem dX1_foresee_9 : decode cX1_foresee 9 = .ok (.ifCond .ne 5, 3) := by decide +kernel
theorem dX1_foresee_12 : decode cX1_foresee 12 = .ok (.iconst 0, 1) := by decide +kernel
theorem dX1_foresee_13 : decode cX1_foresee 13 = .ok (.ireturn, 1) := by decide +kernel
theorem dX1_foresee_14 : decode cX1_foresee 14 = .ok (.aload_n 0, 1) := by decide +kernel
theorem dX1_foresee_15 : decode cX1_foresee 15 = .ok (.invokevirtual 76, 3) := by decide +kernel
theorem dX1_foresee_18 : decode cX1_foresee 18 = .ok (.aload_n 0, 1) := by decide +kernel
theorem dX1_foresee_19 : decode cX1_foresee 19 = .ok (.getfield 79, 3) := by decide +kernel
theorem dX1_foresee_22 : decode cX1_foresee 22 = .ok (.ifCond .lt 17, 3) := by decide +kernel
theorem dX1_foresee_25 : decode cX1_foresee 25 = .ok (.aload_n 0, 1) := by decide +kernel
theorem dX1_foresee_26 : decode cX1_foresee 26 = .ok (.getfield 79, 3) := by decide +kernel
theorem dX1_foresee_29 : decode cX1_foresee 29 = .ok (.aload_n 0, 1) := by decide +kernel
theorem dX1_foresee_30 : decode cX1_foresee 30 = .ok (.getfield 18, 3) := by decide +kernel
theorem dX1_foresee_33 : decode cX1_foresee 33 = .ok (.getfield 59, 3) := by decide +kernel
theorem dX1_foresee_36 : decode cX1_foresee 36 = .ok (.if_icmp .lt 5, 3) := by decide +kernel
theorem dX1_foresee_39 : decode cX1_foresee 39 = .ok (.iconst 0, 1) := by decide +kernel
theorem dX1_foresee_40 : decode cX1_foresee 40 = .ok (.ireturn, 1) := by decide +kernel
theorem dX1_foresee_41 : decode cX1_foresee 41 = .ok (.aload_n 0, 1) := by decide +kernel
theorem dX1_foresee_42 : decode cX1_foresee 42 = .ok (.aload_n 0, 1) := by decide +kernel
theorem dX1_foresee_43 : decode cX1_foresee 43 = .ok (.getfield 18, 3) := by decide +kernel
theorem dX1_foresee_46 : decode cX1_foresee 46 = .ok (.getfield 82, 3) := by decide +kernel
theorem dX1_foresee_49 : decode cX1_foresee 49 = .ok (.aload_n 0, 1) := by decide +kernel
theorem dX1_foresee_50 : decode cX1_foresee 50 = .ok (.getfield 79, 3) := by decide +kernel
theorem dX1_foresee_53 : decode cX1_foresee 53 = .ok (.aaload, 1) := by decide +kernel
theorem dX1_foresee_54 : decode cX1_foresee 54 = .ok (.putfield 86, 3) := by decide +kernel
theorem dX1_foresee_57 : decode cX1_foresee 57 = .ok (.aload_n 0, 1) := by decide +kernel
theorem dX1_foresee_58 : decode cX1_foresee 58 = .ok (.invokevirtual 89, 3) := by decide +kernel
theorem dX1_foresee_61 : decode cX1_foresee 61 = .ok (.iconst 1, 1) := by decide +kernel
theorem dX1_foresee_62 : decode cX1_foresee 62 = .ok (.ireturn, 1) := by decide +kernel
theorem dX1_goers_0 : decode cX1_goers 0 = .ok (.aload_n 0, 1) := by decide +kernel
theorem dX1_goers_1 : decode cX1_goers 1 = .ok (.getfield 86, 3) := by decide +kernel
theorem dX1_goers_4 : decode cX1_goers 4 = .ok (.iconst 0, 1) := by decide +kernel
theorem dX1_goers_5 : decode cX1_goers 5 = .ok (.iaload, 1) := by decide +kernel
theorem dX1_goers_6 : decode cX1_goers 6 = .ok (.bipush 12, 2) := by decide +kernel
theorem dX1_goers_8 : decode cX1_goers 8 = .ok (.if_icmp .eq 5, 3) := by decide +kernel
theorem dX1_goers_11 : decode cX1_goers 11 = .ok (.iconst 0, 1) := by decide +kernel
theorem dX1_goers_12 : decode cX1_goers 12 = .ok (.ireturn, 1) := by decide +kernel
theorem dX1_goers_13 : decode cX1_goers 13 = .ok (.iconst 0, 1) := by decide +kernel
theorem dX1_goers_14 : decode cX1_goers 14 = .ok (.istore_n 1, 1) := by decide +kernel
theorem dX1_goers_15 : decode cX1_goers 15 = .ok (.iconst 0, 1) := by decide +kernel
theorem dX1_goers_16 : decode cX1_goers 16 = .ok (.istore_n 2, 1) := by decide +kernel
theorem dX1_goers_17 : decode cX1_goers 17 = .ok (.iload_n 2, 1) := by decide +kernel
theorem dX1_goers_18 : decode cX1_goers 18 = .ok (.bipush 8, 2) := by decide +kernel
theorem dX1_goers_20 : decode cX1_goers 20 = .ok (.if_icmp .ge 31, 3) := by decide +kernel
theorem dX1_goers_23 : decode cX1_goers 23 = .ok (.aload_n 0, 1) := by decide +kernel
theorem dX1_goers_24 : decode cX1_goers 24 = .ok (.iload_n 2, 1) := by decide +kernel
theorem dX1_goers_25 : decode cX1_goers 25 = .ok (.invokevirtual 142, 3) := by decide +kernel
theorem dX1_goers_28 : decode cX1_goers 28 = .ok (.ifCond .eq 17, 3) := by decide +kernel
theorem dX1_goers_31 : decode cX1_goers 31 = .ok (.aload_n 0, 1) := by decide +kernel
theorem dX1_goers_32 : decode cX1_goers 32 = .ok (.iload_n 2, 1) := by decide +kernel
theorem dX1_goers_33 : decode cX1_goers 33 = .ok (.invokevirtual 206, 3) := by decide +kernel
theorem dX1_goers_36 : decode cX1_goers 36 = .ok (.ifCond .eq 9, 3) := by decide +kernel
theorem dX1_goers_39 : decode cX1_goers 39 = .ok (.iload_n 1, 1) := by decide +kernel
theorem dX1_goers_40 : decode cX1_goers 40 = .ok (.iconst 1, 1) := by decide +kernel
theorem dX1_goers_41 : decode cX1_goers 41 = .ok (.iload_n 2, 1) := by decide +kernel
theorem dX1_goers_42 : decode cX1_goers 42 = .ok (.ishl, 1) := by decide +kernel
theorem dX1_goers_43 : decode cX1_goers 43 = .ok (.ior, 1) := by decide +kernel
theorem dX1_goers_44 : decode cX1_goers 44 = .ok (.istore_n 1, 1) := by decide +kernel
theorem dX1_goers_45 : decode cX1_goers 45 = .ok (.iinc 2 1, 3) := by decide +kernel
theorem dX1_goers_48 : decode cX1_goers 48 = .ok (.goto (-31), 3) := by decide +kernel
theorem dX1_goers_51 : decode cX1_goers 51 = .ok (.iload_n 1, 1) := by decide +kernel
theorem dX1_goers_52 : decode cX1_goers 52 = .ok (.ireturn, 1) := by decide +kernel
theorem dX1_goesNow_0 : decode cX1_goesNow 0 = .ok (.aload_n 0, 1) := by decide +kernel
theorem dX1_goesNow_1 : decode cX1_goesNow 1 = .ok (.getfield 116, 3) := by decide +kernel
theorem dX1_goesNow_4 : decode cX1_goesNow 4 = .ok (.iload_n 1, 1) := by decide +kernel
theorem dX1_goesNow_5 : decode cX1_goesNow 5 = .ok (.ishr, 1) := by decide +kernel
theorem dX1_goesNow_6 : decode cX1_goesNow 6 = .ok (.iconst 1, 1) := by decide +kernel
theorem dX1_goesNow_7 : decode cX1_goesNow 7 = .ok (.iand, 1) := by decide +kernel
theorem dX1_goesNow_8 : decode cX1_goesNow 8 = .ok (.ifCond .eq 7, 3) := by decide +kernel
theorem dX1_goesNow_11 : decode cX1_goesNow 11 = .ok (.iconst 1, 1) := by decide +kernel
theorem dX1_goesNow_12 : decode cX1_goesNow 12 = .ok (.goto 4, 3) := by decide +kernel
theorem dX1_goesNow_15 : decode cX1_goesNow 15 = .ok (.iconst 0, 1) := by decide +kernel
theorem dX1_goesNow_16 : decode cX1_goesNow 16 = .ok (.ireturn, 1) := by decide +kernel
theorem dX1_holds_0 : decode cX1_holds 0 = .ok (.aload_n 0, 1) := by decide +kernel
theorem dX1_holds_1 : decode cX1_holds 1 = .ok (.aload_n 0, 1) := by decide +kernel
theorem dX1_holds_2 : decode cX1_holds 2 = .ok (.getfield 86, 3) := by decide +kernel
theorem dX1_holds_5 : decode cX1_holds 5 = .ok (.iconst 2, 1) := by decide +kernel
theorem dX1_holds_6 : decode cX1_holds 6 = .ok (.iaload, 1) := by decide +kernel
theorem dX1_holds_7 : decode cX1_holds 7 = .ok (.iload_n 1, 1) := by decide +kernel
theorem dX1_holds_8 : decode cX1_holds 8 = .ok (.invokevirtual 145, 3) := by decide +kernel
theorem dX1_holds_11 : decode cX1_holds 11 = .ok (.istore_n 2, 1) := by decide +kernel
theorem dX1_holds_12 : decode cX1_holds 12 = .ok (.aload_n 0, 1) := by decide +kernel
theorem dX1_holds_13 : decode cX1_holds 13 = .ok (.aload_n 0, 1) := by decide +kernel
theorem dX1_holds_14 : decode cX1_holds 14 = .ok (.getfield 86, 3) := by decide +kernel
theorem dX1_holds_17 : decode cX1_holds 17 = .ok (.iconst 3, 1) := by decide +kernel
theorem dX1_holds_18 : decode cX1_holds 18 = .ok (.iaload, 1) := by decide +kernel
theorem dX1_holds_19 : decode cX1_holds 19 = .ok (.iload_n 1, 1) := by decide +kernel
theorem dX1_holds_20 : decode cX1_holds 20 = .ok (.invokevirtual 145, 3) := by decide +kernel
theorem dX1_holds_23 : decode cX1_holds 23 = .ok (.istore_n 3, 1) := by decide +kernel
theorem dX1_holds_24 : decode cX1_holds 24 = .ok (.aload_n 0, 1) := by decide +kernel
theorem dX1_holds_25 : decode cX1_holds 25 = .ok (.getfield 86, 3) := by decide +kernel
theorem dX1_holds_28 : decode cX1_holds 28 = .ok (.iconst 5, 1) := by decide +kernel
theorem dX1_holds_29 : decode cX1_holds 29 = .ok (.iaload, 1) := by decide +kernel
theorem dX1_holds_30 : decode cX1_holds 30 = .ok (.tableswitch 59 0 2 #[26, 37, 48], 26) := by decide +kernel
theorem dX1_holds_56 : decode cX1_holds 56 = .ok (.iload_n 2, 1) := by decide +kernel
theorem dX1_holds_57 : decode cX1_holds 57 = .ok (.iload_n 3, 1) := by decide +kernel
theorem dX1_holds_58 : decode cX1_holds 58 = .ok (.if_icmp .ge 7, 3) := by decide +kernel
theorem dX1_holds_61 : decode cX1_holds 61 = .ok (.iconst 1, 1) := by decide +kernel
theorem dX1_holds_62 : decode cX1_holds 62 = .ok (.goto 4, 3) := by decide +kernel
theorem dX1_holds_65 : decode cX1_holds 65 = .ok (.iconst 0, 1) := by decide +kernel
theorem dX1_holds_66 : decode cX1_holds 66 = .ok (.ireturn, 1) := by decide +kernel
theorem dX1_holds_67 : decode cX1_holds 67 = .ok (.iload_n 2, 1) := by decide +kernel
theorem dX1_holds_68 : decode cX1_holds 68 = .ok (.iload_n 3, 1) := by decide +kernel
theorem dX1_holds_69 : decode cX1_holds 69 = .ok (.if_icmp .ne 7, 3) := by decide +kernel
theorem dX1_holds_72 : decode cX1_holds 72 = .ok (.iconst 1, 1) := by decide +kernel
theorem dX1_holds_73 : decode cX1_holds 73 = .ok (.goto 4, 3) := by decide +kernel
theorem dX1_holds_76 : decode cX1_holds 76 = .ok (.iconst 0, 1) := by decide +kernel
theorem dX1_holds_77 : decode cX1_holds 77 = .ok (.ireturn, 1) := by decide +kernel
theorem dX1_holds_78 : decode cX1_holds 78 = .ok (.iload_n 2, 1) := by decide +kernel
theorem dX1_holds_79 : decode cX1_holds 79 = .ok (.iload_n 3, 1) := by decide +kernel
theorem dX1_holds_80 : decode cX1_holds 80 = .ok (.if_icmp .le 7, 3) := by decide +kernel
theorem dX1_holds_83 : decode cX1_holds 83 = .ok (.iconst 1, 1) := by decide +kernel
theorem dX1_holds_84 : decode cX1_holds 84 = .ok (.goto 4, 3) := by decide +kernel
theorem dX1_holds_87 : decode cX1_holds 87 = .ok (.iconst 0, 1) := by decide +kernel
theorem dX1_holds_88 : decode cX1_holds 88 = .ok (.ireturn, 1) := by decide +kernel
theorem dX1_holds_89 : decode cX1_holds 89 = .ok (.iconst 1, 1) := by decide +kernel
theorem dX1_holds_90 : decode cX1_holds 90 = .ok (.ireturn, 1) := by decide +kernel
theorem dX1_init_0 : decode cX1_init 0 = .ok (.aload_n 0, 1) := by decide +kernel
theorem dX1_init_1 : decode cX1_init 1 = .ok (.invokespecial 3, 3) := by decide +kernel
theorem dX1_init_4 : decode cX1_init 4 = .ok (.aload_n 0, 1) := by decide +kernel
theorem dX1_init_5 : decode cX1_init 5 = .ok (.bipush 8, 2) := by decide +kernel
theorem dX1_init_7 : decode cX1_init 7 = .ok (.newarray .int, 2) := by decide +kernel
theorem dX1_init_9 : decode cX1_init 9 = .ok (.putfield 9, 3) := by decide +kernel
theorem dX1_init_12 : decode cX1_init 12 = .ok (.aload_n 0, 1) := by decide +kernel
theorem dX1_init_13 : decode cX1_init 13 = .ok (.iconst 4, 1) := by decide +kernel
theorem dX1_init_14 : decode cX1_init 14 = .ok (.newarray .int, 2) := by decide +kernel
theorem dX1_init_16 : decode cX1_init 16 = .ok (.putfield 15, 3) := by decide +kernel
theorem dX1_init_19 : decode cX1_init 19 = .ok (.return_, 1) := by decide +kernel
theorem dX1_keepLine_0 : decode cX1_keepLine 0 = .ok (.aload_n 0, 1) := by decide +kernel
theorem dX1_keepLine_1 : decode cX1_keepLine 1 = .ok (.getfield 68, 3) := by decide +kernel
theorem dX1_keepLine_4 : decode cX1_keepLine 4 = .ok (.getfield 172, 3) := by decide +kernel
theorem dX1_keepLine_7 : decode cX1_keepLine 7 = .ok (.bipush 30, 2) := by decide +kernel
theorem dX1_keepLine_9 : decode cX1_keepLine 9 = .ok (.irem, 1) := by decide +kernel
theorem dX1_keepLine_10 : decode cX1_keepLine 10 = .ok (.iconst 5, 1) := by decide +kernel
theorem dX1_keepLine_11 : decode cX1_keepLine 11 = .ok (.imul, 1) := by decide +kernel
theorem dX1_keepLine_12 : decode cX1_keepLine 12 = .ok (.istore_n 1, 1) := by decide +kernel
theorem dX1_keepLine_13 : decode cX1_keepLine 13 = .ok (.aload_n 0, 1) := by decide +kernel
theorem dX1_keepLine_14 : decode cX1_keepLine 14 = .ok (.getfield 68, 3) := by decide +kernel
theorem dX1_keepLine_17 : decode cX1_keepLine 17 = .ok (.getfield 175, 3) := by decide +kernel
theorem dX1_keepLine_20 : decode cX1_keepLine 20 = .ok (.iload_n 1, 1) := by decide +kernel
theorem dX1_keepLine_21 : decode cX1_keepLine 21 = .ok (.aload_n 0, 1) := by decide +kernel
theorem dX1_keepLine_22 : decode cX1_keepLine 22 = .ok (.getfield 68, 3) := by decide +kernel
theorem dX1_keepLine_25 : decode cX1_keepLine 25 = .ok (.getfield 33, 3) := by decide +kernel
theorem dX1_keepLine_28 : decode cX1_keepLine 28 = .ok (.iastore, 1) := by decide +kernel
theorem dX1_keepLine_29 : decode cX1_keepLine 29 = .ok (.aload_n 0, 1) := by decide +kernel
theorem dX1_keepLine_30 : decode cX1_keepLine 30 = .ok (.getfield 68, 3) := by decide +kernel
theorem dX1_keepLine_33 : decode cX1_keepLine 33 = .ok (.getfield 175, 3) := by decide +kernel
theorem dX1_keepLine_36 : decode cX1_keepLine 36 = .ok (.iload_n 1, 1) := by decide +kernel
theorem dX1_keepLine_37 : decode cX1_keepLine 37 = .ok (.iconst 1, 1) := by decide +kernel
theorem dX1_keepLine_38 : decode cX1_keepLine 38 = .ok (.iadd, 1) := by decide +kernel
theorem dX1_keepLine_39 : decode cX1_keepLine 39 = .ok (.aload_n 0, 1) := by decide +kernel
theorem dX1_keepLine_40 : decode cX1_keepLine 40 = .ok (.getfield 105, 3) := by decide +kernel
theorem dX1_keepLine_43 : decode cX1_keepLine 43 = .ok (.iastore, 1) := by decide +kernel
theorem dX1_keepLine_44 : decode cX1_keepLine 44 = .ok (.aload_n 0, 1) := by decide +kernel
theorem dX1_keepLine_45 : decode cX1_keepLine 45 = .ok (.getfield 68, 3) := by decide +kernel
theorem dX1_keepLine_48 : decode cX1_keepLine 48 = .ok (.getfield 175, 3) := by decide +kernel
theorem dX1_keepLine_51 : decode cX1_keepLine 51 = .ok (.iload_n 1, 1) := by decide +kernel
theorem dX1_keepLine_52 : decode cX1_keepLine 52 = .ok (.iconst 2, 1) := by decide +kernel
theorem dX1_keepLine_53 : decode cX1_keepLine 53 = .ok (.iadd, 1) := by decide +kernel
theorem dX1_keepLine_54 : decode cX1_keepLine 54 = .ok (.aload_n 0, 1) := by decide +kernel
theorem dX1_keepLine_55 : decode cX1_keepLine 55 = .ok (.getfield 79, 3) := by decide +kernel
theorem dX1_keepLine_58 : decode cX1_keepLine 58 = .ok (.iastore, 1) := by decide +kernel
theorem dX1_keepLine_59 : decode cX1_keepLine 59 = .ok (.aload_n 0, 1) := by decide +kernel
theorem dX1_keepLine_60 : decode cX1_keepLine 60 = .ok (.getfield 68, 3) := by decide +kernel
theorem dX1_keepLine_63 : decode cX1_keepLine 63 = .ok (.getfield 175, 3) := by decide +kernel
theorem dX1_keepLine_66 : decode cX1_keepLine 66 = .ok (.iload_n 1, 1) := by decide +kernel
theorem dX1_keepLine_67 : decode cX1_keepLine 67 = .ok (.iconst 3, 1) := by decide +kernel
theorem dX1_keepLine_68 : decode cX1_keepLine 68 = .ok (.iadd, 1) := by decide +kernel
theorem dX1_keepLine_69 : decode cX1_keepLine 69 = .ok (.aload_n 0, 1) := by decide +kernel
theorem dX1_keepLine_70 : decode cX1_keepLine 70 = .ok (.getfield 116, 3) := by decide +kernel
theorem dX1_keepLine_73 : decode cX1_keepLine 73 = .ok (.iastore, 1) := by decide +kernel
theorem dX1_keepLine_74 : decode cX1_keepLine 74 = .ok (.aload_n 0, 1) := by decide +kernel
theorem dX1_keepLine_75 : decode cX1_keepLine 75 = .ok (.getfield 68, 3) := by decide +kernel
theorem dX1_keepLine_78 : decode cX1_keepLine 78 = .ok (.getfield 175, 3) := by decide +kernel
theorem dX1_keepLine_81 : decode cX1_keepLine 81 = .ok (.iload_n 1, 1) := by decide +kernel
theorem dX1_keepLine_82 : decode cX1_keepLine 82 = .ok (.iconst 4, 1) := by decide +kernel
theorem dX1_keepLine_83 : decode cX1_keepLine 83 = .ok (.iadd, 1) := by decide +kernel
theorem dX1_keepLine_84 : decode cX1_keepLine 84 = .ok (.aload_n 0, 1) := by decide +kernel
theorem dX1_keepLine_85 : decode cX1_keepLine 85 = .ok (.getfield 39, 3) := by decide +kernel
theorem dX1_keepLine_88 : decode cX1_keepLine 88 = .ok (.iastore, 1) := by decide +kernel
theorem dX1_keepLine_89 : decode cX1_keepLine 89 = .ok (.aload_n 0, 1) := by decide +kernel
theorem dX1_keepLine_90 : decode cX1_keepLine 90 = .ok (.getfield 68, 3) := by decide +kernel
theorem dX1_keepLine_93 : decode cX1_keepLine 93 = .ok (.dup, 1) := by decide +kernel
theorem dX1_keepLine_94 : decode cX1_keepLine 94 = .ok (.getfield 172, 3) := by decide +kernel
theorem dX1_keepLine_97 : decode cX1_keepLine 97 = .ok (.iconst 1, 1) := by decide +kernel
theorem dX1_keepLine_98 : decode cX1_keepLine 98 = .ok (.iadd, 1) := by decide +kernel
theorem dX1_keepLine_99 : decode cX1_keepLine 99 = .ok (.putfield 172, 3) := by decide +kernel
theorem dX1_keepLine_102 : decode cX1_keepLine 102 = .ok (.aload_n 0, 1) := by decide +kernel
theorem dX1_keepLine_103 : decode cX1_keepLine 103 = .ok (.getfield 29, 3) := by decide +kernel
theorem dX1_keepLine_106 : decode cX1_keepLine 106 = .ok (.dup, 1) := by decide +kernel
theorem dX1_keepLine_107 : decode cX1_keepLine 107 = .ok (.getfield 178, 3) := by decide +kernel
theorem dX1_keepLine_110 : decode cX1_keepLine 110 = .ok (.iconst 1, 1) := by decide +kernel
theorem dX1_keepLine_111 : decode cX1_keepLine 111 = .ok (.iadd, 1) := by decide +kernel
theorem dX1_keepLine_112 : decode cX1_keepLine 112 = .ok (.putfield 178, 3) := by decide +kernel
theorem dX1_keepLine_115 : decode cX1_keepLine 115 = .ok (.aload_n 0, 1) := by decide +kernel
theorem dX1_keepLine_116 : decode cX1_keepLine 116 = .ok (.getfield 68, 3) := by decide +kernel
theorem dX1_keepLine_119 : decode cX1_keepLine 119 = .ok (.aload_n 0, 1) := by decide +kernel
theorem dX1_keepLine_120 : decode cX1_keepLine 120 = .ok (.getfield 105, 3) := by decide +kernel
theorem dX1_keepLine_123 : decode cX1_keepLine 123 = .ok (.putfield 95, 3) := by decide +kernel
theorem dX1_keepLine_126 : decode cX1_keepLine 126 = .ok (.return_, 1) := by decide +kernel
theorem dX1_lineBehind_0 : decode cX1_lineBehind 0 = .ok (.aload_n 0, 1) := by decide +kernel
theorem dX1_lineBehind_1 : decode cX1_lineBehind 1 = .ok (.getfield 86, 3) := by decide +kernel
theorem dX1_lineBehind_4 : decode cX1_lineBehind 4 = .ok (.iconst 0, 1) := by decide +kernel
theorem dX1_lineBehind_5 : decode cX1_lineBehind 5 = .ok (.iaload, 1) := by decide +kernel
theorem dX1_lineBehind_6 : decode cX1_lineBehind 6 = .ok (.bipush 15, 2) := by decide +kernel
theorem dX1_lineBehind_8 : decode cX1_lineBehind 8 = .ok (.if_icmp .ne 13, 3) := by decide +kernel
theorem dX1_lineBehind_11 : decode cX1_lineBehind 11 = .ok (.aload_n 0, 1) := by decide +kernel
theorem dX1_lineBehind_12 : decode cX1_lineBehind 12 = .ok (.getfield 18, 3) := by decide +kernel
theorem dX1_lineBehind_15 : decode cX1_lineBehind 15 = .ok (.getfield 59, 3) := by decide +kernel
theorem dX1_lineBehind_18 : decode cX1_lineBehind 18 = .ok (.goto 9, 3) := by decide +kernel
theorem dX1_lineBehind_21 : decode cX1_lineBehind 21 = .ok (.aload_n 0, 1) := by decide +kernel
theorem dX1_lineBehind_22 : decode cX1_lineBehind 22 = .ok (.getfield 79, 3) := by decide +kernel
theorem dX1_lineBehind_25 : decode cX1_lineBehind 25 = .ok (.iconst 1, 1) := by decide +kernel
theorem dX1_lineBehind_26 : decode cX1_lineBehind 26 = .ok (.iadd, 1) := by decide +kernel
theorem dX1_lineBehind_27 : decode cX1_lineBehind 27 = .ok (.ireturn, 1) := by decide +kernel
theorem dX1_measure_0 : decode cX1_measure 0 = .ok (.aload_n 0, 1) := by decide +kernel
theorem dX1_measure_1 : decode cX1_measure 1 = .ok (.getfield 86, 3) := by decide +kernel
theorem dX1_measure_4 : decode cX1_measure 4 = .ok (.iconst 0, 1) := by decide +kernel
theorem dX1_measure_5 : decode cX1_measure 5 = .ok (.iaload, 1) := by decide +kernel
theorem dX1_measure_6 : decode cX1_measure 6 = .ok (.istore_n 1, 1) := by decide +kernel
theorem dX1_measure_7 : decode cX1_measure 7 = .ok (.aload_n 0, 1) := by decide +kernel
theorem dX1_measure_8 : decode cX1_measure 8 = .ok (.iconst 1, 1) := by decide +kernel
theorem dX1_measure_9 : decode cX1_measure 9 = .ok (.putfield 39, 3) := by decide +kernel
theorem dX1_measure_12 : decode cX1_measure 12 = .ok (.iload_n 1, 1) := by decide +kernel
theorem dX1_measure_13 : decode cX1_measure 13 = .ok (.bipush 7, 2) := by decide +kernel
theorem dX1_measure_15 : decode cX1_measure 15 = .ok (.if_icmp .lt 9, 3) := by decide +kernel
theorem dX1_measure_18 : decode cX1_measure 18 = .ok (.iload_n 1, 1) := by decide +kernel
theorem dX1_measure_19 : decode cX1_measure 19 = .ok (.bipush 11, 2) := by decide +kernel
theorem dX1_measure_21 : decode cX1_measure 21 = .ok (.if_icmp .le 4, 3) := by decide +kernel
theorem dX1_measure_24 : decode cX1_measure 24 = .ok (.return_, 1) := by decide +kernel
theorem dX1_measure_25 : decode cX1_measure 25 = .ok (.iload_n 1, 1) := by decide +kernel
theorem dX1_measure_26 : decode cX1_measure 26 = .ok (.bipush 9, 2) := by decide +kernel
theorem dX1_measure_28 : decode cX1_measure 28 = .ok (.if_icmp .lt 7, 3) := by decide +kernel
theorem dX1_measure_31 : decode cX1_measure 31 = .ok (.iconst 1, 1) := by decide +kernel
theorem dX1_measure_32 : decode cX1_measure 32 = .ok (.goto 4, 3) := by decide +kernel
theorem dX1_measure_35 : decode cX1_measure 35 = .ok (.iconst 0, 1) := by decide +kernel
theorem dX1_measure_36 : decode cX1_measure 36 = .ok (.istore_n 2, 1) := by decide +kernel
theorem dX1_measure_37 : decode cX1_measure 37 = .ok (.iconst 0, 1) := by decide +kernel
theorem dX1_measure_38 : decode cX1_measure 38 = .ok (.istore_n 3, 1) := by decide +kernel
theorem dX1_measure_39 : decode cX1_measure 39 = .ok (.iload_n 3, 1) := by decide +kernel
theorem dX1_measure_40 : decode cX1_measure 40 = .ok (.bipush 8, 2) := by decide +kernel
theorem dX1_measure_42 : decode cX1_measure 42 = .ok (.if_icmp .ge 48, 3) := by decide +kernel
theorem dX1_measure_45 : decode cX1_measure 45 = .ok (.aload_n 0, 1) := by decide +kernel
theorem dX1_measure_46 : decode cX1_measure 46 = .ok (.iload_n 3, 1) := by decide +kernel
theorem dX1_measure_47 : decode cX1_measure 47 = .ok (.invokevirtual 142, 3) := by decide +kernel
theorem dX1_measure_50 : decode cX1_measure 50 = .ok (.ifCond .eq 34, 3) := by decide +kernel
theorem dX1_measure_53 : decode cX1_measure 53 = .ok (.aload_n 0, 1) := by decide +kernel
theorem dX1_measure_54 : decode cX1_measure 54 = .ok (.getfield 9, 3) := by decide +kernel
theorem dX1_measure_57 : decode cX1_measure 57 = .ok (.iload_n 3, 1) := by decide +kernel
theorem dX1_measure_58 : decode cX1_measure 58 = .ok (.aload_n 0, 1) := by decide +kernel
theorem dX1_measure_59 : decode cX1_measure 59 = .ok (.aload_n 0, 1) := by decide +kernel
theorem dX1_measure_60 : decode cX1_measure 60 = .ok (.getfield 86, 3) := by decide +kernel
theorem dX1_measure_63 : decode cX1_measure 63 = .ok (.iconst 2, 1) := by decide +kernel
theorem dX1_measure_64 : decode cX1_measure 64 = .ok (.iaload, 1) := by decide +kernel
theorem dX1_measure_65 : decode cX1_measure 65 = .ok (.iload_n 3, 1) := by decide +kernel
theorem dX1_measure_66 : decode cX1_measure 66 = .ok (.invokevirtual 145, 3) := by decide +kernel
theorem dX1_measure_69 : decode cX1_measure 69 = .ok (.iload_n 2, 1) := by decide +kernel
theorem dX1_measure_70 : decode cX1_measure 70 = .ok (.ifCond .eq 8, 3) := by decide +kernel
theorem dX1_measure_73 : decode cX1_measure 73 = .ok (.bipush 32, 2) := by decide +kernel
theorem dX1_measure_75 : decode cX1_measure 75 = .ok (.goto 5, 3) := by decide +kernel
theorem dX1_measure_78 : decode cX1_measure 78 = .ok (.bipush 64, 2) := by decide +kernel
theorem dX1_measure_80 : decode cX1_measure 80 = .ok (.invokestatic 148, 3) := by decide +kernel
theorem dX1_measure_83 : decode cX1_measure 83 = .ok (.iastore, 1) := by decide +kernel
theorem dX1_measure_84 : decode cX1_measure 84 = .ok (.iinc 3 1, 3) := by decide +kernel
theorem dX1_measure_87 : decode cX1_measure 87 = .ok (.goto (-48), 3) := by decide +kernel
theorem dX1_measure_90 : decode cX1_measure 90 = .ok (.iload_n 1, 1) := by decide +kernel
theorem dX1_measure_91 : decode cX1_measure 91 = .ok (.bipush 11, 2) := by decide +kernel
theorem dX1_measure_93 : decode cX1_measure 93 = .ok (.if_icmp .ne 17, 3) := by decide +kernel
theorem dX1_measure_96 : decode cX1_measure 96 = .ok (.aload_n 0, 1) := by decide +kernel
theorem dX1_measure_97 : decode cX1_measure 97 = .ok (.aload_n 0, 1) := by decide +kernel
theorem dX1_measure_98 : decode cX1_measure 98 = .ok (.getfield 116, 3) := by decide +kernel
theorem dX1_measure_101 : decode cX1_measure 101 = .ok (.invokestatic 151, 3) := by decide +kernel
theorem dX1_measure_104 : decode cX1_measure 104 = .ok (.putfield 39, 3) := by decide +kernel
theorem dX1_measure_107 : decode cX1_measure 107 = .ok (.goto 24, 3) := by decide +kernel
theorem dX1_measure_110 : decode cX1_measure 110 = .ok (.aload_n 0, 1) := by decide +kernel
theorem dX1_measure_111 : decode cX1_measure 111 = .ok (.iload_n 2, 1) := by decide +kernel
theorem dX1_measure_112 : decode cX1_measure 112 = .ok (.ifCond .eq 10, 3) := by decide +kernel
theorem dX1_measure_115 : decode cX1_measure 115 = .ok (.aload_n 0, 1) := by decide +kernel
theorem dX1_measure_116 : decode cX1_measure 116 = .ok (.invokevirtual 156, 3) := by decide +kernel
theorem dX1_measure_119 : decode cX1_measure 119 = .ok (.goto 9, 3) := by decide +kernel
theorem dX1_measure_122 : decode cX1_measure 122 = .ok (.iconst 2, 1) := by decide +kernel
theorem dX1_measure_123 : decode cX1_measure 123 = .ok (.aload_n 0, 1) := by decide +kernel
theorem dX1_measure_124 : decode cX1_measure 124 = .ok (.invokevirtual 160, 3) := by decide +kernel
theorem dX1_measure_127 : decode cX1_measure 127 = .ok (.iadd, 1) := by decide +kernel
theorem dX1_measure_128 : decode cX1_measure 128 = .ok (.putfield 39, 3) := by decide +kernel
theorem dX1_measure_131 : decode cX1_measure 131 = .ok (.return_, 1) := by decide +kernel
theorem dX1_mostInOneBank_0 : decode cX1_mostInOneBank 0 = .ok (.aload_n 0, 1) := by decide +kernel
theorem dX1_mostInOneBank_1 : decode cX1_mostInOneBank 1 = .ok (.getfield 15, 3) := by decide +kernel
theorem dX1_mostInOneBank_4 : decode cX1_mostInOneBank 4 = .ok (.iconst 0, 1) := by decide +kernel
theorem dX1_mostInOneBank_5 : decode cX1_mostInOneBank 5 = .ok (.invokestatic 163, 3) := by decide +kernel
theorem dX1_mostInOneBank_8 : decode cX1_mostInOneBank 8 = .ok (.iconst 0, 1) := by decide +kernel
theorem dX1_mostInOneBank_9 : decode cX1_mostInOneBank 9 = .ok (.istore_n 1, 1) := by decide +kernel
theorem dX1_mostInOneBank_10 : decode cX1_mostInOneBank 10 = .ok (.iconst 0, 1) := by decide +kernel
theorem dX1_mostInOneBank_11 : decode cX1_mostInOneBank 11 = .ok (.istore_n 2, 1) := by decide +kernel
theorem dX1_mostInOneBank_12 : decode cX1_mostInOneBank 12 = .ok (.iconst 0, 1) := by decide +kernel
theorem dX1_mostInOneBank_13 : decode cX1_mostInOneBank 13 = .ok (.istore_n 3, 1) := by decide +kernel
theorem dX1_mostInOneBank_14 : decode cX1_mostInOneBank 14 = .ok (.iload_n 3, 1) := by decide +kernel
theorem dX1_mostInOneBank_15 : decode cX1_mostInOneBank 15 = .ok (.bipush 8, 2) := by decide +kernel
theorem dX1_mostInOneBank_17 : decode cX1_mostInOneBank 17 = .ok (.if_icmp .ge 83, 3) := by decide +kernel
theorem dX1_mostInOneBank_20 : decode cX1_mostInOneBank 20 = .ok (.aload_n 0, 1) := by decide +kernel
theorem dX1_mostInOneBank_21 : decode cX1_mostInOneBank 21 = .ok (.getfield 9, 3) := by decide +kernel
theorem dX1_mostInOneBank_24 : decode cX1_mostInOneBank 24 = .ok (.iload_n 3, 1) := by decide +kernel
theorem dX1_mostInOneBank_25 : decode cX1_mostInOneBank 25 = .ok (.iaload, 1) := by decide +kernel
theorem dX1_mostInOneBank_26 : decode cX1_mostInOneBank 26 = .ok (.istore 4, 2) := by decide +kernel
theorem dX1_mostInOneBank_28 : decode cX1_mostInOneBank 28 = .ok (.aload_n 0, 1) := by decide +kernel
theorem dX1_mostInOneBank_29 : decode cX1_mostInOneBank 29 = .ok (.iload_n 3, 1) := by decide +kernel
theorem dX1_mostInOneBank_30 : decode cX1_mostInOneBank 30 = .ok (.invokevirtual 142, 3) := by decide +kernel
theorem dX1_mostInOneBank_33 : decode cX1_mostInOneBank 33 = .ok (.ifCond .eq 61, 3) := by decide +kernel
theorem dX1_mostInOneBank_36 : decode cX1_mostInOneBank 36 = .ok (.iload_n 1, 1) := by decide +kernel
theorem dX1_mostInOneBank_37 : decode cX1_mostInOneBank 37 = .ok (.iload 4, 2) := by decide +kernel
theorem dX1_mostInOneBank_39 : decode cX1_mostInOneBank 39 = .ok (.ishr, 1) := by decide +kernel
theorem dX1_mostInOneBank_40 : decode cX1_mostInOneBank 40 = .ok (.iconst 1, 1) := by decide +kernel
theorem dX1_mostInOneBank_41 : decode cX1_mostInOneBank 41 = .ok (.iand, 1) := by decide +kernel
theorem dX1_mostInOneBank_42 : decode cX1_mostInOneBank 42 = .ok (.ifCond .ne 52, 3) := by decide +kernel
theorem dX1_mostInOneBank_45 : decode cX1_mostInOneBank 45 = .ok (.iload_n 1, 1) := by decide +kernel
theorem dX1_mostInOneBank_46 : decode cX1_mostInOneBank 46 = .ok (.iconst 1, 1) := by decide +kernel
theorem dX1_mostInOneBank_47 : decode cX1_mostInOneBank 47 = .ok (.iload 4, 2) := by decide +kernel
theorem dX1_mostInOneBank_49 : decode cX1_mostInOneBank 49 = .ok (.ishl, 1) := by decide +kernel
theorem dX1_mostInOneBank_50 : decode cX1_mostInOneBank 50 = .ok (.ior, 1) := by decide +kernel
theorem dX1_mostInOneBank_51 : decode cX1_mostInOneBank 51 = .ok (.istore_n 1, 1) := by decide +kernel
theorem dX1_mostInOneBank_52 : decode cX1_mostInOneBank 52 = .ok (.iload 4, 2) := by decide +kernel
theorem dX1_mostInOneBank_54 : decode cX1_mostInOneBank 54 = .ok (.aload_n 0, 1) := by decide +kernel
theorem dX1_mostInOneBank_55 : decode cX1_mostInOneBank 55 = .ok (.getfield 68, 3) := by decide +kernel
theorem dX1_mostInOneBank_58 : decode cX1_mostInOneBank 58 = .ok (.getfield 169, 3) := by decide +kernel
theorem dX1_mostInOneBank_61 : decode cX1_mostInOneBank 61 = .ok (.iload 4, 2) := by decide +kernel
theorem dX1_mostInOneBank_63 : decode cX1_mostInOneBank 63 = .ok (.iconst 4, 1) := by decide +kernel
theorem dX1_mostInOneBank_64 : decode cX1_mostInOneBank 64 = .ok (.idiv, 1) := by decide +kernel
theorem dX1_mostInOneBank_65 : decode cX1_mostInOneBank 65 = .ok (.imul, 1) := by decide +kernel
theorem dX1_mostInOneBank_66 : decode cX1_mostInOneBank 66 = .ok (.iadd, 1) := by decide +kernel
theorem dX1_mostInOneBank_67 : decode cX1_mostInOneBank 67 = .ok (.iconst 4, 1) := by decide +kernel
theorem dX1_mostInOneBank_68 : decode cX1_mostInOneBank 68 = .ok (.irem, 1) := by decide +kernel
theorem dX1_mostInOneBank_69 : decode cX1_mostInOneBank 69 = .ok (.istore 5, 2) := by decide +kernel
theorem dX1_mostInOneBank_71 : decode cX1_mostInOneBank 71 = .ok (.aload_n 0, 1) := by decide +kernel
theorem dX1_mostInOneBank_72 : decode cX1_mostInOneBank 72 = .ok (.getfield 15, 3) := by decide +kernel
theorem dX1_mostInOneBank_75 : decode cX1_mostInOneBank 75 = .ok (.iload 5, 2) := by decide +kernel
theorem dX1_mostInOneBank_77 : decode cX1_mostInOneBank 77 = .ok (.dup2, 1) := by decide +kernel
theorem dX1_mostInOneBank_78 : decode cX1_mostInOneBank 78 = .ok (.iaload, 1) := by decide +kernel
theorem dX1_mostInOneBank_79 : decode cX1_mostInOneBank 79 = .ok (.iconst 1, 1) := by decide +kernel
theorem dX1_mostInOneBank_80 : decode cX1_mostInOneBank 80 = .ok (.iadd, 1) := by decide +kernel
theorem dX1_mostInOneBank_81 : decode cX1_mostInOneBank 81 = .ok (.iastore, 1) := by decide +kernel
theorem dX1_mostInOneBank_82 : decode cX1_mostInOneBank 82 = .ok (.iload_n 2, 1) := by decide +kernel
theorem dX1_mostInOneBank_83 : decode cX1_mostInOneBank 83 = .ok (.aload_n 0, 1) := by decide +kernel
theorem dX1_mostInOneBank_84 : decode cX1_mostInOneBank 84 = .ok (.getfield 15, 3) := by decide +kernel
theorem dX1_mostInOneBank_87 : decode cX1_mostInOneBank 87 = .ok (.iload 5, 2) := by decide +kernel
theorem dX1_mostInOneBank_89 : decode cX1_mostInOneBank 89 = .ok (.iaload, 1) := by decide +kernel
theorem dX1_mostInOneBank_90 : decode cX1_mostInOneBank 90 = .ok (.invokestatic 125, 3) := by decide +kernel
theorem dX1_mostInOneBank_93 : decode cX1_mostInOneBank 93 = .ok (.istore_n 2, 1) := by decide +kernel
theorem dX1_mostInOneBank_94 : decode cX1_mostInOneBank 94 = .ok (.iinc 3 1, 3) := by decide +kernel
theorem dX1_mostInOneBank_97 : decode cX1_mostInOneBank 97 = .ok (.goto (-83), 3) := by decide +kernel
theorem dX1_mostInOneBank_100 : decode cX1_mostInOneBank 100 = .ok (.iload_n 2, 1) := by decide +kernel
theorem dX1_mostInOneBank_101 : decode cX1_mostInOneBank 101 = .ok (.ireturn, 1) := by decide +kernel
theorem dX1_moveEach_0 : decode cX1_moveEach 0 = .ok (.aload_n 0, 1) := by decide +kernel
theorem dX1_moveEach_1 : decode cX1_moveEach 1 = .ok (.getfield 29, 3) := by decide +kernel
theorem dX1_moveEach_4 : decode cX1_moveEach 4 = .ok (.aload_n 0, 1) := by decide +kernel
theorem dX1_moveEach_5 : decode cX1_moveEach 5 = .ok (.getfield 134, 3) := by decide +kernel
theorem dX1_moveEach_8 : decode cX1_moveEach 8 = .ok (.iconst 1, 1) := by decide +kernel
theorem dX1_moveEach_9 : decode cX1_moveEach 9 = .ok (.iadd, 1) := by decide +kernel
theorem dX1_moveEach_10 : decode cX1_moveEach 10 = .ok (.bipush 8, 2) := by decide +kernel
theorem dX1_moveEach_12 : decode cX1_moveEach 12 = .ok (.irem, 1) := by decide +kernel
theorem dX1_moveEach_13 : decode cX1_moveEach 13 = .ok (.putfield 131, 3) := by decide +kernel
theorem dX1_moveEach_16 : decode cX1_moveEach 16 = .ok (.aload_n 0, 1) := by decide +kernel
theorem dX1_moveEach_17 : decode cX1_moveEach 17 = .ok (.getfield 86, 3) := by decide +kernel
theorem dX1_moveEach_20 : decode cX1_moveEach 20 = .ok (.iconst 0, 1) := by decide +kernel
theorem dX1_moveEach_21 : decode cX1_moveEach 21 = .ok (.iaload, 1) := by decide +kernel
theorem dX1_moveEach_22 : decode cX1_moveEach 22 = .ok (.bipush 13, 2) := by decide +kernel
theorem dX1_moveEach_24 : decode cX1_moveEach 24 = .ok (.if_icmp .ne 20, 3) := by decide +kernel
theorem dX1_moveEach_27 : decode cX1_moveEach 27 = .ok (.aload_n 0, 1) := by decide +kernel
theorem dX1_moveEach_28 : decode cX1_moveEach 28 = .ok (.getfield 29, 3) := by decide +kernel
theorem dX1_moveEach_31 : decode cX1_moveEach 31 = .ok (.dup, 1) := by decide +kernel
theorem dX1_moveEach_32 : decode cX1_moveEach 32 = .ok (.getfield 209, 3) := by decide +kernel
theorem dX1_moveEach_35 : decode cX1_moveEach 35 = .ok (.aload_n 0, 1) := by decide +kernel
theorem dX1_moveEach_36 : decode cX1_moveEach 36 = .ok (.getfield 116, 3) := by decide +kernel
theorem dX1_moveEach_39 : decode cX1_moveEach 39 = .ok (.ior, 1) := by decide +kernel
theorem dX1_moveEach_40 : decode cX1_moveEach 40 = .ok (.putfield 209, 3) := by decide +kernel
theorem dX1_moveEach_43 : decode cX1_moveEach 43 = .ok (.return_, 1) := by decide +kernel
theorem dX1_moveEach_44 : decode cX1_moveEach 44 = .ok (.aload_n 0, 1) := by decide +kernel
theorem dX1_moveEach_45 : decode cX1_moveEach 45 = .ok (.invokevirtual 212, 3) := by decide +kernel
theorem dX1_moveEach_48 : decode cX1_moveEach 48 = .ok (.istore_n 1, 1) := by decide +kernel
theorem dX1_moveEach_49 : decode cX1_moveEach 49 = .ok (.iconst 0, 1) := by decide +kernel
theorem dX1_moveEach_50 : decode cX1_moveEach 50 = .ok (.istore_n 2, 1) := by decide +kernel
theorem dX1_moveEach_51 : decode cX1_moveEach 51 = .ok (.iload_n 2, 1) := by decide +kernel
theorem dX1_moveEach_52 : decode cX1_moveEach 52 = .ok (.bipush 8, 2) := by decide +kernel
theorem dX1_moveEach_54 : decode cX1_moveEach 54 = .ok (.if_icmp .ge 63, 3) := by decide +kernel
theorem dX1_moveEach_57 : decode cX1_moveEach 57 = .ok (.aload_n 0, 1) := by decide +kernel
theorem dX1_moveEach_58 : decode cX1_moveEach 58 = .ok (.iload_n 2, 1) := by decide +kernel
theorem dX1_moveEach_59 : decode cX1_moveEach 59 = .ok (.invokevirtual 142, 3) := by decide +kernel
theorem dX1_moveEach_62 : decode cX1_moveEach 62 = .ok (.ifCond .eq 49, 3) := by decide +kernel
theorem dX1_moveEach_65 : decode cX1_moveEach 65 = .ok (.iload_n 1, 1) := by decide +kernel
theorem dX1_moveEach_66 : decode cX1_moveEach 66 = .ok (.iload_n 2, 1) := by decide +kernel
theorem dX1_moveEach_67 : decode cX1_moveEach 67 = .ok (.ishr, 1) := by decide +kernel
theorem dX1_moveEach_68 : decode cX1_moveEach 68 = .ok (.iconst 1, 1) := by decide +kernel
theorem dX1_moveEach_69 : decode cX1_moveEach 69 = .ok (.iand, 1) := by decide +kernel
theorem dX1_moveEach_70 : decode cX1_moveEach 70 = .ok (.ifCond .eq 7, 3) := by decide +kernel
theorem dX1_moveEach_73 : decode cX1_moveEach 73 = .ok (.iconst 1, 1) := by decide +kernel
theorem dX1_moveEach_74 : decode cX1_moveEach 74 = .ok (.goto 4, 3) := by decide +kernel
theorem dX1_moveEach_77 : decode cX1_moveEach 77 = .ok (.iconst 0, 1) := by decide +kernel
theorem dX1_moveEach_78 : decode cX1_moveEach 78 = .ok (.istore_n 3, 1) := by decide +kernel
theorem dX1_moveEach_79 : decode cX1_moveEach 79 = .ok (.aload_n 0, 1) := by decide +kernel
theorem dX1_moveEach_80 : decode cX1_moveEach 80 = .ok (.getfield 29, 3) := by decide +kernel
theorem dX1_moveEach_83 : decode cX1_moveEach 83 = .ok (.iload_n 2, 1) := by decide +kernel
theorem dX1_moveEach_84 : decode cX1_moveEach 84 = .ok (.iload_n 3, 1) := by decide +kernel
theorem dX1_moveEach_85 : decode cX1_moveEach 85 = .ok (.ifCond .eq 12, 3) := by decide +kernel
theorem dX1_moveEach_88 : decode cX1_moveEach 88 = .ok (.aload_n 0, 1) := by decide +kernel
theorem dX1_moveEach_89 : decode cX1_moveEach 89 = .ok (.getfield 86, 3) := by decide +kernel
theorem dX1_moveEach_92 : decode cX1_moveEach 92 = .ok (.iconst 4, 1) := by decide +kernel
theorem dX1_moveEach_93 : decode cX1_moveEach 93 = .ok (.iaload, 1) := by decide +kernel
theorem dX1_moveEach_94 : decode cX1_moveEach 94 = .ok (.goto 7, 3) := by decide +kernel
theorem dX1_moveEach_97 : decode cX1_moveEach 97 = .ok (.aload_n 0, 1) := by decide +kernel
theorem dX1_moveEach_98 : decode cX1_moveEach 98 = .ok (.invokevirtual 215, 3) := by decide +kernel
theorem dX1_moveEach_101 : decode cX1_moveEach 101 = .ok (.aload_n 0, 1) := by decide +kernel
theorem dX1_moveEach_102 : decode cX1_moveEach 102 = .ok (.getfield 18, 3) := by decide +kernel
theorem dX1_moveEach_105 : decode cX1_moveEach 105 = .ok (.getfield 59, 3) := by decide +kernel
theorem dX1_moveEach_108 : decode cX1_moveEach 108 = .ok (.invokevirtual 230, 3) := by decide +kernel
theorem dX1_moveEach_111 : decode cX1_moveEach 111 = .ok (.iinc 2 1, 3) := by decide +kernel
theorem dX1_moveEach_114 : decode cX1_moveEach 114 = .ok (.goto (-63), 3) := by decide +kernel
theorem dX1_moveEach_117 : decode cX1_moveEach 117 = .ok (.return_, 1) := by decide +kernel
theorem dX1_moveTop_0 : decode cX1_moveTop 0 = .ok (.aload_n 0, 1) := by decide +kernel
theorem dX1_moveTop_1 : decode cX1_moveTop 1 = .ok (.getfield 86, 3) := by decide +kernel
theorem dX1_moveTop_4 : decode cX1_moveTop 4 = .ok (.iconst 0, 1) := by decide +kernel
theorem dX1_moveTop_5 : decode cX1_moveTop 5 = .ok (.iaload, 1) := by decide +kernel
theorem dX1_moveTop_6 : decode cX1_moveTop 6 = .ok (.bipush 13, 2) := by decide +kernel
theorem dX1_moveTop_8 : decode cX1_moveTop 8 = .ok (.if_icmp .ne 20, 3) := by decide +kernel
theorem dX1_moveTop_11 : decode cX1_moveTop 11 = .ok (.aload_n 0, 1) := by decide +kernel
theorem dX1_moveTop_12 : decode cX1_moveTop 12 = .ok (.getfield 29, 3) := by decide +kernel
theorem dX1_moveTop_15 : decode cX1_moveTop 15 = .ok (.dup, 1) := by decide +kernel
theorem dX1_moveTop_16 : decode cX1_moveTop 16 = .ok (.getfield 209, 3) := by decide +kernel
theorem dX1_moveTop_19 : decode cX1_moveTop 19 = .ok (.aload_n 0, 1) := by decide +kernel
theorem dX1_moveTop_20 : decode cX1_moveTop 20 = .ok (.getfield 116, 3) := by decide +kernel
theorem dX1_moveTop_23 : decode cX1_moveTop 23 = .ok (.ior, 1) := by decide +kernel
theorem dX1_moveTop_24 : decode cX1_moveTop 24 = .ok (.putfield 209, 3) := by decide +kernel
theorem dX1_moveTop_27 : decode cX1_moveTop 27 = .ok (.return_, 1) := by decide +kernel
theorem dX1_moveTop_28 : decode cX1_moveTop 28 = .ok (.aload_n 0, 1) := by decide +kernel
theorem dX1_moveTop_29 : decode cX1_moveTop 29 = .ok (.invokevirtual 212, 3) := by decide +kernel
theorem dX1_moveTop_32 : decode cX1_moveTop 32 = .ok (.istore_n 1, 1) := by decide +kernel
theorem dX1_moveTop_33 : decode cX1_moveTop 33 = .ok (.iload_n 1, 1) := by decide +kernel
theorem dX1_moveTop_34 : decode cX1_moveTop 34 = .ok (.ifCond .ne 17, 3) := by decide +kernel
theorem dX1_moveTop_37 : decode cX1_moveTop 37 = .ok (.aload_n 0, 1) := by decide +kernel
theorem dX1_moveTop_38 : decode cX1_moveTop 38 = .ok (.getfield 29, 3) := by decide +kernel
theorem dX1_moveTop_41 : decode cX1_moveTop 41 = .ok (.aload_n 0, 1) := by decide +kernel
theorem dX1_moveTop_42 : decode cX1_moveTop 42 = .ok (.invokevirtual 215, 3) := by decide +kernel
theorem dX1_moveTop_45 : decode cX1_moveTop 45 = .ok (.invokevirtual 218, 3) := by decide +kernel
theorem dX1_moveTop_48 : decode cX1_moveTop 48 = .ok (.goto 61, 3) := by decide +kernel
theorem dX1_moveTop_51 : decode cX1_moveTop 51 = .ok (.iload_n 1, 1) := by decide +kernel
theorem dX1_moveTop_52 : decode cX1_moveTop 52 = .ok (.aload_n 0, 1) := by decide +kernel
theorem dX1_moveTop_53 : decode cX1_moveTop 53 = .ok (.getfield 116, 3) := by decide +kernel
theorem dX1_moveTop_56 : decode cX1_moveTop 56 = .ok (.if_icmp .ne 19, 3) := by decide +kernel
theorem dX1_moveTop_59 : decode cX1_moveTop 59 = .ok (.aload_n 0, 1) := by decide +kernel
theorem dX1_moveTop_60 : decode cX1_moveTop 60 = .ok (.getfield 29, 3) := by decide +kernel
theorem dX1_moveTop_63 : decode cX1_moveTop 63 = .ok (.aload_n 0, 1) := by decide +kernel
theorem dX1_moveTop_64 : decode cX1_moveTop 64 = .ok (.getfield 86, 3) := by decide +kernel
theorem dX1_moveTop_67 : decode cX1_moveTop 67 = .ok (.iconst 4, 1) := by decide +kernel
theorem dX1_moveTop_68 : decode cX1_moveTop 68 = .ok (.iaload, 1) := by decide +kernel
theorem dX1_moveTop_69 : decode cX1_moveTop 69 = .ok (.invokevirtual 218, 3) := by decide +kernel
theorem dX1_moveTop_72 : decode cX1_moveTop 72 = .ok (.goto 37, 3) := by decide +kernel
theorem dX1_moveTop_75 : decode cX1_moveTop 75 = .ok (.aload_n 0, 1) := by decide +kernel
theorem dX1_moveTop_76 : decode cX1_moveTop 76 = .ok (.getfield 29, 3) := by decide +kernel
theorem dX1_moveTop_79 : decode cX1_moveTop 79 = .ok (.aload_n 0, 1) := by decide +kernel
theorem dX1_moveTop_80 : decode cX1_moveTop 80 = .ok (.getfield 79, 3) := by decide +kernel
theorem dX1_moveTop_83 : decode cX1_moveTop 83 = .ok (.iconst 1, 1) := by decide +kernel
theorem dX1_moveTop_84 : decode cX1_moveTop 84 = .ok (.iadd, 1) := by decide +kernel
theorem dX1_moveTop_85 : decode cX1_moveTop 85 = .ok (.aload_n 0, 1) := by decide +kernel
theorem dX1_moveTop_86 : decode cX1_moveTop 86 = .ok (.getfield 86, 3) := by decide +kernel
theorem dX1_moveTop_89 : decode cX1_moveTop 89 = .ok (.iconst 4, 1) := by decide +kernel
theorem dX1_moveTop_90 : decode cX1_moveTop 90 = .ok (.iaload, 1) := by decide +kernel
theorem dX1_moveTop_91 : decode cX1_moveTop 91 = .ok (.aload_n 0, 1) := by decide +kernel
theorem dX1_moveTop_92 : decode cX1_moveTop 92 = .ok (.getfield 86, 3) := by decide +kernel
theorem dX1_moveTop_95 : decode cX1_moveTop 95 = .ok (.bipush 6, 2) := by decide +kernel
theorem dX1_moveTop_97 : decode cX1_moveTop 97 = .ok (.iaload, 1) := by decide +kernel
theorem dX1_moveTop_98 : decode cX1_moveTop 98 = .ok (.iload_n 1, 1) := by decide +kernel
theorem dX1_moveTop_99 : decode cX1_moveTop 99 = .ok (.aload_n 0, 1) := by decide +kernel
theorem dX1_moveTop_100 : decode cX1_moveTop 100 = .ok (.getfield 18, 3) := by decide +kernel
theorem dX1_moveTop_103 : decode cX1_moveTop 103 = .ok (.getfield 59, 3) := by decide +kernel
theorem dX1_moveTop_106 : decode cX1_moveTop 106 = .ok (.invokevirtual 220, 3) := by decide +kernel
theorem dX1_moveTop_109 : decode cX1_moveTop 109 = .ok (.aload_n 0, 1) := by decide +kernel
theorem dX1_moveTop_110 : decode cX1_moveTop 110 = .ok (.getfield 86, 3) := by decide +kernel
theorem dX1_moveTop_113 : decode cX1_moveTop 113 = .ok (.iconst 0, 1) := by decide +kernel
theorem dX1_moveTop_114 : decode cX1_moveTop 114 = .ok (.iaload, 1) := by decide +kernel
theorem dX1_moveTop_115 : decode cX1_moveTop 115 = .ok (.bipush 14, 2) := by decide +kernel
theorem dX1_moveTop_117 : decode cX1_moveTop 117 = .ok (.if_icmp .ne 10, 3) := by decide +kernel
theorem dX1_moveTop_120 : decode cX1_moveTop 120 = .ok (.aload_n 0, 1) := by decide +kernel
theorem dX1_moveTop_121 : decode cX1_moveTop 121 = .ok (.getfield 29, 3) := by decide +kernel
theorem dX1_moveTop_124 : decode cX1_moveTop 124 = .ok (.invokevirtual 224, 3) := by decide +kernel
theorem dX1_moveTop_127 : decode cX1_moveTop 127 = .ok (.aload_n 0, 1) := by decide +kernel
theorem dX1_moveTop_128 : decode cX1_moveTop 128 = .ok (.getfield 29, 3) := by decide +kernel
theorem dX1_moveTop_131 : decode cX1_moveTop 131 = .ok (.aload_n 0, 1) := by decide +kernel
theorem dX1_moveTop_132 : decode cX1_moveTop 132 = .ok (.getfield 18, 3) := by decide +kernel
theorem dX1_moveTop_135 : decode cX1_moveTop 135 = .ok (.getfield 59, 3) := by decide +kernel
theorem dX1_moveTop_138 : decode cX1_moveTop 138 = .ok (.invokevirtual 227, 3) := by decide +kernel
theorem dX1_moveTop_141 : decode cX1_moveTop 141 = .ok (.return_, 1) := by decide +kernel
theorem dX1_pickLanes_0 : decode cX1_pickLanes 0 = .ok (.aload_n 0, 1) := by decide +kernel
theorem dX1_pickLanes_1 : decode cX1_pickLanes 1 = .ok (.getfield 29, 3) := by decide +kernel
theorem dX1_pickLanes_4 : decode cX1_pickLanes 4 = .ok (.aload_n 0, 1) := by decide +kernel
theorem dX1_pickLanes_5 : decode cX1_pickLanes 5 = .ok (.getfield 68, 3) := by decide +kernel
theorem dX1_pickLanes_8 : decode cX1_pickLanes 8 = .ok (.getfield 50, 3) := by decide +kernel
theorem dX1_pickLanes_11 : decode cX1_pickLanes 11 = .ok (.invokevirtual 112, 3) := by decide +kernel
theorem dX1_pickLanes_14 : decode cX1_pickLanes 14 = .ok (.istore_n 1, 1) := by decide +kernel
theorem dX1_pickLanes_15 : decode cX1_pickLanes 15 = .ok (.aload_n 0, 1) := by decide +kernel
theorem dX1_pickLanes_16 : decode cX1_pickLanes 16 = .ok (.getfield 68, 3) := by decide +kernel
theorem dX1_pickLanes_19 : decode cX1_pickLanes 19 = .ok (.getfield 50, 3) := by decide +kernel
theorem dX1_pickLanes_22 : decode cX1_pickLanes 22 = .ok (.ifCond .ne 34, 3) := by decide +kernel
theorem dX1_pickLanes_25 : decode cX1_pickLanes 25 = .ok (.aload_n 0, 1) := by decide +kernel
theorem dX1_pickLanes_26 : decode cX1_pickLanes 26 = .ok (.iload_n 1, 1) := by decide +kernel
theorem dX1_pickLanes_27 : decode cX1_pickLanes 27 = .ok (.putfield 116, 3) := by decide +kernel
theorem dX1_pickLanes_30 : decode cX1_pickLanes 30 = .ok (.aload_n 0, 1) := by decide +kernel
theorem dX1_pickLanes_31 : decode cX1_pickLanes 31 = .ok (.aload_n 0, 1) := by decide +kernel
theorem dX1_pickLanes_32 : decode cX1_pickLanes 32 = .ok (.getfield 29, 3) := by decide +kernel
theorem dX1_pickLanes_35 : decode cX1_pickLanes 35 = .ok (.getfield 119, 3) := by decide +kernel
theorem dX1_pickLanes_38 : decode cX1_pickLanes 38 = .ok (.aload_n 0, 1) := by decide +kernel
theorem dX1_pickLanes_39 : decode cX1_pickLanes 39 = .ok (.getfield 29, 3) := by decide +kernel
theorem dX1_pickLanes_42 : decode cX1_pickLanes 42 = .ok (.getfield 122, 3) := by decide +kernel
theorem dX1_pickLanes_45 : decode cX1_pickLanes 45 = .ok (.iconst 1, 1) := by decide +kernel
theorem dX1_pickLanes_46 : decode cX1_pickLanes 46 = .ok (.isub, 1) := by decide +kernel
theorem dX1_pickLanes_47 : decode cX1_pickLanes 47 = .ok (.iconst 0, 1) := by decide +kernel
theorem dX1_pickLanes_48 : decode cX1_pickLanes 48 = .ok (.invokestatic 125, 3) := by decide +kernel
theorem dX1_pickLanes_51 : decode cX1_pickLanes 51 = .ok (.iaload, 1) := by decide +kernel
theorem dX1_pickLanes_52 : decode cX1_pickLanes 52 = .ok (.putfield 79, 3) := by decide +kernel
theorem dX1_pickLanes_55 : decode cX1_pickLanes 55 = .ok (.return_, 1) := by decide +kernel
theorem dX1_pickLanes_56 : decode cX1_pickLanes 56 = .ok (.aload_n 0, 1) := by decide +kernel
theorem dX1_pickLanes_57 : decode cX1_pickLanes 57 = .ok (.aload_n 0, 1) := by decide +kernel
theorem dX1_pickLanes_58 : decode cX1_pickLanes 58 = .ok (.getfield 29, 3) := by decide +kernel
theorem dX1_pickLanes_61 : decode cX1_pickLanes 61 = .ok (.getfield 131, 3) := by decide +kernel
theorem dX1_pickLanes_64 : decode cX1_pickLanes 64 = .ok (.putfield 134, 3) := by decide +kernel
theorem dX1_pickLanes_67 : decode cX1_pickLanes 67 = .ok (.iconst 0, 1) := by decide +kernel
theorem dX1_pickLanes_68 : decode cX1_pickLanes 68 = .ok (.istore_n 2, 1) := by decide +kernel
theorem dX1_pickLanes_69 : decode cX1_pickLanes 69 = .ok (.iload_n 2, 1) := by decide +kernel
theorem dX1_pickLanes_70 : decode cX1_pickLanes 70 = .ok (.bipush 8, 2) := by decide +kernel
theorem dX1_pickLanes_72 : decode cX1_pickLanes 72 = .ok (.if_icmp .ge 33, 3) := by decide +kernel
theorem dX1_pickLanes_75 : decode cX1_pickLanes 75 = .ok (.iload_n 1, 1) := by decide +kernel
theorem dX1_pickLanes_76 : decode cX1_pickLanes 76 = .ok (.aload_n 0, 1) := by decide +kernel
theorem dX1_pickLanes_77 : decode cX1_pickLanes 77 = .ok (.getfield 134, 3) := by decide +kernel
theorem dX1_pickLanes_80 : decode cX1_pickLanes 80 = .ok (.ishr, 1) := by decide +kernel
theorem dX1_pickLanes_81 : decode cX1_pickLanes 81 = .ok (.iconst 1, 1) := by decide +kernel
theorem dX1_pickLanes_82 : decode cX1_pickLanes 82 = .ok (.iand, 1) := by decide +kernel
theorem dX1_pickLanes_83 : decode cX1_pickLanes 83 = .ok (.ifCond .ne 22, 3) := by decide +kernel
theorem dX1_pickLanes_86 : decode cX1_pickLanes 86 = .ok (.aload_n 0, 1) := by decide +kernel
theorem dX1_pickLanes_87 : decode cX1_pickLanes 87 = .ok (.aload_n 0, 1) := by decide +kernel
theorem dX1_pickLanes_88 : decode cX1_pickLanes 88 = .ok (.getfield 134, 3) := by decide +kernel
theorem dX1_pickLanes_91 : decode cX1_pickLanes 91 = .ok (.iconst 1, 1) := by decide +kernel
theorem dX1_pickLanes_92 : decode cX1_pickLanes 92 = .ok (.iadd, 1) := by decide +kernel
theorem dX1_pickLanes_93 : decode cX1_pickLanes 93 = .ok (.bipush 8, 2) := by decide +kernel
theorem dX1_pickLanes_95 : decode cX1_pickLanes 95 = .ok (.irem, 1) := by decide +kernel
theorem dX1_pickLanes_96 : decode cX1_pickLanes 96 = .ok (.putfield 134, 3) := by decide +kernel
theorem dX1_pickLanes_99 : decode cX1_pickLanes 99 = .ok (.iinc 2 1, 3) := by decide +kernel
theorem dX1_pickLanes_102 : decode cX1_pickLanes 102 = .ok (.goto (-33), 3) := by decide +kernel
theorem dX1_pickLanes_105 : decode cX1_pickLanes 105 = .ok (.aload_n 0, 1) := by decide +kernel
theorem dX1_pickLanes_106 : decode cX1_pickLanes 106 = .ok (.aload_n 0, 1) := by decide +kernel
theorem dX1_pickLanes_107 : decode cX1_pickLanes 107 = .ok (.getfield 29, 3) := by decide +kernel
theorem dX1_pickLanes_110 : decode cX1_pickLanes 110 = .ok (.getfield 137, 3) := by decide +kernel
theorem dX1_pickLanes_113 : decode cX1_pickLanes 113 = .ok (.aload_n 0, 1) := by decide +kernel
theorem dX1_pickLanes_114 : decode cX1_pickLanes 114 = .ok (.getfield 134, 3) := by decide +kernel
theorem dX1_pickLanes_117 : decode cX1_pickLanes 117 = .ok (.iaload, 1) := by decide +kernel
theorem dX1_pickLanes_118 : decode cX1_pickLanes 118 = .ok (.putfield 79, 3) := by decide +kernel
theorem dX1_pickLanes_121 : decode cX1_pickLanes 121 = .ok (.aload_n 0, 1) := by decide +kernel
theorem dX1_pickLanes_122 : decode cX1_pickLanes 122 = .ok (.iconst 0, 1) := by decide +kernel
theorem dX1_pickLanes_123 : decode cX1_pickLanes 123 = .ok (.putfield 116, 3) := by decide +kernel
theorem dX1_pickLanes_126 : decode cX1_pickLanes 126 = .ok (.iconst 0, 1) := by decide +kernel
theorem dX1_pickLanes_127 : decode cX1_pickLanes 127 = .ok (.istore_n 2, 1) := by decide +kernel
theorem dX1_pickLanes_128 : decode cX1_pickLanes 128 = .ok (.iload_n 2, 1) := by decide +kernel
theorem dX1_pickLanes_129 : decode cX1_pickLanes 129 = .ok (.bipush 8, 2) := by decide +kernel
theorem dX1_pickLanes_131 : decode cX1_pickLanes 131 = .ok (.if_icmp .ge 45, 3) := by decide +kernel
theorem dX1_pickLanes_134 : decode cX1_pickLanes 134 = .ok (.iload_n 1, 1) := by decide +kernel
theorem dX1_pickLanes_135 : decode cX1_pickLanes 135 = .ok (.iload_n 2, 1) := by decide +kernel
theorem dX1_pickLanes_136 : decode cX1_pickLanes 136 = .ok (.ishr, 1) := by decide +kernel
theorem dX1_pickLanes_137 : decode cX1_pickLanes 137 = .ok (.iconst 1, 1) := by decide +kernel
theorem dX1_pickLanes_138 : decode cX1_pickLanes 138 = .ok (.iand, 1) := by decide +kernel
theorem dX1_pickLanes_139 : decode cX1_pickLanes 139 = .ok (.ifCond .eq 31, 3) := by decide +kernel
theorem dX1_pickLanes_142 : decode cX1_pickLanes 142 = .ok (.aload_n 0, 1) := by decide +kernel
theorem dX1_pickLanes_143 : decode cX1_pickLanes 143 = .ok (.getfield 29, 3) := by decide +kernel
theorem dX1_pickLanes_146 : decode cX1_pickLanes 146 = .ok (.getfield 137, 3) := by decide +kernel
theorem dX1_pickLanes_149 : decode cX1_pickLanes 149 = .ok (.iload_n 2, 1) := by decide +kernel
theorem dX1_pickLanes_150 : decode cX1_pickLanes 150 = .ok (.iaload, 1) := by decide +kernel
theorem dX1_pickLanes_151 : decode cX1_pickLanes 151 = .ok (.aload_n 0, 1) := by decide +kernel
theorem dX1_pickLanes_152 : decode cX1_pickLanes 152 = .ok (.getfield 79, 3) := by decide +kernel
theorem dX1_pickLanes_155 : decode cX1_pickLanes 155 = .ok (.if_icmp .ne 15, 3) := by decide +kernel
theorem dX1_pickLanes_158 : decode cX1_pickLanes 158 = .ok (.aload_n 0, 1) := by decide +kernel
theorem dX1_pickLanes_159 : decode cX1_pickLanes 159 = .ok (.dup, 1) := by decide +kernel
theorem dX1_pickLanes_160 : decode cX1_pickLanes 160 = .ok (.getfield 116, 3) := by decide +kernel
theorem dX1_pickLanes_163 : decode cX1_pickLanes 163 = .ok (.iconst 1, 1) := by decide +kernel
theorem dX1_pickLanes_164 : decode cX1_pickLanes 164 = .ok (.iload_n 2, 1) := by decide +kernel
theorem dX1_pickLanes_165 : decode cX1_pickLanes 165 = .ok (.ishl, 1) := by decide +kernel
theorem dX1_pickLanes_166 : decode cX1_pickLanes 166 = .ok (.ior, 1) := by decide +kernel
theorem dX1_pickLanes_167 : decode cX1_pickLanes 167 = .ok (.putfield 116, 3) := by decide +kernel
theorem dX1_pickLanes_170 : decode cX1_pickLanes 170 = .ok (.iinc 2 1, 3) := by decide +kernel
theorem dX1_pickLanes_173 : decode cX1_pickLanes 173 = .ok (.goto (-45), 3) := by decide +kernel
theorem dX1_pickLanes_176 : decode cX1_pickLanes 176 = .ok (.return_, 1) := by decide +kernel
theorem dX1_pickWarp_0 : decode cX1_pickWarp 0 = .ok (.aload_n 0, 1) := by decide +kernel
theorem dX1_pickWarp_1 : decode cX1_pickWarp 1 = .ok (.getfield 68, 3) := by decide +kernel
theorem dX1_pickWarp_4 : decode cX1_pickWarp 4 = .ok (.getfield 92, 3) := by decide +kernel
theorem dX1_pickWarp_7 : decode cX1_pickWarp 7 = .ok (.iconst 1, 1) := by decide +kernel
theorem dX1_pickWarp_8 : decode cX1_pickWarp 8 = .ok (.if_icmp .ne 15, 3) := by decide +kernel
theorem dX1_pickWarp_11 : decode cX1_pickWarp 11 = .ok (.aload_n 0, 1) := by decide +kernel
theorem dX1_pickWarp_12 : decode cX1_pickWarp 12 = .ok (.getfield 68, 3) := by decide +kernel
theorem dX1_pickWarp_15 : decode cX1_pickWarp 15 = .ok (.getfield 95, 3) := by decide +kernel
theorem dX1_pickWarp_18 : decode cX1_pickWarp 18 = .ok (.iconst 1, 1) := by decide +kernel
theorem dX1_pickWarp_19 : decode cX1_pickWarp 19 = .ok (.iadd, 1) := by decide +kernel
theorem dX1_pickWarp_20 : decode cX1_pickWarp 20 = .ok (.goto 4, 3) := by decide +kernel
theorem dX1_pickWarp_23 : decode cX1_pickWarp 23 = .ok (.iconst 0, 1) := by decide +kernel
theorem dX1_pickWarp_24 : decode cX1_pickWarp 24 = .ok (.istore_n 1, 1) := by decide +kernel
theorem dX1_pickWarp_25 : decode cX1_pickWarp 25 = .ok (.iconst 0, 1) := by decide +kernel
theorem dX1_pickWarp_26 : decode cX1_pickWarp 26 = .ok (.istore_n 2, 1) := by decide +kernel
theorem dX1_pickWarp_27 : decode cX1_pickWarp 27 = .ok (.iload_n 2, 1) := by decide +kernel
theorem dX1_pickWarp_28 : decode cX1_pickWarp 28 = .ok (.aload_n 0, 1) := by decide +kernel
theorem dX1_pickWarp_29 : decode cX1_pickWarp 29 = .ok (.getfield 68, 3) := by decide +kernel
theorem dX1_pickWarp_32 : decode cX1_pickWarp 32 = .ok (.getfield 98, 3) := by decide +kernel
theorem dX1_pickWarp_35 : decode cX1_pickWarp 35 = .ok (.if_icmp .ge 52, 3) := by decide +kernel
theorem dX1_pickWarp_38 : decode cX1_pickWarp 38 = .ok (.iload_n 1, 1) := by decide +kernel
theorem dX1_pickWarp_39 : decode cX1_pickWarp 39 = .ok (.iload_n 2, 1) := by decide +kernel
theorem dX1_pickWarp_40 : decode cX1_pickWarp 40 = .ok (.iadd, 1) := by decide +kernel
theorem dX1_pickWarp_41 : decode cX1_pickWarp 41 = .ok (.aload_n 0, 1) := by decide +kernel
theorem dX1_pickWarp_42 : decode cX1_pickWarp 42 = .ok (.getfield 68, 3) := by decide +kernel
theorem dX1_pickWarp_45 : decode cX1_pickWarp 45 = .ok (.getfield 98, 3) := by decide +kernel
theorem dX1_pickWarp_48 : decode cX1_pickWarp 48 = .ok (.irem, 1) := by decide +kernel
theorem dX1_pickWarp_49 : decode cX1_pickWarp 49 = .ok (.istore_n 3, 1) := by decide +kernel
theorem dX1_pickWarp_50 : decode cX1_pickWarp 50 = .ok (.aload_n 0, 1) := by decide +kernel
theorem dX1_pickWarp_51 : decode cX1_pickWarp 51 = .ok (.getfield 68, 3) := by decide +kernel
theorem dX1_pickWarp_54 : decode cX1_pickWarp 54 = .ok (.iload_n 3, 1) := by decide +kernel
theorem dX1_pickWarp_55 : decode cX1_pickWarp 55 = .ok (.invokevirtual 101, 3) := by decide +kernel
theorem dX1_pickWarp_58 : decode cX1_pickWarp 58 = .ok (.ifCond .eq 23, 3) := by decide +kernel
theorem dX1_pickWarp_61 : decode cX1_pickWarp 61 = .ok (.aload_n 0, 1) := by decide +kernel
theorem dX1_pickWarp_62 : decode cX1_pickWarp 62 = .ok (.iload_n 3, 1) := by decide +kernel
theorem dX1_pickWarp_63 : decode cX1_pickWarp 63 = .ok (.putfield 105, 3) := by decide +kernel
theorem dX1_pickWarp_66 : decode cX1_pickWarp 66 = .ok (.aload_n 0, 1) := by decide +kernel
theorem dX1_pickWarp_67 : decode cX1_pickWarp 67 = .ok (.aload_n 0, 1) := by decide +kernel
theorem dX1_pickWarp_68 : decode cX1_pickWarp 68 = .ok (.getfield 68, 3) := by decide +kernel
theorem dX1_pickWarp_71 : decode cX1_pickWarp 71 = .ok (.getfield 108, 3) := by decide +kernel
theorem dX1_pickWarp_74 : decode cX1_pickWarp 74 = .ok (.iload_n 3, 1) := by decide +kernel
theorem dX1_pickWarp_75 : decode cX1_pickWarp 75 = .ok (.aaload, 1) := by decide +kernel
theorem dX1_pickWarp_76 : decode cX1_pickWarp 76 = .ok (.putfield 29, 3) := by decide +kernel
theorem dX1_pickWarp_79 : decode cX1_pickWarp 79 = .ok (.iconst 1, 1) := by decide +kernel
theorem dX1_pickWarp_80 : decode cX1_pickWarp 80 = .ok (.ireturn, 1) := by decide +kernel
theorem dX1_pickWarp_81 : decode cX1_pickWarp 81 = .ok (.iinc 2 1, 3) := by decide +kernel
theorem dX1_pickWarp_84 : decode cX1_pickWarp 84 = .ok (.goto (-57), 3) := by decide +kernel
theorem dX1_pickWarp_87 : decode cX1_pickWarp 87 = .ok (.iconst 0, 1) := by decide +kernel
theorem dX1_pickWarp_88 : decode cX1_pickWarp 88 = .ok (.ireturn, 1) := by decide +kernel
theorem dX1_result_0 : decode cX1_result 0 = .ok (.aload_n 0, 1) := by decide +kernel
theorem dX1_result_1 : decode cX1_result 1 = .ok (.aload_n 0, 1) := by decide +kernel
theorem dX1_result_2 : decode cX1_result 2 = .ok (.getfield 86, 3) := by decide +kernel
theorem dX1_result_5 : decode cX1_result 5 = .ok (.iconst 2, 1) := by decide +kernel
theorem dX1_result_6 : decode cX1_result 6 = .ok (.iaload, 1) := by decide +kernel
theorem dX1_result_7 : decode cX1_result 7 = .ok (.iload_n 2, 1) := by decide +kernel
theorem dX1_result_8 : decode cX1_result 8 = .ok (.invokevirtual 145, 3) := by decide +kernel
theorem dX1_result_11 : decode cX1_result 11 = .ok (.istore_n 3, 1) := by decide +kernel
theorem dX1_result_12 : decode cX1_result 12 = .ok (.aload_n 0, 1) := by decide +kernel
theorem dX1_result_13 : decode cX1_result 13 = .ok (.aload_n 0, 1) := by decide +kernel
theorem dX1_result_14 : decode cX1_result 14 = .ok (.getfield 86, 3) := by decide +kernel
theorem dX1_result_17 : decode cX1_result 17 = .ok (.iconst 3, 1) := by decide +kernel
theorem dX1_result_18 : decode cX1_result 18 = .ok (.iaload, 1) := by decide +kernel
theorem dX1_result_19 : decode cX1_result 19 = .ok (.iload_n 2, 1) := by decide +kernel
theorem dX1_result_20 : decode cX1_result 20 = .ok (.invokevirtual 145, 3) := by decide +kernel
theorem dX1_result_23 : decode cX1_result 23 = .ok (.istore 4, 2) := by decide +kernel
theorem dX1_result_25 : decode cX1_result 25 = .ok (.iload_n 1, 1) := by decide +kernel
theorem dX1_result_26 : decode cX1_result 26 = .ok (.tableswitch 73 0 5 #[38, 40, 45, 50, 55, 71], 38) := by decide +kernel
theorem dX1_result_64 : decode cX1_result 64 = .ok (.iload_n 3, 1) := by decide +kernel
theorem dX1_result_65 : decode cX1_result 65 = .ok (.ireturn, 1) := by decide +kernel
theorem dX1_result_66 : decode cX1_result 66 = .ok (.iload_n 3, 1) := by decide +kernel
theorem dX1_result_67 : decode cX1_result 67 = .ok (.iload 4, 2) := by decide +kernel
theorem dX1_result_69 : decode cX1_result 69 = .ok (.iadd, 1) := by decide +kernel
theorem dX1_result_70 : decode cX1_result 70 = .ok (.ireturn, 1) := by decide +kernel
theorem dX1_result_71 : decode cX1_result 71 = .ok (.iload_n 3, 1) := by decide +kernel
theorem dX1_result_72 : decode cX1_result 72 = .ok (.iload 4, 2) := by decide +kernel
theorem dX1_result_74 : decode cX1_result 74 = .ok (.isub, 1) := by decide +kernel
theorem dX1_result_75 : decode cX1_result 75 = .ok (.ireturn, 1) := by decide +kernel
theorem dX1_result_76 : decode cX1_result 76 = .ok (.iload_n 3, 1) := by decide +kernel
theorem dX1_result_77 : decode cX1_result 77 = .ok (.iload 4, 2) := by decide +kernel
theorem dX1_result_79 : decode cX1_result 79 = .ok (.imul, 1) := by decide +kernel
theorem dX1_result_80 : decode cX1_result 80 = .ok (.ireturn, 1) := by decide +kernel
theorem dX1_result_81 : decode cX1_result 81 = .ok (.iload 4, 2) := by decide +kernel
theorem dX1_result_83 : decode cX1_result 83 = .ok (.ifCond .gt 7, 3) := by decide +kernel
theorem dX1_result_86 : decode cX1_result 86 = .ok (.iconst 0, 1) := by decide +kernel
theorem dX1_result_87 : decode cX1_result 87 = .ok (.goto 9, 3) := by decide +kernel
theorem dX1_result_90 : decode cX1_result 90 = .ok (.iload_n 3, 1) := by decide +kernel
theorem dX1_result_91 : decode cX1_result 91 = .ok (.iload 4, 2) := by decide +kernel
theorem dX1_result_93 : decode cX1_result 93 = .ok (.invokestatic 148, 3) := by decide +kernel
theorem dX1_result_96 : decode cX1_result 96 = .ok (.ireturn, 1) := by decide +kernel
theorem dX1_result_97 : decode cX1_result 97 = .ok (.iload_n 2, 1) := by decide +kernel
theorem dX1_result_98 : decode cX1_result 98 = .ok (.ireturn, 1) := by decide +kernel
theorem dX1_result_99 : decode cX1_result 99 = .ok (.aload_n 0, 1) := by decide +kernel
theorem dX1_result_100 : decode cX1_result 100 = .ok (.getfield 105, 3) := by decide +kernel
theorem dX1_result_103 : decode cX1_result 103 = .ok (.ireturn, 1) := by decide +kernel
theorem dX1_segments_0 : decode cX1_segments 0 = .ok (.iconst 0, 1) := by decide +kernel
theorem dX1_segments_1 : decode cX1_segments 1 = .ok (.istore_n 1, 1) := by decide +kernel
theorem dX1_segments_2 : decode cX1_segments 2 = .ok (.iconst 0, 1) := by decide +kernel
theorem dX1_segments_3 : decode cX1_segments 3 = .ok (.istore_n 2, 1) := by decide +kernel
theorem dX1_segments_4 : decode cX1_segments 4 = .ok (.iload_n 2, 1) := by decide +kernel
theorem dX1_segments_5 : decode cX1_segments 5 = .ok (.bipush 8, 2) := by decide +kernel
theorem dX1_segments_7 : decode cX1_segments 7 = .ok (.if_icmp .ge 31, 3) := by decide +kernel
theorem dX1_segments_10 : decode cX1_segments 10 = .ok (.aload_n 0, 1) := by decide +kernel
theorem dX1_segments_11 : decode cX1_segments 11 = .ok (.iload_n 2, 1) := by decide +kernel
theorem dX1_segments_12 : decode cX1_segments 12 = .ok (.invokevirtual 142, 3) := by decide +kernel
theorem dX1_segments_15 : decode cX1_segments 15 = .ok (.ifCond .eq 17, 3) := by decide +kernel
theorem dX1_segments_18 : decode cX1_segments 18 = .ok (.iload_n 1, 1) := by decide +kernel
theorem dX1_segments_19 : decode cX1_segments 19 = .ok (.iconst 1, 1) := by decide +kernel
theorem dX1_segments_20 : decode cX1_segments 20 = .ok (.aload_n 0, 1) := by decide +kernel
theorem dX1_segments_21 : decode cX1_segments 21 = .ok (.getfield 9, 3) := by decide +kernel
theorem dX1_segments_24 : decode cX1_segments 24 = .ok (.iload_n 2, 1) := by decide +kernel
theorem dX1_segments_25 : decode cX1_segments 25 = .ok (.iaload, 1) := by decide +kernel
theorem dX1_segments_26 : decode cX1_segments 26 = .ok (.bipush 8, 2) := by decide +kernel
theorem dX1_segments_28 : decode cX1_segments 28 = .ok (.idiv, 1) := by decide +kernel
theorem dX1_segments_29 : decode cX1_segments 29 = .ok (.ishl, 1) := by decide +kernel
theorem dX1_segments_30 : decode cX1_segments 30 = .ok (.ior, 1) := by decide +kernel
theorem dX1_segments_31 : decode cX1_segments 31 = .ok (.istore_n 1, 1) := by decide +kernel
theorem dX1_segments_32 : decode cX1_segments 32 = .ok (.iinc 2 1, 3) := by decide +kernel
theorem dX1_segments_35 : decode cX1_segments 35 = .ok (.goto (-31), 3) := by decide +kernel
theorem dX1_segments_38 : decode cX1_segments 38 = .ok (.iload_n 1, 1) := by decide +kernel
theorem dX1_segments_39 : decode cX1_segments 39 = .ok (.invokestatic 151, 3) := by decide +kernel
theorem dX1_segments_42 : decode cX1_segments 42 = .ok (.ireturn, 1) := by decide +kernel
theorem dX1_step_0 : decode cX1_step 0 = .ok (.aload_n 0, 1) := by decide +kernel
theorem dX1_step_1 : decode cX1_step 1 = .ok (.aload_n 1, 1) := by decide +kernel
theorem dX1_step_2 : decode cX1_step 2 = .ok (.invokevirtual 22, 3) := by decide +kernel
theorem dX1_step_5 : decode cX1_step 5 = .ok (.istore_n 2, 1) := by decide +kernel
theorem dX1_step_6 : decode cX1_step 6 = .ok (.iload_n 2, 1) := by decide +kernel
theorem dX1_step_7 : decode cX1_step 7 = .ok (.ifCond .eq 56, 3) := by decide +kernel
theorem dX1_step_10 : decode cX1_step 10 = .ok (.aload_n 0, 1) := by decide +kernel
theorem dX1_step_11 : decode cX1_step 11 = .ok (.invokevirtual 26, 3) := by decide +kernel
theorem dX1_step_14 : decode cX1_step 14 = .ok (.aload_n 0, 1) := by decide +kernel
theorem dX1_step_15 : decode cX1_step 15 = .ok (.getfield 29, 3) := by decide +kernel
theorem dX1_step_18 : decode cX1_step 18 = .ok (.aload_n 1, 1) := by decide +kernel
theorem dX1_step_19 : decode cX1_step 19 = .ok (.getfield 33, 3) := by decide +kernel
theorem dX1_step_22 : decode cX1_step 22 = .ok (.aload_n 0, 1) := by decide +kernel
theorem dX1_step_23 : decode cX1_step 23 = .ok (.getfield 39, 3) := by decide +kernel
theorem dX1_step_26 : decode cX1_step 26 = .ok (.iadd, 1) := by decide +kernel
theorem dX1_step_27 : decode cX1_step 27 = .ok (.putfield 42, 3) := by decide +kernel
theorem dX1_step_30 : decode cX1_step 30 = .ok (.aload_n 0, 1) := by decide +kernel
theorem dX1_step_31 : decode cX1_step 31 = .ok (.invokevirtual 47, 3) := by decide +kernel
theorem dX1_step_34 : decode cX1_step 34 = .ok (.aload_n 1, 1) := by decide +kernel
theorem dX1_step_35 : decode cX1_step 35 = .ok (.getfield 50, 3) := by decide +kernel
theorem dX1_step_38 : decode cX1_step 38 = .ok (.ifCond .ne 10, 3) := by decide +kernel
theorem dX1_step_41 : decode cX1_step 41 = .ok (.aload_n 0, 1) := by decide +kernel
theorem dX1_step_42 : decode cX1_step 42 = .ok (.invokevirtual 53, 3) := by decide +kernel
theorem dX1_step_45 : decode cX1_step 45 = .ok (.goto 7, 3) := by decide +kernel
theorem dX1_step_48 : decode cX1_step 48 = .ok (.aload_n 0, 1) := by decide +kernel
theorem dX1_step_49 : decode cX1_step 49 = .ok (.invokevirtual 56, 3) := by decide +kernel
theorem dX1_step_52 : decode cX1_step 52 = .ok (.aload_n 1, 1) := by decide +kernel
theorem dX1_step_53 : decode cX1_step 53 = .ok (.aload_n 0, 1) := by decide +kernel
theorem dX1_step_54 : decode cX1_step 54 = .ok (.getfield 18, 3) := by decide +kernel
theorem dX1_step_57 : decode cX1_step 57 = .ok (.getfield 59, 3) := by decide +kernel
theorem dX1_step_60 : decode cX1_step 60 = .ok (.invokevirtual 64, 3) := by decide +kernel
theorem dX1_step_63 : decode cX1_step 63 = .ok (.aload_n 1, 1) := by decide +kernel
theorem dX1_step_64 : decode cX1_step 64 = .ok (.dup, 1) := by decide +kernel
theorem dX1_step_65 : decode cX1_step 65 = .ok (.getfield 33, 3) := by decide +kernel
theorem dX1_step_68 : decode cX1_step 68 = .ok (.iconst 1, 1) := by decide +kernel
theorem dX1_step_69 : decode cX1_step 69 = .ok (.iadd, 1) := by decide +kernel
theorem dX1_step_70 : decode cX1_step 70 = .ok (.putfield 33, 3) := by decide +kernel
theorem dX1_step_73 : decode cX1_step 73 = .ok (.iload_n 2, 1) := by decide +kernel
theorem dX1_step_74 : decode cX1_step 74 = .ok (.ireturn, 1) := by decide +kernel
theorem dX1_take_0 : decode cX1_take 0 = .ok (.aload_n 0, 1) := by decide +kernel
theorem dX1_take_1 : decode cX1_take 1 = .ok (.aload_n 1, 1) := by decide +kernel
theorem dX1_take_2 : decode cX1_take 2 = .ok (.putfield 18, 3) := by decide +kernel
theorem dX1_take_5 : decode cX1_take 5 = .ok (.return_, 1) := by decide +kernel
theorem dX1_valueOf_0 : decode cX1_valueOf 0 = .ok (.iload_n 1, 1) := by decide +kernel
theorem dX1_valueOf_1 : decode cX1_valueOf 1 = .ok (.ifCond .lt 7, 3) := by decide +kernel
theorem dX1_valueOf_4 : decode cX1_valueOf 4 = .ok (.iload_n 1, 1) := by decide +kernel
theorem dX1_valueOf_5 : decode cX1_valueOf 5 = .ok (.goto 20, 3) := by decide +kernel
theorem dX1_valueOf_8 : decode cX1_valueOf 8 = .ok (.aload_n 0, 1) := by decide +kernel
theorem dX1_valueOf_9 : decode cX1_valueOf 9 = .ok (.getfield 29, 3) := by decide +kernel
theorem dX1_valueOf_12 : decode cX1_valueOf 12 = .ok (.getfield 139, 3) := by decide +kernel
theorem dX1_valueOf_15 : decode cX1_valueOf 15 = .ok (.iload_n 2, 1) := by decide +kernel
theorem dX1_valueOf_16 : decode cX1_valueOf 16 = .ok (.iconst 4, 1) := by decide +kernel
theorem dX1_valueOf_17 : decode cX1_valueOf 17 = .ok (.imul, 1) := by decide +kernel
theorem dX1_valueOf_18 : decode cX1_valueOf 18 = .ok (.iconst (-1), 1) := by decide +kernel
theorem dX1_valueOf_19 : decode cX1_valueOf 19 = .ok (.iload_n 1, 1) := by decide +kernel
theorem dX1_valueOf_20 : decode cX1_valueOf 20 = .ok (.isub, 1) := by decide +kernel
theorem dX1_valueOf_21 : decode cX1_valueOf 21 = .ok (.iconst 3, 1) := by decide +kernel
theorem dX1_valueOf_22 : decode cX1_valueOf 22 = .ok (.iand, 1) := by decide +kernel
theorem dX1_valueOf_23 : decode cX1_valueOf 23 = .ok (.iadd, 1) := by decide +kernel
theorem dX1_valueOf_24 : decode cX1_valueOf 24 = .ok (.iaload, 1) := by decide +kernel
theorem dX1_valueOf_25 : decode cX1_valueOf 25 = .ok (.ireturn, 1) := by decide +kernel
theorem dX1_work_0 : decode cX1_work 0 = .ok (.aload_n 0, 1) := by decide +kernel
theorem dX1_work_1 : decode cX1_work 1 = .ok (.getfield 86, 3) := by decide +kernel
theorem dX1_work_4 : decode cX1_work 4 = .ok (.iconst 0, 1) := by decide +kernel
theorem dX1_work_5 : decode cX1_work 5 = .ok (.iaload, 1) := by decide +kernel
theorem dX1_work_6 : decode cX1_work 6 = .ok (.istore_n 1, 1) := by decide +kernel
theorem dX1_work_7 : decode cX1_work 7 = .ok (.iload_n 1, 1) := by decide +kernel
theorem dX1_work_8 : decode cX1_work 8 = .ok (.bipush 11, 2) := by decide +kernel
theorem dX1_work_10 : decode cX1_work 10 = .ok (.if_icmp .le 4, 3) := by decide +kernel
theorem dX1_work_13 : decode cX1_work 13 = .ok (.return_, 1) := by decide +kernel
theorem dX1_work_14 : decode cX1_work 14 = .ok (.iconst 0, 1) := by decide +kernel
theorem dX1_work_15 : decode cX1_work 15 = .ok (.istore_n 2, 1) := by decide +kernel
theorem dX1_work_16 : decode cX1_work 16 = .ok (.iload_n 2, 1) := by decide +kernel
theorem dX1_work_17 : decode cX1_work 17 = .ok (.bipush 8, 2) := by decide +kernel
theorem dX1_work_19 : decode cX1_work 19 = .ok (.if_icmp .ge 59, 3) := by decide +kernel
theorem dX1_work_22 : decode cX1_work 22 = .ok (.aload_n 0, 1) := by decide +kernel
theorem dX1_work_23 : decode cX1_work 23 = .ok (.iload_n 2, 1) := by decide +kernel
theorem dX1_work_24 : decode cX1_work 24 = .ok (.invokevirtual 142, 3) := by decide +kernel
theorem dX1_work_27 : decode cX1_work 27 = .ok (.ifCond .eq 45, 3) := by decide +kernel
theorem dX1_work_30 : decode cX1_work 30 = .ok (.iload_n 1, 1) := by decide +kernel
theorem dX1_work_31 : decode cX1_work 31 = .ok (.bipush 7, 2) := by decide +kernel
theorem dX1_work_33 : decode cX1_work 33 = .ok (.if_icmp .ge 33, 3) := by decide +kernel
theorem dX1_work_36 : decode cX1_work 36 = .ok (.aload_n 0, 1) := by decide +kernel
theorem dX1_work_37 : decode cX1_work 37 = .ok (.getfield 29, 3) := by decide +kernel
theorem dX1_work_40 : decode cX1_work 40 = .ok (.getfield 139, 3) := by decide +kernel
theorem dX1_work_43 : decode cX1_work 43 = .ok (.iload_n 2, 1) := by decide +kernel
theorem dX1_work_44 : decode cX1_work 44 = .ok (.iconst 4, 1) := by decide +kernel
theorem dX1_work_45 : decode cX1_work 45 = .ok (.imul, 1) := by decide +kernel
theorem dX1_work_46 : decode cX1_work 46 = .ok (.aload_n 0, 1) := by decide +kernel
theorem dX1_work_47 : decode cX1_work 47 = .ok (.getfield 86, 3) := by decide +kernel
theorem dX1_work_50 : decode cX1_work 50 = .ok (.iconst 1, 1) := by decide +kernel
theorem dX1_work_51 : decode cX1_work 51 = .ok (.iaload, 1) := by decide +kernel
theorem dX1_work_52 : decode cX1_work 52 = .ok (.iadd, 1) := by decide +kernel
theorem dX1_work_53 : decode cX1_work 53 = .ok (.aload_n 0, 1) := by decide +kernel
theorem dX1_work_54 : decode cX1_work 54 = .ok (.iload_n 1, 1) := by decide +kernel
theorem dX1_work_55 : decode cX1_work 55 = .ok (.iload_n 2, 1) := by decide +kernel
theorem dX1_work_56 : decode cX1_work 56 = .ok (.invokevirtual 179, 3) := by decide +kernel
theorem dX1_work_59 : decode cX1_work 59 = .ok (.invokestatic 182, 3) := by decide +kernel
theorem dX1_work_62 : decode cX1_work 62 = .ok (.iastore, 1) := by decide +kernel
theorem dX1_work_63 : decode cX1_work 63 = .ok (.goto 9, 3) := by decide +kernel
theorem dX1_work_66 : decode cX1_work 66 = .ok (.aload_n 0, 1) := by decide +kernel
theorem dX1_work_67 : decode cX1_work 67 = .ok (.iload_n 1, 1) := by decide +kernel
theorem dX1_work_68 : decode cX1_work 68 = .ok (.iload_n 2, 1) := by decide +kernel
theorem dX1_work_69 : decode cX1_work 69 = .ok (.invokevirtual 185, 3) := by decide +kernel
theorem dX1_work_72 : decode cX1_work 72 = .ok (.iinc 2 1, 3) := by decide +kernel
theorem dX1_work_75 : decode cX1_work 75 = .ok (.goto (-59), 3) := by decide +kernel
theorem dX1_work_78 : decode cX1_work 78 = .ok (.return_, 1) := by decide +kernel
theorem dX2_addLine_0 : decode cX2_addLine 0 = .ok (.aload_n 0, 1) := by decide +kernel
theorem dX2_addLine_1 : decode cX2_addLine 1 = .ok (.getfield 11, 3) := by decide +kernel
theorem dX2_addLine_4 : decode cX2_addLine 4 = .ok (.aload_n 0, 1) := by decide +kernel
theorem dX2_addLine_5 : decode cX2_addLine 5 = .ok (.getfield 30, 3) := by decide +kernel
theorem dX2_addLine_8 : decode cX2_addLine 8 = .ok (.aaload, 1) := by decide +kernel
theorem dX2_addLine_9 : decode cX2_addLine 9 = .ok (.ldc 43, 2) := by decide +kernel
theorem dX2_addLine_11 : decode cX2_addLine 11 = .ok (.invokestatic 24, 3) := by decide +kernel
theorem dX2_addLine_14 : decode cX2_addLine 14 = .ok (.aload_n 0, 1) := by decide +kernel
theorem dX2_addLine_15 : decode cX2_addLine 15 = .ok (.getfield 11, 3) := by decide +kernel
theorem dX2_addLine_18 : decode cX2_addLine 18 = .ok (.aload_n 0, 1) := by decide +kernel
theorem dX2_addLine_19 : decode cX2_addLine 19 = .ok (.getfield 30, 3) := by decide +kernel
theorem dX2_addLine_22 : decode cX2_addLine 22 = .ok (.aaload, 1) := by decide +kernel
theorem dX2_addLine_23 : decode cX2_addLine 23 = .ok (.iconst 0, 1) := by decide +kernel
theorem dX2_addLine_24 : decode cX2_addLine 24 = .ok (.iload_n 1, 1) := by decide +kernel
theorem dX2_addLine_25 : decode cX2_addLine 25 = .ok (.iastore, 1) := by decide +kernel
theorem dX2_addLine_26 : decode cX2_addLine 26 = .ok (.aload_n 0, 1) := by decide +kernel
theorem dX2_addLine_27 : decode cX2_addLine 27 = .ok (.dup, 1) := by decide +kernel
theorem dX2_addLine_28 : decode cX2_addLine 28 = .ok (.getfield 30, 3) := by decide +kernel
theorem dX2_addLine_31 : decode cX2_addLine 31 = .ok (.iconst 1, 1) := by decide +kernel
theorem dX2_addLine_32 : decode cX2_addLine 32 = .ok (.iadd, 1) := by decide +kernel
theorem dX2_addLine_33 : decode cX2_addLine 33 = .ok (.putfield 30, 3) := by decide +kernel
theorem dX2_addLine_36 : decode cX2_addLine 36 = .ok (.return_, 1) := by decide +kernel
theorem dX2_clear_0 : decode cX2_clear 0 = .ok (.aload_n 0, 1) := by decide +kernel
theorem dX2_clear_1 : decode cX2_clear 1 = .ok (.getfield 16, 3) := by decide +kernel
theorem dX2_clear_4 : decode cX2_clear 4 = .ok (.iconst 0, 1) := by decide +kernel
theorem dX2_clear_5 : decode cX2_clear 5 = .ok (.invokestatic 24, 3) := by decide +kernel
theorem dX2_clear_8 : decode cX2_clear 8 = .ok (.aload_n 0, 1) := by decide +kernel
theorem dX2_clear_9 : decode cX2_clear 9 = .ok (.iconst 0, 1) := by decide +kernel
theorem dX2_clear_10 : decode cX2_clear 10 = .ok (.putfield 30, 3) := by decide +kernel
theorem dX2_clear_13 : decode cX2_clear 13 = .ok (.aload_n 0, 1) := by decide +kernel
theorem dX2_clear_14 : decode cX2_clear 14 = .ok (.iconst 0, 1) := by decide +kernel
theorem dX2_clear_15 : decode cX2_clear 15 = .ok (.putfield 34, 3) := by decide +kernel
theorem dX2_clear_18 : decode cX2_clear 18 = .ok (.aload_n 0, 1) := by decide +kernel
theorem dX2_clear_19 : decode cX2_clear 19 = .ok (.iconst 0, 1) := by decide +kernel
theorem dX2_clear_20 : decode cX2_clear 20 = .ok (.putfield 37, 3) := by decide +kernel
theorem dX2_clear_23 : decode cX2_clear 23 = .ok (.aload_n 0, 1) := by decide +kernel
theorem dX2_clear_24 : decode cX2_clear 24 = .ok (.iconst 0, 1) := by decide +kernel
theorem dX2_clear_25 : decode cX2_clear 25 = .ok (.putfield 40, 3) := by decide +kernel
theorem dX2_clear_28 : decode cX2_clear 28 = .ok (.return_, 1) := by decide +kernel
theorem dX2_findMeets_0 : decode cX2_findMeets 0 = .ok (.aload_n 0, 1) := by decide +kernel
theorem dX2_findMeets_1 : decode cX2_findMeets 1 = .ok (.invokevirtual 50, 3) := by decide +kernel
theorem dX2_findMeets_4 : decode cX2_findMeets 4 = .ok (.iconst 0, 1) := by decide +kernel
theorem dX2_findMeets_5 : decode cX2_findMeets 5 = .ok (.istore_n 1, 1) := by decide +kernel
theorem dX2_findMeets_6 : decode cX2_findMeets 6 = .ok (.iload_n 1, 1) := by decide +kernel
theorem dX2_findMeets_7 : decode cX2_findMeets 7 = .ok (.aload_n 0, 1) := by decide +kernel
theorem dX2_findMeets_8 : decode cX2_findMeets 8 = .ok (.getfield 30, 3) := by decide +kernel
theorem dX2_findMeets_11 : decode cX2_findMeets 11 = .ok (.if_icmp .ge 49, 3) := by decide +kernel
theorem dX2_findMeets_14 : decode cX2_findMeets 14 = .ok (.aload_n 0, 1) := by decide +kernel
theorem dX2_findMeets_15 : decode cX2_findMeets 15 = .ok (.getfield 11, 3) := by decide +kernel
theorem dX2_findMeets_18 : decode cX2_findMeets 18 = .ok (.iload_n 1, 1) := by decide +kernel
theorem dX2_findMeets_19 : decode cX2_findMeets 19 = .ok (.aaload, 1) := by decide +kernel
theorem dX2_findMeets_20 : decode cX2_findMeets 20 = .ok (.iconst 0, 1) := by decide +kernel
theorem dX2_findMeets_21 : decode cX2_findMeets 21 = .ok (.iaload, 1) := by decide +kernel
theorem dX2_findMeets_22 : decode cX2_findMeets 22 = .ok (.bipush 12, 2) := by decide +kernel
theorem dX2_findMeets_24 : decode cX2_findMeets 24 = .ok (.if_icmp .ne 30, 3) := by decide +kernel
theorem dX2_findMeets_27 : decode cX2_findMeets 27 = .ok (.aload_n 0, 1) := by decide +kernel
theorem dX2_findMeets_28 : decode cX2_findMeets 28 = .ok (.getfield 11, 3) := by decide +kernel
theorem dX2_findMeets_31 : decode cX2_findMeets 31 = .ok (.iload_n 1, 1) := by decide +kernel
theorem dX2_findMeets_32 : decode cX2_findMeets 32 = .ok (.aaload, 1) := by decide +kernel
theorem dX2_findMeets_33 : decode cX2_findMeets 33 = .ok (.iconst 5, 1) := by decide +kernel
theorem dX2_findMeets_34 : decode cX2_findMeets 34 = .ok (.iaload, 1) := by decide +kernel
theorem dX2_findMeets_35 : decode cX2_findMeets 35 = .ok (.ldc 43, 2) := by decide +kernel
theorem dX2_findMeets_37 : decode cX2_findMeets 37 = .ok (.if_icmp .eq 17, 3) := by decide +kernel
theorem dX2_findMeets_40 : decode cX2_findMeets 40 = .ok (.aload_n 0, 1) := by decide +kernel
theorem dX2_findMeets_41 : decode cX2_findMeets 41 = .ok (.getfield 11, 3) := by decide +kernel
theorem dX2_findMeets_44 : decode cX2_findMeets 44 = .ok (.iload_n 1, 1) := by decide +kernel
theorem dX2_findMeets_45 : decode cX2_findMeets 45 = .ok (.aaload, 1) := by decide +kernel
theorem dX2_findMeets_46 : decode cX2_findMeets 46 = .ok (.bipush 6, 2) := by decide +kernel
theorem dX2_findMeets_48 : decode cX2_findMeets 48 = .ok (.aload_n 0, 1) := by decide +kernel
theorem dX2_findMeets_49 : decode cX2_findMeets 49 = .ok (.iload_n 1, 1) := by decide +kernel
theorem dX2_findMeets_50 : decode cX2_findMeets 50 = .ok (.invokevirtual 53, 3) := by decide +kernel
theorem dX2_findMeets_53 : decode cX2_findMeets 53 = .ok (.iastore, 1) := by decide +kernel
theorem dX2_findMeets_54 : decode cX2_findMeets 54 = .ok (.iinc 1 1, 3) := by decide +kernel
theorem dX2_findMeets_57 : decode cX2_findMeets 57 = .ok (.goto (-51), 3) := by decide +kernel
theorem dX2_findMeets_60 : decode cX2_findMeets 60 = .ok (.return_, 1) := by decide +kernel
theorem dX2_findPassed_0 : decode cX2_findPassed 0 = .ok (.lconst 1, 1) := by decide +kernel
theorem dX2_findPassed_1 : decode cX2_findPassed 1 = .ok (.aload_n 0, 1) := by decide +kernel
theorem dX2_findPassed_2 : decode cX2_findPassed 2 = .ok (.getfield 30, 3) := by decide +kernel
theorem dX2_findPassed_5 : decode cX2_findPassed 5 = .ok (.iconst 1, 1) := by decide +kernel
theorem dX2_findPassed_6 : decode cX2_findPassed 6 = .ok (.iadd, 1) := by decide +kernel
theorem dX2_findPassed_7 : decode cX2_findPassed 7 = .ok (.lshl, 1) := by decide +kernel
theorem dX2_findPassed_8 : decode cX2_findPassed 8 = .ok (.lconst 1, 1) := by decide +kernel
theorem dX2_findPassed_9 : decode cX2_findPassed 9 = .ok (.lsub, 1) := by decide +kernel
theorem dX2_findPassed_10 : decode cX2_findPassed 10 = .ok (.lstore_n 1, 1) := by decide +kernel
theorem dX2_findPassed_11 : decode cX2_findPassed 11 = .ok (.aload_n 0, 1) := by decide +kernel
theorem dX2_findPassed_12 : decode cX2_findPassed 12 = .ok (.getfield 20, 3) := by decide +kernel
theorem dX2_findPassed_15 : decode cX2_findPassed 15 = .ok (.lload_n 1, 1) := by decide +kernel
theorem dX2_findPassed_16 : decode cX2_findPassed 16 = .ok (.invokestatic 57, 3) := by decide +kernel
theorem dX2_findPassed_19 : decode cX2_findPassed 19 = .ok (.aload_n 0, 1) := by decide +kernel
theorem dX2_findPassed_20 : decode cX2_findPassed 20 = .ok (.getfield 20, 3) := by decide +kernel
theorem dX2_findPassed_23 : decode cX2_findPassed 23 = .ok (.aload_n 0, 1) := by decide +kernel
theorem dX2_findPassed_24 : decode cX2_findPassed 24 = .ok (.getfield 30, 3) := by decide +kernel
theorem dX2_findPassed_27 : decode cX2_findPassed 27 = .ok (.lconst 1, 1) := by decide +kernel
theorem dX2_findPassed_28 : decode cX2_findPassed 28 = .ok (.aload_n 0, 1) := by decide +kernel
theorem dX2_findPassed_29 : decode cX2_findPassed 29 = .ok (.getfield 30, 3) := by decide +kernel
theorem dX2_findPassed_32 : decode cX2_findPassed 32 = .ok (.lshl, 1) := by decide +kernel
theorem dX2_findPassed_33 : decode cX2_findPassed 33 = .ok (.lastore, 1) := by decide +kernel
theorem dX2_findPassed_34 : decode cX2_findPassed 34 = .ok (.iconst 1, 1) := by decide +kernel
theorem dX2_findPassed_35 : decode cX2_findPassed 35 = .ok (.istore_n 3, 1) := by decide +kernel
theorem dX2_findPassed_36 : decode cX2_findPassed 36 = .ok (.iconst 0, 1) := by decide +kernel
theorem dX2_findPassed_37 : decode cX2_findPassed 37 = .ok (.istore 4, 2) := by decide +kernel
theorem dX2_findPassed_39 : decode cX2_findPassed 39 = .ok (.iload_n 3, 1) := by decide +kernel
theorem dX2_findPassed_40 : decode cX2_findPassed 40 = .ok (.ifCond .eq 75, 3) := by decide +kernel
theorem dX2_findPassed_43 : decode cX2_findPassed 43 = .ok (.iload 4, 2) := by decide +kernel
theorem dX2_findPassed_45 : decode cX2_findPassed 45 = .ok (.sipush 1640, 3) := by decide +kernel
theorem dX2_findPassed_48 : decode cX2_findPassed 48 = .ok (.if_icmp .gt 67, 3) := by decide +kernel
theorem dX2_findPassed_51 : decode cX2_findPassed 51 = .ok (.iconst 0, 1) := by decide +kernel
theorem dX2_findPassed_52 : decode cX2_findPassed 52 = .ok (.istore_n 3, 1) := by decide +kernel
theorem dX2_findPassed_53 : decode cX2_findPassed 53 = .ok (.aload_n 0, 1) := by decide +kernel
theorem dX2_findPassed_54 : decode cX2_findPassed 54 = .ok (.getfield 30, 3) := by decide +kernel
theorem dX2_findPassed_57 : decode cX2_findPassed 57 = .ok (.iconst 1, 1) := by decide +kernel
theorem dX2_findPassed_58 : decode cX2_findPassed 58 = .ok (.isub, 1) := by decide +kernel
theorem dX2_findPassed_59 : decode cX2_findPassed 59 = .ok (.istore 5, 2) := by decide +kernel
theorem dX2_findPassed_61 : decode cX2_findPassed 61 = .ok (.iload 5, 2) := by decide +kernel
theorem dX2_findPassed_63 : decode cX2_findPassed 63 = .ok (.ifCond .lt 46, 3) := by decide +kernel
theorem dX2_findPassed_66 : decode cX2_findPassed 66 = .ok (.aload_n 0, 1) := by decide +kernel
theorem dX2_findPassed_67 : decode cX2_findPassed 67 = .ok (.iload 5, 2) := by decide +kernel
theorem dX2_findPassed_69 : decode cX2_findPassed 69 = .ok (.invokevirtual 60, 3) := by decide +kernel
theorem dX2_findPassed_72 : decode cX2_findPassed 72 = .ok (.lconst 1, 1) := by decide +kernel
theorem dX2_findPassed_73 : decode cX2_findPassed 73 = .ok (.iload 5, 2) := by decide +kernel
theorem dX2_findPassed_75 : decode cX2_findPassed 75 = .ok (.lshl, 1) := by decide +kernel
theorem dX2_findPassed_76 : decode cX2_findPassed 76 = .ok (.lor, 1) := by decide +kernel
theorem dX2_findPassed_77 : decode cX2_findPassed 77 = .ok (.lstore 6, 2) := by decide +kernel
theorem dX2_findPassed_79 : decode cX2_findPassed 79 = .ok (.lload 6, 2) := by decide +kernel
theorem dX2_findPassed_81 : decode cX2_findPassed 81 = .ok (.aload_n 0, 1) := by decide +kernel
theorem dX2_findPassed_82 : decode cX2_findPassed 82 = .ok (.getfield 20, 3) := by decide +kernel
theorem dX2_findPassed_85 : decode cX2_findPassed 85 = .ok (.iload 5, 2) := by decide +kernel
theorem dX2_findPassed_87 : decode cX2_findPassed 87 = .ok (.laload, 1) := by decide +kernel
theorem dX2_findPassed_88 : decode cX2_findPassed 88 = .ok (.lcmp, 1) := by decide +kernel
theorem dX2_findPassed_89 : decode cX2_findPassed 89 = .ok (.ifCond .eq 14, 3) := by decide +kernel
theorem dX2_findPassed_92 : decode cX2_findPassed 92 = .ok (.aload_n 0, 1) := by decide +kernel
theorem dX2_findPassed_93 : decode cX2_findPassed 93 = .ok (.getfield 20, 3) := by decide +kernel
theorem dX2_findPassed_96 : decode cX2_findPassed 96 = .ok (.iload 5, 2) := by decide +kernel
theorem dX2_findPassed_98 : decode cX2_findPassed 98 = .ok (.lload 6, 2) := by decide +kernel
theorem dX2_findPassed_100 : decode cX2_findPassed 100 = .ok (.lastore, 1) := by decide +kernel
theorem dX2_findPassed_101 : decode cX2_findPassed 101 = .ok (.iconst 1, 1) := by decide +kernel
theorem dX2_findPassed_102 : decode cX2_findPassed 102 = .ok (.istore_n 3, 1) := by decide +kernel
theorem dX2_findPassed_103 : decode cX2_findPassed 103 = .ok (.iinc 5 (-1), 3) := by decide +kernel
theorem dX2_findPassed_106 : decode cX2_findPassed 106 = .ok (.goto (-45), 3) := by decide +kernel
theorem dX2_findPassed_109 : decode cX2_findPassed 109 = .ok (.iinc 4 1, 3) := by decide +kernel
theorem dX2_findPassed_112 : decode cX2_findPassed 112 = .ok (.goto (-73), 3) := by decide +kernel
theorem dX2_findPassed_115 : decode cX2_findPassed 115 = .ok (.return_, 1) := by decide +kernel
theorem dX2_init_0 : decode cX2_init 0 = .ok (.aload_n 0, 1) := by decide +kernel
theorem dX2_init_1 : decode cX2_init 1 = .ok (.invokespecial 3, 3) := by decide +kernel
theorem dX2_init_4 : decode cX2_init 4 = .ok (.aload_n 0, 1) := by decide +kernel
theorem dX2_init_5 : decode cX2_init 5 = .ok (.bipush 40, 2) := by decide +kernel
theorem dX2_init_7 : decode cX2_init 7 = .ok (.bipush 7, 2) := by decide +kernel
theorem dX2_init_9 : decode cX2_init 9 = .ok (.multianewarray 9 2, 4) := by decide +kernel
theorem dX2_init_13 : decode cX2_init 13 = .ok (.putfield 11, 3) := by decide +kernel
theorem dX2_init_16 : decode cX2_init 16 = .ok (.aload_n 0, 1) := by decide +kernel
theorem dX2_init_17 : decode cX2_init 17 = .ok (.bipush 64, 2) := by decide +kernel
theorem dX2_init_19 : decode cX2_init 19 = .ok (.newarray .int, 2) := by decide +kernel
theorem dX2_init_21 : decode cX2_init 21 = .ok (.putfield 16, 3) := by decide +kernel
theorem dX2_init_24 : decode cX2_init 24 = .ok (.aload_n 0, 1) := by decide +kernel
theorem dX2_init_25 : decode cX2_init 25 = .ok (.bipush 41, 2) := by decide +kernel
theorem dX2_init_27 : decode cX2_init 27 = .ok (.newarray .long, 2) := by decide +kernel
theorem dX2_init_29 : decode cX2_init 29 = .ok (.putfield 20, 3) := by decide +kernel
theorem dX2_init_32 : decode cX2_init 32 = .ok (.return_, 1) := by decide +kernel
theorem dX2_latest_0 : decode cX2_latest 0 = .ok (.aload_n 0, 1) := by decide +kernel
theorem dX2_latest_1 : decode cX2_latest 1 = .ok (.getfield 11, 3) := by decide +kernel
theorem dX2_latest_4 : decode cX2_latest 4 = .ok (.aload_n 0, 1) := by decide +kernel
theorem dX2_latest_5 : decode cX2_latest 5 = .ok (.getfield 30, 3) := by decide +kernel
theorem dX2_latest_8 : decode cX2_latest 8 = .ok (.iconst 1, 1) := by decide +kernel
theorem dX2_latest_9 : decode cX2_latest 9 = .ok (.isub, 1) := by decide +kernel
theorem dX2_latest_10 : decode cX2_latest 10 = .ok (.iconst 0, 1) := by decide +kernel
theorem dX2_latest_11 : decode cX2_latest 11 = .ok (.invokestatic 44, 3) := by decide +kernel
theorem dX2_latest_14 : decode cX2_latest 14 = .ok (.aaload, 1) := by decide +kernel
theorem dX2_latest_15 : decode cX2_latest 15 = .ok (.areturn, 1) := by decide +kernel
theorem dX2_meetOf_0 : decode cX2_meetOf 0 = .ok (.aload_n 0, 1) := by decide +kernel
theorem dX2_meetOf_1 : decode cX2_meetOf 1 = .ok (.iload_n 1, 1) := by decide +kernel
theorem dX2_meetOf_2 : decode cX2_meetOf 2 = .ok (.invokevirtual 60, 3) := by decide +kernel
theorem dX2_meetOf_5 : decode cX2_meetOf 5 = .ok (.lstore_n 2, 1) := by decide +kernel
theorem dX2_meetOf_6 : decode cX2_meetOf 6 = .ok (.lload_n 2, 1) := by decide +kernel
theorem dX2_meetOf_7 : decode cX2_meetOf 7 = .ok (.iload_n 1, 1) := by decide +kernel
theorem dX2_meetOf_8 : decode cX2_meetOf 8 = .ok (.lshr, 1) := by decide +kernel
theorem dX2_meetOf_9 : decode cX2_meetOf 9 = .ok (.lconst 1, 1) := by decide +kernel
theorem dX2_meetOf_10 : decode cX2_meetOf 10 = .ok (.land, 1) := by decide +kernel
theorem dX2_meetOf_11 : decode cX2_meetOf 11 = .ok (.lconst 0, 1) := by decide +kernel
theorem dX2_meetOf_12 : decode cX2_meetOf 12 = .ok (.lcmp, 1) := by decide +kernel
theorem dX2_meetOf_13 : decode cX2_meetOf 13 = .ok (.ifCond .eq 7, 3) := by decide +kernel
theorem dX2_meetOf_16 : decode cX2_meetOf 16 = .ok (.iconst 1, 1) := by decide +kernel
theorem dX2_meetOf_17 : decode cX2_meetOf 17 = .ok (.goto 4, 3) := by decide +kernel
theorem dX2_meetOf_20 : decode cX2_meetOf 20 = .ok (.iconst 0, 1) := by decide +kernel
theorem dX2_meetOf_21 : decode cX2_meetOf 21 = .ok (.istore 4, 2) := by decide +kernel
theorem dX2_meetOf_23 : decode cX2_meetOf 23 = .ok (.iconst 0, 1) := by decide +kernel
theorem dX2_meetOf_24 : decode cX2_meetOf 24 = .ok (.istore 5, 2) := by decide +kernel
theorem dX2_meetOf_26 : decode cX2_meetOf 26 = .ok (.iload 4, 2) := by decide +kernel
theorem dX2_meetOf_28 : decode cX2_meetOf 28 = .ok (.ifCond .ne 44, 3) := by decide +kernel
theorem dX2_meetOf_31 : decode cX2_meetOf 31 = .ok (.iload 5, 2) := by decide +kernel
theorem dX2_meetOf_33 : decode cX2_meetOf 33 = .ok (.aload_n 0, 1) := by decide +kernel
theorem dX2_meetOf_34 : decode cX2_meetOf 34 = .ok (.getfield 30, 3) := by decide +kernel
theorem dX2_meetOf_37 : decode cX2_meetOf 37 = .ok (.if_icmp .ge 35, 3) := by decide +kernel
theorem dX2_meetOf_40 : decode cX2_meetOf 40 = .ok (.lload_n 2, 1) := by decide +kernel
theorem dX2_meetOf_41 : decode cX2_meetOf 41 = .ok (.iload 5, 2) := by decide +kernel
theorem dX2_meetOf_43 : decode cX2_meetOf 43 = .ok (.lshr, 1) := by decide +kernel
theorem dX2_meetOf_44 : decode cX2_meetOf 44 = .ok (.lconst 1, 1) := by decide +kernel
theorem dX2_meetOf_45 : decode cX2_meetOf 45 = .ok (.land, 1) := by decide +kernel
theorem dX2_meetOf_46 : decode cX2_meetOf 46 = .ok (.lconst 0, 1) := by decide +kernel
theorem dX2_meetOf_47 : decode cX2_meetOf 47 = .ok (.lcmp, 1) := by decide +kernel
theorem dX2_meetOf_48 : decode cX2_meetOf 48 = .ok (.ifCond .eq 18, 3) := by decide +kernel
theorem dX2_meetOf_51 : decode cX2_meetOf 51 = .ok (.aload_n 0, 1) := by decide +kernel
theorem dX2_meetOf_52 : decode cX2_meetOf 52 = .ok (.getfield 20, 3) := by decide +kernel
theorem dX2_meetOf_55 : decode cX2_meetOf 55 = .ok (.iload 5, 2) := by decide +kernel
theorem dX2_meetOf_57 : decode cX2_meetOf 57 = .ok (.laload, 1) := by decide +kernel
theorem dX2_meetOf_58 : decode cX2_meetOf 58 = .ok (.lload_n 2, 1) := by decide +kernel
theorem dX2_meetOf_59 : decode cX2_meetOf 59 = .ok (.lcmp, 1) := by decide +kernel
theorem dX2_meetOf_60 : decode cX2_meetOf 60 = .ok (.ifCond .ne 6, 3) := by decide +kernel
theorem dX2_meetOf_63 : decode cX2_meetOf 63 = .ok (.iload 5, 2) := by decide +kernel
theorem dX2_meetOf_65 : decode cX2_meetOf 65 = .ok (.ireturn, 1) := by decide +kernel
theorem dX2_meetOf_66 : decode cX2_meetOf 66 = .ok (.iinc 5 1, 3) := by decide +kernel
theorem dX2_meetOf_69 : decode cX2_meetOf 69 = .ok (.goto (-43), 3) := by decide +kernel
theorem dX2_meetOf_72 : decode cX2_meetOf 72 = .ok (.aload_n 0, 1) := by decide +kernel
theorem dX2_meetOf_73 : decode cX2_meetOf 73 = .ok (.getfield 30, 3) := by decide +kernel
theorem dX2_meetOf_76 : decode cX2_meetOf 76 = .ok (.ireturn, 1) := by decide +kernel
theorem dX2_passedBehind_0 : decode cX2_passedBehind 0 = .ok (.aload_n 0, 1) := by decide +kernel
theorem dX2_passedBehind_1 : decode cX2_passedBehind 1 = .ok (.getfield 11, 3) := by decide +kernel
theorem dX2_passedBehind_4 : decode cX2_passedBehind 4 = .ok (.iload_n 1, 1) := by decide +kernel
theorem dX2_passedBehind_5 : decode cX2_passedBehind 5 = .ok (.aaload, 1) := by decide +kernel
theorem dX2_passedBehind_6 : decode cX2_passedBehind 6 = .ok (.astore_n 2, 1) := by decide +kernel
theorem dX2_passedBehind_7 : decode cX2_passedBehind 7 = .ok (.aload_n 2, 1) := by decide +kernel
theorem dX2_passedBehind_8 : decode cX2_passedBehind 8 = .ok (.iconst 0, 1) := by decide +kernel
theorem dX2_passedBehind_9 : decode cX2_passedBehind 9 = .ok (.iaload, 1) := by decide +kernel
theorem dX2_passedBehind_10 : decode cX2_passedBehind 10 = .ok (.bipush 15, 2) := by decide +kernel
theorem dX2_passedBehind_12 : decode cX2_passedBehind 12 = .ok (.if_icmp .ne 13, 3) := by decide +kernel
theorem dX2_passedBehind_15 : decode cX2_passedBehind 15 = .ok (.aload_n 0, 1) := by decide +kernel
theorem dX2_passedBehind_16 : decode cX2_passedBehind 16 = .ok (.getfield 20, 3) := by decide +kernel
theorem dX2_passedBehind_19 : decode cX2_passedBehind 19 = .ok (.aload_n 0, 1) := by decide +kernel
theorem dX2_passedBehind_20 : decode cX2_passedBehind 20 = .ok (.getfield 30, 3) := by decide +kernel
theorem dX2_passedBehind_23 : decode cX2_passedBehind 23 = .ok (.laload, 1) := by decide +kernel
theorem dX2_passedBehind_24 : decode cX2_passedBehind 24 = .ok (.lreturn, 1) := by decide +kernel
theorem dX2_passedBehind_25 : decode cX2_passedBehind 25 = .ok (.aload_n 2, 1) := by decide +kernel
theorem dX2_passedBehind_26 : decode cX2_passedBehind 26 = .ok (.iconst 0, 1) := by decide +kernel
theorem dX2_passedBehind_27 : decode cX2_passedBehind 27 = .ok (.iaload, 1) := by decide +kernel
theorem dX2_passedBehind_28 : decode cX2_passedBehind 28 = .ok (.bipush 12, 2) := by decide +kernel
theorem dX2_passedBehind_30 : decode cX2_passedBehind 30 = .ok (.if_icmp .eq 12, 3) := by decide +kernel
theorem dX2_passedBehind_33 : decode cX2_passedBehind 33 = .ok (.aload_n 0, 1) := by decide +kernel
theorem dX2_passedBehind_34 : decode cX2_passedBehind 34 = .ok (.getfield 20, 3) := by decide +kernel
theorem dX2_passedBehind_37 : decode cX2_passedBehind 37 = .ok (.iload_n 1, 1) := by decide +kernel
theorem dX2_passedBehind_38 : decode cX2_passedBehind 38 = .ok (.iconst 1, 1) := by decide +kernel
theorem dX2_passedBehind_39 : decode cX2_passedBehind 39 = .ok (.iadd, 1) := by decide +kernel
theorem dX2_passedBehind_40 : decode cX2_passedBehind 40 = .ok (.laload, 1) := by decide +kernel
theorem dX2_passedBehind_41 : decode cX2_passedBehind 41 = .ok (.lreturn, 1) := by decide +kernel
theorem dX2_passedBehind_42 : decode cX2_passedBehind 42 = .ok (.aload_n 0, 1) := by decide +kernel
theorem dX2_passedBehind_43 : decode cX2_passedBehind 43 = .ok (.getfield 20, 3) := by decide +kernel
theorem dX2_passedBehind_46 : decode cX2_passedBehind 46 = .ok (.aload_n 2, 1) := by decide +kernel
theorem dX2_passedBehind_47 : decode cX2_passedBehind 47 = .ok (.iconst 4, 1) := by decide +kernel
theorem dX2_passedBehind_48 : decode cX2_passedBehind 48 = .ok (.iaload, 1) := by decide +kernel
theorem dX2_passedBehind_49 : decode cX2_passedBehind 49 = .ok (.laload, 1) := by decide +kernel
theorem dX2_passedBehind_50 : decode cX2_passedBehind 50 = .ok (.lstore_n 3, 1) := by decide +kernel
theorem dX2_passedBehind_51 : decode cX2_passedBehind 51 = .ok (.aload_n 2, 1) := by decide +kernel
theorem dX2_passedBehind_52 : decode cX2_passedBehind 52 = .ok (.iconst 5, 1) := by decide +kernel
theorem dX2_passedBehind_53 : decode cX2_passedBehind 53 = .ok (.iaload, 1) := by decide +kernel
theorem dX2_passedBehind_54 : decode cX2_passedBehind 54 = .ok (.ldc 43, 2) := by decide +kernel
theorem dX2_passedBehind_56 : decode cX2_passedBehind 56 = .ok (.if_icmp .ne 7, 3) := by decide +kernel
theorem dX2_passedBehind_59 : decode cX2_passedBehind 59 = .ok (.lload_n 3, 1) := by decide +kernel
theorem dX2_passedBehind_60 : decode cX2_passedBehind 60 = .ok (.goto 13, 3) := by decide +kernel
theorem dX2_passedBehind_63 : decode cX2_passedBehind 63 = .ok (.lload_n 3, 1) := by decide +kernel
theorem dX2_passedBehind_64 : decode cX2_passedBehind 64 = .ok (.aload_n 0, 1) := by decide +kernel
theorem dX2_passedBehind_65 : decode cX2_passedBehind 65 = .ok (.getfield 20, 3) := by decide +kernel
theorem dX2_passedBehind_68 : decode cX2_passedBehind 68 = .ok (.iload_n 1, 1) := by decide +kernel
theorem dX2_passedBehind_69 : decode cX2_passedBehind 69 = .ok (.iconst 1, 1) := by decide +kernel
theorem dX2_passedBehind_70 : decode cX2_passedBehind 70 = .ok (.iadd, 1) := by decide +kernel
theorem dX2_passedBehind_71 : decode cX2_passedBehind 71 = .ok (.laload, 1) := by decide +kernel
theorem dX2_passedBehind_72 : decode cX2_passedBehind 72 = .ok (.land, 1) := by decide +kernel
theorem dX2_passedBehind_73 : decode cX2_passedBehind 73 = .ok (.lreturn, 1) := by decide +kernel
theorem dX3_aimAll_0 : decode cX3_aimAll 0 = .ok (.iconst 0, 1) := by decide +kernel
theorem dX3_aimAll_1 : decode cX3_aimAll 1 = .ok (.istore_n 1, 1) := by decide +kernel
theorem dX3_aimAll_2 : decode cX3_aimAll 2 = .ok (.iload_n 1, 1) := by decide +kernel
theorem dX3_aimAll_3 : decode cX3_aimAll 3 = .ok (.aload_n 0, 1) := by decide +kernel
theorem dX3_aimAll_4 : decode cX3_aimAll 4 = .ok (.getfield 35, 3) := by decide +kernel
theorem dX3_aimAll_7 : decode cX3_aimAll 7 = .ok (.getfield 60, 3) := by decide +kernel
theorem dX3_aimAll_10 : decode cX3_aimAll 10 = .ok (.if_icmp .ge 71, 3) := by decide +kernel
theorem dX3_aimAll_13 : decode cX3_aimAll 13 = .ok (.aload_n 0, 1) := by decide +kernel
theorem dX3_aimAll_14 : decode cX3_aimAll 14 = .ok (.getfield 35, 3) := by decide +kernel
theorem dX3_aimAll_17 : decode cX3_aimAll 17 = .ok (.getfield 172, 3) := by decide +kernel
theorem dX3_aimAll_20 : decode cX3_aimAll 20 = .ok (.iload_n 1, 1) := by decide +kernel
theorem dX3_aimAll_21 : decode cX3_aimAll 21 = .ok (.aaload, 1) := by decide +kernel
theorem dX3_aimAll_22 : decode cX3_aimAll 22 = .ok (.iconst 0, 1) := by decide +kernel
theorem dX3_aimAll_23 : decode cX3_aimAll 23 = .ok (.iaload, 1) := by decide +kernel
theorem dX3_aimAll_24 : decode cX3_aimAll 24 = .ok (.bipush 12, 2) := by decide +kernel
theorem dX3_aimAll_26 : decode cX3_aimAll 26 = .ok (.if_icmp .ne 49, 3) := by decide +kernel
theorem dX3_aimAll_29 : decode cX3_aimAll 29 = .ok (.aload_n 0, 1) := by decide +kernel
theorem dX3_aimAll_30 : decode cX3_aimAll 30 = .ok (.aload_n 0, 1) := by decide +kernel
theorem dX3_aimAll_31 : decode cX3_aimAll 31 = .ok (.getfield 18, 3) := by decide +kernel
theorem dX3_aimAll_34 : decode cX3_aimAll 34 = .ok (.iload_n 1, 1) := by decide +kernel
theorem dX3_aimAll_35 : decode cX3_aimAll 35 = .ok (.iaload, 1) := by decide +kernel
theorem dX3_aimAll_36 : decode cX3_aimAll 36 = .ok (.aload_n 0, 1) := by decide +kernel
theorem dX3_aimAll_37 : decode cX3_aimAll 37 = .ok (.getfield 21, 3) := by decide +kernel
theorem dX3_aimAll_40 : decode cX3_aimAll 40 = .ok (.iload_n 1, 1) := by decide +kernel
theorem dX3_aimAll_41 : decode cX3_aimAll 41 = .ok (.iaload, 1) := by decide +kernel
theorem dX3_aimAll_42 : decode cX3_aimAll 42 = .ok (.invokevirtual 103, 3) := by decide +kernel
theorem dX3_aimAll_45 : decode cX3_aimAll 45 = .ok (.istore_n 2, 1) := by decide +kernel
theorem dX3_aimAll_46 : decode cX3_aimAll 46 = .ok (.iload_n 2, 1) := by decide +kernel
theorem dX3_aimAll_47 : decode cX3_aimAll 47 = .ok (.iconst (-1), 1) := by decide +kernel
theorem dX3_aimAll_48 : decode cX3_aimAll 48 = .ok (.if_icmp .ne 15, 3) := by decide +kernel
theorem dX3_aimAll_51 : decode cX3_aimAll 51 = .ok (.aload_n 0, 1) := by decide +kernel
theorem dX3_aimAll_52 : decode cX3_aimAll 52 = .ok (.iconst 3, 1) := by decide +kernel
theorem dX3_aimAll_53 : decode cX3_aimAll 53 = .ok (.aload_n 0, 1) := by decide +kernel
theorem dX3_aimAll_54 : decode cX3_aimAll 54 = .ok (.getfield 18, 3) := by decide +kernel
theorem dX3_aimAll_57 : decode cX3_aimAll 57 = .ok (.iload_n 1, 1) := by decide +kernel
theorem dX3_aimAll_58 : decode cX3_aimAll 58 = .ok (.iaload, 1) := by decide +kernel
theorem dX3_aimAll_59 : decode cX3_aimAll 59 = .ok (.invokevirtual 63, 3) := by decide +kernel
theorem dX3_aimAll_62 : decode cX3_aimAll 62 = .ok (.ireturn, 1) := by decide +kernel
theorem dX3_aimAll_63 : decode cX3_aimAll 63 = .ok (.aload_n 0, 1) := by decide +kernel
theorem dX3_aimAll_64 : decode cX3_aimAll 64 = .ok (.getfield 35, 3) := by decide +kernel
theorem dX3_aimAll_67 : decode cX3_aimAll 67 = .ok (.getfield 172, 3) := by decide +kernel
theorem dX3_aimAll_70 : decode cX3_aimAll 70 = .ok (.iload_n 1, 1) := by decide +kernel
theorem dX3_aimAll_71 : decode cX3_aimAll 71 = .ok (.aaload, 1) := by decide +kernel
theorem dX3_aimAll_72 : decode cX3_aimAll 72 = .ok (.iconst 4, 1) := by decide +kernel
theorem dX3_aimAll_73 : decode cX3_aimAll 73 = .ok (.iload_n 2, 1) := by decide +kernel
theorem dX3_aimAll_74 : decode cX3_aimAll 74 = .ok (.iastore, 1) := by decide +kernel
theorem dX3_aimAll_75 : decode cX3_aimAll 75 = .ok (.iinc 1 1, 3) := by decide +kernel
theorem dX3_aimAll_78 : decode cX3_aimAll 78 = .ok (.goto (-76), 3) := by decide +kernel
theorem dX3_aimAll_81 : decode cX3_aimAll 81 = .ok (.iconst 1, 1) := by decide +kernel
theorem dX3_aimAll_82 : decode cX3_aimAll 82 = .ok (.ireturn, 1) := by decide +kernel
theorem dX3_fail_0 : decode cX3_fail 0 = .ok (.aload_n 0, 1) := by decide +kernel
theorem dX3_fail_1 : decode cX3_fail 1 = .ok (.iload_n 1, 1) := by decide +kernel
theorem dX3_fail_2 : decode cX3_fail 2 = .ok (.putfield 50, 3) := by decide +kernel
theorem dX3_fail_5 : decode cX3_fail 5 = .ok (.aload_n 0, 1) := by decide +kernel
theorem dX3_fail_6 : decode cX3_fail 6 = .ok (.iload_n 2, 1) := by decide +kernel
theorem dX3_fail_7 : decode cX3_fail 7 = .ok (.putfield 24, 3) := by decide +kernel
theorem dX3_fail_10 : decode cX3_fail 10 = .ok (.iconst 0, 1) := by decide +kernel
theorem dX3_fail_11 : decode cX3_fail 11 = .ok (.ireturn, 1) := by decide +kernel
theorem dX3_init_0 : decode cX3_init 0 = .ok (.aload_n 0, 1) := by decide +kernel
theorem dX3_init_1 : decode cX3_init 1 = .ok (.invokespecial 3, 3) := by decide +kernel
theorem dX3_init_4 : decode cX3_init 4 = .ok (.aload_n 0, 1) := by decide +kernel
theorem dX3_init_5 : decode cX3_init 5 = .ok (.bipush 40, 2) := by decide +kernel
theorem dX3_init_7 : decode cX3_init 7 = .ok (.newarray .int, 2) := by decide +kernel
theorem dX3_init_9 : decode cX3_init 9 = .ok (.putfield 9, 3) := by decide +kernel
theorem dX3_init_12 : decode cX3_init 12 = .ok (.aload_n 0, 1) := by decide +kernel
theorem dX3_init_13 : decode cX3_init 13 = .ok (.bipush 40, 2) := by decide +kernel
theorem dX3_init_15 : decode cX3_init 15 = .ok (.newarray .int, 2) := by decide +kernel
theorem dX3_init_17 : decode cX3_init 17 = .ok (.putfield 15, 3) := by decide +kernel
theorem dX3_init_20 : decode cX3_init 20 = .ok (.aload_n 0, 1) := by decide +kernel
theorem dX3_init_21 : decode cX3_init 21 = .ok (.bipush 40, 2) := by decide +kernel
theorem dX3_init_23 : decode cX3_init 23 = .ok (.newarray .int, 2) := by decide +kernel
theorem dX3_init_25 : decode cX3_init 25 = .ok (.putfield 18, 3) := by decide +kernel
theorem dX3_init_28 : decode cX3_init 28 = .ok (.aload_n 0, 1) := by decide +kernel
theorem dX3_init_29 : decode cX3_init 29 = .ok (.bipush 40, 2) := by decide +kernel
theorem dX3_init_31 : decode cX3_init 31 = .ok (.newarray .int, 2) := by decide +kernel
theorem dX3_init_33 : decode cX3_init 33 = .ok (.putfield 21, 3) := by decide +kernel
theorem dX3_init_36 : decode cX3_init 36 = .ok (.aload_n 0, 1) := by decide +kernel
theorem dX3_init_37 : decode cX3_init 37 = .ok (.iconst (-1), 1) := by decide +kernel
theorem dX3_init_38 : decode cX3_init 38 = .ok (.putfield 24, 3) := by decide +kernel
theorem dX3_init_41 : decode cX3_init 41 = .ok (.return_, 1) := by decide +kernel
theorem dX3_isDigit_0 : decode cX3_isDigit 0 = .ok (.iload_n 0, 1) := by decide +kernel
theorem dX3_isDigit_1 : decode cX3_isDigit 1 = .ok (.bipush 48, 2) := by decide +kernel
theorem dX3_isDigit_3 : decode cX3_isDigit 3 = .ok (.if_icmp .lt 13, 3) := by decide +kernel
theorem dX3_isDigit_6 : decode cX3_isDigit 6 = .ok (.iload_n 0, 1) := by decide +kernel
theorem dX3_isDigit_7 : decode cX3_isDigit 7 = .ok (.bipush 57, 2) := by decide +kernel
theorem dX3_isDigit_9 : decode cX3_isDigit 9 = .ok (.if_icmp .gt 7, 3) := by decide +kernel
theorem dX3_isDigit_12 : decode cX3_isDigit 12 = .ok (.iconst 1, 1) := by decide +kernel
theorem dX3_isDigit_13 : decode cX3_isDigit 13 = .ok (.goto 4, 3) := by decide +kernel
theorem dX3_isDigit_16 : decode cX3_isDigit 16 = .ok (.iconst 0, 1) := by decide +kernel
theorem dX3_isDigit_17 : decode cX3_isDigit 17 = .ok (.ireturn, 1) := by decide +kernel
theorem dX3_isLetter_0 : decode cX3_isLetter 0 = .ok (.iload_n 0, 1) := by decide +kernel
theorem dX3_isLetter_1 : decode cX3_isLetter 1 = .ok (.bipush 97, 2) := by decide +kernel
theorem dX3_isLetter_3 : decode cX3_isLetter 3 = .ok (.if_icmp .lt 9, 3) := by decide +kernel
theorem dX3_isLetter_6 : decode cX3_isLetter 6 = .ok (.iload_n 0, 1) := by decide +kernel
theorem dX3_isLetter_7 : decode cX3_isLetter 7 = .ok (.bipush 122, 2) := by decide +kernel
theorem dX3_isLetter_9 : decode cX3_isLetter 9 = .ok (.if_icmp .le 15, 3) := by decide +kernel
theorem dX3_isLetter_12 : decode cX3_isLetter 12 = .ok (.iload_n 0, 1) := by decide +kernel
theorem dX3_isLetter_13 : decode cX3_isLetter 13 = .ok (.bipush 65, 2) := by decide +kernel
theorem dX3_isLetter_15 : decode cX3_isLetter 15 = .ok (.if_icmp .lt 13, 3) := by decide +kernel
theorem dX3_isLetter_18 : decode cX3_isLetter 18 = .ok (.iload_n 0, 1) := by decide +kernel
theorem dX3_isLetter_19 : decode cX3_isLetter 19 = .ok (.bipush 90, 2) := by decide +kernel
theorem dX3_isLetter_21 : decode cX3_isLetter 21 = .ok (.if_icmp .gt 7, 3) := by decide +kernel
theorem dX3_isLetter_24 : decode cX3_isLetter 24 = .ok (.iconst 1, 1) := by decide +kernel
theorem dX3_isLetter_25 : decode cX3_isLetter 25 = .ok (.goto 4, 3) := by decide +kernel
theorem dX3_isLetter_28 : decode cX3_isLetter 28 = .ok (.iconst 0, 1) := by decide +kernel
theorem dX3_isLetter_29 : decode cX3_isLetter 29 = .ok (.ireturn, 1) := by decide +kernel
theorem dX3_lineNamed_0 : decode cX3_lineNamed 0 = .ok (.iconst 0, 1) := by decide +kernel
theorem dX3_lineNamed_1 : decode cX3_lineNamed 1 = .ok (.istore_n 3, 1) := by decide +kernel
theorem dX3_lineNamed_2 : decode cX3_lineNamed 2 = .ok (.iload_n 3, 1) := by decide +kernel
theorem dX3_lineNamed_3 : decode cX3_lineNamed 3 = .ok (.aload_n 0, 1) := by decide +kernel
theorem dX3_lineNamed_4 : decode cX3_lineNamed 4 = .ok (.getfield 35, 3) := by decide +kernel
theorem dX3_lineNamed_7 : decode cX3_lineNamed 7 = .ok (.getfield 60, 3) := by decide +kernel
theorem dX3_lineNamed_10 : decode cX3_lineNamed 10 = .ok (.if_icmp .ge 99, 3) := by decide +kernel
theorem dX3_lineNamed_13 : decode cX3_lineNamed 13 = .ok (.aload_n 0, 1) := by decide +kernel
theorem dX3_lineNamed_14 : decode cX3_lineNamed 14 = .ok (.getfield 9, 3) := by decide +kernel
theorem dX3_lineNamed_17 : decode cX3_lineNamed 17 = .ok (.iload_n 3, 1) := by decide +kernel
theorem dX3_lineNamed_18 : decode cX3_lineNamed 18 = .ok (.iaload, 1) := by decide +kernel
theorem dX3_lineNamed_19 : decode cX3_lineNamed 19 = .ok (.iload_n 1, 1) := by decide +kernel
theorem dX3_lineNamed_20 : decode cX3_lineNamed 20 = .ok (.isub, 1) := by decide +kernel
theorem dX3_lineNamed_21 : decode cX3_lineNamed 21 = .ok (.istore 4, 2) := by decide +kernel
theorem dX3_lineNamed_23 : decode cX3_lineNamed 23 = .ok (.aload_n 0, 1) := by decide +kernel
theorem dX3_lineNamed_24 : decode cX3_lineNamed 24 = .ok (.getfield 15, 3) := by decide +kernel
theorem dX3_lineNamed_27 : decode cX3_lineNamed 27 = .ok (.iload_n 3, 1) := by decide +kernel
theorem dX3_lineNamed_28 : decode cX3_lineNamed 28 = .ok (.iaload, 1) := by decide +kernel
theorem dX3_lineNamed_29 : decode cX3_lineNamed 29 = .ok (.aload_n 0, 1) := by decide +kernel
theorem dX3_lineNamed_30 : decode cX3_lineNamed 30 = .ok (.getfield 9, 3) := by decide +kernel
theorem dX3_lineNamed_33 : decode cX3_lineNamed 33 = .ok (.iload_n 3, 1) := by decide +kernel
theorem dX3_lineNamed_34 : decode cX3_lineNamed 34 = .ok (.iaload, 1) := by decide +kernel
theorem dX3_lineNamed_35 : decode cX3_lineNamed 35 = .ok (.isub, 1) := by decide +kernel
theorem dX3_lineNamed_36 : decode cX3_lineNamed 36 = .ok (.iload_n 2, 1) := by decide +kernel
theorem dX3_lineNamed_37 : decode cX3_lineNamed 37 = .ok (.iload_n 1, 1) := by decide +kernel
theorem dX3_lineNamed_38 : decode cX3_lineNamed 38 = .ok (.isub, 1) := by decide +kernel
theorem dX3_lineNamed_39 : decode cX3_lineNamed 39 = .ok (.if_icmp .ne 7, 3) := by decide +kernel
theorem dX3_lineNamed_42 : decode cX3_lineNamed 42 = .ok (.iconst 1, 1) := by decide +kernel
theorem dX3_lineNamed_43 : decode cX3_lineNamed 43 = .ok (.goto 4, 3) := by decide +kernel
theorem dX3_lineNamed_46 : decode cX3_lineNamed 46 = .ok (.iconst 0, 1) := by decide +kernel
theorem dX3_lineNamed_47 : decode cX3_lineNamed 47 = .ok (.istore 5, 2) := by decide +kernel
theorem dX3_lineNamed_49 : decode cX3_lineNamed 49 = .ok (.iload_n 1, 1) := by decide +kernel
theorem dX3_lineNamed_50 : decode cX3_lineNamed 50 = .ok (.istore 6, 2) := by decide +kernel
theorem dX3_lineNamed_52 : decode cX3_lineNamed 52 = .ok (.iload 5, 2) := by decide +kernel
theorem dX3_lineNamed_54 : decode cX3_lineNamed 54 = .ok (.ifCond .eq 42, 3) := by decide +kernel
theorem dX3_lineNamed_57 : decode cX3_lineNamed 57 = .ok (.iload 6, 2) := by decide +kernel
theorem dX3_lineNamed_59 : decode cX3_lineNamed 59 = .ok (.iload_n 2, 1) := by decide +kernel
theorem dX3_lineNamed_60 : decode cX3_lineNamed 60 = .ok (.if_icmp .ge 36, 3) := by decide +kernel
theorem dX3_lineNamed_63 : decode cX3_lineNamed 63 = .ok (.aload_n 0, 1) := by decide +kernel
theorem dX3_lineNamed_64 : decode cX3_lineNamed 64 = .ok (.getfield 28, 3) := by decide +kernel
theorem dX3_lineNamed_67 : decode cX3_lineNamed 67 = .ok (.iload 6, 2) := by decide +kernel
theorem dX3_lineNamed_69 : decode cX3_lineNamed 69 = .ok (.baload, 1) := by decide +kernel
theorem dX3_lineNamed_70 : decode cX3_lineNamed 70 = .ok (.aload_n 0, 1) := by decide +kernel
theorem dX3_lineNamed_71 : decode cX3_lineNamed 71 = .ok (.getfield 28, 3) := by decide +kernel
theorem dX3_lineNamed_74 : decode cX3_lineNamed 74 = .ok (.iload 6, 2) := by decide +kernel
theorem dX3_lineNamed_76 : decode cX3_lineNamed 76 = .ok (.iload 4, 2) := by decide +kernel
theorem dX3_lineNamed_78 : decode cX3_lineNamed 78 = .ok (.iadd, 1) := by decide +kernel
theorem dX3_lineNamed_79 : decode cX3_lineNamed 79 = .ok (.baload, 1) := by decide +kernel
theorem dX3_lineNamed_80 : decode cX3_lineNamed 80 = .ok (.if_icmp .ne 7, 3) := by decide +kernel
theorem dX3_lineNamed_83 : decode cX3_lineNamed 83 = .ok (.iconst 1, 1) := by decide +kernel
theorem dX3_lineNamed_84 : decode cX3_lineNamed 84 = .ok (.goto 4, 3) := by decide +kernel
theorem dX3_lineNamed_87 : decode cX3_lineNamed 87 = .ok (.iconst 0, 1) := by decide +kernel
theorem dX3_lineNamed_88 : decode cX3_lineNamed 88 = .ok (.istore 5, 2) := by decide +kernel
theorem dX3_lineNamed_90 : decode cX3_lineNamed 90 = .ok (.iinc 6 1, 3) := by decide +kernel
theorem dX3_lineNamed_93 : decode cX3_lineNamed 93 = .ok (.goto (-41), 3) := by decide +kernel
theorem dX3_lineNamed_96 : decode cX3_lineNamed 96 = .ok (.iload 5, 2) := by decide +kernel
theorem dX3_lineNamed_98 : decode cX3_lineNamed 98 = .ok (.ifCond .eq 5, 3) := by decide +kernel
theorem dX3_lineNamed_101 : decode cX3_lineNamed 101 = .ok (.iload_n 3, 1) := by decide +kernel
theorem dX3_lineNamed_102 : decode cX3_lineNamed 102 = .ok (.ireturn, 1) := by decide +kernel
theorem dX3_lineNamed_103 : decode cX3_lineNamed 103 = .ok (.iinc 3 1, 3) := by decide +kernel
theorem dX3_lineNamed_106 : decode cX3_lineNamed 106 = .ok (.goto (-104), 3) := by decide +kernel
theorem dX3_lineNamed_109 : decode cX3_lineNamed 109 = .ok (.iconst (-1), 1) := by decide +kernel
theorem dX3_lineNamed_110 : decode cX3_lineNamed 110 = .ok (.ireturn, 1) := by decide +kernel
theorem dX3_openLine_0 : decode cX3_openLine 0 = .ok (.aload_n 0, 1) := by decide +kernel
theorem dX3_openLine_1 : decode cX3_openLine 1 = .ok (.getfield 44, 3) := by decide +kernel
theorem dX3_openLine_4 : decode cX3_openLine 4 = .ok (.iconst 1, 1) := by decide +kernel
theorem dX3_openLine_5 : decode cX3_openLine 5 = .ok (.if_icmp .eq 13, 3) := by decide +kernel
theorem dX3_openLine_8 : decode cX3_openLine 8 = .ok (.aload_n 0, 1) := by decide +kernel
theorem dX3_openLine_9 : decode cX3_openLine 9 = .ok (.iconst 1, 1) := by decide +kernel
theorem dX3_openLine_10 : decode cX3_openLine 10 = .ok (.aload_n 0, 1) := by decide +kernel
theorem dX3_openLine_11 : decode cX3_openLine 11 = .ok (.getfield 71, 3) := by decide +kernel
theorem dX3_openLine_14 : decode cX3_openLine 14 = .ok (.invokevirtual 63, 3) := by decide +kernel
theorem dX3_openLine_17 : decode cX3_openLine 17 = .ok (.ireturn, 1) := by decide +kernel
theorem dX3_openLine_18 : decode cX3_openLine 18 = .ok (.aload_n 0, 1) := by decide +kernel
theorem dX3_openLine_19 : decode cX3_openLine 19 = .ok (.getfield 35, 3) := by decide +kernel
theorem dX3_openLine_22 : decode cX3_openLine 22 = .ok (.getfield 60, 3) := by decide +kernel
theorem dX3_openLine_25 : decode cX3_openLine 25 = .ok (.bipush 40, 2) := by decide +kernel
theorem dX3_openLine_27 : decode cX3_openLine 27 = .ok (.if_icmp .ne 13, 3) := by decide +kernel
theorem dX3_openLine_30 : decode cX3_openLine 30 = .ok (.aload_n 0, 1) := by decide +kernel
theorem dX3_openLine_31 : decode cX3_openLine 31 = .ok (.iconst 5, 1) := by decide +kernel
theorem dX3_openLine_32 : decode cX3_openLine 32 = .ok (.aload_n 0, 1) := by decide +kernel
theorem dX3_openLine_33 : decode cX3_openLine 33 = .ok (.getfield 71, 3) := by decide +kernel
theorem dX3_openLine_36 : decode cX3_openLine 36 = .ok (.invokevirtual 63, 3) := by decide +kernel
theorem dX3_openLine_39 : decode cX3_openLine 39 = .ok (.ireturn, 1) := by decide +kernel
theorem dX3_openLine_40 : decode cX3_openLine 40 = .ok (.aload_n 0, 1) := by decide +kernel
theorem dX3_openLine_41 : decode cX3_openLine 41 = .ok (.getfield 71, 3) := by decide +kernel
theorem dX3_openLine_44 : decode cX3_openLine 44 = .ok (.istore_n 1, 1) := by decide +kernel
theorem dX3_openLine_45 : decode cX3_openLine 45 = .ok (.aload_n 0, 1) := by decide +kernel
theorem dX3_openLine_46 : decode cX3_openLine 46 = .ok (.getfield 74, 3) := by decide +kernel
theorem dX3_openLine_49 : decode cX3_openLine 49 = .ok (.iconst (-1), 1) := by decide +kernel
theorem dX3_openLine_50 : decode cX3_openLine 50 = .ok (.if_icmp .ne 10, 3) := by decide +kernel
theorem dX3_openLine_53 : decode cX3_openLine 53 = .ok (.aload_n 0, 1) := by decide +kernel
theorem dX3_openLine_54 : decode cX3_openLine 54 = .ok (.getfield 47, 3) := by decide +kernel
theorem dX3_openLine_57 : decode cX3_openLine 57 = .ok (.goto 7, 3) := by decide +kernel
theorem dX3_openLine_60 : decode cX3_openLine 60 = .ok (.aload_n 0, 1) := by decide +kernel
theorem dX3_openLine_61 : decode cX3_openLine 61 = .ok (.getfield 71, 3) := by decide +kernel
theorem dX3_openLine_64 : decode cX3_openLine 64 = .ok (.istore_n 2, 1) := by decide +kernel
theorem dX3_openLine_65 : decode cX3_openLine 65 = .ok (.aload_n 0, 1) := by decide +kernel
theorem dX3_openLine_66 : decode cX3_openLine 66 = .ok (.getfield 74, 3) := by decide +kernel
theorem dX3_openLine_69 : decode cX3_openLine 69 = .ok (.iconst (-1), 1) := by decide +kernel
theorem dX3_openLine_70 : decode cX3_openLine 70 = .ok (.if_icmp .ne 40, 3) := by decide +kernel
theorem dX3_openLine_73 : decode cX3_openLine 73 = .ok (.aload_n 0, 1) := by decide +kernel
theorem dX3_openLine_74 : decode cX3_openLine 74 = .ok (.invokevirtual 100, 3) := by decide +kernel
theorem dX3_openLine_77 : decode cX3_openLine 77 = .ok (.ifCond .ne 5, 3) := by decide +kernel
theorem dX3_openLine_80 : decode cX3_openLine 80 = .ok (.iconst 0, 1) := by decide +kernel
theorem dX3_openLine_81 : decode cX3_openLine 81 = .ok (.ireturn, 1) := by decide +kernel
theorem dX3_openLine_82 : decode cX3_openLine 82 = .ok (.aload_n 0, 1) := by decide +kernel
theorem dX3_openLine_83 : decode cX3_openLine 83 = .ok (.iload_n 1, 1) := by decide +kernel
theorem dX3_openLine_84 : decode cX3_openLine 84 = .ok (.iload_n 2, 1) := by decide +kernel
theorem dX3_openLine_85 : decode cX3_openLine 85 = .ok (.invokevirtual 103, 3) := by decide +kernel
theorem dX3_openLine_88 : decode cX3_openLine 88 = .ok (.iconst (-1), 1) := by decide +kernel
theorem dX3_openLine_89 : decode cX3_openLine 89 = .ok (.if_icmp .eq 10, 3) := by decide +kernel
theorem dX3_openLine_92 : decode cX3_openLine 92 = .ok (.aload_n 0, 1) := by decide +kernel
theorem dX3_openLine_93 : decode cX3_openLine 93 = .ok (.iconst 3, 1) := by decide +kernel
theorem dX3_openLine_94 : decode cX3_openLine 94 = .ok (.iload_n 1, 1) := by decide +kernel
theorem dX3_openLine_95 : decode cX3_openLine 95 = .ok (.invokevirtual 63, 3) := by decide +kernel
theorem dX3_openLine_98 : decode cX3_openLine 98 = .ok (.ireturn, 1) := by decide +kernel
theorem dX3_openLine_99 : decode cX3_openLine 99 = .ok (.aload_n 0, 1) := by decide +kernel
theorem dX3_openLine_100 : decode cX3_openLine 100 = .ok (.bipush 58, 2) := by decide +kernel
theorem dX3_openLine_102 : decode cX3_openLine 102 = .ok (.invokevirtual 107, 3) := by decide +kernel
theorem dX3_openLine_105 : decode cX3_openLine 105 = .ok (.ifCond .ne 5, 3) := by decide +kernel
theorem dX3_openLine_108 : decode cX3_openLine 108 = .ok (.iconst 0, 1) := by decide +kernel
theorem dX3_openLine_109 : decode cX3_openLine 109 = .ok (.ireturn, 1) := by decide +kernel
theorem dX3_openLine_110 : decode cX3_openLine 110 = .ok (.aload_n 0, 1) := by decide +kernel
theorem dX3_openLine_111 : decode cX3_openLine 111 = .ok (.getfield 74, 3) := by decide +kernel
theorem dX3_openLine_114 : decode cX3_openLine 114 = .ok (.ifCond .lt 12, 3) := by decide +kernel
theorem dX3_openLine_117 : decode cX3_openLine 117 = .ok (.aload_n 0, 1) := by decide +kernel
theorem dX3_openLine_118 : decode cX3_openLine 118 = .ok (.getfield 74, 3) := by decide +kernel
theorem dX3_openLine_121 : decode cX3_openLine 121 = .ok (.bipush 15, 2) := by decide +kernel
theorem dX3_openLine_123 : decode cX3_openLine 123 = .ok (.if_icmp .le 13, 3) := by decide +kernel
theorem dX3_openLine_126 : decode cX3_openLine 126 = .ok (.aload_n 0, 1) := by decide +kernel
theorem dX3_openLine_127 : decode cX3_openLine 127 = .ok (.iconst 1, 1) := by decide +kernel
theorem dX3_openLine_128 : decode cX3_openLine 128 = .ok (.aload_n 0, 1) := by decide +kernel
theorem dX3_openLine_129 : decode cX3_openLine 129 = .ok (.getfield 71, 3) := by decide +kernel
theorem dX3_openLine_132 : decode cX3_openLine 132 = .ok (.invokevirtual 63, 3) := by decide +kernel
theorem dX3_openLine_135 : decode cX3_openLine 135 = .ok (.ireturn, 1) := by decide +kernel
theorem dX3_openLine_136 : decode cX3_openLine 136 = .ok (.aload_n 0, 1) := by decide +kernel
theorem dX3_openLine_137 : decode cX3_openLine 137 = .ok (.getfield 9, 3) := by decide +kernel
theorem dX3_openLine_140 : decode cX3_openLine 140 = .ok (.aload_n 0, 1) := by decide +kernel
theorem dX3_openLine_141 : decode cX3_openLine 141 = .ok (.getfield 35, 3) := by decide +kernel
theorem dX3_openLine_144 : decode cX3_openLine 144 = .ok (.getfield 60, 3) := by decide +kernel
theorem dX3_openLine_147 : decode cX3_openLine 147 = .ok (.iload_n 1, 1) := by decide +kernel
theorem dX3_openLine_148 : decode cX3_openLine 148 = .ok (.iastore, 1) := by decide +kernel
theorem dX3_openLine_149 : decode cX3_openLine 149 = .ok (.aload_n 0, 1) := by decide +kernel
theorem dX3_openLine_150 : decode cX3_openLine 150 = .ok (.getfield 15, 3) := by decide +kernel
theorem dX3_openLine_153 : decode cX3_openLine 153 = .ok (.aload_n 0, 1) := by decide +kernel
theorem dX3_openLine_154 : decode cX3_openLine 154 = .ok (.getfield 35, 3) := by decide +kernel
theorem dX3_openLine_157 : decode cX3_openLine 157 = .ok (.getfield 60, 3) := by decide +kernel
theorem dX3_openLine_160 : decode cX3_openLine 160 = .ok (.iload_n 2, 1) := by decide +kernel
theorem dX3_openLine_161 : decode cX3_openLine 161 = .ok (.iastore, 1) := by decide +kernel
theorem dX3_openLine_162 : decode cX3_openLine 162 = .ok (.aload_n 0, 1) := by decide +kernel
theorem dX3_openLine_163 : decode cX3_openLine 163 = .ok (.getfield 35, 3) := by decide +kernel
theorem dX3_openLine_166 : decode cX3_openLine 166 = .ok (.aload_n 0, 1) := by decide +kernel
theorem dX3_openLine_167 : decode cX3_openLine 167 = .ok (.getfield 74, 3) := by decide +kernel
theorem dX3_openLine_170 : decode cX3_openLine 170 = .ok (.invokevirtual 110, 3) := by decide +kernel
theorem dX3_openLine_173 : decode cX3_openLine 173 = .ok (.iconst 1, 1) := by decide +kernel
theorem dX3_openLine_174 : decode cX3_openLine 174 = .ok (.ireturn, 1) := by decide +kernel
theorem dX3_ownWord_0 : decode cX3_ownWord 0 = .ok (.iconst 0, 1) := by decide +kernel
theorem dX3_ownWord_1 : decode cX3_ownWord 1 = .ok (.istore_n 1, 1) := by decide +kernel
theorem dX3_ownWord_2 : decode cX3_ownWord 2 = .ok (.aload_n 0, 1) := by decide +kernel
theorem dX3_ownWord_3 : decode cX3_ownWord 3 = .ok (.getfield 71, 3) := by decide +kernel
theorem dX3_ownWord_6 : decode cX3_ownWord 6 = .ok (.istore_n 2, 1) := by decide +kernel
theorem dX3_ownWord_7 : decode cX3_ownWord 7 = .ok (.iconst 1, 1) := by decide +kernel
theorem dX3_ownWord_8 : decode cX3_ownWord 8 = .ok (.istore_n 3, 1) := by decide +kernel
theorem dX3_ownWord_9 : decode cX3_ownWord 9 = .ok (.iconst 0, 1) := by decide +kernel
theorem dX3_ownWord_10 : decode cX3_ownWord 10 = .ok (.istore 4, 2) := by decide +kernel
theorem dX3_ownWord_12 : decode cX3_ownWord 12 = .ok (.iload 4, 2) := by decide +kernel
theorem dX3_ownWord_14 : decode cX3_ownWord 14 = .ok (.ldc 191, 2) := by decide +kernel
theorem dX3_ownWord_16 : decode cX3_ownWord 16 = .ok (.invokevirtual 89, 3) := by decide +kernel
theorem dX3_ownWord_19 : decode cX3_ownWord 19 = .ok (.if_icmp .ge 83, 3) := by decide +kernel
theorem dX3_ownWord_22 : decode cX3_ownWord 22 = .ok (.ldc 191, 2) := by decide +kernel
theorem dX3_ownWord_24 : decode cX3_ownWord 24 = .ok (.iload 4, 2) := by decide +kernel
theorem dX3_ownWord_26 : decode cX3_ownWord 26 = .ok (.invokevirtual 92, 3) := by decide +kernel
theorem dX3_ownWord_29 : decode cX3_ownWord 29 = .ok (.istore 5, 2) := by decide +kernel
theorem dX3_ownWord_31 : decode cX3_ownWord 31 = .ok (.iload 5, 2) := by decide +kernel
theorem dX3_ownWord_33 : decode cX3_ownWord 33 = .ok (.bipush 32, 2) := by decide +kernel
theorem dX3_ownWord_35 : decode cX3_ownWord 35 = .ok (.if_icmp .ne 30, 3) := by decide +kernel
theorem dX3_ownWord_38 : decode cX3_ownWord 38 = .ok (.iload_n 3, 1) := by decide +kernel
theorem dX3_ownWord_39 : decode cX3_ownWord 39 = .ok (.ifCond .eq 13, 3) := by decide +kernel
theorem dX3_ownWord_42 : decode cX3_ownWord 42 = .ok (.iload_n 2, 1) := by decide +kernel
theorem dX3_ownWord_43 : decode cX3_ownWord 43 = .ok (.aload_n 0, 1) := by decide +kernel
theorem dX3_ownWord_44 : decode cX3_ownWord 44 = .ok (.getfield 47, 3) := by decide +kernel
theorem dX3_ownWord_47 : decode cX3_ownWord 47 = .ok (.if_icmp .ne 5, 3) := by decide +kernel
theorem dX3_ownWord_50 : decode cX3_ownWord 50 = .ok (.iload_n 1, 1) := by decide +kernel
theorem dX3_ownWord_51 : decode cX3_ownWord 51 = .ok (.ireturn, 1) := by decide +kernel
theorem dX3_ownWord_52 : decode cX3_ownWord 52 = .ok (.iinc 1 1, 3) := by decide +kernel
theorem dX3_ownWord_55 : decode cX3_ownWord 55 = .ok (.aload_n 0, 1) := by decide +kernel
theorem dX3_ownWord_56 : decode cX3_ownWord 56 = .ok (.getfield 71, 3) := by decide +kernel
theorem dX3_ownWord_59 : decode cX3_ownWord 59 = .ok (.istore_n 2, 1) := by decide +kernel
theorem dX3_ownWord_60 : decode cX3_ownWord 60 = .ok (.iconst 1, 1) := by decide +kernel
theorem dX3_ownWord_61 : decode cX3_ownWord 61 = .ok (.istore_n 3, 1) := by decide +kernel
theorem dX3_ownWord_62 : decode cX3_ownWord 62 = .ok (.goto 34, 3) := by decide +kernel
theorem dX3_ownWord_65 : decode cX3_ownWord 65 = .ok (.iload_n 3, 1) := by decide +kernel
theorem dX3_ownWord_66 : decode cX3_ownWord 66 = .ok (.ifCond .eq 28, 3) := by decide +kernel
theorem dX3_ownWord_69 : decode cX3_ownWord 69 = .ok (.iload_n 2, 1) := by decide +kernel
theorem dX3_ownWord_70 : decode cX3_ownWord 70 = .ok (.aload_n 0, 1) := by decide +kernel
theorem dX3_ownWord_71 : decode cX3_ownWord 71 = .ok (.getfield 47, 3) := by decide +kernel
theorem dX3_ownWord_74 : decode cX3_ownWord 74 = .ok (.if_icmp .ge 20, 3) := by decide +kernel
theorem dX3_ownWord_77 : decode cX3_ownWord 77 = .ok (.aload_n 0, 1) := by decide +kernel
theorem dX3_ownWord_78 : decode cX3_ownWord 78 = .ok (.getfield 28, 3) := by decide +kernel
theorem dX3_ownWord_81 : decode cX3_ownWord 81 = .ok (.iload_n 2, 1) := by decide +kernel
theorem dX3_ownWord_82 : decode cX3_ownWord 82 = .ok (.baload, 1) := by decide +kernel
theorem dX3_ownWord_83 : decode cX3_ownWord 83 = .ok (.iload 5, 2) := by decide +kernel
theorem dX3_ownWord_85 : decode cX3_ownWord 85 = .ok (.if_icmp .ne 9, 3) := by decide +kernel
theorem dX3_ownWord_88 : decode cX3_ownWord 88 = .ok (.iinc 2 1, 3) := by decide +kernel
theorem dX3_ownWord_91 : decode cX3_ownWord 91 = .ok (.goto 5, 3) := by decide +kernel
theorem dX3_ownWord_94 : decode cX3_ownWord 94 = .ok (.iconst 0, 1) := by decide +kernel
theorem dX3_ownWord_95 : decode cX3_ownWord 95 = .ok (.istore_n 3, 1) := by decide +kernel
theorem dX3_ownWord_96 : decode cX3_ownWord 96 = .ok (.iinc 4 1, 3) := by decide +kernel
theorem dX3_ownWord_99 : decode cX3_ownWord 99 = .ok (.goto (-87), 3) := by decide +kernel
theorem dX3_ownWord_102 : decode cX3_ownWord 102 = .ok (.iconst (-1), 1) := by decide +kernel
theorem dX3_ownWord_103 : decode cX3_ownWord 103 = .ok (.ireturn, 1) := by decide +kernel
theorem dX3_piecesOf_0 : decode cX3_piecesOf 0 = .ok (.iload_n 0, 1) := by decide +kernel
theorem dX3_piecesOf_1 : decode cX3_piecesOf 1 = .ok (.tableswitch 133 0 21 #[115, 118, 118, 118, 118, 121, 121, 115, 124, 115, 124, 115, 127, 130, 130, 130, 103, 106, 109, 133, 133, 112], 103) := by decide +kernel
theorem dX3_piecesOf_104 : decode cX3_piecesOf 104 = .ok (.ldc 114, 2) := by decide +kernel
theorem dX3_piecesOf_106 : decode cX3_piecesOf 106 = .ok (.areturn, 1) := by decide +kernel
theorem dX3_piecesOf_107 : decode cX3_piecesOf 107 = .ok (.ldc 116, 2) := by decide +kernel
theorem dX3_piecesOf_109 : decode cX3_piecesOf 109 = .ok (.areturn, 1) := by decide +kernel
theorem dX3_piecesOf_110 : decode cX3_piecesOf 110 = .ok (.ldc 118, 2) := by decide +kernel
theorem dX3_piecesOf_112 : decode cX3_piecesOf 112 = .ok (.areturn, 1) := by decide +kernel
theorem dX3_piecesOf_113 : decode cX3_piecesOf 113 = .ok (.ldc 120, 2) := by decide +kernel
theorem dX3_piecesOf_115 : decode cX3_piecesOf 115 = .ok (.areturn, 1) := by decide +kernel
theorem dX3_piecesOf_116 : decode cX3_piecesOf 116 = .ok (.ldc 122, 2) := by decide +kernel
theorem dX3_piecesOf_118 : decode cX3_piecesOf 118 = .ok (.areturn, 1) := by decide +kernel
theorem dX3_piecesOf_119 : decode cX3_piecesOf 119 = .ok (.ldc 124, 2) := by decide +kernel
theorem dX3_piecesOf_121 : decode cX3_piecesOf 121 = .ok (.areturn, 1) := by decide +kernel
theorem dX3_piecesOf_122 : decode cX3_piecesOf 122 = .ok (.ldc 126, 2) := by decide +kernel
theorem dX3_piecesOf_124 : decode cX3_piecesOf 124 = .ok (.areturn, 1) := by decide +kernel
theorem dX3_piecesOf_125 : decode cX3_piecesOf 125 = .ok (.ldc 128, 2) := by decide +kernel
theorem dX3_piecesOf_127 : decode cX3_piecesOf 127 = .ok (.areturn, 1) := by decide +kernel
theorem dX3_piecesOf_128 : decode cX3_piecesOf 128 = .ok (.ldc 130, 2) := by decide +kernel
theorem dX3_piecesOf_130 : decode cX3_piecesOf 130 = .ok (.areturn, 1) := by decide +kernel
theorem dX3_piecesOf_131 : decode cX3_piecesOf 131 = .ok (.ldc 132, 2) := by decide +kernel
theorem dX3_piecesOf_133 : decode cX3_piecesOf 133 = .ok (.areturn, 1) := by decide +kernel
theorem dX3_piecesOf_134 : decode cX3_piecesOf 134 = .ok (.ldc 134, 2) := by decide +kernel
theorem dX3_piecesOf_136 : decode cX3_piecesOf 136 = .ok (.areturn, 1) := by decide +kernel
theorem dX3_read_0 : decode cX3_read 0 = .ok (.aload_n 0, 1) := by decide +kernel
theorem dX3_read_1 : decode cX3_read 1 = .ok (.aload_n 1, 1) := by decide +kernel
theorem dX3_read_2 : decode cX3_read 2 = .ok (.putfield 28, 3) := by decide +kernel
theorem dX3_read_5 : decode cX3_read 5 = .ok (.aload_n 0, 1) := by decide +kernel
theorem dX3_read_6 : decode cX3_read 6 = .ok (.iload_n 2, 1) := by decide +kernel
theorem dX3_read_7 : decode cX3_read 7 = .ok (.putfield 32, 3) := by decide +kernel
theorem dX3_read_10 : decode cX3_read 10 = .ok (.aload_n 0, 1) := by decide +kernel
theorem dX3_read_11 : decode cX3_read 11 = .ok (.aload_n 3, 1) := by decide +kernel
theorem dX3_read_12 : decode cX3_read 12 = .ok (.putfield 35, 3) := by decide +kernel
theorem dX3_read_15 : decode cX3_read 15 = .ok (.aload_n 0, 1) := by decide +kernel
theorem dX3_read_16 : decode cX3_read 16 = .ok (.getfield 35, 3) := by decide +kernel
theorem dX3_read_19 : decode cX3_read 19 = .ok (.invokevirtual 39, 3) := by decide +kernel
theorem dX3_read_22 : decode cX3_read 22 = .ok (.aload_n 0, 1) := by decide +kernel
theorem dX3_read_23 : decode cX3_read 23 = .ok (.iconst 0, 1) := by decide +kernel
theorem dX3_read_24 : decode cX3_read 24 = .ok (.putfield 44, 3) := by decide +kernel
theorem dX3_read_27 : decode cX3_read 27 = .ok (.aload_n 0, 1) := by decide +kernel
theorem dX3_read_28 : decode cX3_read 28 = .ok (.iconst 0, 1) := by decide +kernel
theorem dX3_read_29 : decode cX3_read 29 = .ok (.putfield 47, 3) := by decide +kernel
theorem dX3_read_32 : decode cX3_read 32 = .ok (.aload_n 0, 1) := by decide +kernel
theorem dX3_read_33 : decode cX3_read 33 = .ok (.iconst 0, 1) := by decide +kernel
theorem dX3_read_34 : decode cX3_read 34 = .ok (.putfield 50, 3) := by decide +kernel
theorem dX3_read_37 : decode cX3_read 37 = .ok (.aload_n 0, 1) := by decide +kernel
theorem dX3_read_38 : decode cX3_read 38 = .ok (.iconst (-1), 1) := by decide +kernel
theorem dX3_read_39 : decode cX3_read 39 = .ok (.putfield 24, 3) := by decide +kernel
theorem dX3_read_42 : decode cX3_read 42 = .ok (.iconst 1, 1) := by decide +kernel
theorem dX3_read_43 : decode cX3_read 43 = .ok (.istore 4, 2) := by decide +kernel
theorem dX3_read_45 : decode cX3_read 45 = .ok (.aload_n 0, 1) := by decide +kernel
theorem dX3_read_46 : decode cX3_read 46 = .ok (.invokevirtual 53, 3) := by decide +kernel
theorem dX3_read_49 : decode cX3_read 49 = .ok (.iconst 0, 1) := by decide +kernel
theorem dX3_read_50 : decode cX3_read 50 = .ok (.istore 5, 2) := by decide +kernel
theorem dX3_read_52 : decode cX3_read 52 = .ok (.iload 4, 2) := by decide +kernel
theorem dX3_read_54 : decode cX3_read 54 = .ok (.ifCond .eq 31, 3) := by decide +kernel
theorem dX3_read_57 : decode cX3_read 57 = .ok (.aload_n 0, 1) := by decide +kernel
theorem dX3_read_58 : decode cX3_read 58 = .ok (.getfield 44, 3) := by decide +kernel
theorem dX3_read_61 : decode cX3_read 61 = .ok (.ifCond .eq 24, 3) := by decide +kernel
theorem dX3_read_64 : decode cX3_read 64 = .ok (.iload 5, 2) := by decide +kernel
theorem dX3_read_66 : decode cX3_read 66 = .ok (.bipush 80, 2) := by decide +kernel
theorem dX3_read_68 : decode cX3_read 68 = .ok (.if_icmp .gt 17, 3) := by decide +kernel
theorem dX3_read_71 : decode cX3_read 71 = .ok (.aload_n 0, 1) := by decide +kernel
theorem dX3_read_72 : decode cX3_read 72 = .ok (.iload 5, 2) := by decide +kernel
theorem dX3_read_74 : decode cX3_read 74 = .ok (.invokevirtual 56, 3) := by decide +kernel
theorem dX3_read_77 : decode cX3_read 77 = .ok (.istore 4, 2) := by decide +kernel
theorem dX3_read_79 : decode cX3_read 79 = .ok (.iinc 5 1, 3) := by decide +kernel
theorem dX3_read_82 : decode cX3_read 82 = .ok (.goto (-30), 3) := by decide +kernel
theorem dX3_read_85 : decode cX3_read 85 = .ok (.iload 4, 2) := by decide +kernel
theorem dX3_read_87 : decode cX3_read 87 = .ok (.ifCond .eq 23, 3) := by decide +kernel
theorem dX3_read_90 : decode cX3_read 90 = .ok (.aload_n 0, 1) := by decide +kernel
theorem dX3_read_91 : decode cX3_read 91 = .ok (.getfield 35, 3) := by decide +kernel
theorem dX3_read_94 : decode cX3_read 94 = .ok (.getfield 60, 3) := by decide +kernel
theorem dX3_read_97 : decode cX3_read 97 = .ok (.ifCond .ne 13, 3) := by decide +kernel
theorem dX3_read_100 : decode cX3_read 100 = .ok (.aload_n 0, 1) := by decide +kernel
theorem dX3_read_101 : decode cX3_read 101 = .ok (.iconst 1, 1) := by decide +kernel
theorem dX3_read_102 : decode cX3_read 102 = .ok (.aload_n 0, 1) := by decide +kernel
theorem dX3_read_103 : decode cX3_read 103 = .ok (.getfield 32, 3) := by decide +kernel
theorem dX3_read_106 : decode cX3_read 106 = .ok (.invokevirtual 63, 3) := by decide +kernel
theorem dX3_read_109 : decode cX3_read 109 = .ok (.ireturn, 1) := by decide +kernel
theorem dX3_read_110 : decode cX3_read 110 = .ok (.iload 4, 2) := by decide +kernel
theorem dX3_read_112 : decode cX3_read 112 = .ok (.ifCond .eq 14, 3) := by decide +kernel
theorem dX3_read_115 : decode cX3_read 115 = .ok (.aload_n 0, 1) := by decide +kernel
theorem dX3_read_116 : decode cX3_read 116 = .ok (.invokevirtual 67, 3) := by decide +kernel
theorem dX3_read_119 : decode cX3_read 119 = .ok (.ifCond .eq 7, 3) := by decide +kernel
theorem dX3_read_122 : decode cX3_read 122 = .ok (.iconst 1, 1) := by decide +kernel
theorem dX3_read_123 : decode cX3_read 123 = .ok (.goto 4, 3) := by decide +kernel
theorem dX3_read_126 : decode cX3_read 126 = .ok (.iconst 0, 1) := by decide +kernel
theorem dX3_read_127 : decode cX3_read 127 = .ok (.ireturn, 1) := by decide +kernel
theorem dX3_readComparison_0 : decode cX3_readComparison 0 = .ok (.aload_n 0, 1) := by decide +kernel
theorem dX3_readComparison_1 : decode cX3_readComparison 1 = .ok (.getfield 44, 3) := by decide +kernel
theorem dX3_readComparison_4 : decode cX3_readComparison 4 = .ok (.iconst 3, 1) := by decide +kernel
theorem dX3_readComparison_5 : decode cX3_readComparison 5 = .ok (.if_icmp .ne 18, 3) := by decide +kernel
theorem dX3_readComparison_8 : decode cX3_readComparison 8 = .ok (.aload_n 0, 1) := by decide +kernel
theorem dX3_readComparison_9 : decode cX3_readComparison 9 = .ok (.getfield 28, 3) := by decide +kernel
theorem dX3_readComparison_12 : decode cX3_readComparison 12 = .ok (.aload_n 0, 1) := by decide +kernel
theorem dX3_readComparison_13 : decode cX3_readComparison 13 = .ok (.getfield 71, 3) := by decide +kernel
theorem dX3_readComparison_16 : decode cX3_readComparison 16 = .ok (.baload, 1) := by decide +kernel
theorem dX3_readComparison_17 : decode cX3_readComparison 17 = .ok (.bipush 60, 2) := by decide +kernel
theorem dX3_readComparison_19 : decode cX3_readComparison 19 = .ok (.isub, 1) := by decide +kernel
theorem dX3_readComparison_20 : decode cX3_readComparison 20 = .ok (.goto 4, 3) := by decide +kernel
theorem dX3_readComparison_23 : decode cX3_readComparison 23 = .ok (.iconst (-1), 1) := by decide +kernel
theorem dX3_readComparison_24 : decode cX3_readComparison 24 = .ok (.istore_n 1, 1) := by decide +kernel
theorem dX3_readComparison_25 : decode cX3_readComparison 25 = .ok (.iload_n 1, 1) := by decide +kernel
theorem dX3_readComparison_26 : decode cX3_readComparison 26 = .ok (.ifCond .lt 8, 3) := by decide +kernel
theorem dX3_readComparison_29 : decode cX3_readComparison 29 = .ok (.iload_n 1, 1) := by decide +kernel
theorem dX3_readComparison_30 : decode cX3_readComparison 30 = .ok (.iconst 2, 1) := by decide +kernel
theorem dX3_readComparison_31 : decode cX3_readComparison 31 = .ok (.if_icmp .le 15, 3) := by decide +kernel
theorem dX3_readComparison_34 : decode cX3_readComparison 34 = .ok (.aload_n 0, 1) := by decide +kernel
theorem dX3_readComparison_35 : decode cX3_readComparison 35 = .ok (.iconst 1, 1) := by decide +kernel
theorem dX3_readComparison_36 : decode cX3_readComparison 36 = .ok (.aload_n 0, 1) := by decide +kernel
theorem dX3_readComparison_37 : decode cX3_readComparison 37 = .ok (.getfield 71, 3) := by decide +kernel
theorem dX3_readComparison_40 : decode cX3_readComparison 40 = .ok (.invokevirtual 63, 3) := by decide +kernel
theorem dX3_readComparison_43 : decode cX3_readComparison 43 = .ok (.pop, 1) := by decide +kernel
theorem dX3_readComparison_44 : decode cX3_readComparison 44 = .ok (.iconst (-1), 1) := by decide +kernel
theorem dX3_readComparison_45 : decode cX3_readComparison 45 = .ok (.ireturn, 1) := by decide +kernel
theorem dX3_readComparison_46 : decode cX3_readComparison 46 = .ok (.aload_n 0, 1) := by decide +kernel
theorem dX3_readComparison_47 : decode cX3_readComparison 47 = .ok (.invokevirtual 53, 3) := by decide +kernel
theorem dX3_readComparison_50 : decode cX3_readComparison 50 = .ok (.iload_n 1, 1) := by decide +kernel
theorem dX3_readComparison_51 : decode cX3_readComparison 51 = .ok (.ireturn, 1) := by decide +kernel
theorem dX3_readName_0 : decode cX3_readName 0 = .ok (.aload_n 0, 1) := by decide +kernel
theorem dX3_readName_1 : decode cX3_readName 1 = .ok (.getfield 44, 3) := by decide +kernel
theorem dX3_readName_4 : decode cX3_readName 4 = .ok (.iconst 1, 1) := by decide +kernel
theorem dX3_readName_5 : decode cX3_readName 5 = .ok (.if_icmp .ne 11, 3) := by decide +kernel
theorem dX3_readName_8 : decode cX3_readName 8 = .ok (.aload_n 0, 1) := by decide +kernel
theorem dX3_readName_9 : decode cX3_readName 9 = .ok (.getfield 74, 3) := by decide +kernel
theorem dX3_readName_12 : decode cX3_readName 12 = .ok (.iconst (-1), 1) := by decide +kernel
theorem dX3_readName_13 : decode cX3_readName 13 = .ok (.if_icmp .eq 13, 3) := by decide +kernel
theorem dX3_readName_16 : decode cX3_readName 16 = .ok (.aload_n 0, 1) := by decide +kernel
theorem dX3_readName_17 : decode cX3_readName 17 = .ok (.iconst 1, 1) := by decide +kernel
theorem dX3_readName_18 : decode cX3_readName 18 = .ok (.aload_n 0, 1) := by decide +kernel
theorem dX3_readName_19 : decode cX3_readName 19 = .ok (.getfield 71, 3) := by decide +kernel
theorem dX3_readName_22 : decode cX3_readName 22 = .ok (.invokevirtual 63, 3) := by decide +kernel
theorem dX3_readName_25 : decode cX3_readName 25 = .ok (.ireturn, 1) := by decide +kernel
theorem dX3_readName_26 : decode cX3_readName 26 = .ok (.aload_n 0, 1) := by decide +kernel
theorem dX3_readName_27 : decode cX3_readName 27 = .ok (.getfield 47, 3) := by decide +kernel
theorem dX3_readName_30 : decode cX3_readName 30 = .ok (.aload_n 0, 1) := by decide +kernel
theorem dX3_readName_31 : decode cX3_readName 31 = .ok (.getfield 71, 3) := by decide +kernel
theorem dX3_readName_34 : decode cX3_readName 34 = .ok (.isub, 1) := by decide +kernel
theorem dX3_readName_35 : decode cX3_readName 35 = .ok (.bipush 6, 2) := by decide +kernel
theorem dX3_readName_37 : decode cX3_readName 37 = .ok (.if_icmp .le 16, 3) := by decide +kernel
theorem dX3_readName_40 : decode cX3_readName 40 = .ok (.aload_n 0, 1) := by decide +kernel
theorem dX3_readName_41 : decode cX3_readName 41 = .ok (.iconst 1, 1) := by decide +kernel
theorem dX3_readName_42 : decode cX3_readName 42 = .ok (.aload_n 0, 1) := by decide +kernel
theorem dX3_readName_43 : decode cX3_readName 43 = .ok (.getfield 71, 3) := by decide +kernel
theorem dX3_readName_46 : decode cX3_readName 46 = .ok (.bipush 6, 2) := by decide +kernel
theorem dX3_readName_48 : decode cX3_readName 48 = .ok (.iadd, 1) := by decide +kernel
theorem dX3_readName_49 : decode cX3_readName 49 = .ok (.invokevirtual 63, 3) := by decide +kernel
theorem dX3_readName_52 : decode cX3_readName 52 = .ok (.ireturn, 1) := by decide +kernel
theorem dX3_readName_53 : decode cX3_readName 53 = .ok (.aload_n 0, 1) := by decide +kernel
theorem dX3_readName_54 : decode cX3_readName 54 = .ok (.invokevirtual 53, 3) := by decide +kernel
theorem dX3_readName_57 : decode cX3_readName 57 = .ok (.iconst 1, 1) := by decide +kernel
theorem dX3_readName_58 : decode cX3_readName 58 = .ok (.ireturn, 1) := by decide +kernel
theorem dX3_readNumber_0 : decode cX3_readNumber 0 = .ok (.aload_n 0, 1) := by decide +kernel
theorem dX3_readNumber_1 : decode cX3_readNumber 1 = .ok (.getfield 169, 3) := by decide +kernel
theorem dX3_readNumber_4 : decode cX3_readNumber 4 = .ok (.istore_n 3, 1) := by decide +kernel
theorem dX3_readNumber_5 : decode cX3_readNumber 5 = .ok (.aload_n 0, 1) := by decide +kernel
theorem dX3_readNumber_6 : decode cX3_readNumber 6 = .ok (.getfield 44, 3) := by decide +kernel
theorem dX3_readNumber_9 : decode cX3_readNumber 9 = .ok (.iconst 2, 1) := by decide +kernel
theorem dX3_readNumber_10 : decode cX3_readNumber 10 = .ok (.if_icmp .eq 16, 3) := by decide +kernel
theorem dX3_readNumber_13 : decode cX3_readNumber 13 = .ok (.aload_n 0, 1) := by decide +kernel
theorem dX3_readNumber_14 : decode cX3_readNumber 14 = .ok (.iconst 1, 1) := by decide +kernel
theorem dX3_readNumber_15 : decode cX3_readNumber 15 = .ok (.aload_n 0, 1) := by decide +kernel
theorem dX3_readNumber_16 : decode cX3_readNumber 16 = .ok (.getfield 71, 3) := by decide +kernel
theorem dX3_readNumber_19 : decode cX3_readNumber 19 = .ok (.invokevirtual 63, 3) := by decide +kernel
theorem dX3_readNumber_22 : decode cX3_readNumber 22 = .ok (.pop, 1) := by decide +kernel
theorem dX3_readNumber_23 : decode cX3_readNumber 23 = .ok (.goto 60, 3) := by decide +kernel
theorem dX3_readNumber_26 : decode cX3_readNumber 26 = .ok (.aload_n 0, 1) := by decide +kernel
theorem dX3_readNumber_27 : decode cX3_readNumber 27 = .ok (.getfield 47, 3) := by decide +kernel
theorem dX3_readNumber_30 : decode cX3_readNumber 30 = .ok (.aload_n 0, 1) := by decide +kernel
theorem dX3_readNumber_31 : decode cX3_readNumber 31 = .ok (.getfield 71, 3) := by decide +kernel
theorem dX3_readNumber_34 : decode cX3_readNumber 34 = .ok (.isub, 1) := by decide +kernel
theorem dX3_readNumber_35 : decode cX3_readNumber 35 = .ok (.iconst 3, 1) := by decide +kernel
theorem dX3_readNumber_36 : decode cX3_readNumber 36 = .ok (.if_icmp .le 18, 3) := by decide +kernel
theorem dX3_readNumber_39 : decode cX3_readNumber 39 = .ok (.aload_n 0, 1) := by decide +kernel
theorem dX3_readNumber_40 : decode cX3_readNumber 40 = .ok (.iconst 1, 1) := by decide +kernel
theorem dX3_readNumber_41 : decode cX3_readNumber 41 = .ok (.aload_n 0, 1) := by decide +kernel
theorem dX3_readNumber_42 : decode cX3_readNumber 42 = .ok (.getfield 71, 3) := by decide +kernel
theorem dX3_readNumber_45 : decode cX3_readNumber 45 = .ok (.iconst 3, 1) := by decide +kernel
theorem dX3_readNumber_46 : decode cX3_readNumber 46 = .ok (.iadd, 1) := by decide +kernel
theorem dX3_readNumber_47 : decode cX3_readNumber 47 = .ok (.invokevirtual 63, 3) := by decide +kernel
theorem dX3_readNumber_50 : decode cX3_readNumber 50 = .ok (.pop, 1) := by decide +kernel
theorem dX3_readNumber_51 : decode cX3_readNumber 51 = .ok (.goto 32, 3) := by decide +kernel
theorem dX3_readNumber_54 : decode cX3_readNumber 54 = .ok (.iload_n 3, 1) := by decide +kernel
theorem dX3_readNumber_55 : decode cX3_readNumber 55 = .ok (.iload_n 1, 1) := by decide +kernel
theorem dX3_readNumber_56 : decode cX3_readNumber 56 = .ok (.if_icmp .lt 8, 3) := by decide +kernel
theorem dX3_readNumber_59 : decode cX3_readNumber 59 = .ok (.iload_n 3, 1) := by decide +kernel
theorem dX3_readNumber_60 : decode cX3_readNumber 60 = .ok (.iload_n 2, 1) := by decide +kernel
theorem dX3_readNumber_61 : decode cX3_readNumber 61 = .ok (.if_icmp .le 16, 3) := by decide +kernel
theorem dX3_readNumber_64 : decode cX3_readNumber 64 = .ok (.aload_n 0, 1) := by decide +kernel
theorem dX3_readNumber_65 : decode cX3_readNumber 65 = .ok (.iconst 2, 1) := by decide +kernel
theorem dX3_readNumber_66 : decode cX3_readNumber 66 = .ok (.aload_n 0, 1) := by decide +kernel
theorem dX3_readNumber_67 : decode cX3_readNumber 67 = .ok (.getfield 71, 3) := by decide +kernel
theorem dX3_readNumber_70 : decode cX3_readNumber 70 = .ok (.invokevirtual 63, 3) := by decide +kernel
theorem dX3_readNumber_73 : decode cX3_readNumber 73 = .ok (.pop, 1) := by decide +kernel
theorem dX3_readNumber_74 : decode cX3_readNumber 74 = .ok (.goto 9, 3) := by decide +kernel
theorem dX3_readNumber_77 : decode cX3_readNumber 77 = .ok (.aload_n 0, 1) := by decide +kernel
theorem dX3_readNumber_78 : decode cX3_readNumber 78 = .ok (.invokevirtual 53, 3) := by decide +kernel
theorem dX3_readNumber_81 : decode cX3_readNumber 81 = .ok (.iload_n 3, 1) := by decide +kernel
theorem dX3_readNumber_82 : decode cX3_readNumber 82 = .ok (.ireturn, 1) := by decide +kernel
theorem dX3_readNumber_83 : decode cX3_readNumber 83 = .ok (.iconst (-1), 1) := by decide +kernel
theorem dX3_readNumber_84 : decode cX3_readNumber 84 = .ok (.ireturn, 1) := by decide +kernel
theorem dX3_readOwn_0 : decode cX3_readOwn 0 = .ok (.aload_n 0, 1) := by decide +kernel
theorem dX3_readOwn_1 : decode cX3_readOwn 1 = .ok (.getfield 74, 3) := by decide +kernel
theorem dX3_readOwn_4 : decode cX3_readOwn 4 = .ok (.istore_n 3, 1) := by decide +kernel
theorem dX3_readOwn_5 : decode cX3_readOwn 5 = .ok (.iload_n 3, 1) := by decide +kernel
theorem dX3_readOwn_6 : decode cX3_readOwn 6 = .ok (.iload_n 1, 1) := by decide +kernel
theorem dX3_readOwn_7 : decode cX3_readOwn 7 = .ok (.if_icmp .lt 8, 3) := by decide +kernel
theorem dX3_readOwn_10 : decode cX3_readOwn 10 = .ok (.iload_n 3, 1) := by decide +kernel
theorem dX3_readOwn_11 : decode cX3_readOwn 11 = .ok (.iload_n 2, 1) := by decide +kernel
theorem dX3_readOwn_12 : decode cX3_readOwn 12 = .ok (.if_icmp .le 15, 3) := by decide +kernel
theorem dX3_readOwn_15 : decode cX3_readOwn 15 = .ok (.aload_n 0, 1) := by decide +kernel
theorem dX3_readOwn_16 : decode cX3_readOwn 16 = .ok (.iconst 1, 1) := by decide +kernel
theorem dX3_readOwn_17 : decode cX3_readOwn 17 = .ok (.aload_n 0, 1) := by decide +kernel
theorem dX3_readOwn_18 : decode cX3_readOwn 18 = .ok (.getfield 71, 3) := by decide +kernel
theorem dX3_readOwn_21 : decode cX3_readOwn 21 = .ok (.invokevirtual 63, 3) := by decide +kernel
theorem dX3_readOwn_24 : decode cX3_readOwn 24 = .ok (.pop, 1) := by decide +kernel
theorem dX3_readOwn_25 : decode cX3_readOwn 25 = .ok (.iconst (-1), 1) := by decide +kernel
theorem dX3_readOwn_26 : decode cX3_readOwn 26 = .ok (.ireturn, 1) := by decide +kernel
theorem dX3_readOwn_27 : decode cX3_readOwn 27 = .ok (.aload_n 0, 1) := by decide +kernel
theorem dX3_readOwn_28 : decode cX3_readOwn 28 = .ok (.invokevirtual 53, 3) := by decide +kernel
theorem dX3_readOwn_31 : decode cX3_readOwn 31 = .ok (.iload_n 3, 1) := by decide +kernel
theorem dX3_readOwn_32 : decode cX3_readOwn 32 = .ok (.ireturn, 1) := by decide +kernel
theorem dX3_readPiece_0 : decode cX3_readPiece 0 = .ok (.iload_n 1, 1) := by decide +kernel
theorem dX3_readPiece_1 : decode cX3_readPiece 1 = .ok (.tableswitch 358 65 89 #[131, 358, 358, 358, 358, 358, 289, 358, 330, 358, 358, 358, 172, 358, 193, 358, 358, 214, 342, 358, 358, 145, 115, 237, 237], 115) := by decide +kernel
theorem dX3_readPiece_116 : decode cX3_readPiece 116 = .ok (.aload_n 0, 1) := by decide +kernel
theorem dX3_readPiece_117 : decode cX3_readPiece 117 = .ok (.getfield 35, 3) := by decide +kernel
theorem dX3_readPiece_120 : decode cX3_readPiece 120 = .ok (.aload_n 0, 1) := by decide +kernel
theorem dX3_readPiece_121 : decode cX3_readPiece 121 = .ok (.iconst 1, 1) := by decide +kernel
theorem dX3_readPiece_122 : decode cX3_readPiece 122 = .ok (.iconst 4, 1) := by decide +kernel
theorem dX3_readPiece_123 : decode cX3_readPiece 123 = .ok (.invokevirtual 136, 3) := by decide +kernel
theorem dX3_readPiece_126 : decode cX3_readPiece 126 = .ok (.putfield 139, 3) := by decide +kernel
theorem dX3_readPiece_129 : decode cX3_readPiece 129 = .ok (.goto 236, 3) := by decide +kernel
theorem dX3_readPiece_132 : decode cX3_readPiece 132 = .ok (.aload_n 0, 1) := by decide +kernel
theorem dX3_readPiece_133 : decode cX3_readPiece 133 = .ok (.aload_n 0, 1) := by decide +kernel
theorem dX3_readPiece_134 : decode cX3_readPiece 134 = .ok (.iconst 0, 1) := by decide +kernel
theorem dX3_readPiece_135 : decode cX3_readPiece 135 = .ok (.bipush 63, 2) := by decide +kernel
theorem dX3_readPiece_137 : decode cX3_readPiece 137 = .ok (.invokevirtual 136, 3) := by decide +kernel
theorem dX3_readPiece_140 : decode cX3_readPiece 140 = .ok (.putfield 142, 3) := by decide +kernel
theorem dX3_readPiece_143 : decode cX3_readPiece 143 = .ok (.goto 222, 3) := by decide +kernel
theorem dX3_readPiece_146 : decode cX3_readPiece 146 = .ok (.aload_n 0, 1) := by decide +kernel
theorem dX3_readPiece_147 : decode cX3_readPiece 147 = .ok (.getfield 35, 3) := by decide +kernel
theorem dX3_readPiece_150 : decode cX3_readPiece 150 = .ok (.getfield 145, 3) := by decide +kernel
theorem dX3_readPiece_153 : decode cX3_readPiece 153 = .ok (.aload_n 0, 1) := by decide +kernel
theorem dX3_readPiece_154 : decode cX3_readPiece 154 = .ok (.getfield 142, 3) := by decide +kernel
theorem dX3_readPiece_157 : decode cX3_readPiece 157 = .ok (.iconst 0, 1) := by decide +kernel
theorem dX3_readPiece_158 : decode cX3_readPiece 158 = .ok (.invokestatic 148, 3) := by decide +kernel
theorem dX3_readPiece_161 : decode cX3_readPiece 161 = .ok (.aload_n 0, 1) := by decide +kernel
theorem dX3_readPiece_162 : decode cX3_readPiece 162 = .ok (.iconst 0, 1) := by decide +kernel
theorem dX3_readPiece_163 : decode cX3_readPiece 163 = .ok (.sipush 999, 3) := by decide +kernel
theorem dX3_readPiece_166 : decode cX3_readPiece 166 = .ok (.invokevirtual 136, 3) := by decide +kernel
theorem dX3_readPiece_169 : decode cX3_readPiece 169 = .ok (.iastore, 1) := by decide +kernel
theorem dX3_readPiece_170 : decode cX3_readPiece 170 = .ok (.goto 195, 3) := by decide +kernel
theorem dX3_readPiece_173 : decode cX3_readPiece 173 = .ok (.aload_n 0, 1) := by decide +kernel
theorem dX3_readPiece_174 : decode cX3_readPiece 174 = .ok (.getfield 35, 3) := by decide +kernel
theorem dX3_readPiece_177 : decode cX3_readPiece 177 = .ok (.aload_n 0, 1) := by decide +kernel
theorem dX3_readPiece_178 : decode cX3_readPiece 178 = .ok (.bipush 19, 2) := by decide +kernel
theorem dX3_readPiece_180 : decode cX3_readPiece 180 = .ok (.bipush 20, 2) := by decide +kernel
theorem dX3_readPiece_182 : decode cX3_readPiece 182 = .ok (.invokevirtual 153, 3) := by decide +kernel
theorem dX3_readPiece_185 : decode cX3_readPiece 185 = .ok (.bipush 19, 2) := by decide +kernel
theorem dX3_readPiece_187 : decode cX3_readPiece 187 = .ok (.isub, 1) := by decide +kernel
theorem dX3_readPiece_188 : decode cX3_readPiece 188 = .ok (.putfield 156, 3) := by decide +kernel
theorem dX3_readPiece_191 : decode cX3_readPiece 191 = .ok (.goto 174, 3) := by decide +kernel
theorem dX3_readPiece_194 : decode cX3_readPiece 194 = .ok (.aload_n 0, 1) := by decide +kernel
theorem dX3_readPiece_195 : decode cX3_readPiece 195 = .ok (.getfield 35, 3) := by decide +kernel
theorem dX3_readPiece_198 : decode cX3_readPiece 198 = .ok (.aload_n 0, 1) := by decide +kernel
theorem dX3_readPiece_199 : decode cX3_readPiece 199 = .ok (.bipush 22, 2) := by decide +kernel
theorem dX3_readPiece_201 : decode cX3_readPiece 201 = .ok (.bipush 23, 2) := by decide +kernel
theorem dX3_readPiece_203 : decode cX3_readPiece 203 = .ok (.invokevirtual 153, 3) := by decide +kernel
theorem dX3_readPiece_206 : decode cX3_readPiece 206 = .ok (.bipush 22, 2) := by decide +kernel
theorem dX3_readPiece_208 : decode cX3_readPiece 208 = .ok (.isub, 1) := by decide +kernel
theorem dX3_readPiece_209 : decode cX3_readPiece 209 = .ok (.putfield 159, 3) := by decide +kernel
theorem dX3_readPiece_212 : decode cX3_readPiece 212 = .ok (.goto 153, 3) := by decide +kernel
theorem dX3_readPiece_215 : decode cX3_readPiece 215 = .ok (.aload_n 0, 1) := by decide +kernel
theorem dX3_readPiece_216 : decode cX3_readPiece 216 = .ok (.getfield 35, 3) := by decide +kernel
theorem dX3_readPiece_219 : decode cX3_readPiece 219 = .ok (.invokevirtual 162, 3) := by decide +kernel
theorem dX3_readPiece_222 : decode cX3_readPiece 222 = .ok (.iconst 1, 1) := by decide +kernel
theorem dX3_readPiece_223 : decode cX3_readPiece 223 = .ok (.aload_n 0, 1) := by decide +kernel
theorem dX3_readPiece_224 : decode cX3_readPiece 224 = .ok (.bipush 25, 2) := by decide +kernel
theorem dX3_readPiece_226 : decode cX3_readPiece 226 = .ok (.bipush 28, 2) := by decide +kernel
theorem dX3_readPiece_228 : decode cX3_readPiece 228 = .ok (.invokevirtual 153, 3) := by decide +kernel
theorem dX3_readPiece_231 : decode cX3_readPiece 231 = .ok (.bipush 25, 2) := by decide +kernel
theorem dX3_readPiece_233 : decode cX3_readPiece 233 = .ok (.isub, 1) := by decide +kernel
theorem dX3_readPiece_234 : decode cX3_readPiece 234 = .ok (.iastore, 1) := by decide +kernel
theorem dX3_readPiece_235 : decode cX3_readPiece 235 = .ok (.goto 130, 3) := by decide +kernel
theorem dX3_readPiece_238 : decode cX3_readPiece 238 = .ok (.aload_n 0, 1) := by decide +kernel
theorem dX3_readPiece_239 : decode cX3_readPiece 239 = .ok (.getfield 35, 3) := by decide +kernel
theorem dX3_readPiece_242 : decode cX3_readPiece 242 = .ok (.invokevirtual 162, 3) := by decide +kernel
theorem dX3_readPiece_245 : decode cX3_readPiece 245 = .ok (.iload_n 1, 1) := by decide +kernel
theorem dX3_readPiece_246 : decode cX3_readPiece 246 = .ok (.bipush 88, 2) := by decide +kernel
theorem dX3_readPiece_248 : decode cX3_readPiece 248 = .ok (.if_icmp .ne 7, 3) := by decide +kernel
theorem dX3_readPiece_251 : decode cX3_readPiece 251 = .ok (.iconst 2, 1) := by decide +kernel
theorem dX3_readPiece_252 : decode cX3_readPiece 252 = .ok (.goto 4, 3) := by decide +kernel
theorem dX3_readPiece_255 : decode cX3_readPiece 255 = .ok (.iconst 3, 1) := by decide +kernel
theorem dX3_readPiece_256 : decode cX3_readPiece 256 = .ok (.aload_n 0, 1) := by decide +kernel
theorem dX3_readPiece_257 : decode cX3_readPiece 257 = .ok (.getfield 44, 3) := by decide +kernel
theorem dX3_readPiece_260 : decode cX3_readPiece 260 = .ok (.iconst 2, 1) := by decide +kernel
theorem dX3_readPiece_261 : decode cX3_readPiece 261 = .ok (.if_icmp .ne 14, 3) := by decide +kernel
theorem dX3_readPiece_264 : decode cX3_readPiece 264 = .ok (.aload_n 0, 1) := by decide +kernel
theorem dX3_readPiece_265 : decode cX3_readPiece 265 = .ok (.iconst 0, 1) := by decide +kernel
theorem dX3_readPiece_266 : decode cX3_readPiece 266 = .ok (.sipush 999, 3) := by decide +kernel
theorem dX3_readPiece_269 : decode cX3_readPiece 269 = .ok (.invokevirtual 136, 3) := by decide +kernel
theorem dX3_readPiece_272 : decode cX3_readPiece 272 = .ok (.goto 14, 3) := by decide +kernel
theorem dX3_readPiece_275 : decode cX3_readPiece 275 = .ok (.bipush 24, 2) := by decide +kernel
theorem dX3_readPiece_277 : decode cX3_readPiece 277 = .ok (.aload_n 0, 1) := by decide +kernel
theorem dX3_readPiece_278 : decode cX3_readPiece 278 = .ok (.bipush 25, 2) := by decide +kernel
theorem dX3_readPiece_280 : decode cX3_readPiece 280 = .ok (.bipush 28, 2) := by decide +kernel
theorem dX3_readPiece_282 : decode cX3_readPiece 282 = .ok (.invokevirtual 153, 3) := by decide +kernel
theorem dX3_readPiece_285 : decode cX3_readPiece 285 = .ok (.isub, 1) := by decide +kernel
theorem dX3_readPiece_286 : decode cX3_readPiece 286 = .ok (.iastore, 1) := by decide +kernel
theorem dX3_readPiece_287 : decode cX3_readPiece 287 = .ok (.goto 78, 3) := by decide +kernel
theorem dX3_readPiece_290 : decode cX3_readPiece 290 = .ok (.aload_n 0, 1) := by decide +kernel
theorem dX3_readPiece_291 : decode cX3_readPiece 291 = .ok (.getfield 18, 3) := by decide +kernel
theorem dX3_readPiece_294 : decode cX3_readPiece 294 = .ok (.aload_n 0, 1) := by decide +kernel
theorem dX3_readPiece_295 : decode cX3_readPiece 295 = .ok (.getfield 35, 3) := by decide +kernel
theorem dX3_readPiece_298 : decode cX3_readPiece 298 = .ok (.getfield 60, 3) := by decide +kernel
theorem dX3_readPiece_301 : decode cX3_readPiece 301 = .ok (.iconst 1, 1) := by decide +kernel
theorem dX3_readPiece_302 : decode cX3_readPiece 302 = .ok (.isub, 1) := by decide +kernel
theorem dX3_readPiece_303 : decode cX3_readPiece 303 = .ok (.aload_n 0, 1) := by decide +kernel
theorem dX3_readPiece_304 : decode cX3_readPiece 304 = .ok (.getfield 71, 3) := by decide +kernel
theorem dX3_readPiece_307 : decode cX3_readPiece 307 = .ok (.iastore, 1) := by decide +kernel
theorem dX3_readPiece_308 : decode cX3_readPiece 308 = .ok (.aload_n 0, 1) := by decide +kernel
theorem dX3_readPiece_309 : decode cX3_readPiece 309 = .ok (.getfield 21, 3) := by decide +kernel
theorem dX3_readPiece_312 : decode cX3_readPiece 312 = .ok (.aload_n 0, 1) := by decide +kernel
theorem dX3_readPiece_313 : decode cX3_readPiece 313 = .ok (.getfield 35, 3) := by decide +kernel
theorem dX3_readPiece_316 : decode cX3_readPiece 316 = .ok (.getfield 60, 3) := by decide +kernel
theorem dX3_readPiece_319 : decode cX3_readPiece 319 = .ok (.iconst 1, 1) := by decide +kernel
theorem dX3_readPiece_320 : decode cX3_readPiece 320 = .ok (.isub, 1) := by decide +kernel
theorem dX3_readPiece_321 : decode cX3_readPiece 321 = .ok (.aload_n 0, 1) := by decide +kernel
theorem dX3_readPiece_322 : decode cX3_readPiece 322 = .ok (.getfield 47, 3) := by decide +kernel
theorem dX3_readPiece_325 : decode cX3_readPiece 325 = .ok (.iastore, 1) := by decide +kernel
theorem dX3_readPiece_326 : decode cX3_readPiece 326 = .ok (.aload_n 0, 1) := by decide +kernel
theorem dX3_readPiece_327 : decode cX3_readPiece 327 = .ok (.invokevirtual 100, 3) := by decide +kernel
theorem dX3_readPiece_330 : decode cX3_readPiece 330 = .ok (.ireturn, 1) := by decide +kernel
theorem dX3_readPiece_331 : decode cX3_readPiece 331 = .ok (.aload_n 0, 1) := by decide +kernel
theorem dX3_readPiece_332 : decode cX3_readPiece 332 = .ok (.bipush 24, 2) := by decide +kernel
theorem dX3_readPiece_334 : decode cX3_readPiece 334 = .ok (.bipush 24, 2) := by decide +kernel
theorem dX3_readPiece_336 : decode cX3_readPiece 336 = .ok (.invokevirtual 153, 3) := by decide +kernel
theorem dX3_readPiece_339 : decode cX3_readPiece 339 = .ok (.pop, 1) := by decide +kernel
theorem dX3_readPiece_340 : decode cX3_readPiece 340 = .ok (.goto 25, 3) := by decide +kernel
theorem dX3_readPiece_343 : decode cX3_readPiece 343 = .ok (.aload_n 0, 1) := by decide +kernel
theorem dX3_readPiece_344 : decode cX3_readPiece 344 = .ok (.getfield 35, 3) := by decide +kernel
theorem dX3_readPiece_347 : decode cX3_readPiece 347 = .ok (.invokevirtual 162, 3) := by decide +kernel
theorem dX3_readPiece_350 : decode cX3_readPiece 350 = .ok (.iconst 5, 1) := by decide +kernel
theorem dX3_readPiece_351 : decode cX3_readPiece 351 = .ok (.aload_n 0, 1) := by decide +kernel
theorem dX3_readPiece_352 : decode cX3_readPiece 352 = .ok (.invokevirtual 166, 3) := by decide +kernel
theorem dX3_readPiece_355 : decode cX3_readPiece 355 = .ok (.iastore, 1) := by decide +kernel
theorem dX3_readPiece_356 : decode cX3_readPiece 356 = .ok (.goto 9, 3) := by decide +kernel
theorem dX3_readPiece_359 : decode cX3_readPiece 359 = .ok (.aload_n 0, 1) := by decide +kernel
theorem dX3_readPiece_360 : decode cX3_readPiece 360 = .ok (.iload_n 1, 1) := by decide +kernel
theorem dX3_readPiece_361 : decode cX3_readPiece 361 = .ok (.invokevirtual 107, 3) := by decide +kernel
theorem dX3_readPiece_364 : decode cX3_readPiece 364 = .ok (.ireturn, 1) := by decide +kernel
theorem dX3_readPiece_365 : decode cX3_readPiece 365 = .ok (.aload_n 0, 1) := by decide +kernel
theorem dX3_readPiece_366 : decode cX3_readPiece 366 = .ok (.getfield 50, 3) := by decide +kernel
theorem dX3_readPiece_369 : decode cX3_readPiece 369 = .ok (.ifCond .ne 7, 3) := by decide +kernel
theorem dX3_readPiece_372 : decode cX3_readPiece 372 = .ok (.iconst 1, 1) := by decide +kernel
theorem dX3_readPiece_373 : decode cX3_readPiece 373 = .ok (.goto 4, 3) := by decide +kernel
theorem dX3_readPiece_376 : decode cX3_readPiece 376 = .ok (.iconst 0, 1) := by decide +kernel
theorem dX3_readPiece_377 : decode cX3_readPiece 377 = .ok (.ireturn, 1) := by decide +kernel
theorem dX3_readSign_0 : decode cX3_readSign 0 = .ok (.aload_n 0, 1) := by decide +kernel
theorem dX3_readSign_1 : decode cX3_readSign 1 = .ok (.getfield 44, 3) := by decide +kernel
theorem dX3_readSign_4 : decode cX3_readSign 4 = .ok (.iconst 3, 1) := by decide +kernel
theorem dX3_readSign_5 : decode cX3_readSign 5 = .ok (.if_icmp .ne 16, 3) := by decide +kernel
theorem dX3_readSign_8 : decode cX3_readSign 8 = .ok (.aload_n 0, 1) := by decide +kernel
theorem dX3_readSign_9 : decode cX3_readSign 9 = .ok (.getfield 28, 3) := by decide +kernel
theorem dX3_readSign_12 : decode cX3_readSign 12 = .ok (.aload_n 0, 1) := by decide +kernel
theorem dX3_readSign_13 : decode cX3_readSign 13 = .ok (.getfield 71, 3) := by decide +kernel
theorem dX3_readSign_16 : decode cX3_readSign 16 = .ok (.baload, 1) := by decide +kernel
theorem dX3_readSign_17 : decode cX3_readSign 17 = .ok (.iload_n 1, 1) := by decide +kernel
theorem dX3_readSign_18 : decode cX3_readSign 18 = .ok (.if_icmp .eq 13, 3) := by decide +kernel
theorem dX3_readSign_21 : decode cX3_readSign 21 = .ok (.aload_n 0, 1) := by decide +kernel
theorem dX3_readSign_22 : decode cX3_readSign 22 = .ok (.iconst 1, 1) := by decide +kernel
theorem dX3_readSign_23 : decode cX3_readSign 23 = .ok (.aload_n 0, 1) := by decide +kernel
theorem dX3_readSign_24 : decode cX3_readSign 24 = .ok (.getfield 71, 3) := by decide +kernel
theorem dX3_readSign_27 : decode cX3_readSign 27 = .ok (.invokevirtual 63, 3) := by decide +kernel
theorem dX3_readSign_30 : decode cX3_readSign 30 = .ok (.ireturn, 1) := by decide +kernel
theorem dX3_readSign_31 : decode cX3_readSign 31 = .ok (.aload_n 0, 1) := by decide +kernel
theorem dX3_readSign_32 : decode cX3_readSign 32 = .ok (.invokevirtual 53, 3) := by decide +kernel
theorem dX3_readSign_35 : decode cX3_readSign 35 = .ok (.iconst 1, 1) := by decide +kernel
theorem dX3_readSign_36 : decode cX3_readSign 36 = .ok (.ireturn, 1) := by decide +kernel
theorem dX3_readStatement_0 : decode cX3_readStatement 0 = .ok (.iload_n 1, 1) := by decide +kernel
theorem dX3_readStatement_1 : decode cX3_readStatement 1 = .ok (.bipush 80, 2) := by decide +kernel
theorem dX3_readStatement_3 : decode cX3_readStatement 3 = .ok (.if_icmp .ne 13, 3) := by decide +kernel
theorem dX3_readStatement_6 : decode cX3_readStatement 6 = .ok (.aload_n 0, 1) := by decide +kernel
theorem dX3_readStatement_7 : decode cX3_readStatement 7 = .ok (.iconst 5, 1) := by decide +kernel
theorem dX3_readStatement_8 : decode cX3_readStatement 8 = .ok (.aload_n 0, 1) := by decide +kernel
theorem dX3_readStatement_9 : decode cX3_readStatement 9 = .ok (.getfield 71, 3) := by decide +kernel
theorem dX3_readStatement_12 : decode cX3_readStatement 12 = .ok (.invokevirtual 63, 3) := by decide +kernel
theorem dX3_readStatement_15 : decode cX3_readStatement 15 = .ok (.ireturn, 1) := by decide +kernel
theorem dX3_readStatement_16 : decode cX3_readStatement 16 = .ok (.iload_n 1, 1) := by decide +kernel
theorem dX3_readStatement_17 : decode cX3_readStatement 17 = .ok (.ifCond .ne 7, 3) := by decide +kernel
theorem dX3_readStatement_20 : decode cX3_readStatement 20 = .ok (.iconst 1, 1) := by decide +kernel
theorem dX3_readStatement_21 : decode cX3_readStatement 21 = .ok (.goto 4, 3) := by decide +kernel
theorem dX3_readStatement_24 : decode cX3_readStatement 24 = .ok (.iconst 0, 1) := by decide +kernel
theorem dX3_readStatement_25 : decode cX3_readStatement 25 = .ok (.aload_n 0, 1) := by decide +kernel
theorem dX3_readStatement_26 : decode cX3_readStatement 26 = .ok (.getfield 74, 3) := by decide +kernel
theorem dX3_readStatement_29 : decode cX3_readStatement 29 = .ok (.bipush 16, 2) := by decide +kernel
theorem dX3_readStatement_31 : decode cX3_readStatement 31 = .ok (.if_icmp .ne 7, 3) := by decide +kernel
theorem dX3_readStatement_34 : decode cX3_readStatement 34 = .ok (.iconst 1, 1) := by decide +kernel
theorem dX3_readStatement_35 : decode cX3_readStatement 35 = .ok (.goto 4, 3) := by decide +kernel
theorem dX3_readStatement_38 : decode cX3_readStatement 38 = .ok (.iconst 0, 1) := by decide +kernel
theorem dX3_readStatement_39 : decode cX3_readStatement 39 = .ok (.if_icmp .eq 13, 3) := by decide +kernel
theorem dX3_readStatement_42 : decode cX3_readStatement 42 = .ok (.aload_n 0, 1) := by decide +kernel
theorem dX3_readStatement_43 : decode cX3_readStatement 43 = .ok (.iconst 1, 1) := by decide +kernel
theorem dX3_readStatement_44 : decode cX3_readStatement 44 = .ok (.aload_n 0, 1) := by decide +kernel
theorem dX3_readStatement_45 : decode cX3_readStatement 45 = .ok (.getfield 71, 3) := by decide +kernel
theorem dX3_readStatement_48 : decode cX3_readStatement 48 = .ok (.invokevirtual 63, 3) := by decide +kernel
theorem dX3_readStatement_51 : decode cX3_readStatement 51 = .ok (.ireturn, 1) := by decide +kernel
theorem dX3_readStatement_52 : decode cX3_readStatement 52 = .ok (.aload_n 0, 1) := by decide +kernel
theorem dX3_readStatement_53 : decode cX3_readStatement 53 = .ok (.getfield 74, 3) := by decide +kernel
theorem dX3_readStatement_56 : decode cX3_readStatement 56 = .ok (.bipush 15, 2) := by decide +kernel
theorem dX3_readStatement_58 : decode cX3_readStatement 58 = .ok (.if_icmp .gt 12, 3) := by decide +kernel
theorem dX3_readStatement_61 : decode cX3_readStatement 61 = .ok (.aload_n 0, 1) := by decide +kernel
theorem dX3_readStatement_62 : decode cX3_readStatement 62 = .ok (.invokevirtual 77, 3) := by decide +kernel
theorem dX3_readStatement_65 : decode cX3_readStatement 65 = .ok (.ifCond .ne 5, 3) := by decide +kernel
theorem dX3_readStatement_68 : decode cX3_readStatement 68 = .ok (.iconst 0, 1) := by decide +kernel
theorem dX3_readStatement_69 : decode cX3_readStatement 69 = .ok (.ireturn, 1) := by decide +kernel
theorem dX3_readStatement_70 : decode cX3_readStatement 70 = .ok (.aload_n 0, 1) := by decide +kernel
theorem dX3_readStatement_71 : decode cX3_readStatement 71 = .ok (.getfield 74, 3) := by decide +kernel
theorem dX3_readStatement_74 : decode cX3_readStatement 74 = .ok (.invokestatic 80, 3) := by decide +kernel
theorem dX3_readStatement_77 : decode cX3_readStatement 77 = .ok (.astore_n 2, 1) := by decide +kernel
theorem dX3_readStatement_78 : decode cX3_readStatement 78 = .ok (.aload_n 2, 1) := by decide +kernel
theorem dX3_readStatement_79 : decode cX3_readStatement 79 = .ok (.invokevirtual 84, 3) := by decide +kernel
theorem dX3_readStatement_82 : decode cX3_readStatement 82 = .ok (.ifCond .eq 13, 3) := by decide +kernel
theorem dX3_readStatement_85 : decode cX3_readStatement 85 = .ok (.aload_n 0, 1) := by decide +kernel
theorem dX3_readStatement_86 : decode cX3_readStatement 86 = .ok (.iconst 1, 1) := by decide +kernel
theorem dX3_readStatement_87 : decode cX3_readStatement 87 = .ok (.aload_n 0, 1) := by decide +kernel
theorem dX3_readStatement_88 : decode cX3_readStatement 88 = .ok (.getfield 71, 3) := by decide +kernel
theorem dX3_readStatement_91 : decode cX3_readStatement 91 = .ok (.invokevirtual 63, 3) := by decide +kernel
theorem dX3_readStatement_94 : decode cX3_readStatement 94 = .ok (.ireturn, 1) := by decide +kernel
theorem dX3_readStatement_95 : decode cX3_readStatement 95 = .ok (.aload_n 0, 1) := by decide +kernel
theorem dX3_readStatement_96 : decode cX3_readStatement 96 = .ok (.invokevirtual 53, 3) := by decide +kernel
theorem dX3_readStatement_99 : decode cX3_readStatement 99 = .ok (.iconst 1, 1) := by decide +kernel
theorem dX3_readStatement_100 : decode cX3_readStatement 100 = .ok (.istore_n 3, 1) := by decide +kernel
theorem dX3_readStatement_101 : decode cX3_readStatement 101 = .ok (.iconst 0, 1) := by decide +kernel
theorem dX3_readStatement_102 : decode cX3_readStatement 102 = .ok (.istore 4, 2) := by decide +kernel
theorem dX3_readStatement_104 : decode cX3_readStatement 104 = .ok (.iload_n 3, 1) := by decide +kernel
theorem dX3_readStatement_105 : decode cX3_readStatement 105 = .ok (.ifCond .eq 56, 3) := by decide +kernel
theorem dX3_readStatement_108 : decode cX3_readStatement 108 = .ok (.iload 4, 2) := by decide +kernel
theorem dX3_readStatement_110 : decode cX3_readStatement 110 = .ok (.aload_n 2, 1) := by decide +kernel
theorem dX3_readStatement_111 : decode cX3_readStatement 111 = .ok (.invokevirtual 89, 3) := by decide +kernel
theorem dX3_readStatement_114 : decode cX3_readStatement 114 = .ok (.if_icmp .ge 47, 3) := by decide +kernel
theorem dX3_readStatement_117 : decode cX3_readStatement 117 = .ok (.aload_n 2, 1) := by decide +kernel
theorem dX3_readStatement_118 : decode cX3_readStatement 118 = .ok (.iload 4, 2) := by decide +kernel
theorem dX3_readStatement_120 : decode cX3_readStatement 120 = .ok (.invokevirtual 92, 3) := by decide +kernel
theorem dX3_readStatement_123 : decode cX3_readStatement 123 = .ok (.bipush 73, 2) := by decide +kernel
theorem dX3_readStatement_125 : decode cX3_readStatement 125 = .ok (.if_icmp .ne 19, 3) := by decide +kernel
theorem dX3_readStatement_128 : decode cX3_readStatement 128 = .ok (.aload_n 0, 1) := by decide +kernel
theorem dX3_readStatement_129 : decode cX3_readStatement 129 = .ok (.getfield 44, 3) := by decide +kernel
theorem dX3_readStatement_132 : decode cX3_readStatement 132 = .ok (.iconst 1, 1) := by decide +kernel
theorem dX3_readStatement_133 : decode cX3_readStatement 133 = .ok (.if_icmp .eq 11, 3) := by decide +kernel
theorem dX3_readStatement_136 : decode cX3_readStatement 136 = .ok (.aload_n 2, 1) := by decide +kernel
theorem dX3_readStatement_137 : decode cX3_readStatement 137 = .ok (.invokevirtual 89, 3) := by decide +kernel
theorem dX3_readStatement_140 : decode cX3_readStatement 140 = .ok (.iconst 1, 1) := by decide +kernel
theorem dX3_readStatement_141 : decode cX3_readStatement 141 = .ok (.isub, 1) := by decide +kernel
theorem dX3_readStatement_142 : decode cX3_readStatement 142 = .ok (.istore 4, 2) := by decide +kernel
theorem dX3_readStatement_144 : decode cX3_readStatement 144 = .ok (.aload_n 0, 1) := by decide +kernel
theorem dX3_readStatement_145 : decode cX3_readStatement 145 = .ok (.aload_n 2, 1) := by decide +kernel
theorem dX3_readStatement_146 : decode cX3_readStatement 146 = .ok (.iload 4, 2) := by decide +kernel
theorem dX3_readStatement_148 : decode cX3_readStatement 148 = .ok (.invokevirtual 92, 3) := by decide +kernel
theorem dX3_readStatement_151 : decode cX3_readStatement 151 = .ok (.invokevirtual 96, 3) := by decide +kernel
theorem dX3_readStatement_154 : decode cX3_readStatement 154 = .ok (.istore_n 3, 1) := by decide +kernel
theorem dX3_readStatement_155 : decode cX3_readStatement 155 = .ok (.iinc 4 1, 3) := by decide +kernel
theorem dX3_readStatement_158 : decode cX3_readStatement 158 = .ok (.goto (-54), 3) := by decide +kernel
theorem dX3_readStatement_161 : decode cX3_readStatement 161 = .ok (.iload_n 3, 1) := by decide +kernel
theorem dX3_readStatement_162 : decode cX3_readStatement 162 = .ok (.ireturn, 1) := by decide +kernel
theorem dX3_scan_0 : decode cX3_scan 0 = .ok (.aload_n 0, 1) := by decide +kernel
theorem dX3_scan_1 : decode cX3_scan 1 = .ok (.getfield 44, 3) := by decide +kernel
theorem dX3_scan_4 : decode cX3_scan 4 = .ok (.iconst 1, 1) := by decide +kernel
theorem dX3_scan_5 : decode cX3_scan 5 = .ok (.if_icmp .eq 11, 3) := by decide +kernel
theorem dX3_scan_8 : decode cX3_scan 8 = .ok (.aload_n 0, 1) := by decide +kernel
theorem dX3_scan_9 : decode cX3_scan 9 = .ok (.getfield 44, 3) := by decide +kernel
theorem dX3_scan_12 : decode cX3_scan 12 = .ok (.iconst 2, 1) := by decide +kernel
theorem dX3_scan_13 : decode cX3_scan 13 = .ok (.if_icmp .ne 7, 3) := by decide +kernel
theorem dX3_scan_16 : decode cX3_scan 16 = .ok (.iconst 1, 1) := by decide +kernel
theorem dX3_scan_17 : decode cX3_scan 17 = .ok (.goto 4, 3) := by decide +kernel
theorem dX3_scan_20 : decode cX3_scan 20 = .ok (.iconst 0, 1) := by decide +kernel
theorem dX3_scan_21 : decode cX3_scan 21 = .ok (.istore_n 1, 1) := by decide +kernel
theorem dX3_scan_22 : decode cX3_scan 22 = .ok (.aload_n 0, 1) := by decide +kernel
theorem dX3_scan_23 : decode cX3_scan 23 = .ok (.aload_n 0, 1) := by decide +kernel
theorem dX3_scan_24 : decode cX3_scan 24 = .ok (.getfield 47, 3) := by decide +kernel
theorem dX3_scan_27 : decode cX3_scan 27 = .ok (.putfield 71, 3) := by decide +kernel
theorem dX3_scan_30 : decode cX3_scan 30 = .ok (.aload_n 0, 1) := by decide +kernel
theorem dX3_scan_31 : decode cX3_scan 31 = .ok (.getfield 71, 3) := by decide +kernel
theorem dX3_scan_34 : decode cX3_scan 34 = .ok (.aload_n 0, 1) := by decide +kernel
theorem dX3_scan_35 : decode cX3_scan 35 = .ok (.getfield 32, 3) := by decide +kernel
theorem dX3_scan_38 : decode cX3_scan 38 = .ok (.if_icmp .ge 44, 3) := by decide +kernel
theorem dX3_scan_41 : decode cX3_scan 41 = .ok (.aload_n 0, 1) := by decide +kernel
theorem dX3_scan_42 : decode cX3_scan 42 = .ok (.getfield 28, 3) := by decide +kernel
theorem dX3_scan_45 : decode cX3_scan 45 = .ok (.aload_n 0, 1) := by decide +kernel
theorem dX3_scan_46 : decode cX3_scan 46 = .ok (.getfield 71, 3) := by decide +kernel
theorem dX3_scan_49 : decode cX3_scan 49 = .ok (.baload, 1) := by decide +kernel
theorem dX3_scan_50 : decode cX3_scan 50 = .ok (.bipush 32, 2) := by decide +kernel
theorem dX3_scan_52 : decode cX3_scan 52 = .ok (.if_icmp .eq 17, 3) := by decide +kernel
theorem dX3_scan_55 : decode cX3_scan 55 = .ok (.aload_n 0, 1) := by decide +kernel
theorem dX3_scan_56 : decode cX3_scan 56 = .ok (.getfield 28, 3) := by decide +kernel
theorem dX3_scan_59 : decode cX3_scan 59 = .ok (.aload_n 0, 1) := by decide +kernel
theorem dX3_scan_60 : decode cX3_scan 60 = .ok (.getfield 71, 3) := by decide +kernel
theorem dX3_scan_63 : decode cX3_scan 63 = .ok (.baload, 1) := by decide +kernel
theorem dX3_scan_64 : decode cX3_scan 64 = .ok (.bipush 10, 2) := by decide +kernel
theorem dX3_scan_66 : decode cX3_scan 66 = .ok (.if_icmp .ne 16, 3) := by decide +kernel
theorem dX3_scan_69 : decode cX3_scan 69 = .ok (.aload_n 0, 1) := by decide +kernel
theorem dX3_scan_70 : decode cX3_scan 70 = .ok (.dup, 1) := by decide +kernel
theorem dX3_scan_71 : decode cX3_scan 71 = .ok (.getfield 71, 3) := by decide +kernel
theorem dX3_scan_74 : decode cX3_scan 74 = .ok (.iconst 1, 1) := by decide +kernel
theorem dX3_scan_75 : decode cX3_scan 75 = .ok (.iadd, 1) := by decide +kernel
theorem dX3_scan_76 : decode cX3_scan 76 = .ok (.putfield 71, 3) := by decide +kernel
theorem dX3_scan_79 : decode cX3_scan 79 = .ok (.goto (-49), 3) := by decide +kernel
theorem dX3_scan_82 : decode cX3_scan 82 = .ok (.iload_n 1, 1) := by decide +kernel
theorem dX3_scan_83 : decode cX3_scan 83 = .ok (.ifCond .eq 18, 3) := by decide +kernel
theorem dX3_scan_86 : decode cX3_scan 86 = .ok (.aload_n 0, 1) := by decide +kernel
theorem dX3_scan_87 : decode cX3_scan 87 = .ok (.getfield 71, 3) := by decide +kernel
theorem dX3_scan_90 : decode cX3_scan 90 = .ok (.aload_n 0, 1) := by decide +kernel
theorem dX3_scan_91 : decode cX3_scan 91 = .ok (.getfield 47, 3) := by decide +kernel
theorem dX3_scan_94 : decode cX3_scan 94 = .ok (.if_icmp .ne 7, 3) := by decide +kernel
theorem dX3_scan_97 : decode cX3_scan 97 = .ok (.iconst 1, 1) := by decide +kernel
theorem dX3_scan_98 : decode cX3_scan 98 = .ok (.goto 4, 3) := by decide +kernel
theorem dX3_scan_101 : decode cX3_scan 101 = .ok (.iconst 0, 1) := by decide +kernel
theorem dX3_scan_102 : decode cX3_scan 102 = .ok (.istore_n 2, 1) := by decide +kernel
theorem dX3_scan_103 : decode cX3_scan 103 = .ok (.aload_n 0, 1) := by decide +kernel
theorem dX3_scan_104 : decode cX3_scan 104 = .ok (.aload_n 0, 1) := by decide +kernel
theorem dX3_scan_105 : decode cX3_scan 105 = .ok (.getfield 71, 3) := by decide +kernel
theorem dX3_scan_108 : decode cX3_scan 108 = .ok (.putfield 47, 3) := by decide +kernel
theorem dX3_scan_111 : decode cX3_scan 111 = .ok (.aload_n 0, 1) := by decide +kernel
theorem dX3_scan_112 : decode cX3_scan 112 = .ok (.iconst (-1), 1) := by decide +kernel
theorem dX3_scan_113 : decode cX3_scan 113 = .ok (.putfield 74, 3) := by decide +kernel
theorem dX3_scan_116 : decode cX3_scan 116 = .ok (.aload_n 0, 1) := by decide +kernel
theorem dX3_scan_117 : decode cX3_scan 117 = .ok (.getfield 71, 3) := by decide +kernel
theorem dX3_scan_120 : decode cX3_scan 120 = .ok (.aload_n 0, 1) := by decide +kernel
theorem dX3_scan_121 : decode cX3_scan 121 = .ok (.getfield 32, 3) := by decide +kernel
theorem dX3_scan_124 : decode cX3_scan 124 = .ok (.if_icmp .lt 11, 3) := by decide +kernel
theorem dX3_scan_127 : decode cX3_scan 127 = .ok (.aload_n 0, 1) := by decide +kernel
theorem dX3_scan_128 : decode cX3_scan 128 = .ok (.iconst 0, 1) := by decide +kernel
theorem dX3_scan_129 : decode cX3_scan 129 = .ok (.putfield 44, 3) := by decide +kernel
theorem dX3_scan_132 : decode cX3_scan 132 = .ok (.goto 104, 3) := by decide +kernel
theorem dX3_scan_135 : decode cX3_scan 135 = .ok (.aload_n 0, 1) := by decide +kernel
theorem dX3_scan_136 : decode cX3_scan 136 = .ok (.getfield 28, 3) := by decide +kernel
theorem dX3_scan_139 : decode cX3_scan 139 = .ok (.aload_n 0, 1) := by decide +kernel
theorem dX3_scan_140 : decode cX3_scan 140 = .ok (.getfield 71, 3) := by decide +kernel
theorem dX3_scan_143 : decode cX3_scan 143 = .ok (.baload, 1) := by decide +kernel
theorem dX3_scan_144 : decode cX3_scan 144 = .ok (.invokestatic 176, 3) := by decide +kernel
theorem dX3_scan_147 : decode cX3_scan 147 = .ok (.ifCond .eq 39, 3) := by decide +kernel
theorem dX3_scan_150 : decode cX3_scan 150 = .ok (.aload_n 0, 1) := by decide +kernel
theorem dX3_scan_151 : decode cX3_scan 151 = .ok (.invokevirtual 179, 3) := by decide +kernel
theorem dX3_scan_154 : decode cX3_scan 154 = .ok (.aload_n 0, 1) := by decide +kernel
theorem dX3_scan_155 : decode cX3_scan 155 = .ok (.iload_n 2, 1) := by decide +kernel
theorem dX3_scan_156 : decode cX3_scan 156 = .ok (.ifCond .eq 7, 3) := by decide +kernel
theorem dX3_scan_159 : decode cX3_scan 159 = .ok (.iconst 4, 1) := by decide +kernel
theorem dX3_scan_160 : decode cX3_scan 160 = .ok (.goto 4, 3) := by decide +kernel
theorem dX3_scan_163 : decode cX3_scan 163 = .ok (.iconst 1, 1) := by decide +kernel
theorem dX3_scan_164 : decode cX3_scan 164 = .ok (.putfield 44, 3) := by decide +kernel
theorem dX3_scan_167 : decode cX3_scan 167 = .ok (.aload_n 0, 1) := by decide +kernel
theorem dX3_scan_168 : decode cX3_scan 168 = .ok (.iload_n 2, 1) := by decide +kernel
theorem dX3_scan_169 : decode cX3_scan 169 = .ok (.ifCond .eq 7, 3) := by decide +kernel
theorem dX3_scan_172 : decode cX3_scan 172 = .ok (.iconst (-1), 1) := by decide +kernel
theorem dX3_scan_173 : decode cX3_scan 173 = .ok (.goto 7, 3) := by decide +kernel
theorem dX3_scan_176 : decode cX3_scan 176 = .ok (.aload_n 0, 1) := by decide +kernel
theorem dX3_scan_177 : decode cX3_scan 177 = .ok (.invokevirtual 182, 3) := by decide +kernel
theorem dX3_scan_180 : decode cX3_scan 180 = .ok (.putfield 74, 3) := by decide +kernel
theorem dX3_scan_183 : decode cX3_scan 183 = .ok (.goto 53, 3) := by decide +kernel
theorem dX3_scan_186 : decode cX3_scan 186 = .ok (.aload_n 0, 1) := by decide +kernel
theorem dX3_scan_187 : decode cX3_scan 187 = .ok (.getfield 28, 3) := by decide +kernel
theorem dX3_scan_190 : decode cX3_scan 190 = .ok (.aload_n 0, 1) := by decide +kernel
theorem dX3_scan_191 : decode cX3_scan 191 = .ok (.getfield 71, 3) := by decide +kernel
theorem dX3_scan_194 : decode cX3_scan 194 = .ok (.baload, 1) := by decide +kernel
theorem dX3_scan_195 : decode cX3_scan 195 = .ok (.invokestatic 185, 3) := by decide +kernel
theorem dX3_scan_198 : decode cX3_scan 198 = .ok (.ifCond .eq 23, 3) := by decide +kernel
theorem dX3_scan_201 : decode cX3_scan 201 = .ok (.aload_n 0, 1) := by decide +kernel
theorem dX3_scan_202 : decode cX3_scan 202 = .ok (.invokevirtual 188, 3) := by decide +kernel
theorem dX3_scan_205 : decode cX3_scan 205 = .ok (.aload_n 0, 1) := by decide +kernel
theorem dX3_scan_206 : decode cX3_scan 206 = .ok (.iload_n 2, 1) := by decide +kernel
theorem dX3_scan_207 : decode cX3_scan 207 = .ok (.ifCond .eq 7, 3) := by decide +kernel
theorem dX3_scan_210 : decode cX3_scan 210 = .ok (.iconst 4, 1) := by decide +kernel
theorem dX3_scan_211 : decode cX3_scan 211 = .ok (.goto 4, 3) := by decide +kernel
theorem dX3_scan_214 : decode cX3_scan 214 = .ok (.iconst 2, 1) := by decide +kernel
theorem dX3_scan_215 : decode cX3_scan 215 = .ok (.putfield 44, 3) := by decide +kernel
theorem dX3_scan_218 : decode cX3_scan 218 = .ok (.goto 18, 3) := by decide +kernel
theorem dX3_scan_221 : decode cX3_scan 221 = .ok (.aload_n 0, 1) := by decide +kernel
theorem dX3_scan_222 : decode cX3_scan 222 = .ok (.aload_n 0, 1) := by decide +kernel
theorem dX3_scan_223 : decode cX3_scan 223 = .ok (.getfield 71, 3) := by decide +kernel
theorem dX3_scan_226 : decode cX3_scan 226 = .ok (.iconst 1, 1) := by decide +kernel
theorem dX3_scan_227 : decode cX3_scan 227 = .ok (.iadd, 1) := by decide +kernel
theorem dX3_scan_228 : decode cX3_scan 228 = .ok (.putfield 47, 3) := by decide +kernel
theorem dX3_scan_231 : decode cX3_scan 231 = .ok (.aload_n 0, 1) := by decide +kernel
theorem dX3_scan_232 : decode cX3_scan 232 = .ok (.iconst 3, 1) := by decide +kernel
theorem dX3_scan_233 : decode cX3_scan 233 = .ok (.putfield 44, 3) := by decide +kernel
theorem dX3_scan_236 : decode cX3_scan 236 = .ok (.return_, 1) := by decide +kernel
theorem dX3_scanNumber_0 : decode cX3_scanNumber 0 = .ok (.aload_n 0, 1) := by decide +kernel
theorem dX3_scanNumber_1 : decode cX3_scanNumber 1 = .ok (.iconst 0, 1) := by decide +kernel
theorem dX3_scanNumber_2 : decode cX3_scanNumber 2 = .ok (.putfield 169, 3) := by decide +kernel
theorem dX3_scanNumber_5 : decode cX3_scanNumber 5 = .ok (.aload_n 0, 1) := by decide +kernel
theorem dX3_scanNumber_6 : decode cX3_scanNumber 6 = .ok (.getfield 47, 3) := by decide +kernel
theorem dX3_scanNumber_9 : decode cX3_scanNumber 9 = .ok (.aload_n 0, 1) := by decide +kernel
theorem dX3_scanNumber_10 : decode cX3_scanNumber 10 = .ok (.getfield 32, 3) := by decide +kernel
theorem dX3_scanNumber_13 : decode cX3_scanNumber 13 = .ok (.if_icmp .ge 68, 3) := by decide +kernel
theorem dX3_scanNumber_16 : decode cX3_scanNumber 16 = .ok (.aload_n 0, 1) := by decide +kernel
theorem dX3_scanNumber_17 : decode cX3_scanNumber 17 = .ok (.getfield 28, 3) := by decide +kernel
theorem dX3_scanNumber_20 : decode cX3_scanNumber 20 = .ok (.aload_n 0, 1) := by decide +kernel
theorem dX3_scanNumber_21 : decode cX3_scanNumber 21 = .ok (.getfield 47, 3) := by decide +kernel
theorem dX3_scanNumber_24 : decode cX3_scanNumber 24 = .ok (.baload, 1) := by decide +kernel
theorem dX3_scanNumber_25 : decode cX3_scanNumber 25 = .ok (.invokestatic 185, 3) := by decide +kernel
theorem dX3_scanNumber_28 : decode cX3_scanNumber 28 = .ok (.ifCond .eq 53, 3) := by decide +kernel
theorem dX3_scanNumber_31 : decode cX3_scanNumber 31 = .ok (.aload_n 0, 1) := by decide +kernel
theorem dX3_scanNumber_32 : decode cX3_scanNumber 32 = .ok (.getfield 47, 3) := by decide +kernel
theorem dX3_scanNumber_35 : decode cX3_scanNumber 35 = .ok (.aload_n 0, 1) := by decide +kernel
theorem dX3_scanNumber_36 : decode cX3_scanNumber 36 = .ok (.getfield 71, 3) := by decide +kernel
theorem dX3_scanNumber_39 : decode cX3_scanNumber 39 = .ok (.isub, 1) := by decide +kernel
theorem dX3_scanNumber_40 : decode cX3_scanNumber 40 = .ok (.iconst 3, 1) := by decide +kernel
theorem dX3_scanNumber_41 : decode cX3_scanNumber 41 = .ok (.if_icmp .ge 27, 3) := by decide +kernel
theorem dX3_scanNumber_44 : decode cX3_scanNumber 44 = .ok (.aload_n 0, 1) := by decide +kernel
theorem dX3_scanNumber_45 : decode cX3_scanNumber 45 = .ok (.aload_n 0, 1) := by decide +kernel
theorem dX3_scanNumber_46 : decode cX3_scanNumber 46 = .ok (.getfield 169, 3) := by decide +kernel
theorem dX3_scanNumber_49 : decode cX3_scanNumber 49 = .ok (.bipush 10, 2) := by decide +kernel
theorem dX3_scanNumber_51 : decode cX3_scanNumber 51 = .ok (.imul, 1) := by decide +kernel
theorem dX3_scanNumber_52 : decode cX3_scanNumber 52 = .ok (.aload_n 0, 1) := by decide +kernel
theorem dX3_scanNumber_53 : decode cX3_scanNumber 53 = .ok (.getfield 28, 3) := by decide +kernel
theorem dX3_scanNumber_56 : decode cX3_scanNumber 56 = .ok (.aload_n 0, 1) := by decide +kernel
theorem dX3_scanNumber_57 : decode cX3_scanNumber 57 = .ok (.getfield 47, 3) := by decide +kernel
theorem dX3_scanNumber_60 : decode cX3_scanNumber 60 = .ok (.baload, 1) := by decide +kernel
theorem dX3_scanNumber_61 : decode cX3_scanNumber 61 = .ok (.bipush 48, 2) := by decide +kernel
theorem dX3_scanNumber_63 : decode cX3_scanNumber 63 = .ok (.isub, 1) := by decide +kernel
theorem dX3_scanNumber_64 : decode cX3_scanNumber 64 = .ok (.iadd, 1) := by decide +kernel
theorem dX3_scanNumber_65 : decode cX3_scanNumber 65 = .ok (.putfield 169, 3) := by decide +kernel
theorem dX3_scanNumber_68 : decode cX3_scanNumber 68 = .ok (.aload_n 0, 1) := by decide +kernel
theorem dX3_scanNumber_69 : decode cX3_scanNumber 69 = .ok (.dup, 1) := by decide +kernel
theorem dX3_scanNumber_70 : decode cX3_scanNumber 70 = .ok (.getfield 47, 3) := by decide +kernel
theorem dX3_scanNumber_73 : decode cX3_scanNumber 73 = .ok (.iconst 1, 1) := by decide +kernel
theorem dX3_scanNumber_74 : decode cX3_scanNumber 74 = .ok (.iadd, 1) := by decide +kernel
theorem dX3_scanNumber_75 : decode cX3_scanNumber 75 = .ok (.putfield 47, 3) := by decide +kernel
theorem dX3_scanNumber_78 : decode cX3_scanNumber 78 = .ok (.goto (-73), 3) := by decide +kernel
theorem dX3_scanNumber_81 : decode cX3_scanNumber 81 = .ok (.return_, 1) := by decide +kernel
theorem dX3_scanWord_0 : decode cX3_scanWord 0 = .ok (.aload_n 0, 1) := by decide +kernel
theorem dX3_scanWord_1 : decode cX3_scanWord 1 = .ok (.getfield 47, 3) := by decide +kernel
theorem dX3_scanWord_4 : decode cX3_scanWord 4 = .ok (.aload_n 0, 1) := by decide +kernel
theorem dX3_scanWord_5 : decode cX3_scanWord 5 = .ok (.getfield 32, 3) := by decide +kernel
theorem dX3_scanWord_8 : decode cX3_scanWord 8 = .ok (.if_icmp .ge 31, 3) := by decide +kernel
theorem dX3_scanWord_11 : decode cX3_scanWord 11 = .ok (.aload_n 0, 1) := by decide +kernel
theorem dX3_scanWord_12 : decode cX3_scanWord 12 = .ok (.getfield 28, 3) := by decide +kernel
theorem dX3_scanWord_15 : decode cX3_scanWord 15 = .ok (.aload_n 0, 1) := by decide +kernel
theorem dX3_scanWord_16 : decode cX3_scanWord 16 = .ok (.getfield 47, 3) := by decide +kernel
theorem dX3_scanWord_19 : decode cX3_scanWord 19 = .ok (.baload, 1) := by decide +kernel
theorem dX3_scanWord_20 : decode cX3_scanWord 20 = .ok (.invokestatic 176, 3) := by decide +kernel
theorem dX3_scanWord_23 : decode cX3_scanWord 23 = .ok (.ifCond .eq 16, 3) := by decide +kernel
theorem dX3_scanWord_26 : decode cX3_scanWord 26 = .ok (.aload_n 0, 1) := by decide +kernel
theorem dX3_scanWord_27 : decode cX3_scanWord 27 = .ok (.dup, 1) := by decide +kernel
theorem dX3_scanWord_28 : decode cX3_scanWord 28 = .ok (.getfield 47, 3) := by decide +kernel
theorem dX3_scanWord_31 : decode cX3_scanWord 31 = .ok (.iconst 1, 1) := by decide +kernel
theorem dX3_scanWord_32 : decode cX3_scanWord 32 = .ok (.iadd, 1) := by decide +kernel
theorem dX3_scanWord_33 : decode cX3_scanWord 33 = .ok (.putfield 47, 3) := by decide +kernel
theorem dX3_scanWord_36 : decode cX3_scanWord 36 = .ok (.goto (-36), 3) := by decide +kernel
theorem dX3_scanWord_39 : decode cX3_scanWord 39 = .ok (.return_, 1) := by decide +kernel
theorem dX4_canGo_0 : decode cX4_canGo 0 = .ok (.aload_n 0, 1) := by decide +kernel
theorem dX4_canGo_1 : decode cX4_canGo 1 = .ok (.getfield 11, 3) := by decide +kernel
theorem dX4_canGo_4 : decode cX4_canGo 4 = .ok (.iload_n 1, 1) := by decide +kernel
theorem dX4_canGo_5 : decode cX4_canGo 5 = .ok (.aaload, 1) := by decide +kernel
theorem dX4_canGo_6 : decode cX4_canGo 6 = .ok (.getfield 105, 3) := by decide +kernel
theorem dX4_canGo_9 : decode cX4_canGo 9 = .ok (.aload_n 0, 1) := by decide +kernel
theorem dX4_canGo_10 : decode cX4_canGo 10 = .ok (.getfield 70, 3) := by decide +kernel
theorem dX4_canGo_13 : decode cX4_canGo 13 = .ok (.if_icmp .gt 23, 3) := by decide +kernel
theorem dX4_canGo_16 : decode cX4_canGo 16 = .ok (.aload_n 0, 1) := by decide +kernel
theorem dX4_canGo_17 : decode cX4_canGo 17 = .ok (.getfield 11, 3) := by decide +kernel
theorem dX4_canGo_20 : decode cX4_canGo 20 = .ok (.iload_n 1, 1) := by decide +kernel
theorem dX4_canGo_21 : decode cX4_canGo 21 = .ok (.aaload, 1) := by decide +kernel
theorem dX4_canGo_22 : decode cX4_canGo 22 = .ok (.aload_n 0, 1) := by decide +kernel
theorem dX4_canGo_23 : decode cX4_canGo 23 = .ok (.getfield 41, 3) := by decide +kernel
theorem dX4_canGo_26 : decode cX4_canGo 26 = .ok (.invokevirtual 114, 3) := by decide +kernel
theorem dX4_canGo_29 : decode cX4_canGo 29 = .ok (.ifCond .eq 7, 3) := by decide +kernel
theorem dX4_canGo_32 : decode cX4_canGo 32 = .ok (.iconst 1, 1) := by decide +kernel
theorem dX4_canGo_33 : decode cX4_canGo 33 = .ok (.goto 4, 3) := by decide +kernel
theorem dX4_canGo_36 : decode cX4_canGo 36 = .ok (.iconst 0, 1) := by decide +kernel
theorem dX4_canGo_37 : decode cX4_canGo 37 = .ok (.ireturn, 1) := by decide +kernel
theorem dX4_copyFrom_0 : decode cX4_copyFrom 0 = .ok (.aload_n 0, 1) := by decide +kernel
theorem dX4_copyFrom_1 : decode cX4_copyFrom 1 = .ok (.aload_n 1, 1) := by decide +kernel
theorem dX4_copyFrom_2 : decode cX4_copyFrom 2 = .ok (.getfield 54, 3) := by decide +kernel
theorem dX4_copyFrom_5 : decode cX4_copyFrom 5 = .ok (.putfield 54, 3) := by decide +kernel
theorem dX4_copyFrom_8 : decode cX4_copyFrom 8 = .ok (.aload_n 0, 1) := by decide +kernel
theorem dX4_copyFrom_9 : decode cX4_copyFrom 9 = .ok (.aload_n 1, 1) := by decide +kernel
theorem dX4_copyFrom_10 : decode cX4_copyFrom 10 = .ok (.getfield 41, 3) := by decide +kernel
theorem dX4_copyFrom_13 : decode cX4_copyFrom 13 = .ok (.aload_n 1, 1) := by decide +kernel
theorem dX4_copyFrom_14 : decode cX4_copyFrom 14 = .ok (.getfield 44, 3) := by decide +kernel
theorem dX4_copyFrom_17 : decode cX4_copyFrom 17 = .ok (.aload_n 1, 1) := by decide +kernel
theorem dX4_copyFrom_18 : decode cX4_copyFrom 18 = .ok (.getfield 47, 3) := by decide +kernel
theorem dX4_copyFrom_21 : decode cX4_copyFrom 21 = .ok (.invokevirtual 86, 3) := by decide +kernel
theorem dX4_copyFrom_24 : decode cX4_copyFrom 24 = .ok (.aload_n 0, 1) := by decide +kernel
theorem dX4_copyFrom_25 : decode cX4_copyFrom 25 = .ok (.aload_n 1, 1) := by decide +kernel
theorem dX4_copyFrom_26 : decode cX4_copyFrom 26 = .ok (.getfield 70, 3) := by decide +kernel
theorem dX4_copyFrom_29 : decode cX4_copyFrom 29 = .ok (.putfield 70, 3) := by decide +kernel
theorem dX4_copyFrom_32 : decode cX4_copyFrom 32 = .ok (.aload_n 0, 1) := by decide +kernel
theorem dX4_copyFrom_33 : decode cX4_copyFrom 33 = .ok (.aload_n 1, 1) := by decide +kernel
theorem dX4_copyFrom_34 : decode cX4_copyFrom 34 = .ok (.getfield 73, 3) := by decide +kernel
theorem dX4_copyFrom_37 : decode cX4_copyFrom 37 = .ok (.putfield 73, 3) := by decide +kernel
theorem dX4_copyFrom_40 : decode cX4_copyFrom 40 = .ok (.aload_n 0, 1) := by decide +kernel
theorem dX4_copyFrom_41 : decode cX4_copyFrom 41 = .ok (.aload_n 1, 1) := by decide +kernel
theorem dX4_copyFrom_42 : decode cX4_copyFrom 42 = .ok (.getfield 76, 3) := by decide +kernel
theorem dX4_copyFrom_45 : decode cX4_copyFrom 45 = .ok (.putfield 76, 3) := by decide +kernel
theorem dX4_copyFrom_48 : decode cX4_copyFrom 48 = .ok (.aload_n 0, 1) := by decide +kernel
theorem dX4_copyFrom_49 : decode cX4_copyFrom 49 = .ok (.aload_n 1, 1) := by decide +kernel
theorem dX4_copyFrom_50 : decode cX4_copyFrom 50 = .ok (.getfield 36, 3) := by decide +kernel
theorem dX4_copyFrom_53 : decode cX4_copyFrom 53 = .ok (.putfield 36, 3) := by decide +kernel
theorem dX4_copyFrom_56 : decode cX4_copyFrom 56 = .ok (.aload_n 1, 1) := by decide +kernel
theorem dX4_copyFrom_57 : decode cX4_copyFrom 57 = .ok (.getfield 17, 3) := by decide +kernel
theorem dX4_copyFrom_60 : decode cX4_copyFrom 60 = .ok (.iconst 0, 1) := by decide +kernel
theorem dX4_copyFrom_61 : decode cX4_copyFrom 61 = .ok (.aload_n 0, 1) := by decide +kernel
theorem dX4_copyFrom_62 : decode cX4_copyFrom 62 = .ok (.getfield 17, 3) := by decide +kernel
theorem dX4_copyFrom_65 : decode cX4_copyFrom 65 = .ok (.iconst 0, 1) := by decide +kernel
theorem dX4_copyFrom_66 : decode cX4_copyFrom 66 = .ok (.bipush 64, 2) := by decide +kernel
theorem dX4_copyFrom_68 : decode cX4_copyFrom 68 = .ok (.invokestatic 58, 3) := by decide +kernel
theorem dX4_copyFrom_71 : decode cX4_copyFrom 71 = .ok (.aload_n 1, 1) := by decide +kernel
theorem dX4_copyFrom_72 : decode cX4_copyFrom 72 = .ok (.getfield 21, 3) := by decide +kernel
theorem dX4_copyFrom_75 : decode cX4_copyFrom 75 = .ok (.iconst 0, 1) := by decide +kernel
theorem dX4_copyFrom_76 : decode cX4_copyFrom 76 = .ok (.aload_n 0, 1) := by decide +kernel
theorem dX4_copyFrom_77 : decode cX4_copyFrom 77 = .ok (.getfield 21, 3) := by decide +kernel
theorem dX4_copyFrom_80 : decode cX4_copyFrom 80 = .ok (.iconst 0, 1) := by decide +kernel
theorem dX4_copyFrom_81 : decode cX4_copyFrom 81 = .ok (.bipush 32, 2) := by decide +kernel
theorem dX4_copyFrom_83 : decode cX4_copyFrom 83 = .ok (.invokestatic 58, 3) := by decide +kernel
theorem dX4_copyFrom_86 : decode cX4_copyFrom 86 = .ok (.aload_n 1, 1) := by decide +kernel
theorem dX4_copyFrom_87 : decode cX4_copyFrom 87 = .ok (.getfield 24, 3) := by decide +kernel
theorem dX4_copyFrom_90 : decode cX4_copyFrom 90 = .ok (.iconst 0, 1) := by decide +kernel
theorem dX4_copyFrom_91 : decode cX4_copyFrom 91 = .ok (.aload_n 0, 1) := by decide +kernel
theorem dX4_copyFrom_92 : decode cX4_copyFrom 92 = .ok (.getfield 24, 3) := by decide +kernel
theorem dX4_copyFrom_95 : decode cX4_copyFrom 95 = .ok (.iconst 0, 1) := by decide +kernel
theorem dX4_copyFrom_96 : decode cX4_copyFrom 96 = .ok (.aload_n 0, 1) := by decide +kernel
theorem dX4_copyFrom_97 : decode cX4_copyFrom 97 = .ok (.getfield 24, 3) := by decide +kernel
theorem dX4_copyFrom_100 : decode cX4_copyFrom 100 = .ok (.arraylength, 1) := by decide +kernel
theorem dX4_copyFrom_101 : decode cX4_copyFrom 101 = .ok (.invokestatic 58, 3) := by decide +kernel
theorem dX4_copyFrom_104 : decode cX4_copyFrom 104 = .ok (.aload_n 1, 1) := by decide +kernel
theorem dX4_copyFrom_105 : decode cX4_copyFrom 105 = .ok (.getfield 27, 3) := by decide +kernel
theorem dX4_copyFrom_108 : decode cX4_copyFrom 108 = .ok (.iconst 0, 1) := by decide +kernel
theorem dX4_copyFrom_109 : decode cX4_copyFrom 109 = .ok (.aload_n 0, 1) := by decide +kernel
theorem dX4_copyFrom_110 : decode cX4_copyFrom 110 = .ok (.getfield 27, 3) := by decide +kernel
theorem dX4_copyFrom_113 : decode cX4_copyFrom 113 = .ok (.iconst 0, 1) := by decide +kernel
theorem dX4_copyFrom_114 : decode cX4_copyFrom 114 = .ok (.aload_n 0, 1) := by decide +kernel
theorem dX4_copyFrom_115 : decode cX4_copyFrom 115 = .ok (.getfield 27, 3) := by decide +kernel
theorem dX4_copyFrom_118 : decode cX4_copyFrom 118 = .ok (.arraylength, 1) := by decide +kernel
theorem dX4_copyFrom_119 : decode cX4_copyFrom 119 = .ok (.invokestatic 58, 3) := by decide +kernel
theorem dX4_copyFrom_122 : decode cX4_copyFrom 122 = .ok (.aload_n 1, 1) := by decide +kernel
theorem dX4_copyFrom_123 : decode cX4_copyFrom 123 = .ok (.getfield 30, 3) := by decide +kernel
theorem dX4_copyFrom_126 : decode cX4_copyFrom 126 = .ok (.iconst 0, 1) := by decide +kernel
theorem dX4_copyFrom_127 : decode cX4_copyFrom 127 = .ok (.aload_n 0, 1) := by decide +kernel
theorem dX4_copyFrom_128 : decode cX4_copyFrom 128 = .ok (.getfield 30, 3) := by decide +kernel
theorem dX4_copyFrom_131 : decode cX4_copyFrom 131 = .ok (.iconst 0, 1) := by decide +kernel
theorem dX4_copyFrom_132 : decode cX4_copyFrom 132 = .ok (.aload_n 0, 1) := by decide +kernel
theorem dX4_copyFrom_133 : decode cX4_copyFrom 133 = .ok (.getfield 30, 3) := by decide +kernel
theorem dX4_copyFrom_136 : decode cX4_copyFrom 136 = .ok (.arraylength, 1) := by decide +kernel
theorem dX4_copyFrom_137 : decode cX4_copyFrom 137 = .ok (.invokestatic 58, 3) := by decide +kernel
theorem dX4_copyFrom_140 : decode cX4_copyFrom 140 = .ok (.aload_n 1, 1) := by decide +kernel
theorem dX4_copyFrom_141 : decode cX4_copyFrom 141 = .ok (.getfield 33, 3) := by decide +kernel
theorem dX4_copyFrom_144 : decode cX4_copyFrom 144 = .ok (.iconst 0, 1) := by decide +kernel
theorem dX4_copyFrom_145 : decode cX4_copyFrom 145 = .ok (.aload_n 0, 1) := by decide +kernel
theorem dX4_copyFrom_146 : decode cX4_copyFrom 146 = .ok (.getfield 33, 3) := by decide +kernel
theorem dX4_copyFrom_149 : decode cX4_copyFrom 149 = .ok (.iconst 0, 1) := by decide +kernel
theorem dX4_copyFrom_150 : decode cX4_copyFrom 150 = .ok (.aload_n 0, 1) := by decide +kernel
theorem dX4_copyFrom_151 : decode cX4_copyFrom 151 = .ok (.getfield 33, 3) := by decide +kernel
theorem dX4_copyFrom_154 : decode cX4_copyFrom 154 = .ok (.arraylength, 1) := by decide +kernel
theorem dX4_copyFrom_155 : decode cX4_copyFrom 155 = .ok (.invokestatic 58, 3) := by decide +kernel
theorem dX4_copyFrom_158 : decode cX4_copyFrom 158 = .ok (.iconst 0, 1) := by decide +kernel
theorem dX4_copyFrom_159 : decode cX4_copyFrom 159 = .ok (.istore_n 2, 1) := by decide +kernel
theorem dX4_copyFrom_160 : decode cX4_copyFrom 160 = .ok (.iload_n 2, 1) := by decide +kernel
theorem dX4_copyFrom_161 : decode cX4_copyFrom 161 = .ok (.iconst 4, 1) := by decide +kernel
theorem dX4_copyFrom_162 : decode cX4_copyFrom 162 = .ok (.if_icmp .ge 24, 3) := by decide +kernel
theorem dX4_copyFrom_165 : decode cX4_copyFrom 165 = .ok (.aload_n 0, 1) := by decide +kernel
theorem dX4_copyFrom_166 : decode cX4_copyFrom 166 = .ok (.getfield 11, 3) := by decide +kernel
theorem dX4_copyFrom_169 : decode cX4_copyFrom 169 = .ok (.iload_n 2, 1) := by decide +kernel
theorem dX4_copyFrom_170 : decode cX4_copyFrom 170 = .ok (.aaload, 1) := by decide +kernel
theorem dX4_copyFrom_171 : decode cX4_copyFrom 171 = .ok (.aload_n 1, 1) := by decide +kernel
theorem dX4_copyFrom_172 : decode cX4_copyFrom 172 = .ok (.getfield 11, 3) := by decide +kernel
theorem dX4_copyFrom_175 : decode cX4_copyFrom 175 = .ok (.iload_n 2, 1) := by decide +kernel
theorem dX4_copyFrom_176 : decode cX4_copyFrom 176 = .ok (.aaload, 1) := by decide +kernel
theorem dX4_copyFrom_177 : decode cX4_copyFrom 177 = .ok (.invokevirtual 89, 3) := by decide +kernel
theorem dX4_copyFrom_180 : decode cX4_copyFrom 180 = .ok (.iinc 2 1, 3) := by decide +kernel
theorem dX4_copyFrom_183 : decode cX4_copyFrom 183 = .ok (.goto (-23), 3) := by decide +kernel
theorem dX4_copyFrom_186 : decode cX4_copyFrom 186 = .ok (.return_, 1) := by decide +kernel
theorem dX4_hasEnded_0 : decode cX4_hasEnded 0 = .ok (.iconst 0, 1) := by decide +kernel
theorem dX4_hasEnded_1 : decode cX4_hasEnded 1 = .ok (.istore_n 1, 1) := by decide +kernel
theorem dX4_hasEnded_2 : decode cX4_hasEnded 2 = .ok (.iconst 0, 1) := by decide +kernel
theorem dX4_hasEnded_3 : decode cX4_hasEnded 3 = .ok (.istore_n 2, 1) := by decide +kernel
theorem dX4_hasEnded_4 : decode cX4_hasEnded 4 = .ok (.iload_n 2, 1) := by decide +kernel
theorem dX4_hasEnded_5 : decode cX4_hasEnded 5 = .ok (.aload_n 0, 1) := by decide +kernel
theorem dX4_hasEnded_6 : decode cX4_hasEnded 6 = .ok (.getfield 54, 3) := by decide +kernel
theorem dX4_hasEnded_9 : decode cX4_hasEnded 9 = .ok (.if_icmp .ge 21, 3) := by decide +kernel
theorem dX4_hasEnded_12 : decode cX4_hasEnded 12 = .ok (.iload_n 1, 1) := by decide +kernel
theorem dX4_hasEnded_13 : decode cX4_hasEnded 13 = .ok (.aload_n 0, 1) := by decide +kernel
theorem dX4_hasEnded_14 : decode cX4_hasEnded 14 = .ok (.getfield 11, 3) := by decide +kernel
theorem dX4_hasEnded_17 : decode cX4_hasEnded 17 = .ok (.iload_n 2, 1) := by decide +kernel
theorem dX4_hasEnded_18 : decode cX4_hasEnded 18 = .ok (.aaload, 1) := by decide +kernel
theorem dX4_hasEnded_19 : decode cX4_hasEnded 19 = .ok (.getfield 117, 3) := by decide +kernel
theorem dX4_hasEnded_22 : decode cX4_hasEnded 22 = .ok (.ior, 1) := by decide +kernel
theorem dX4_hasEnded_23 : decode cX4_hasEnded 23 = .ok (.istore_n 1, 1) := by decide +kernel
theorem dX4_hasEnded_24 : decode cX4_hasEnded 24 = .ok (.iinc 2 1, 3) := by decide +kernel
theorem dX4_hasEnded_27 : decode cX4_hasEnded 27 = .ok (.goto (-23), 3) := by decide +kernel
theorem dX4_hasEnded_30 : decode cX4_hasEnded 30 = .ok (.iload_n 1, 1) := by decide +kernel
theorem dX4_hasEnded_31 : decode cX4_hasEnded 31 = .ok (.ifCond .ne 7, 3) := by decide +kernel
theorem dX4_hasEnded_34 : decode cX4_hasEnded 34 = .ok (.iconst 1, 1) := by decide +kernel
theorem dX4_hasEnded_35 : decode cX4_hasEnded 35 = .ok (.goto 4, 3) := by decide +kernel
theorem dX4_hasEnded_38 : decode cX4_hasEnded 38 = .ok (.iconst 0, 1) := by decide +kernel
theorem dX4_hasEnded_39 : decode cX4_hasEnded 39 = .ok (.ireturn, 1) := by decide +kernel
theorem dX4_hasNoneToGo_0 : decode cX4_hasNoneToGo 0 = .ok (.iconst 0, 1) := by decide +kernel
theorem dX4_hasNoneToGo_1 : decode cX4_hasNoneToGo 1 = .ok (.istore_n 1, 1) := by decide +kernel
theorem dX4_hasNoneToGo_2 : decode cX4_hasNoneToGo 2 = .ok (.iconst 0, 1) := by decide +kernel
theorem dX4_hasNoneToGo_3 : decode cX4_hasNoneToGo 3 = .ok (.istore_n 2, 1) := by decide +kernel
theorem dX4_hasNoneToGo_4 : decode cX4_hasNoneToGo 4 = .ok (.iload_n 2, 1) := by decide +kernel
theorem dX4_hasNoneToGo_5 : decode cX4_hasNoneToGo 5 = .ok (.aload_n 0, 1) := by decide +kernel
theorem dX4_hasNoneToGo_6 : decode cX4_hasNoneToGo 6 = .ok (.getfield 54, 3) := by decide +kernel
theorem dX4_hasNoneToGo_9 : decode cX4_hasNoneToGo 9 = .ok (.if_icmp .ge 25, 3) := by decide +kernel
theorem dX4_hasNoneToGo_12 : decode cX4_hasNoneToGo 12 = .ok (.iload_n 1, 1) := by decide +kernel
theorem dX4_hasNoneToGo_13 : decode cX4_hasNoneToGo 13 = .ok (.aload_n 0, 1) := by decide +kernel
theorem dX4_hasNoneToGo_14 : decode cX4_hasNoneToGo 14 = .ok (.getfield 11, 3) := by decide +kernel
theorem dX4_hasNoneToGo_17 : decode cX4_hasNoneToGo 17 = .ok (.iload_n 2, 1) := by decide +kernel
theorem dX4_hasNoneToGo_18 : decode cX4_hasNoneToGo 18 = .ok (.aaload, 1) := by decide +kernel
theorem dX4_hasNoneToGo_19 : decode cX4_hasNoneToGo 19 = .ok (.aload_n 0, 1) := by decide +kernel
theorem dX4_hasNoneToGo_20 : decode cX4_hasNoneToGo 20 = .ok (.getfield 41, 3) := by decide +kernel
theorem dX4_hasNoneToGo_23 : decode cX4_hasNoneToGo 23 = .ok (.invokevirtual 114, 3) := by decide +kernel
theorem dX4_hasNoneToGo_26 : decode cX4_hasNoneToGo 26 = .ok (.ior, 1) := by decide +kernel
theorem dX4_hasNoneToGo_27 : decode cX4_hasNoneToGo 27 = .ok (.istore_n 1, 1) := by decide +kernel
theorem dX4_hasNoneToGo_28 : decode cX4_hasNoneToGo 28 = .ok (.iinc 2 1, 3) := by decide +kernel
theorem dX4_hasNoneToGo_31 : decode cX4_hasNoneToGo 31 = .ok (.goto (-27), 3) := by decide +kernel
theorem dX4_hasNoneToGo_34 : decode cX4_hasNoneToGo 34 = .ok (.iload_n 1, 1) := by decide +kernel
theorem dX4_hasNoneToGo_35 : decode cX4_hasNoneToGo 35 = .ok (.ifCond .ne 7, 3) := by decide +kernel
theorem dX4_hasNoneToGo_38 : decode cX4_hasNoneToGo 38 = .ok (.iconst 1, 1) := by decide +kernel
theorem dX4_hasNoneToGo_39 : decode cX4_hasNoneToGo 39 = .ok (.goto 4, 3) := by decide +kernel
theorem dX4_hasNoneToGo_42 : decode cX4_hasNoneToGo 42 = .ok (.iconst 0, 1) := by decide +kernel
theorem dX4_hasNoneToGo_43 : decode cX4_hasNoneToGo 43 = .ok (.ireturn, 1) := by decide +kernel
theorem dX4_init_0 : decode cX4_init 0 = .ok (.aload_n 0, 1) := by decide +kernel
theorem dX4_init_1 : decode cX4_init 1 = .ok (.invokespecial 3, 3) := by decide +kernel
theorem dX4_init_4 : decode cX4_init 4 = .ok (.aload_n 0, 1) := by decide +kernel
theorem dX4_init_5 : decode cX4_init 5 = .ok (.iconst 4, 1) := by decide +kernel
theorem dX4_init_6 : decode cX4_init 6 = .ok (.anewarray 9, 3) := by decide +kernel
theorem dX4_init_9 : decode cX4_init 9 = .ok (.putfield 11, 3) := by decide +kernel
theorem dX4_init_12 : decode cX4_init 12 = .ok (.aload_n 0, 1) := by decide +kernel
theorem dX4_init_13 : decode cX4_init 13 = .ok (.bipush 64, 2) := by decide +kernel
theorem dX4_init_15 : decode cX4_init 15 = .ok (.newarray .int, 2) := by decide +kernel
theorem dX4_init_17 : decode cX4_init 17 = .ok (.putfield 17, 3) := by decide +kernel
theorem dX4_init_20 : decode cX4_init 20 = .ok (.aload_n 0, 1) := by decide +kernel
theorem dX4_init_21 : decode cX4_init 21 = .ok (.bipush 32, 2) := by decide +kernel
theorem dX4_init_23 : decode cX4_init 23 = .ok (.newarray .int, 2) := by decide +kernel
theorem dX4_init_25 : decode cX4_init 25 = .ok (.putfield 21, 3) := by decide +kernel
theorem dX4_init_28 : decode cX4_init 28 = .ok (.aload_n 0, 1) := by decide +kernel
theorem dX4_init_29 : decode cX4_init 29 = .ok (.bipush 96, 2) := by decide +kernel
theorem dX4_init_31 : decode cX4_init 31 = .ok (.newarray .int, 2) := by decide +kernel
theorem dX4_init_33 : decode cX4_init 33 = .ok (.putfield 24, 3) := by decide +kernel
theorem dX4_init_36 : decode cX4_init 36 = .ok (.aload_n 0, 1) := by decide +kernel
theorem dX4_init_37 : decode cX4_init 37 = .ok (.bipush 96, 2) := by decide +kernel
theorem dX4_init_39 : decode cX4_init 39 = .ok (.newarray .int, 2) := by decide +kernel
theorem dX4_init_41 : decode cX4_init 41 = .ok (.putfield 27, 3) := by decide +kernel
theorem dX4_init_44 : decode cX4_init 44 = .ok (.aload_n 0, 1) := by decide +kernel
theorem dX4_init_45 : decode cX4_init 45 = .ok (.bipush 96, 2) := by decide +kernel
theorem dX4_init_47 : decode cX4_init 47 = .ok (.newarray .int, 2) := by decide +kernel
theorem dX4_init_49 : decode cX4_init 49 = .ok (.putfield 30, 3) := by decide +kernel
theorem dX4_init_52 : decode cX4_init 52 = .ok (.aload_n 0, 1) := by decide +kernel
theorem dX4_init_53 : decode cX4_init 53 = .ok (.sipush 150, 3) := by decide +kernel
theorem dX4_init_56 : decode cX4_init 56 = .ok (.newarray .int, 2) := by decide +kernel
theorem dX4_init_58 : decode cX4_init 58 = .ok (.putfield 33, 3) := by decide +kernel
theorem dX4_init_61 : decode cX4_init 61 = .ok (.aload_n 0, 1) := by decide +kernel
theorem dX4_init_62 : decode cX4_init 62 = .ok (.iconst (-1), 1) := by decide +kernel
theorem dX4_init_63 : decode cX4_init 63 = .ok (.putfield 36, 3) := by decide +kernel
theorem dX4_init_66 : decode cX4_init 66 = .ok (.iconst 0, 1) := by decide +kernel
theorem dX4_init_67 : decode cX4_init 67 = .ok (.istore_n 1, 1) := by decide +kernel
theorem dX4_init_68 : decode cX4_init 68 = .ok (.iload_n 1, 1) := by decide +kernel
theorem dX4_init_69 : decode cX4_init 69 = .ok (.iconst 4, 1) := by decide +kernel
theorem dX4_init_70 : decode cX4_init 70 = .ok (.if_icmp .ge 22, 3) := by decide +kernel
theorem dX4_init_73 : decode cX4_init 73 = .ok (.aload_n 0, 1) := by decide +kernel
theorem dX4_init_74 : decode cX4_init 74 = .ok (.getfield 11, 3) := by decide +kernel
theorem dX4_init_77 : decode cX4_init 77 = .ok (.iload_n 1, 1) := by decide +kernel
theorem dX4_init_78 : decode cX4_init 78 = .ok (.new 9, 3) := by decide +kernel
theorem dX4_init_81 : decode cX4_init 81 = .ok (.dup, 1) := by decide +kernel
theorem dX4_init_82 : decode cX4_init 82 = .ok (.invokespecial 40, 3) := by decide +kernel
theorem dX4_init_85 : decode cX4_init 85 = .ok (.aastore, 1) := by decide +kernel
theorem dX4_init_86 : decode cX4_init 86 = .ok (.iinc 1 1, 3) := by decide +kernel
theorem dX4_init_89 : decode cX4_init 89 = .ok (.goto (-21), 3) := by decide +kernel
theorem dX4_init_92 : decode cX4_init 92 = .ok (.return_, 1) := by decide +kernel
theorem dX4_isLike_0 : decode cX4_isLike 0 = .ok (.aload_n 0, 1) := by decide +kernel
theorem dX4_isLike_1 : decode cX4_isLike 1 = .ok (.getfield 36, 3) := by decide +kernel
theorem dX4_isLike_4 : decode cX4_isLike 4 = .ok (.aload_n 1, 1) := by decide +kernel
theorem dX4_isLike_5 : decode cX4_isLike 5 = .ok (.getfield 36, 3) := by decide +kernel
theorem dX4_isLike_8 : decode cX4_isLike 8 = .ok (.if_icmp .eq 5, 3) := by decide +kernel
theorem dX4_isLike_11 : decode cX4_isLike 11 = .ok (.iconst 0, 1) := by decide +kernel
theorem dX4_isLike_12 : decode cX4_isLike 12 = .ok (.ireturn, 1) := by decide +kernel
theorem dX4_isLike_13 : decode cX4_isLike 13 = .ok (.iconst 0, 1) := by decide +kernel
theorem dX4_isLike_14 : decode cX4_isLike 14 = .ok (.istore_n 2, 1) := by decide +kernel
theorem dX4_isLike_15 : decode cX4_isLike 15 = .ok (.iload_n 2, 1) := by decide +kernel
theorem dX4_isLike_16 : decode cX4_isLike 16 = .ok (.aload_n 0, 1) := by decide +kernel
theorem dX4_isLike_17 : decode cX4_isLike 17 = .ok (.getfield 54, 3) := by decide +kernel
theorem dX4_isLike_20 : decode cX4_isLike 20 = .ok (.if_icmp .ge 42, 3) := by decide +kernel
theorem dX4_isLike_23 : decode cX4_isLike 23 = .ok (.aload_n 0, 1) := by decide +kernel
theorem dX4_isLike_24 : decode cX4_isLike 24 = .ok (.iload_n 2, 1) := by decide +kernel
theorem dX4_isLike_25 : decode cX4_isLike 25 = .ok (.invokevirtual 93, 3) := by decide +kernel
theorem dX4_isLike_28 : decode cX4_isLike 28 = .ok (.aload_n 1, 1) := by decide +kernel
theorem dX4_isLike_29 : decode cX4_isLike 29 = .ok (.iload_n 2, 1) := by decide +kernel
theorem dX4_isLike_30 : decode cX4_isLike 30 = .ok (.invokevirtual 93, 3) := by decide +kernel
theorem dX4_isLike_33 : decode cX4_isLike 33 = .ok (.if_icmp .ne 21, 3) := by decide +kernel
theorem dX4_isLike_36 : decode cX4_isLike 36 = .ok (.aload_n 0, 1) := by decide +kernel
theorem dX4_isLike_37 : decode cX4_isLike 37 = .ok (.getfield 11, 3) := by decide +kernel
theorem dX4_isLike_40 : decode cX4_isLike 40 = .ok (.iload_n 2, 1) := by decide +kernel
theorem dX4_isLike_41 : decode cX4_isLike 41 = .ok (.aaload, 1) := by decide +kernel
theorem dX4_isLike_42 : decode cX4_isLike 42 = .ok (.aload_n 1, 1) := by decide +kernel
theorem dX4_isLike_43 : decode cX4_isLike 43 = .ok (.getfield 11, 3) := by decide +kernel
theorem dX4_isLike_46 : decode cX4_isLike 46 = .ok (.iload_n 2, 1) := by decide +kernel
theorem dX4_isLike_47 : decode cX4_isLike 47 = .ok (.aaload, 1) := by decide +kernel
theorem dX4_isLike_48 : decode cX4_isLike 48 = .ok (.invokevirtual 97, 3) := by decide +kernel
theorem dX4_isLike_51 : decode cX4_isLike 51 = .ok (.ifCond .ne 5, 3) := by decide +kernel
theorem dX4_isLike_54 : decode cX4_isLike 54 = .ok (.iconst 0, 1) := by decide +kernel
theorem dX4_isLike_55 : decode cX4_isLike 55 = .ok (.ireturn, 1) := by decide +kernel
theorem dX4_isLike_56 : decode cX4_isLike 56 = .ok (.iinc 2 1, 3) := by decide +kernel
theorem dX4_isLike_59 : decode cX4_isLike 59 = .ok (.goto (-44), 3) := by decide +kernel
theorem dX4_isLike_62 : decode cX4_isLike 62 = .ok (.aload_n 0, 1) := by decide +kernel
theorem dX4_isLike_63 : decode cX4_isLike 63 = .ok (.getfield 21, 3) := by decide +kernel
theorem dX4_isLike_66 : decode cX4_isLike 66 = .ok (.aload_n 1, 1) := by decide +kernel
theorem dX4_isLike_67 : decode cX4_isLike 67 = .ok (.getfield 21, 3) := by decide +kernel
theorem dX4_isLike_70 : decode cX4_isLike 70 = .ok (.invokestatic 101, 3) := by decide +kernel
theorem dX4_isLike_73 : decode cX4_isLike 73 = .ok (.ifCond .eq 21, 3) := by decide +kernel
theorem dX4_isLike_76 : decode cX4_isLike 76 = .ok (.aload_n 0, 1) := by decide +kernel
theorem dX4_isLike_77 : decode cX4_isLike 77 = .ok (.getfield 17, 3) := by decide +kernel
theorem dX4_isLike_80 : decode cX4_isLike 80 = .ok (.aload_n 1, 1) := by decide +kernel
theorem dX4_isLike_81 : decode cX4_isLike 81 = .ok (.getfield 17, 3) := by decide +kernel
theorem dX4_isLike_84 : decode cX4_isLike 84 = .ok (.invokestatic 101, 3) := by decide +kernel
theorem dX4_isLike_87 : decode cX4_isLike 87 = .ok (.ifCond .eq 7, 3) := by decide +kernel
theorem dX4_isLike_90 : decode cX4_isLike 90 = .ok (.iconst 1, 1) := by decide +kernel
theorem dX4_isLike_91 : decode cX4_isLike 91 = .ok (.goto 4, 3) := by decide +kernel
theorem dX4_isLike_94 : decode cX4_isLike 94 = .ok (.iconst 0, 1) := by decide +kernel
theorem dX4_isLike_95 : decode cX4_isLike 95 = .ok (.ireturn, 1) := by decide +kernel
theorem dX4_lay_0 : decode cX4_lay 0 = .ok (.aload_n 0, 1) := by decide +kernel
theorem dX4_lay_1 : decode cX4_lay 1 = .ok (.iload_n 1, 1) := by decide +kernel
theorem dX4_lay_2 : decode cX4_lay 2 = .ok (.putfield 41, 3) := by decide +kernel
theorem dX4_lay_5 : decode cX4_lay 5 = .ok (.aload_n 0, 1) := by decide +kernel
theorem dX4_lay_6 : decode cX4_lay 6 = .ok (.iload_n 2, 1) := by decide +kernel
theorem dX4_lay_7 : decode cX4_lay 7 = .ok (.putfield 44, 3) := by decide +kernel
theorem dX4_lay_10 : decode cX4_lay 10 = .ok (.aload_n 0, 1) := by decide +kernel
theorem dX4_lay_11 : decode cX4_lay 11 = .ok (.iload_n 3, 1) := by decide +kernel
theorem dX4_lay_12 : decode cX4_lay 12 = .ok (.putfield 47, 3) := by decide +kernel
theorem dX4_lay_15 : decode cX4_lay 15 = .ok (.return_, 1) := by decide +kernel
theorem dX4_leaveAlone_0 : decode cX4_leaveAlone 0 = .ok (.iconst 0, 1) := by decide +kernel
theorem dX4_leaveAlone_1 : decode cX4_leaveAlone 1 = .ok (.istore 4, 2) := by decide +kernel
theorem dX4_leaveAlone_3 : decode cX4_leaveAlone 3 = .ok (.iload 4, 2) := by decide +kernel
theorem dX4_leaveAlone_5 : decode cX4_leaveAlone 5 = .ok (.aload_n 0, 1) := by decide +kernel
theorem dX4_leaveAlone_6 : decode cX4_leaveAlone 6 = .ok (.getfield 54, 3) := by decide +kernel
theorem dX4_leaveAlone_9 : decode cX4_leaveAlone 9 = .ok (.if_icmp .ge 37, 3) := by decide +kernel
theorem dX4_leaveAlone_12 : decode cX4_leaveAlone 12 = .ok (.aload_n 0, 1) := by decide +kernel
theorem dX4_leaveAlone_13 : decode cX4_leaveAlone 13 = .ok (.getfield 11, 3) := by decide +kernel
theorem dX4_leaveAlone_16 : decode cX4_leaveAlone 16 = .ok (.iload 4, 2) := by decide +kernel
theorem dX4_leaveAlone_18 : decode cX4_leaveAlone 18 = .ok (.aaload, 1) := by decide +kernel
theorem dX4_leaveAlone_19 : decode cX4_leaveAlone 19 = .ok (.iload 4, 2) := by decide +kernel
theorem dX4_leaveAlone_21 : decode cX4_leaveAlone 21 = .ok (.iload_n 1, 1) := by decide +kernel
theorem dX4_leaveAlone_22 : decode cX4_leaveAlone 22 = .ok (.if_icmp .ne 9, 3) := by decide +kernel
theorem dX4_leaveAlone_25 : decode cX4_leaveAlone 25 = .ok (.iconst 1, 1) := by decide +kernel
theorem dX4_leaveAlone_26 : decode cX4_leaveAlone 26 = .ok (.iload_n 2, 1) := by decide +kernel
theorem dX4_leaveAlone_27 : decode cX4_leaveAlone 27 = .ok (.ishl, 1) := by decide +kernel
theorem dX4_leaveAlone_28 : decode cX4_leaveAlone 28 = .ok (.goto 4, 3) := by decide +kernel
theorem dX4_leaveAlone_31 : decode cX4_leaveAlone 31 = .ok (.iconst 0, 1) := by decide +kernel
theorem dX4_leaveAlone_32 : decode cX4_leaveAlone 32 = .ok (.aload_n 0, 1) := by decide +kernel
theorem dX4_leaveAlone_33 : decode cX4_leaveAlone 33 = .ok (.getfield 41, 3) := by decide +kernel
theorem dX4_leaveAlone_36 : decode cX4_leaveAlone 36 = .ok (.iload_n 3, 1) := by decide +kernel
theorem dX4_leaveAlone_37 : decode cX4_leaveAlone 37 = .ok (.invokevirtual 82, 3) := by decide +kernel
theorem dX4_leaveAlone_40 : decode cX4_leaveAlone 40 = .ok (.iinc 4 1, 3) := by decide +kernel
theorem dX4_leaveAlone_43 : decode cX4_leaveAlone 43 = .ok (.goto (-40), 3) := by decide +kernel
theorem dX4_leaveAlone_46 : decode cX4_leaveAlone 46 = .ok (.return_, 1) := by decide +kernel
theorem dX4_living_0 : decode cX4_living 0 = .ok (.iconst 0, 1) := by decide +kernel
theorem dX4_living_1 : decode cX4_living 1 = .ok (.istore_n 1, 1) := by decide +kernel
theorem dX4_living_2 : decode cX4_living 2 = .ok (.iconst 0, 1) := by decide +kernel
theorem dX4_living_3 : decode cX4_living 3 = .ok (.istore_n 2, 1) := by decide +kernel
theorem dX4_living_4 : decode cX4_living 4 = .ok (.iload_n 2, 1) := by decide +kernel
theorem dX4_living_5 : decode cX4_living 5 = .ok (.aload_n 0, 1) := by decide +kernel
theorem dX4_living_6 : decode cX4_living 6 = .ok (.getfield 54, 3) := by decide +kernel
theorem dX4_living_9 : decode cX4_living 9 = .ok (.if_icmp .ge 24, 3) := by decide +kernel
theorem dX4_living_12 : decode cX4_living 12 = .ok (.iload_n 1, 1) := by decide +kernel
theorem dX4_living_13 : decode cX4_living 13 = .ok (.aload_n 0, 1) := by decide +kernel
theorem dX4_living_14 : decode cX4_living 14 = .ok (.getfield 11, 3) := by decide +kernel
theorem dX4_living_17 : decode cX4_living 17 = .ok (.iload_n 2, 1) := by decide +kernel
theorem dX4_living_18 : decode cX4_living 18 = .ok (.aaload, 1) := by decide +kernel
theorem dX4_living_19 : decode cX4_living 19 = .ok (.getfield 117, 3) := by decide +kernel
theorem dX4_living_22 : decode cX4_living 22 = .ok (.invokestatic 120, 3) := by decide +kernel
theorem dX4_living_25 : decode cX4_living 25 = .ok (.iadd, 1) := by decide +kernel
theorem dX4_living_26 : decode cX4_living 26 = .ok (.istore_n 1, 1) := by decide +kernel
theorem dX4_living_27 : decode cX4_living 27 = .ok (.iinc 2 1, 3) := by decide +kernel
theorem dX4_living_30 : decode cX4_living 30 = .ok (.goto (-26), 3) := by decide +kernel
theorem dX4_living_33 : decode cX4_living 33 = .ok (.iload_n 1, 1) := by decide +kernel
theorem dX4_living_34 : decode cX4_living 34 = .ok (.ireturn, 1) := by decide +kernel
theorem dX4_passBarIfAllWait_0 : decode cX4_passBarIfAllWait 0 = .ok (.iconst 0, 1) := by decide +kernel
theorem dX4_passBarIfAllWait_1 : decode cX4_passBarIfAllWait 1 = .ok (.istore_n 2, 1) := by decide +kernel
theorem dX4_passBarIfAllWait_2 : decode cX4_passBarIfAllWait 2 = .ok (.iconst 0, 1) := by decide +kernel
theorem dX4_passBarIfAllWait_3 : decode cX4_passBarIfAllWait 3 = .ok (.istore_n 3, 1) := by decide +kernel
theorem dX4_passBarIfAllWait_4 : decode cX4_passBarIfAllWait 4 = .ok (.iconst 0, 1) := by decide +kernel
theorem dX4_passBarIfAllWait_5 : decode cX4_passBarIfAllWait 5 = .ok (.istore 4, 2) := by decide +kernel
theorem dX4_passBarIfAllWait_7 : decode cX4_passBarIfAllWait 7 = .ok (.iload 4, 2) := by decide +kernel
theorem dX4_passBarIfAllWait_9 : decode cX4_passBarIfAllWait 9 = .ok (.aload_n 0, 1) := by decide +kernel
theorem dX4_passBarIfAllWait_10 : decode cX4_passBarIfAllWait 10 = .ok (.getfield 54, 3) := by decide +kernel
theorem dX4_passBarIfAllWait_13 : decode cX4_passBarIfAllWait 13 = .ok (.if_icmp .ge 48, 3) := by decide +kernel
theorem dX4_passBarIfAllWait_16 : decode cX4_passBarIfAllWait 16 = .ok (.iload_n 2, 1) := by decide +kernel
theorem dX4_passBarIfAllWait_17 : decode cX4_passBarIfAllWait 17 = .ok (.aload_n 0, 1) := by decide +kernel
theorem dX4_passBarIfAllWait_18 : decode cX4_passBarIfAllWait 18 = .ok (.getfield 11, 3) := by decide +kernel
theorem dX4_passBarIfAllWait_21 : decode cX4_passBarIfAllWait 21 = .ok (.iload 4, 2) := by decide +kernel
theorem dX4_passBarIfAllWait_23 : decode cX4_passBarIfAllWait 23 = .ok (.aaload, 1) := by decide +kernel
theorem dX4_passBarIfAllWait_24 : decode cX4_passBarIfAllWait 24 = .ok (.getfield 117, 3) := by decide +kernel
theorem dX4_passBarIfAllWait_27 : decode cX4_passBarIfAllWait 27 = .ok (.ior, 1) := by decide +kernel
theorem dX4_passBarIfAllWait_28 : decode cX4_passBarIfAllWait 28 = .ok (.istore_n 2, 1) := by decide +kernel
theorem dX4_passBarIfAllWait_29 : decode cX4_passBarIfAllWait 29 = .ok (.iload_n 3, 1) := by decide +kernel
theorem dX4_passBarIfAllWait_30 : decode cX4_passBarIfAllWait 30 = .ok (.aload_n 0, 1) := by decide +kernel
theorem dX4_passBarIfAllWait_31 : decode cX4_passBarIfAllWait 31 = .ok (.getfield 11, 3) := by decide +kernel
theorem dX4_passBarIfAllWait_34 : decode cX4_passBarIfAllWait 34 = .ok (.iload 4, 2) := by decide +kernel
theorem dX4_passBarIfAllWait_36 : decode cX4_passBarIfAllWait 36 = .ok (.aaload, 1) := by decide +kernel
theorem dX4_passBarIfAllWait_37 : decode cX4_passBarIfAllWait 37 = .ok (.getfield 117, 3) := by decide +kernel
theorem dX4_passBarIfAllWait_40 : decode cX4_passBarIfAllWait 40 = .ok (.aload_n 0, 1) := by decide +kernel
theorem dX4_passBarIfAllWait_41 : decode cX4_passBarIfAllWait 41 = .ok (.getfield 11, 3) := by decide +kernel
theorem dX4_passBarIfAllWait_44 : decode cX4_passBarIfAllWait 44 = .ok (.iload 4, 2) := by decide +kernel
theorem dX4_passBarIfAllWait_46 : decode cX4_passBarIfAllWait 46 = .ok (.aaload, 1) := by decide +kernel
theorem dX4_passBarIfAllWait_47 : decode cX4_passBarIfAllWait 47 = .ok (.getfield 125, 3) := by decide +kernel
theorem dX4_passBarIfAllWait_50 : decode cX4_passBarIfAllWait 50 = .ok (.iconst (-1), 1) := by decide +kernel
theorem dX4_passBarIfAllWait_51 : decode cX4_passBarIfAllWait 51 = .ok (.ixor, 1) := by decide +kernel
theorem dX4_passBarIfAllWait_52 : decode cX4_passBarIfAllWait 52 = .ok (.iand, 1) := by decide +kernel
theorem dX4_passBarIfAllWait_53 : decode cX4_passBarIfAllWait 53 = .ok (.ior, 1) := by decide +kernel
theorem dX4_passBarIfAllWait_54 : decode cX4_passBarIfAllWait 54 = .ok (.istore_n 3, 1) := by decide +kernel
theorem dX4_passBarIfAllWait_55 : decode cX4_passBarIfAllWait 55 = .ok (.iinc 4 1, 3) := by decide +kernel
theorem dX4_passBarIfAllWait_58 : decode cX4_passBarIfAllWait 58 = .ok (.goto (-51), 3) := by decide +kernel
theorem dX4_passBarIfAllWait_61 : decode cX4_passBarIfAllWait 61 = .ok (.iload_n 2, 1) := by decide +kernel
theorem dX4_passBarIfAllWait_62 : decode cX4_passBarIfAllWait 62 = .ok (.ifCond .eq 7, 3) := by decide +kernel
theorem dX4_passBarIfAllWait_65 : decode cX4_passBarIfAllWait 65 = .ok (.iload_n 3, 1) := by decide +kernel
theorem dX4_passBarIfAllWait_66 : decode cX4_passBarIfAllWait 66 = .ok (.ifCond .eq 4, 3) := by decide +kernel
theorem dX4_passBarIfAllWait_69 : decode cX4_passBarIfAllWait 69 = .ok (.return_, 1) := by decide +kernel
theorem dX4_passBarIfAllWait_70 : decode cX4_passBarIfAllWait 70 = .ok (.iconst 0, 1) := by decide +kernel
theorem dX4_passBarIfAllWait_71 : decode cX4_passBarIfAllWait 71 = .ok (.istore 4, 2) := by decide +kernel
theorem dX4_passBarIfAllWait_73 : decode cX4_passBarIfAllWait 73 = .ok (.iload 4, 2) := by decide +kernel
theorem dX4_passBarIfAllWait_75 : decode cX4_passBarIfAllWait 75 = .ok (.aload_n 0, 1) := by decide +kernel
theorem dX4_passBarIfAllWait_76 : decode cX4_passBarIfAllWait 76 = .ok (.getfield 54, 3) := by decide +kernel
theorem dX4_passBarIfAllWait_79 : decode cX4_passBarIfAllWait 79 = .ok (.if_icmp .ge 24, 3) := by decide +kernel
theorem dX4_passBarIfAllWait_82 : decode cX4_passBarIfAllWait 82 = .ok (.aload_n 0, 1) := by decide +kernel
theorem dX4_passBarIfAllWait_83 : decode cX4_passBarIfAllWait 83 = .ok (.getfield 11, 3) := by decide +kernel
theorem dX4_passBarIfAllWait_86 : decode cX4_passBarIfAllWait 86 = .ok (.iload 4, 2) := by decide +kernel
theorem dX4_passBarIfAllWait_88 : decode cX4_passBarIfAllWait 88 = .ok (.aaload, 1) := by decide +kernel
theorem dX4_passBarIfAllWait_89 : decode cX4_passBarIfAllWait 89 = .ok (.aload_n 0, 1) := by decide +kernel
theorem dX4_passBarIfAllWait_90 : decode cX4_passBarIfAllWait 90 = .ok (.getfield 41, 3) := by decide +kernel
theorem dX4_passBarIfAllWait_93 : decode cX4_passBarIfAllWait 93 = .ok (.iload_n 1, 1) := by decide +kernel
theorem dX4_passBarIfAllWait_94 : decode cX4_passBarIfAllWait 94 = .ok (.invokevirtual 128, 3) := by decide +kernel
theorem dX4_passBarIfAllWait_97 : decode cX4_passBarIfAllWait 97 = .ok (.iinc 4 1, 3) := by decide +kernel
theorem dX4_passBarIfAllWait_100 : decode cX4_passBarIfAllWait 100 = .ok (.goto (-27), 3) := by decide +kernel
theorem dX4_passBarIfAllWait_103 : decode cX4_passBarIfAllWait 103 = .ok (.aload_n 0, 1) := by decide +kernel
theorem dX4_passBarIfAllWait_104 : decode cX4_passBarIfAllWait 104 = .ok (.dup, 1) := by decide +kernel
theorem dX4_passBarIfAllWait_105 : decode cX4_passBarIfAllWait 105 = .ok (.getfield 76, 3) := by decide +kernel
theorem dX4_passBarIfAllWait_108 : decode cX4_passBarIfAllWait 108 = .ok (.iconst 1, 1) := by decide +kernel
theorem dX4_passBarIfAllWait_109 : decode cX4_passBarIfAllWait 109 = .ok (.iadd, 1) := by decide +kernel
theorem dX4_passBarIfAllWait_110 : decode cX4_passBarIfAllWait 110 = .ok (.putfield 76, 3) := by decide +kernel
theorem dX4_passBarIfAllWait_113 : decode cX4_passBarIfAllWait 113 = .ok (.aload_n 0, 1) := by decide +kernel
theorem dX4_passBarIfAllWait_114 : decode cX4_passBarIfAllWait 114 = .ok (.getfield 24, 3) := by decide +kernel
theorem dX4_passBarIfAllWait_117 : decode cX4_passBarIfAllWait 117 = .ok (.iconst 0, 1) := by decide +kernel
theorem dX4_passBarIfAllWait_118 : decode cX4_passBarIfAllWait 118 = .ok (.invokestatic 64, 3) := by decide +kernel
theorem dX4_passBarIfAllWait_121 : decode cX4_passBarIfAllWait 121 = .ok (.aload_n 0, 1) := by decide +kernel
theorem dX4_passBarIfAllWait_122 : decode cX4_passBarIfAllWait 122 = .ok (.getfield 27, 3) := by decide +kernel
theorem dX4_passBarIfAllWait_125 : decode cX4_passBarIfAllWait 125 = .ok (.iconst 0, 1) := by decide +kernel
theorem dX4_passBarIfAllWait_126 : decode cX4_passBarIfAllWait 126 = .ok (.invokestatic 64, 3) := by decide +kernel
theorem dX4_passBarIfAllWait_129 : decode cX4_passBarIfAllWait 129 = .ok (.return_, 1) := by decide +kernel
theorem dX4_racedWords_0 : decode cX4_racedWords 0 = .ok (.iconst 0, 1) := by decide +kernel
theorem dX4_racedWords_1 : decode cX4_racedWords 1 = .ok (.istore_n 1, 1) := by decide +kernel
theorem dX4_racedWords_2 : decode cX4_racedWords 2 = .ok (.iconst 0, 1) := by decide +kernel
theorem dX4_racedWords_3 : decode cX4_racedWords 3 = .ok (.istore_n 2, 1) := by decide +kernel
theorem dX4_racedWords_4 : decode cX4_racedWords 4 = .ok (.iload_n 2, 1) := by decide +kernel
theorem dX4_racedWords_5 : decode cX4_racedWords 5 = .ok (.aload_n 0, 1) := by decide +kernel
theorem dX4_racedWords_6 : decode cX4_racedWords 6 = .ok (.getfield 30, 3) := by decide +kernel
theorem dX4_racedWords_9 : decode cX4_racedWords 9 = .ok (.arraylength, 1) := by decide +kernel
theorem dX4_racedWords_10 : decode cX4_racedWords 10 = .ok (.if_icmp .ge 18, 3) := by decide +kernel
theorem dX4_racedWords_13 : decode cX4_racedWords 13 = .ok (.iload_n 1, 1) := by decide +kernel
theorem dX4_racedWords_14 : decode cX4_racedWords 14 = .ok (.aload_n 0, 1) := by decide +kernel
theorem dX4_racedWords_15 : decode cX4_racedWords 15 = .ok (.getfield 30, 3) := by decide +kernel
theorem dX4_racedWords_18 : decode cX4_racedWords 18 = .ok (.iload_n 2, 1) := by decide +kernel
theorem dX4_racedWords_19 : decode cX4_racedWords 19 = .ok (.iaload, 1) := by decide +kernel
theorem dX4_racedWords_20 : decode cX4_racedWords 20 = .ok (.iadd, 1) := by decide +kernel
theorem dX4_racedWords_21 : decode cX4_racedWords 21 = .ok (.istore_n 1, 1) := by decide +kernel
theorem dX4_racedWords_22 : decode cX4_racedWords 22 = .ok (.iinc 2 1, 3) := by decide +kernel
theorem dX4_racedWords_25 : decode cX4_racedWords 25 = .ok (.goto (-21), 3) := by decide +kernel
theorem dX4_racedWords_28 : decode cX4_racedWords 28 = .ok (.iload_n 1, 1) := by decide +kernel
theorem dX4_racedWords_29 : decode cX4_racedWords 29 = .ok (.ireturn, 1) := by decide +kernel
theorem dX4_restOfReady_0 : decode cX4_restOfReady 0 = .ok (.aload_n 0, 1) := by decide +kernel
theorem dX4_restOfReady_1 : decode cX4_restOfReady 1 = .ok (.getfield 11, 3) := by decide +kernel
theorem dX4_restOfReady_4 : decode cX4_restOfReady 4 = .ok (.iload_n 1, 1) := by decide +kernel
theorem dX4_restOfReady_5 : decode cX4_restOfReady 5 = .ok (.aaload, 1) := by decide +kernel
theorem dX4_restOfReady_6 : decode cX4_restOfReady 6 = .ok (.getfield 105, 3) := by decide +kernel
theorem dX4_restOfReady_9 : decode cX4_restOfReady 9 = .ok (.aload_n 0, 1) := by decide +kernel
theorem dX4_restOfReady_10 : decode cX4_restOfReady 10 = .ok (.getfield 70, 3) := by decide +kernel
theorem dX4_restOfReady_13 : decode cX4_restOfReady 13 = .ok (.isub, 1) := by decide +kernel
theorem dX4_restOfReady_14 : decode cX4_restOfReady 14 = .ok (.iconst 0, 1) := by decide +kernel
theorem dX4_restOfReady_15 : decode cX4_restOfReady 15 = .ok (.invokestatic 108, 3) := by decide +kernel
theorem dX4_restOfReady_18 : decode cX4_restOfReady 18 = .ok (.ireturn, 1) := by decide +kernel
theorem dX4_restart_0 : decode cX4_restart 0 = .ok (.aload_n 0, 1) := by decide +kernel
theorem dX4_restart_1 : decode cX4_restart 1 = .ok (.aload_n 1, 1) := by decide +kernel
theorem dX4_restart_2 : decode cX4_restart 2 = .ok (.getfield 50, 3) := by decide +kernel
theorem dX4_restart_5 : decode cX4_restart 5 = .ok (.putfield 54, 3) := by decide +kernel
theorem dX4_restart_8 : decode cX4_restart 8 = .ok (.aload_n 1, 1) := by decide +kernel
theorem dX4_restart_9 : decode cX4_restart 9 = .ok (.getfield 57, 3) := by decide +kernel
theorem dX4_restart_12 : decode cX4_restart 12 = .ok (.iconst 0, 1) := by decide +kernel
theorem dX4_restart_13 : decode cX4_restart 13 = .ok (.aload_n 0, 1) := by decide +kernel
theorem dX4_restart_14 : decode cX4_restart 14 = .ok (.getfield 17, 3) := by decide +kernel
theorem dX4_restart_17 : decode cX4_restart 17 = .ok (.iconst 0, 1) := by decide +kernel
theorem dX4_restart_18 : decode cX4_restart 18 = .ok (.bipush 64, 2) := by decide +kernel
theorem dX4_restart_20 : decode cX4_restart 20 = .ok (.invokestatic 58, 3) := by decide +kernel
theorem dX4_restart_23 : decode cX4_restart 23 = .ok (.aload_n 0, 1) := by decide +kernel
theorem dX4_restart_24 : decode cX4_restart 24 = .ok (.getfield 21, 3) := by decide +kernel
theorem dX4_restart_27 : decode cX4_restart 27 = .ok (.iconst 0, 1) := by decide +kernel
theorem dX4_restart_28 : decode cX4_restart 28 = .ok (.invokestatic 64, 3) := by decide +kernel
theorem dX4_restart_31 : decode cX4_restart 31 = .ok (.aload_n 0, 1) := by decide +kernel
theorem dX4_restart_32 : decode cX4_restart 32 = .ok (.getfield 24, 3) := by decide +kernel
theorem dX4_restart_35 : decode cX4_restart 35 = .ok (.iconst 0, 1) := by decide +kernel
theorem dX4_restart_36 : decode cX4_restart 36 = .ok (.invokestatic 64, 3) := by decide +kernel
theorem dX4_restart_39 : decode cX4_restart 39 = .ok (.aload_n 0, 1) := by decide +kernel
theorem dX4_restart_40 : decode cX4_restart 40 = .ok (.getfield 27, 3) := by decide +kernel
theorem dX4_restart_43 : decode cX4_restart 43 = .ok (.iconst 0, 1) := by decide +kernel
theorem dX4_restart_44 : decode cX4_restart 44 = .ok (.invokestatic 64, 3) := by decide +kernel
theorem dX4_restart_47 : decode cX4_restart 47 = .ok (.aload_n 0, 1) := by decide +kernel
theorem dX4_restart_48 : decode cX4_restart 48 = .ok (.getfield 30, 3) := by decide +kernel
theorem dX4_restart_51 : decode cX4_restart 51 = .ok (.iconst 0, 1) := by decide +kernel
theorem dX4_restart_52 : decode cX4_restart 52 = .ok (.invokestatic 64, 3) := by decide +kernel
theorem dX4_restart_55 : decode cX4_restart 55 = .ok (.aload_n 0, 1) := by decide +kernel
theorem dX4_restart_56 : decode cX4_restart 56 = .ok (.iconst 0, 1) := by decide +kernel
theorem dX4_restart_57 : decode cX4_restart 57 = .ok (.putfield 70, 3) := by decide +kernel
theorem dX4_restart_60 : decode cX4_restart 60 = .ok (.aload_n 0, 1) := by decide +kernel
theorem dX4_restart_61 : decode cX4_restart 61 = .ok (.iconst 0, 1) := by decide +kernel
theorem dX4_restart_62 : decode cX4_restart 62 = .ok (.putfield 73, 3) := by decide +kernel
theorem dX4_restart_65 : decode cX4_restart 65 = .ok (.aload_n 0, 1) := by decide +kernel
theorem dX4_restart_66 : decode cX4_restart 66 = .ok (.iconst 0, 1) := by decide +kernel
theorem dX4_restart_67 : decode cX4_restart 67 = .ok (.putfield 76, 3) := by decide +kernel
theorem dX4_restart_70 : decode cX4_restart 70 = .ok (.aload_n 0, 1) := by decide +kernel
theorem dX4_restart_71 : decode cX4_restart 71 = .ok (.iconst (-1), 1) := by decide +kernel
theorem dX4_restart_72 : decode cX4_restart 72 = .ok (.putfield 36, 3) := by decide +kernel
theorem dX4_restart_75 : decode cX4_restart 75 = .ok (.iconst 0, 1) := by decide +kernel
theorem dX4_restart_76 : decode cX4_restart 76 = .ok (.istore_n 2, 1) := by decide +kernel
theorem dX4_restart_77 : decode cX4_restart 77 = .ok (.iload_n 2, 1) := by decide +kernel
theorem dX4_restart_78 : decode cX4_restart 78 = .ok (.iconst 4, 1) := by decide +kernel
theorem dX4_restart_79 : decode cX4_restart 79 = .ok (.if_icmp .ge 41, 3) := by decide +kernel
theorem dX4_restart_82 : decode cX4_restart 82 = .ok (.aload_n 0, 1) := by decide +kernel
theorem dX4_restart_83 : decode cX4_restart 83 = .ok (.getfield 11, 3) := by decide +kernel
theorem dX4_restart_86 : decode cX4_restart 86 = .ok (.iload_n 2, 1) := by decide +kernel
theorem dX4_restart_87 : decode cX4_restart 87 = .ok (.aaload, 1) := by decide +kernel
theorem dX4_restart_88 : decode cX4_restart 88 = .ok (.iload_n 2, 1) := by decide +kernel
theorem dX4_restart_89 : decode cX4_restart 89 = .ok (.aload_n 0, 1) := by decide +kernel
theorem dX4_restart_90 : decode cX4_restart 90 = .ok (.getfield 54, 3) := by decide +kernel
theorem dX4_restart_93 : decode cX4_restart 93 = .ok (.if_icmp .ge 9, 3) := by decide +kernel
theorem dX4_restart_96 : decode cX4_restart 96 = .ok (.sipush 255, 3) := by decide +kernel
theorem dX4_restart_99 : decode cX4_restart 99 = .ok (.goto 4, 3) := by decide +kernel
theorem dX4_restart_102 : decode cX4_restart 102 = .ok (.iconst 0, 1) := by decide +kernel
theorem dX4_restart_103 : decode cX4_restart 103 = .ok (.aload_n 0, 1) := by decide +kernel
theorem dX4_restart_104 : decode cX4_restart 104 = .ok (.getfield 41, 3) := by decide +kernel
theorem dX4_restart_107 : decode cX4_restart 107 = .ok (.aload_n 1, 1) := by decide +kernel
theorem dX4_restart_108 : decode cX4_restart 108 = .ok (.getfield 79, 3) := by decide +kernel
theorem dX4_restart_111 : decode cX4_restart 111 = .ok (.invokevirtual 82, 3) := by decide +kernel
theorem dX4_restart_114 : decode cX4_restart 114 = .ok (.iinc 2 1, 3) := by decide +kernel
theorem dX4_restart_117 : decode cX4_restart 117 = .ok (.goto (-40), 3) := by decide +kernel
theorem dX4_restart_120 : decode cX4_restart 120 = .ok (.return_, 1) := by decide +kernel
theorem dX4_touch_0 : decode cX4_touch 0 = .ok (.aload_n 0, 1) := by decide +kernel
theorem dX4_touch_1 : decode cX4_touch 1 = .ok (.getfield 24, 3) := by decide +kernel
theorem dX4_touch_4 : decode cX4_touch 4 = .ok (.iload_n 1, 1) := by decide +kernel
theorem dX4_touch_5 : decode cX4_touch 5 = .ok (.dup2, 1) := by decide +kernel
theorem dX4_touch_6 : decode cX4_touch 6 = .ok (.iaload, 1) := by decide +kernel
theorem dX4_touch_7 : decode cX4_touch 7 = .ok (.iconst 1, 1) := by decide +kernel
theorem dX4_touch_8 : decode cX4_touch 8 = .ok (.iload_n 2, 1) := by decide +kernel
theorem dX4_touch_9 : decode cX4_touch 9 = .ok (.ishl, 1) := by decide +kernel
theorem dX4_touch_10 : decode cX4_touch 10 = .ok (.ior, 1) := by decide +kernel
theorem dX4_touch_11 : decode cX4_touch 11 = .ok (.iastore, 1) := by decide +kernel
theorem dX4_touch_12 : decode cX4_touch 12 = .ok (.iload_n 3, 1) := by decide +kernel
theorem dX4_touch_13 : decode cX4_touch 13 = .ok (.ifCond .eq 10, 3) := by decide +kernel
theorem dX4_touch_16 : decode cX4_touch 16 = .ok (.aload_n 0, 1) := by decide +kernel
theorem dX4_touch_17 : decode cX4_touch 17 = .ok (.getfield 27, 3) := by decide +kernel
theorem dX4_touch_20 : decode cX4_touch 20 = .ok (.iload_n 1, 1) := by decide +kernel
theorem dX4_touch_21 : decode cX4_touch 21 = .ok (.iconst 1, 1) := by decide +kernel
theorem dX4_touch_22 : decode cX4_touch 22 = .ok (.iastore, 1) := by decide +kernel
theorem dX4_touch_23 : decode cX4_touch 23 = .ok (.aload_n 0, 1) := by decide +kernel
theorem dX4_touch_24 : decode cX4_touch 24 = .ok (.getfield 27, 3) := by decide +kernel
theorem dX4_touch_27 : decode cX4_touch 27 = .ok (.iload_n 1, 1) := by decide +kernel
theorem dX4_touch_28 : decode cX4_touch 28 = .ok (.iaload, 1) := by decide +kernel
theorem dX4_touch_29 : decode cX4_touch 29 = .ok (.ifCond .eq 23, 3) := by decide +kernel
theorem dX4_touch_32 : decode cX4_touch 32 = .ok (.aload_n 0, 1) := by decide +kernel
theorem dX4_touch_33 : decode cX4_touch 33 = .ok (.getfield 24, 3) := by decide +kernel
theorem dX4_touch_36 : decode cX4_touch 36 = .ok (.iload_n 1, 1) := by decide +kernel
theorem dX4_touch_37 : decode cX4_touch 37 = .ok (.iaload, 1) := by decide +kernel
theorem dX4_touch_38 : decode cX4_touch 38 = .ok (.invokestatic 120, 3) := by decide +kernel
theorem dX4_touch_41 : decode cX4_touch 41 = .ok (.iconst 1, 1) := by decide +kernel
theorem dX4_touch_42 : decode cX4_touch 42 = .ok (.if_icmp .le 10, 3) := by decide +kernel
theorem dX4_touch_45 : decode cX4_touch 45 = .ok (.aload_n 0, 1) := by decide +kernel
theorem dX4_touch_46 : decode cX4_touch 46 = .ok (.getfield 30, 3) := by decide +kernel
theorem dX4_touch_49 : decode cX4_touch 49 = .ok (.iload_n 1, 1) := by decide +kernel
theorem dX4_touch_50 : decode cX4_touch 50 = .ok (.iconst 1, 1) := by decide +kernel
theorem dX4_touch_51 : decode cX4_touch 51 = .ok (.iastore, 1) := by decide +kernel
theorem dX4_touch_52 : decode cX4_touch 52 = .ok (.return_, 1) := by decide +kernel
theorem dX4_waiting_0 : decode cX4_waiting 0 = .ok (.iconst 0, 1) := by decide +kernel
theorem dX4_waiting_1 : decode cX4_waiting 1 = .ok (.istore_n 1, 1) := by decide +kernel
theorem dX4_waiting_2 : decode cX4_waiting 2 = .ok (.iconst 0, 1) := by decide +kernel
theorem dX4_waiting_3 : decode cX4_waiting 3 = .ok (.istore_n 2, 1) := by decide +kernel
theorem dX4_waiting_4 : decode cX4_waiting 4 = .ok (.iload_n 2, 1) := by decide +kernel
theorem dX4_waiting_5 : decode cX4_waiting 5 = .ok (.aload_n 0, 1) := by decide +kernel
theorem dX4_waiting_6 : decode cX4_waiting 6 = .ok (.getfield 54, 3) := by decide +kernel
theorem dX4_waiting_9 : decode cX4_waiting 9 = .ok (.if_icmp .ge 24, 3) := by decide +kernel
theorem dX4_waiting_12 : decode cX4_waiting 12 = .ok (.iload_n 1, 1) := by decide +kernel
theorem dX4_waiting_13 : decode cX4_waiting 13 = .ok (.aload_n 0, 1) := by decide +kernel
theorem dX4_waiting_14 : decode cX4_waiting 14 = .ok (.getfield 11, 3) := by decide +kernel
theorem dX4_waiting_17 : decode cX4_waiting 17 = .ok (.iload_n 2, 1) := by decide +kernel
theorem dX4_waiting_18 : decode cX4_waiting 18 = .ok (.aaload, 1) := by decide +kernel
theorem dX4_waiting_19 : decode cX4_waiting 19 = .ok (.getfield 125, 3) := by decide +kernel
theorem dX4_waiting_22 : decode cX4_waiting 22 = .ok (.invokestatic 120, 3) := by decide +kernel
theorem dX4_waiting_25 : decode cX4_waiting 25 = .ok (.iadd, 1) := by decide +kernel
theorem dX4_waiting_26 : decode cX4_waiting 26 = .ok (.istore_n 1, 1) := by decide +kernel
theorem dX4_waiting_27 : decode cX4_waiting 27 = .ok (.iinc 2 1, 3) := by decide +kernel
theorem dX4_waiting_30 : decode cX4_waiting 30 = .ok (.goto (-26), 3) := by decide +kernel
theorem dX4_waiting_33 : decode cX4_waiting 33 = .ok (.iload_n 1, 1) := by decide +kernel
theorem dX4_waiting_34 : decode cX4_waiting 34 = .ok (.ireturn, 1) := by decide +kernel
theorem dX5_copyFrom_0 : decode cX5_copyFrom 0 = .ok (.aload_n 1, 1) := by decide +kernel
theorem dX5_copyFrom_1 : decode cX5_copyFrom 1 = .ok (.getfield 9, 3) := by decide +kernel
theorem dX5_copyFrom_4 : decode cX5_copyFrom 4 = .ok (.iconst 0, 1) := by decide +kernel
theorem dX5_copyFrom_5 : decode cX5_copyFrom 5 = .ok (.aload_n 0, 1) := by decide +kernel
theorem dX5_copyFrom_6 : decode cX5_copyFrom 6 = .ok (.getfield 9, 3) := by decide +kernel
theorem dX5_copyFrom_9 : decode cX5_copyFrom 9 = .ok (.iconst 0, 1) := by decide +kernel
theorem dX5_copyFrom_10 : decode cX5_copyFrom 10 = .ok (.aload_n 0, 1) := by decide +kernel
theorem dX5_copyFrom_11 : decode cX5_copyFrom 11 = .ok (.getfield 9, 3) := by decide +kernel
theorem dX5_copyFrom_14 : decode cX5_copyFrom 14 = .ok (.arraylength, 1) := by decide +kernel
theorem dX5_copyFrom_15 : decode cX5_copyFrom 15 = .ok (.invokestatic 56, 3) := by decide +kernel
theorem dX5_copyFrom_18 : decode cX5_copyFrom 18 = .ok (.aload_n 1, 1) := by decide +kernel
theorem dX5_copyFrom_19 : decode cX5_copyFrom 19 = .ok (.getfield 15, 3) := by decide +kernel
theorem dX5_copyFrom_22 : decode cX5_copyFrom 22 = .ok (.iconst 0, 1) := by decide +kernel
theorem dX5_copyFrom_23 : decode cX5_copyFrom 23 = .ok (.aload_n 0, 1) := by decide +kernel
theorem dX5_copyFrom_24 : decode cX5_copyFrom 24 = .ok (.getfield 15, 3) := by decide +kernel
theorem dX5_copyFrom_27 : decode cX5_copyFrom 27 = .ok (.iconst 0, 1) := by decide +kernel
theorem dX5_copyFrom_28 : decode cX5_copyFrom 28 = .ok (.bipush 8, 2) := by decide +kernel
theorem dX5_copyFrom_30 : decode cX5_copyFrom 30 = .ok (.invokestatic 56, 3) := by decide +kernel
theorem dX5_copyFrom_33 : decode cX5_copyFrom 33 = .ok (.aload_n 1, 1) := by decide +kernel
theorem dX5_copyFrom_34 : decode cX5_copyFrom 34 = .ok (.getfield 18, 3) := by decide +kernel
theorem dX5_copyFrom_37 : decode cX5_copyFrom 37 = .ok (.iconst 0, 1) := by decide +kernel
theorem dX5_copyFrom_38 : decode cX5_copyFrom 38 = .ok (.aload_n 0, 1) := by decide +kernel
theorem dX5_copyFrom_39 : decode cX5_copyFrom 39 = .ok (.getfield 18, 3) := by decide +kernel
theorem dX5_copyFrom_42 : decode cX5_copyFrom 42 = .ok (.iconst 0, 1) := by decide +kernel
theorem dX5_copyFrom_43 : decode cX5_copyFrom 43 = .ok (.bipush 16, 2) := by decide +kernel
theorem dX5_copyFrom_45 : decode cX5_copyFrom 45 = .ok (.invokestatic 56, 3) := by decide +kernel
theorem dX5_copyFrom_48 : decode cX5_copyFrom 48 = .ok (.aload_n 1, 1) := by decide +kernel
theorem dX5_copyFrom_49 : decode cX5_copyFrom 49 = .ok (.getfield 21, 3) := by decide +kernel
theorem dX5_copyFrom_52 : decode cX5_copyFrom 52 = .ok (.iconst 0, 1) := by decide +kernel
theorem dX5_copyFrom_53 : decode cX5_copyFrom 53 = .ok (.aload_n 0, 1) := by decide +kernel
theorem dX5_copyFrom_54 : decode cX5_copyFrom 54 = .ok (.getfield 21, 3) := by decide +kernel
theorem dX5_copyFrom_57 : decode cX5_copyFrom 57 = .ok (.iconst 0, 1) := by decide +kernel
theorem dX5_copyFrom_58 : decode cX5_copyFrom 58 = .ok (.bipush 16, 2) := by decide +kernel
theorem dX5_copyFrom_60 : decode cX5_copyFrom 60 = .ok (.invokestatic 56, 3) := by decide +kernel
theorem dX5_copyFrom_63 : decode cX5_copyFrom 63 = .ok (.aload_n 1, 1) := by decide +kernel
theorem dX5_copyFrom_64 : decode cX5_copyFrom 64 = .ok (.getfield 24, 3) := by decide +kernel
theorem dX5_copyFrom_67 : decode cX5_copyFrom 67 = .ok (.iconst 0, 1) := by decide +kernel
theorem dX5_copyFrom_68 : decode cX5_copyFrom 68 = .ok (.aload_n 0, 1) := by decide +kernel
theorem dX5_copyFrom_69 : decode cX5_copyFrom 69 = .ok (.getfield 24, 3) := by decide +kernel
theorem dX5_copyFrom_72 : decode cX5_copyFrom 72 = .ok (.iconst 0, 1) := by decide +kernel
theorem dX5_copyFrom_73 : decode cX5_copyFrom 73 = .ok (.bipush 16, 2) := by decide +kernel
theorem dX5_copyFrom_75 : decode cX5_copyFrom 75 = .ok (.invokestatic 56, 3) := by decide +kernel
theorem dX5_copyFrom_78 : decode cX5_copyFrom 78 = .ok (.aload_n 0, 1) := by decide +kernel
theorem dX5_copyFrom_79 : decode cX5_copyFrom 79 = .ok (.aload_n 1, 1) := by decide +kernel
theorem dX5_copyFrom_80 : decode cX5_copyFrom 80 = .ok (.getfield 49, 3) := by decide +kernel
theorem dX5_copyFrom_83 : decode cX5_copyFrom 83 = .ok (.putfield 49, 3) := by decide +kernel
theorem dX5_copyFrom_86 : decode cX5_copyFrom 86 = .ok (.aload_n 0, 1) := by decide +kernel
theorem dX5_copyFrom_87 : decode cX5_copyFrom 87 = .ok (.aload_n 1, 1) := by decide +kernel
theorem dX5_copyFrom_88 : decode cX5_copyFrom 88 = .ok (.getfield 33, 3) := by decide +kernel
theorem dX5_copyFrom_91 : decode cX5_copyFrom 91 = .ok (.putfield 33, 3) := by decide +kernel
theorem dX5_copyFrom_94 : decode cX5_copyFrom 94 = .ok (.aload_n 0, 1) := by decide +kernel
theorem dX5_copyFrom_95 : decode cX5_copyFrom 95 = .ok (.aload_n 1, 1) := by decide +kernel
theorem dX5_copyFrom_96 : decode cX5_copyFrom 96 = .ok (.getfield 37, 3) := by decide +kernel
theorem dX5_copyFrom_99 : decode cX5_copyFrom 99 = .ok (.putfield 37, 3) := by decide +kernel
theorem dX5_copyFrom_102 : decode cX5_copyFrom 102 = .ok (.aload_n 0, 1) := by decide +kernel
theorem dX5_copyFrom_103 : decode cX5_copyFrom 103 = .ok (.aload_n 1, 1) := by decide +kernel
theorem dX5_copyFrom_104 : decode cX5_copyFrom 104 = .ok (.getfield 40, 3) := by decide +kernel
theorem dX5_copyFrom_107 : decode cX5_copyFrom 107 = .ok (.putfield 40, 3) := by decide +kernel
theorem dX5_copyFrom_110 : decode cX5_copyFrom 110 = .ok (.aload_n 0, 1) := by decide +kernel
theorem dX5_copyFrom_111 : decode cX5_copyFrom 111 = .ok (.aload_n 1, 1) := by decide +kernel
theorem dX5_copyFrom_112 : decode cX5_copyFrom 112 = .ok (.getfield 43, 3) := by decide +kernel
theorem dX5_copyFrom_115 : decode cX5_copyFrom 115 = .ok (.putfield 43, 3) := by decide +kernel
theorem dX5_copyFrom_118 : decode cX5_copyFrom 118 = .ok (.aload_n 0, 1) := by decide +kernel
theorem dX5_copyFrom_119 : decode cX5_copyFrom 119 = .ok (.aload_n 1, 1) := by decide +kernel
theorem dX5_copyFrom_120 : decode cX5_copyFrom 120 = .ok (.getfield 46, 3) := by decide +kernel
theorem dX5_copyFrom_123 : decode cX5_copyFrom 123 = .ok (.putfield 46, 3) := by decide +kernel
theorem dX5_copyFrom_126 : decode cX5_copyFrom 126 = .ok (.return_, 1) := by decide +kernel
theorem dX5_init_0 : decode cX5_init 0 = .ok (.aload_n 0, 1) := by decide +kernel
theorem dX5_init_1 : decode cX5_init 1 = .ok (.invokespecial 3, 3) := by decide +kernel
theorem dX5_init_4 : decode cX5_init 4 = .ok (.aload_n 0, 1) := by decide +kernel
theorem dX5_init_5 : decode cX5_init 5 = .ok (.bipush 32, 2) := by decide +kernel
theorem dX5_init_7 : decode cX5_init 7 = .ok (.newarray .int, 2) := by decide +kernel
theorem dX5_init_9 : decode cX5_init 9 = .ok (.putfield 9, 3) := by decide +kernel
theorem dX5_init_12 : decode cX5_init 12 = .ok (.aload_n 0, 1) := by decide +kernel
theorem dX5_init_13 : decode cX5_init 13 = .ok (.bipush 8, 2) := by decide +kernel
theorem dX5_init_15 : decode cX5_init 15 = .ok (.newarray .int, 2) := by decide +kernel
theorem dX5_init_17 : decode cX5_init 17 = .ok (.putfield 15, 3) := by decide +kernel
theorem dX5_init_20 : decode cX5_init 20 = .ok (.aload_n 0, 1) := by decide +kernel
theorem dX5_init_21 : decode cX5_init 21 = .ok (.bipush 16, 2) := by decide +kernel
theorem dX5_init_23 : decode cX5_init 23 = .ok (.newarray .int, 2) := by decide +kernel
theorem dX5_init_25 : decode cX5_init 25 = .ok (.putfield 18, 3) := by decide +kernel
theorem dX5_init_28 : decode cX5_init 28 = .ok (.aload_n 0, 1) := by decide +kernel
theorem dX5_init_29 : decode cX5_init 29 = .ok (.bipush 16, 2) := by decide +kernel
theorem dX5_init_31 : decode cX5_init 31 = .ok (.newarray .int, 2) := by decide +kernel
theorem dX5_init_33 : decode cX5_init 33 = .ok (.putfield 21, 3) := by decide +kernel
theorem dX5_init_36 : decode cX5_init 36 = .ok (.aload_n 0, 1) := by decide +kernel
theorem dX5_init_37 : decode cX5_init 37 = .ok (.bipush 16, 2) := by decide +kernel
theorem dX5_init_39 : decode cX5_init 39 = .ok (.newarray .int, 2) := by decide +kernel
theorem dX5_init_41 : decode cX5_init 41 = .ok (.putfield 24, 3) := by decide +kernel
theorem dX5_init_44 : decode cX5_init 44 = .ok (.return_, 1) := by decide +kernel
theorem dX5_isLike_0 : decode cX5_isLike 0 = .ok (.aload_n 0, 1) := by decide +kernel
theorem dX5_isLike_1 : decode cX5_isLike 1 = .ok (.getfield 49, 3) := by decide +kernel
theorem dX5_isLike_4 : decode cX5_isLike 4 = .ok (.aload_n 1, 1) := by decide +kernel
theorem dX5_isLike_5 : decode cX5_isLike 5 = .ok (.getfield 49, 3) := by decide +kernel
theorem dX5_isLike_8 : decode cX5_isLike 8 = .ok (.if_icmp .ne 36, 3) := by decide +kernel
theorem dX5_isLike_11 : decode cX5_isLike 11 = .ok (.aload_n 0, 1) := by decide +kernel
theorem dX5_isLike_12 : decode cX5_isLike 12 = .ok (.getfield 33, 3) := by decide +kernel
theorem dX5_isLike_15 : decode cX5_isLike 15 = .ok (.aload_n 1, 1) := by decide +kernel
theorem dX5_isLike_16 : decode cX5_isLike 16 = .ok (.getfield 33, 3) := by decide +kernel
theorem dX5_isLike_19 : decode cX5_isLike 19 = .ok (.if_icmp .ne 25, 3) := by decide +kernel
theorem dX5_isLike_22 : decode cX5_isLike 22 = .ok (.aload_n 0, 1) := by decide +kernel
theorem dX5_isLike_23 : decode cX5_isLike 23 = .ok (.getfield 37, 3) := by decide +kernel
theorem dX5_isLike_26 : decode cX5_isLike 26 = .ok (.aload_n 1, 1) := by decide +kernel
theorem dX5_isLike_27 : decode cX5_isLike 27 = .ok (.getfield 37, 3) := by decide +kernel
theorem dX5_isLike_30 : decode cX5_isLike 30 = .ok (.if_icmp .ne 14, 3) := by decide +kernel
theorem dX5_isLike_33 : decode cX5_isLike 33 = .ok (.aload_n 0, 1) := by decide +kernel
theorem dX5_isLike_34 : decode cX5_isLike 34 = .ok (.getfield 46, 3) := by decide +kernel
theorem dX5_isLike_37 : decode cX5_isLike 37 = .ok (.aload_n 1, 1) := by decide +kernel
theorem dX5_isLike_38 : decode cX5_isLike 38 = .ok (.getfield 46, 3) := by decide +kernel
theorem dX5_isLike_41 : decode cX5_isLike 41 = .ok (.if_icmp .eq 5, 3) := by decide +kernel
theorem dX5_isLike_44 : decode cX5_isLike 44 = .ok (.iconst 0, 1) := by decide +kernel
theorem dX5_isLike_45 : decode cX5_isLike 45 = .ok (.ireturn, 1) := by decide +kernel
theorem dX5_isLike_46 : decode cX5_isLike 46 = .ok (.iconst 0, 1) := by decide +kernel
theorem dX5_isLike_47 : decode cX5_isLike 47 = .ok (.istore_n 2, 1) := by decide +kernel
theorem dX5_isLike_48 : decode cX5_isLike 48 = .ok (.iload_n 2, 1) := by decide +kernel
theorem dX5_isLike_49 : decode cX5_isLike 49 = .ok (.aload_n 0, 1) := by decide +kernel
theorem dX5_isLike_50 : decode cX5_isLike 50 = .ok (.getfield 49, 3) := by decide +kernel
theorem dX5_isLike_53 : decode cX5_isLike 53 = .ok (.if_icmp .ge 56, 3) := by decide +kernel
theorem dX5_isLike_56 : decode cX5_isLike 56 = .ok (.aload_n 0, 1) := by decide +kernel
theorem dX5_isLike_57 : decode cX5_isLike 57 = .ok (.getfield 18, 3) := by decide +kernel
theorem dX5_isLike_60 : decode cX5_isLike 60 = .ok (.iload_n 2, 1) := by decide +kernel
theorem dX5_isLike_61 : decode cX5_isLike 61 = .ok (.iaload, 1) := by decide +kernel
theorem dX5_isLike_62 : decode cX5_isLike 62 = .ok (.aload_n 1, 1) := by decide +kernel
theorem dX5_isLike_63 : decode cX5_isLike 63 = .ok (.getfield 18, 3) := by decide +kernel
theorem dX5_isLike_66 : decode cX5_isLike 66 = .ok (.iload_n 2, 1) := by decide +kernel
theorem dX5_isLike_67 : decode cX5_isLike 67 = .ok (.iaload, 1) := by decide +kernel
theorem dX5_isLike_68 : decode cX5_isLike 68 = .ok (.if_icmp .ne 33, 3) := by decide +kernel
theorem dX5_isLike_71 : decode cX5_isLike 71 = .ok (.aload_n 0, 1) := by decide +kernel
theorem dX5_isLike_72 : decode cX5_isLike 72 = .ok (.getfield 21, 3) := by decide +kernel
theorem dX5_isLike_75 : decode cX5_isLike 75 = .ok (.iload_n 2, 1) := by decide +kernel
theorem dX5_isLike_76 : decode cX5_isLike 76 = .ok (.iaload, 1) := by decide +kernel
theorem dX5_isLike_77 : decode cX5_isLike 77 = .ok (.aload_n 1, 1) := by decide +kernel
theorem dX5_isLike_78 : decode cX5_isLike 78 = .ok (.getfield 21, 3) := by decide +kernel
theorem dX5_isLike_81 : decode cX5_isLike 81 = .ok (.iload_n 2, 1) := by decide +kernel
theorem dX5_isLike_82 : decode cX5_isLike 82 = .ok (.iaload, 1) := by decide +kernel
theorem dX5_isLike_83 : decode cX5_isLike 83 = .ok (.if_icmp .ne 18, 3) := by decide +kernel
theorem dX5_isLike_86 : decode cX5_isLike 86 = .ok (.aload_n 0, 1) := by decide +kernel
theorem dX5_isLike_87 : decode cX5_isLike 87 = .ok (.getfield 24, 3) := by decide +kernel
theorem dX5_isLike_90 : decode cX5_isLike 90 = .ok (.iload_n 2, 1) := by decide +kernel
theorem dX5_isLike_91 : decode cX5_isLike 91 = .ok (.iaload, 1) := by decide +kernel
theorem dX5_isLike_92 : decode cX5_isLike 92 = .ok (.aload_n 1, 1) := by decide +kernel
theorem dX5_isLike_93 : decode cX5_isLike 93 = .ok (.getfield 24, 3) := by decide +kernel
theorem dX5_isLike_96 : decode cX5_isLike 96 = .ok (.iload_n 2, 1) := by decide +kernel
theorem dX5_isLike_97 : decode cX5_isLike 97 = .ok (.iaload, 1) := by decide +kernel
theorem dX5_isLike_98 : decode cX5_isLike 98 = .ok (.if_icmp .eq 5, 3) := by decide +kernel
theorem dX5_isLike_101 : decode cX5_isLike 101 = .ok (.iconst 0, 1) := by decide +kernel
theorem dX5_isLike_102 : decode cX5_isLike 102 = .ok (.ireturn, 1) := by decide +kernel
theorem dX5_isLike_103 : decode cX5_isLike 103 = .ok (.iinc 2 1, 3) := by decide +kernel
theorem dX5_isLike_106 : decode cX5_isLike 106 = .ok (.goto (-58), 3) := by decide +kernel
theorem dX5_isLike_109 : decode cX5_isLike 109 = .ok (.aload_n 0, 1) := by decide +kernel
theorem dX5_isLike_110 : decode cX5_isLike 110 = .ok (.getfield 15, 3) := by decide +kernel
theorem dX5_isLike_113 : decode cX5_isLike 113 = .ok (.aload_n 1, 1) := by decide +kernel
theorem dX5_isLike_114 : decode cX5_isLike 114 = .ok (.getfield 15, 3) := by decide +kernel
theorem dX5_isLike_117 : decode cX5_isLike 117 = .ok (.invokestatic 62, 3) := by decide +kernel
theorem dX5_isLike_120 : decode cX5_isLike 120 = .ok (.ifCond .eq 21, 3) := by decide +kernel
theorem dX5_isLike_123 : decode cX5_isLike 123 = .ok (.aload_n 0, 1) := by decide +kernel
theorem dX5_isLike_124 : decode cX5_isLike 124 = .ok (.getfield 9, 3) := by decide +kernel
theorem dX5_isLike_127 : decode cX5_isLike 127 = .ok (.aload_n 1, 1) := by decide +kernel
theorem dX5_isLike_128 : decode cX5_isLike 128 = .ok (.getfield 9, 3) := by decide +kernel
theorem dX5_isLike_131 : decode cX5_isLike 131 = .ok (.invokestatic 62, 3) := by decide +kernel
theorem dX5_isLike_134 : decode cX5_isLike 134 = .ok (.ifCond .eq 7, 3) := by decide +kernel
theorem dX5_isLike_137 : decode cX5_isLike 137 = .ok (.iconst 1, 1) := by decide +kernel
theorem dX5_isLike_138 : decode cX5_isLike 138 = .ok (.goto 4, 3) := by decide +kernel
theorem dX5_isLike_141 : decode cX5_isLike 141 = .ok (.iconst 0, 1) := by decide +kernel
theorem dX5_isLike_142 : decode cX5_isLike 142 = .ok (.ireturn, 1) := by decide +kernel
theorem dX5_layPart_0 : decode cX5_layPart 0 = .ok (.aload_n 0, 1) := by decide +kernel
theorem dX5_layPart_1 : decode cX5_layPart 1 = .ok (.getfield 49, 3) := by decide +kernel
theorem dX5_layPart_4 : decode cX5_layPart 4 = .ok (.bipush 16, 2) := by decide +kernel
theorem dX5_layPart_6 : decode cX5_layPart 6 = .ok (.if_icmp .ge 43, 3) := by decide +kernel
theorem dX5_layPart_9 : decode cX5_layPart 9 = .ok (.aload_n 0, 1) := by decide +kernel
theorem dX5_layPart_10 : decode cX5_layPart 10 = .ok (.getfield 18, 3) := by decide +kernel
theorem dX5_layPart_13 : decode cX5_layPart 13 = .ok (.aload_n 0, 1) := by decide +kernel
theorem dX5_layPart_14 : decode cX5_layPart 14 = .ok (.getfield 49, 3) := by decide +kernel
theorem dX5_layPart_17 : decode cX5_layPart 17 = .ok (.iload_n 1, 1) := by decide +kernel
theorem dX5_layPart_18 : decode cX5_layPart 18 = .ok (.iastore, 1) := by decide +kernel
theorem dX5_layPart_19 : decode cX5_layPart 19 = .ok (.aload_n 0, 1) := by decide +kernel
theorem dX5_layPart_20 : decode cX5_layPart 20 = .ok (.getfield 21, 3) := by decide +kernel
theorem dX5_layPart_23 : decode cX5_layPart 23 = .ok (.aload_n 0, 1) := by decide +kernel
theorem dX5_layPart_24 : decode cX5_layPart 24 = .ok (.getfield 49, 3) := by decide +kernel
theorem dX5_layPart_27 : decode cX5_layPart 27 = .ok (.iload_n 2, 1) := by decide +kernel
theorem dX5_layPart_28 : decode cX5_layPart 28 = .ok (.iastore, 1) := by decide +kernel
theorem dX5_layPart_29 : decode cX5_layPart 29 = .ok (.aload_n 0, 1) := by decide +kernel
theorem dX5_layPart_30 : decode cX5_layPart 30 = .ok (.getfield 24, 3) := by decide +kernel
theorem dX5_layPart_33 : decode cX5_layPart 33 = .ok (.aload_n 0, 1) := by decide +kernel
theorem dX5_layPart_34 : decode cX5_layPart 34 = .ok (.getfield 49, 3) := by decide +kernel
theorem dX5_layPart_37 : decode cX5_layPart 37 = .ok (.iload_n 3, 1) := by decide +kernel
theorem dX5_layPart_38 : decode cX5_layPart 38 = .ok (.iastore, 1) := by decide +kernel
theorem dX5_layPart_39 : decode cX5_layPart 39 = .ok (.aload_n 0, 1) := by decide +kernel
theorem dX5_layPart_40 : decode cX5_layPart 40 = .ok (.dup, 1) := by decide +kernel
theorem dX5_layPart_41 : decode cX5_layPart 41 = .ok (.getfield 49, 3) := by decide +kernel
theorem dX5_layPart_44 : decode cX5_layPart 44 = .ok (.iconst 1, 1) := by decide +kernel
theorem dX5_layPart_45 : decode cX5_layPart 45 = .ok (.iadd, 1) := by decide +kernel
theorem dX5_layPart_46 : decode cX5_layPart 46 = .ok (.putfield 49, 3) := by decide +kernel
theorem dX5_layPart_49 : decode cX5_layPart 49 = .ok (.return_, 1) := by decide +kernel
theorem dX5_lineOf_0 : decode cX5_lineOf 0 = .ok (.iload_n 2, 1) := by decide +kernel
theorem dX5_lineOf_1 : decode cX5_lineOf 1 = .ok (.iconst 1, 1) := by decide +kernel
theorem dX5_lineOf_2 : decode cX5_lineOf 2 = .ok (.if_icmp .ne 10, 3) := by decide +kernel
theorem dX5_lineOf_5 : decode cX5_lineOf 5 = .ok (.aload_n 0, 1) := by decide +kernel
theorem dX5_lineOf_6 : decode cX5_lineOf 6 = .ok (.getfield 15, 3) := by decide +kernel
theorem dX5_lineOf_9 : decode cX5_lineOf 9 = .ok (.iload_n 1, 1) := by decide +kernel
theorem dX5_lineOf_10 : decode cX5_lineOf 10 = .ok (.iaload, 1) := by decide +kernel
theorem dX5_lineOf_11 : decode cX5_lineOf 11 = .ok (.ireturn, 1) := by decide +kernel
theorem dX5_lineOf_12 : decode cX5_lineOf 12 = .ok (.iconst 0, 1) := by decide +kernel
theorem dX5_lineOf_13 : decode cX5_lineOf 13 = .ok (.istore_n 3, 1) := by decide +kernel
theorem dX5_lineOf_14 : decode cX5_lineOf 14 = .ok (.iconst 0, 1) := by decide +kernel
theorem dX5_lineOf_15 : decode cX5_lineOf 15 = .ok (.istore 4, 2) := by decide +kernel
theorem dX5_lineOf_17 : decode cX5_lineOf 17 = .ok (.iload 4, 2) := by decide +kernel
theorem dX5_lineOf_19 : decode cX5_lineOf 19 = .ok (.aload_n 0, 1) := by decide +kernel
theorem dX5_lineOf_20 : decode cX5_lineOf 20 = .ok (.getfield 49, 3) := by decide +kernel
theorem dX5_lineOf_23 : decode cX5_lineOf 23 = .ok (.if_icmp .ge 31, 3) := by decide +kernel
theorem dX5_lineOf_26 : decode cX5_lineOf 26 = .ok (.aload_n 0, 1) := by decide +kernel
theorem dX5_lineOf_27 : decode cX5_lineOf 27 = .ok (.getfield 24, 3) := by decide +kernel
theorem dX5_lineOf_30 : decode cX5_lineOf 30 = .ok (.iload 4, 2) := by decide +kernel
theorem dX5_lineOf_32 : decode cX5_lineOf 32 = .ok (.iaload, 1) := by decide +kernel
theorem dX5_lineOf_33 : decode cX5_lineOf 33 = .ok (.iload_n 1, 1) := by decide +kernel
theorem dX5_lineOf_34 : decode cX5_lineOf 34 = .ok (.ishr, 1) := by decide +kernel
theorem dX5_lineOf_35 : decode cX5_lineOf 35 = .ok (.iconst 1, 1) := by decide +kernel
theorem dX5_lineOf_36 : decode cX5_lineOf 36 = .ok (.iand, 1) := by decide +kernel
theorem dX5_lineOf_37 : decode cX5_lineOf 37 = .ok (.ifCond .eq 11, 3) := by decide +kernel
theorem dX5_lineOf_40 : decode cX5_lineOf 40 = .ok (.aload_n 0, 1) := by decide +kernel
theorem dX5_lineOf_41 : decode cX5_lineOf 41 = .ok (.getfield 18, 3) := by decide +kernel
theorem dX5_lineOf_44 : decode cX5_lineOf 44 = .ok (.iload 4, 2) := by decide +kernel
theorem dX5_lineOf_46 : decode cX5_lineOf 46 = .ok (.iaload, 1) := by decide +kernel
theorem dX5_lineOf_47 : decode cX5_lineOf 47 = .ok (.istore_n 3, 1) := by decide +kernel
theorem dX5_lineOf_48 : decode cX5_lineOf 48 = .ok (.iinc 4 1, 3) := by decide +kernel
theorem dX5_lineOf_51 : decode cX5_lineOf 51 = .ok (.goto (-34), 3) := by decide +kernel
theorem dX5_lineOf_54 : decode cX5_lineOf 54 = .ok (.iload_n 3, 1) := by decide +kernel
theorem dX5_lineOf_55 : decode cX5_lineOf 55 = .ok (.ireturn, 1) := by decide +kernel
theorem dX5_movable_0 : decode cX5_movable 0 = .ok (.aload_n 0, 1) := by decide +kernel
theorem dX5_movable_1 : decode cX5_movable 1 = .ok (.getfield 33, 3) := by decide +kernel
theorem dX5_movable_4 : decode cX5_movable 4 = .ok (.aload_n 0, 1) := by decide +kernel
theorem dX5_movable_5 : decode cX5_movable 5 = .ok (.getfield 37, 3) := by decide +kernel
theorem dX5_movable_8 : decode cX5_movable 8 = .ok (.iconst (-1), 1) := by decide +kernel
theorem dX5_movable_9 : decode cX5_movable 9 = .ok (.ixor, 1) := by decide +kernel
theorem dX5_movable_10 : decode cX5_movable 10 = .ok (.iand, 1) := by decide +kernel
theorem dX5_movable_11 : decode cX5_movable 11 = .ok (.istore_n 2, 1) := by decide +kernel
theorem dX5_movable_12 : decode cX5_movable 12 = .ok (.iload_n 1, 1) := by decide +kernel
theorem dX5_movable_13 : decode cX5_movable 13 = .ok (.ifCond .ne 28, 3) := by decide +kernel
theorem dX5_movable_16 : decode cX5_movable 16 = .ok (.aload_n 0, 1) := by decide +kernel
theorem dX5_movable_17 : decode cX5_movable 17 = .ok (.getfield 49, 3) := by decide +kernel
theorem dX5_movable_20 : decode cX5_movable 20 = .ok (.ifCond .ne 7, 3) := by decide +kernel
theorem dX5_movable_23 : decode cX5_movable 23 = .ok (.iconst 0, 1) := by decide +kernel
theorem dX5_movable_24 : decode cX5_movable 24 = .ok (.goto 16, 3) := by decide +kernel
theorem dX5_movable_27 : decode cX5_movable 27 = .ok (.aload_n 0, 1) := by decide +kernel
theorem dX5_movable_28 : decode cX5_movable 28 = .ok (.getfield 24, 3) := by decide +kernel
theorem dX5_movable_31 : decode cX5_movable 31 = .ok (.aload_n 0, 1) := by decide +kernel
theorem dX5_movable_32 : decode cX5_movable 32 = .ok (.getfield 49, 3) := by decide +kernel
theorem dX5_movable_35 : decode cX5_movable 35 = .ok (.iconst 1, 1) := by decide +kernel
theorem dX5_movable_36 : decode cX5_movable 36 = .ok (.isub, 1) := by decide +kernel
theorem dX5_movable_37 : decode cX5_movable 37 = .ok (.iaload, 1) := by decide +kernel
theorem dX5_movable_38 : decode cX5_movable 38 = .ok (.iload_n 2, 1) := by decide +kernel
theorem dX5_movable_39 : decode cX5_movable 39 = .ok (.iand, 1) := by decide +kernel
theorem dX5_movable_40 : decode cX5_movable 40 = .ok (.ireturn, 1) := by decide +kernel
theorem dX5_movable_41 : decode cX5_movable 41 = .ok (.iload_n 2, 1) := by decide +kernel
theorem dX5_movable_42 : decode cX5_movable 42 = .ok (.ireturn, 1) := by decide +kernel
theorem dX5_moveLane_0 : decode cX5_moveLane 0 = .ok (.aload_n 0, 1) := by decide +kernel
theorem dX5_moveLane_1 : decode cX5_moveLane 1 = .ok (.getfield 15, 3) := by decide +kernel
theorem dX5_moveLane_4 : decode cX5_moveLane 4 = .ok (.iload_n 1, 1) := by decide +kernel
theorem dX5_moveLane_5 : decode cX5_moveLane 5 = .ok (.iload_n 2, 1) := by decide +kernel
theorem dX5_moveLane_6 : decode cX5_moveLane 6 = .ok (.iastore, 1) := by decide +kernel
theorem dX5_moveLane_7 : decode cX5_moveLane 7 = .ok (.iload_n 2, 1) := by decide +kernel
theorem dX5_moveLane_8 : decode cX5_moveLane 8 = .ok (.iload_n 3, 1) := by decide +kernel
theorem dX5_moveLane_9 : decode cX5_moveLane 9 = .ok (.if_icmp .ne 17, 3) := by decide +kernel
theorem dX5_moveLane_12 : decode cX5_moveLane 12 = .ok (.aload_n 0, 1) := by decide +kernel
theorem dX5_moveLane_13 : decode cX5_moveLane 13 = .ok (.dup, 1) := by decide +kernel
theorem dX5_moveLane_14 : decode cX5_moveLane 14 = .ok (.getfield 33, 3) := by decide +kernel
theorem dX5_moveLane_17 : decode cX5_moveLane 17 = .ok (.iconst 1, 1) := by decide +kernel
theorem dX5_moveLane_18 : decode cX5_moveLane 18 = .ok (.iload_n 1, 1) := by decide +kernel
theorem dX5_moveLane_19 : decode cX5_moveLane 19 = .ok (.ishl, 1) := by decide +kernel
theorem dX5_moveLane_20 : decode cX5_moveLane 20 = .ok (.iconst (-1), 1) := by decide +kernel
theorem dX5_moveLane_21 : decode cX5_moveLane 21 = .ok (.ixor, 1) := by decide +kernel
theorem dX5_moveLane_22 : decode cX5_moveLane 22 = .ok (.iand, 1) := by decide +kernel
theorem dX5_moveLane_23 : decode cX5_moveLane 23 = .ok (.putfield 33, 3) := by decide +kernel
theorem dX5_moveLane_26 : decode cX5_moveLane 26 = .ok (.return_, 1) := by decide +kernel
theorem dX5_moveTop_0 : decode cX5_moveTop 0 = .ok (.aload_n 0, 1) := by decide +kernel
theorem dX5_moveTop_1 : decode cX5_moveTop 1 = .ok (.getfield 49, 3) := by decide +kernel
theorem dX5_moveTop_4 : decode cX5_moveTop 4 = .ok (.ifCond .le 15, 3) := by decide +kernel
theorem dX5_moveTop_7 : decode cX5_moveTop 7 = .ok (.aload_n 0, 1) := by decide +kernel
theorem dX5_moveTop_8 : decode cX5_moveTop 8 = .ok (.getfield 18, 3) := by decide +kernel
theorem dX5_moveTop_11 : decode cX5_moveTop 11 = .ok (.aload_n 0, 1) := by decide +kernel
theorem dX5_moveTop_12 : decode cX5_moveTop 12 = .ok (.getfield 49, 3) := by decide +kernel
theorem dX5_moveTop_15 : decode cX5_moveTop 15 = .ok (.iconst 1, 1) := by decide +kernel
theorem dX5_moveTop_16 : decode cX5_moveTop 16 = .ok (.isub, 1) := by decide +kernel
theorem dX5_moveTop_17 : decode cX5_moveTop 17 = .ok (.iload_n 1, 1) := by decide +kernel
theorem dX5_moveTop_18 : decode cX5_moveTop 18 = .ok (.iastore, 1) := by decide +kernel
theorem dX5_moveTop_19 : decode cX5_moveTop 19 = .ok (.return_, 1) := by decide +kernel
theorem dX5_passBar_0 : decode cX5_passBar 0 = .ok (.aload_n 0, 1) := by decide +kernel
theorem dX5_passBar_1 : decode cX5_passBar 1 = .ok (.getfield 37, 3) := by decide +kernel
theorem dX5_passBar_4 : decode cX5_passBar 4 = .ok (.istore_n 3, 1) := by decide +kernel
theorem dX5_passBar_5 : decode cX5_passBar 5 = .ok (.aload_n 0, 1) := by decide +kernel
theorem dX5_passBar_6 : decode cX5_passBar 6 = .ok (.iconst 0, 1) := by decide +kernel
theorem dX5_passBar_7 : decode cX5_passBar 7 = .ok (.putfield 37, 3) := by decide +kernel
theorem dX5_passBar_10 : decode cX5_passBar 10 = .ok (.iload_n 3, 1) := by decide +kernel
theorem dX5_passBar_11 : decode cX5_passBar 11 = .ok (.ifCond .ne 4, 3) := by decide +kernel
theorem dX5_passBar_14 : decode cX5_passBar 14 = .ok (.return_, 1) := by decide +kernel
theorem dX5_passBar_15 : decode cX5_passBar 15 = .ok (.iload_n 1, 1) := by decide +kernel
theorem dX5_passBar_16 : decode cX5_passBar 16 = .ok (.ifCond .ne 33, 3) := by decide +kernel
theorem dX5_passBar_19 : decode cX5_passBar 19 = .ok (.aload_n 0, 1) := by decide +kernel
theorem dX5_passBar_20 : decode cX5_passBar 20 = .ok (.getfield 49, 3) := by decide +kernel
theorem dX5_passBar_23 : decode cX5_passBar 23 = .ok (.ifCond .le 26, 3) := by decide +kernel
theorem dX5_passBar_26 : decode cX5_passBar 26 = .ok (.aload_n 0, 1) := by decide +kernel
theorem dX5_passBar_27 : decode cX5_passBar 27 = .ok (.aload_n 0, 1) := by decide +kernel
theorem dX5_passBar_28 : decode cX5_passBar 28 = .ok (.getfield 18, 3) := by decide +kernel
theorem dX5_passBar_31 : decode cX5_passBar 31 = .ok (.aload_n 0, 1) := by decide +kernel
theorem dX5_passBar_32 : decode cX5_passBar 32 = .ok (.getfield 49, 3) := by decide +kernel
theorem dX5_passBar_35 : decode cX5_passBar 35 = .ok (.iconst 1, 1) := by decide +kernel
theorem dX5_passBar_36 : decode cX5_passBar 36 = .ok (.isub, 1) := by decide +kernel
theorem dX5_passBar_37 : decode cX5_passBar 37 = .ok (.iaload, 1) := by decide +kernel
theorem dX5_passBar_38 : decode cX5_passBar 38 = .ok (.iconst 1, 1) := by decide +kernel
theorem dX5_passBar_39 : decode cX5_passBar 39 = .ok (.iadd, 1) := by decide +kernel
theorem dX5_passBar_40 : decode cX5_passBar 40 = .ok (.invokevirtual 66, 3) := by decide +kernel
theorem dX5_passBar_43 : decode cX5_passBar 43 = .ok (.aload_n 0, 1) := by decide +kernel
theorem dX5_passBar_44 : decode cX5_passBar 44 = .ok (.iload_n 2, 1) := by decide +kernel
theorem dX5_passBar_45 : decode cX5_passBar 45 = .ok (.invokevirtual 70, 3) := by decide +kernel
theorem dX5_passBar_48 : decode cX5_passBar 48 = .ok (.return_, 1) := by decide +kernel
theorem dX5_passBar_49 : decode cX5_passBar 49 = .ok (.iconst 0, 1) := by decide +kernel
theorem dX5_passBar_50 : decode cX5_passBar 50 = .ok (.istore 4, 2) := by decide +kernel
theorem dX5_passBar_52 : decode cX5_passBar 52 = .ok (.iload 4, 2) := by decide +kernel
theorem dX5_passBar_54 : decode cX5_passBar 54 = .ok (.bipush 8, 2) := by decide +kernel
theorem dX5_passBar_56 : decode cX5_passBar 56 = .ok (.if_icmp .ge 34, 3) := by decide +kernel
theorem dX5_passBar_59 : decode cX5_passBar 59 = .ok (.iload_n 3, 1) := by decide +kernel
theorem dX5_passBar_60 : decode cX5_passBar 60 = .ok (.iload 4, 2) := by decide +kernel
theorem dX5_passBar_62 : decode cX5_passBar 62 = .ok (.ishr, 1) := by decide +kernel
theorem dX5_passBar_63 : decode cX5_passBar 63 = .ok (.iconst 1, 1) := by decide +kernel
theorem dX5_passBar_64 : decode cX5_passBar 64 = .ok (.iand, 1) := by decide +kernel
theorem dX5_passBar_65 : decode cX5_passBar 65 = .ok (.ifCond .eq 19, 3) := by decide +kernel
theorem dX5_passBar_68 : decode cX5_passBar 68 = .ok (.aload_n 0, 1) := by decide +kernel
theorem dX5_passBar_69 : decode cX5_passBar 69 = .ok (.iload 4, 2) := by decide +kernel
theorem dX5_passBar_71 : decode cX5_passBar 71 = .ok (.aload_n 0, 1) := by decide +kernel
theorem dX5_passBar_72 : decode cX5_passBar 72 = .ok (.getfield 15, 3) := by decide +kernel
theorem dX5_passBar_75 : decode cX5_passBar 75 = .ok (.iload 4, 2) := by decide +kernel
theorem dX5_passBar_77 : decode cX5_passBar 77 = .ok (.iaload, 1) := by decide +kernel
theorem dX5_passBar_78 : decode cX5_passBar 78 = .ok (.iconst 1, 1) := by decide +kernel
theorem dX5_passBar_79 : decode cX5_passBar 79 = .ok (.iadd, 1) := by decide +kernel
theorem dX5_passBar_80 : decode cX5_passBar 80 = .ok (.iload_n 2, 1) := by decide +kernel
theorem dX5_passBar_81 : decode cX5_passBar 81 = .ok (.invokevirtual 73, 3) := by decide +kernel
theorem dX5_passBar_84 : decode cX5_passBar 84 = .ok (.iinc 4 1, 3) := by decide +kernel
theorem dX5_passBar_87 : decode cX5_passBar 87 = .ok (.goto (-35), 3) := by decide +kernel
theorem dX5_passBar_90 : decode cX5_passBar 90 = .ok (.return_, 1) := by decide +kernel
theorem dX5_restart_0 : decode cX5_restart 0 = .ok (.aload_n 0, 1) := by decide +kernel
theorem dX5_restart_1 : decode cX5_restart 1 = .ok (.getfield 9, 3) := by decide +kernel
theorem dX5_restart_4 : decode cX5_restart 4 = .ok (.iconst 0, 1) := by decide +kernel
theorem dX5_restart_5 : decode cX5_restart 5 = .ok (.invokestatic 27, 3) := by decide +kernel
theorem dX5_restart_8 : decode cX5_restart 8 = .ok (.aload_n 0, 1) := by decide +kernel
theorem dX5_restart_9 : decode cX5_restart 9 = .ok (.getfield 15, 3) := by decide +kernel
theorem dX5_restart_12 : decode cX5_restart 12 = .ok (.iconst 0, 1) := by decide +kernel
theorem dX5_restart_13 : decode cX5_restart 13 = .ok (.invokestatic 27, 3) := by decide +kernel
theorem dX5_restart_16 : decode cX5_restart 16 = .ok (.aload_n 0, 1) := by decide +kernel
theorem dX5_restart_17 : decode cX5_restart 17 = .ok (.iload_n 1, 1) := by decide +kernel
theorem dX5_restart_18 : decode cX5_restart 18 = .ok (.putfield 33, 3) := by decide +kernel
theorem dX5_restart_21 : decode cX5_restart 21 = .ok (.aload_n 0, 1) := by decide +kernel
theorem dX5_restart_22 : decode cX5_restart 22 = .ok (.iconst 0, 1) := by decide +kernel
theorem dX5_restart_23 : decode cX5_restart 23 = .ok (.putfield 37, 3) := by decide +kernel
theorem dX5_restart_26 : decode cX5_restart 26 = .ok (.aload_n 0, 1) := by decide +kernel
theorem dX5_restart_27 : decode cX5_restart 27 = .ok (.iconst 0, 1) := by decide +kernel
theorem dX5_restart_28 : decode cX5_restart 28 = .ok (.putfield 40, 3) := by decide +kernel
theorem dX5_restart_31 : decode cX5_restart 31 = .ok (.aload_n 0, 1) := by decide +kernel
theorem dX5_restart_32 : decode cX5_restart 32 = .ok (.iconst 0, 1) := by decide +kernel
theorem dX5_restart_33 : decode cX5_restart 33 = .ok (.putfield 43, 3) := by decide +kernel
theorem dX5_restart_36 : decode cX5_restart 36 = .ok (.aload_n 0, 1) := by decide +kernel
theorem dX5_restart_37 : decode cX5_restart 37 = .ok (.iconst 0, 1) := by decide +kernel
theorem dX5_restart_38 : decode cX5_restart 38 = .ok (.putfield 46, 3) := by decide +kernel
theorem dX5_restart_41 : decode cX5_restart 41 = .ok (.aload_n 0, 1) := by decide +kernel
theorem dX5_restart_42 : decode cX5_restart 42 = .ok (.iconst 0, 1) := by decide +kernel
theorem dX5_restart_43 : decode cX5_restart 43 = .ok (.putfield 49, 3) := by decide +kernel
theorem dX5_restart_46 : decode cX5_restart 46 = .ok (.iload_n 2, 1) := by decide +kernel
theorem dX5_restart_47 : decode cX5_restart 47 = .ok (.ifCond .ne 14, 3) := by decide +kernel
theorem dX5_restart_50 : decode cX5_restart 50 = .ok (.iload_n 1, 1) := by decide +kernel
theorem dX5_restart_51 : decode cX5_restart 51 = .ok (.ifCond .eq 10, 3) := by decide +kernel
theorem dX5_restart_54 : decode cX5_restart 54 = .ok (.aload_n 0, 1) := by decide +kernel
theorem dX5_restart_55 : decode cX5_restart 55 = .ok (.iconst 0, 1) := by decide +kernel
theorem dX5_restart_56 : decode cX5_restart 56 = .ok (.iload_n 3, 1) := by decide +kernel
theorem dX5_restart_57 : decode cX5_restart 57 = .ok (.iload_n 1, 1) := by decide +kernel
theorem dX5_restart_58 : decode cX5_restart 58 = .ok (.invokevirtual 52, 3) := by decide +kernel
theorem dX5_restart_61 : decode cX5_restart 61 = .ok (.return_, 1) := by decide +kernel
theorem dX5_settle_0 : decode cX5_settle 0 = .ok (.aload_n 0, 1) := by decide +kernel
theorem dX5_settle_1 : decode cX5_settle 1 = .ok (.getfield 49, 3) := by decide +kernel
theorem dX5_settle_4 : decode cX5_settle 4 = .ok (.ifCond .le 7, 3) := by decide +kernel
theorem dX5_settle_7 : decode cX5_settle 7 = .ok (.iconst 1, 1) := by decide +kernel
theorem dX5_settle_8 : decode cX5_settle 8 = .ok (.goto 4, 3) := by decide +kernel
theorem dX5_settle_11 : decode cX5_settle 11 = .ok (.iconst 0, 1) := by decide +kernel
theorem dX5_settle_12 : decode cX5_settle 12 = .ok (.istore_n 2, 1) := by decide +kernel
theorem dX5_settle_13 : decode cX5_settle 13 = .ok (.bipush 16, 2) := by decide +kernel
theorem dX5_settle_15 : decode cX5_settle 15 = .ok (.istore_n 3, 1) := by decide +kernel
theorem dX5_settle_16 : decode cX5_settle 16 = .ok (.iload_n 2, 1) := by decide +kernel
theorem dX5_settle_17 : decode cX5_settle 17 = .ok (.ifCond .eq 151, 3) := by decide +kernel
theorem dX5_settle_20 : decode cX5_settle 20 = .ok (.iload_n 3, 1) := by decide +kernel
theorem dX5_settle_21 : decode cX5_settle 21 = .ok (.ifCond .le 147, 3) := by decide +kernel
theorem dX5_settle_24 : decode cX5_settle 24 = .ok (.aload_n 0, 1) := by decide +kernel
theorem dX5_settle_25 : decode cX5_settle 25 = .ok (.getfield 49, 3) := by decide +kernel
theorem dX5_settle_28 : decode cX5_settle 28 = .ok (.iconst 1, 1) := by decide +kernel
theorem dX5_settle_29 : decode cX5_settle 29 = .ok (.isub, 1) := by decide +kernel
theorem dX5_settle_30 : decode cX5_settle 30 = .ok (.istore 4, 2) := by decide +kernel
theorem dX5_settle_32 : decode cX5_settle 32 = .ok (.aload_n 0, 1) := by decide +kernel
theorem dX5_settle_33 : decode cX5_settle 33 = .ok (.getfield 18, 3) := by decide +kernel
theorem dX5_settle_36 : decode cX5_settle 36 = .ok (.iload 4, 2) := by decide +kernel
theorem dX5_settle_38 : decode cX5_settle 38 = .ok (.iaload, 1) := by decide +kernel
theorem dX5_settle_39 : decode cX5_settle 39 = .ok (.iload_n 1, 1) := by decide +kernel
theorem dX5_settle_40 : decode cX5_settle 40 = .ok (.if_icmp .ne 21, 3) := by decide +kernel
theorem dX5_settle_43 : decode cX5_settle 43 = .ok (.aload_n 0, 1) := by decide +kernel
theorem dX5_settle_44 : decode cX5_settle 44 = .ok (.dup, 1) := by decide +kernel
theorem dX5_settle_45 : decode cX5_settle 45 = .ok (.getfield 33, 3) := by decide +kernel
theorem dX5_settle_48 : decode cX5_settle 48 = .ok (.aload_n 0, 1) := by decide +kernel
theorem dX5_settle_49 : decode cX5_settle 49 = .ok (.getfield 24, 3) := by decide +kernel
theorem dX5_settle_52 : decode cX5_settle 52 = .ok (.iload 4, 2) := by decide +kernel
theorem dX5_settle_54 : decode cX5_settle 54 = .ok (.iaload, 1) := by decide +kernel
theorem dX5_settle_55 : decode cX5_settle 55 = .ok (.iconst (-1), 1) := by decide +kernel
theorem dX5_settle_56 : decode cX5_settle 56 = .ok (.ixor, 1) := by decide +kernel
theorem dX5_settle_57 : decode cX5_settle 57 = .ok (.iand, 1) := by decide +kernel
theorem dX5_settle_58 : decode cX5_settle 58 = .ok (.putfield 33, 3) := by decide +kernel
theorem dX5_settle_61 : decode cX5_settle 61 = .ok (.iconst 0, 1) := by decide +kernel
theorem dX5_settle_62 : decode cX5_settle 62 = .ok (.istore 5, 2) := by decide +kernel
theorem dX5_settle_64 : decode cX5_settle 64 = .ok (.iload 5, 2) := by decide +kernel
theorem dX5_settle_66 : decode cX5_settle 66 = .ok (.aload_n 0, 1) := by decide +kernel
theorem dX5_settle_67 : decode cX5_settle 67 = .ok (.getfield 49, 3) := by decide +kernel
theorem dX5_settle_70 : decode cX5_settle 70 = .ok (.if_icmp .ge 23, 3) := by decide +kernel
theorem dX5_settle_73 : decode cX5_settle 73 = .ok (.aload_n 0, 1) := by decide +kernel
theorem dX5_settle_74 : decode cX5_settle 74 = .ok (.getfield 24, 3) := by decide +kernel
theorem dX5_settle_77 : decode cX5_settle 77 = .ok (.iload 5, 2) := by decide +kernel
theorem dX5_settle_79 : decode cX5_settle 79 = .ok (.dup2, 1) := by decide +kernel
theorem dX5_settle_80 : decode cX5_settle 80 = .ok (.iaload, 1) := by decide +kernel
theorem dX5_settle_81 : decode cX5_settle 81 = .ok (.aload_n 0, 1) := by decide +kernel
theorem dX5_settle_82 : decode cX5_settle 82 = .ok (.getfield 33, 3) := by decide +kernel
theorem dX5_settle_85 : decode cX5_settle 85 = .ok (.iand, 1) := by decide +kernel
theorem dX5_settle_86 : decode cX5_settle 86 = .ok (.iastore, 1) := by decide +kernel
theorem dX5_settle_87 : decode cX5_settle 87 = .ok (.iinc 5 1, 3) := by decide +kernel
theorem dX5_settle_90 : decode cX5_settle 90 = .ok (.goto (-26), 3) := by decide +kernel
theorem dX5_settle_93 : decode cX5_settle 93 = .ok (.aload_n 0, 1) := by decide +kernel
theorem dX5_settle_94 : decode cX5_settle 94 = .ok (.getfield 24, 3) := by decide +kernel
theorem dX5_settle_97 : decode cX5_settle 97 = .ok (.iload 4, 2) := by decide +kernel
theorem dX5_settle_99 : decode cX5_settle 99 = .ok (.iaload, 1) := by decide +kernel
theorem dX5_settle_100 : decode cX5_settle 100 = .ok (.ifCond .eq 25, 3) := by decide +kernel
theorem dX5_settle_103 : decode cX5_settle 103 = .ok (.aload_n 0, 1) := by decide +kernel
theorem dX5_settle_104 : decode cX5_settle 104 = .ok (.getfield 18, 3) := by decide +kernel
theorem dX5_settle_107 : decode cX5_settle 107 = .ok (.iload 4, 2) := by decide +kernel
theorem dX5_settle_109 : decode cX5_settle 109 = .ok (.iaload, 1) := by decide +kernel
theorem dX5_settle_110 : decode cX5_settle 110 = .ok (.aload_n 0, 1) := by decide +kernel
theorem dX5_settle_111 : decode cX5_settle 111 = .ok (.getfield 21, 3) := by decide +kernel
theorem dX5_settle_114 : decode cX5_settle 114 = .ok (.iload 4, 2) := by decide +kernel
theorem dX5_settle_116 : decode cX5_settle 116 = .ok (.iaload, 1) := by decide +kernel
theorem dX5_settle_117 : decode cX5_settle 117 = .ok (.if_icmp .ne 12, 3) := by decide +kernel
theorem dX5_settle_120 : decode cX5_settle 120 = .ok (.iload 4, 2) := by decide +kernel
theorem dX5_settle_122 : decode cX5_settle 122 = .ok (.ifCond .le 7, 3) := by decide +kernel
theorem dX5_settle_125 : decode cX5_settle 125 = .ok (.iconst 1, 1) := by decide +kernel
theorem dX5_settle_126 : decode cX5_settle 126 = .ok (.goto 4, 3) := by decide +kernel
theorem dX5_settle_129 : decode cX5_settle 129 = .ok (.iconst 0, 1) := by decide +kernel
theorem dX5_settle_130 : decode cX5_settle 130 = .ok (.istore_n 2, 1) := by decide +kernel
theorem dX5_settle_131 : decode cX5_settle 131 = .ok (.iload_n 2, 1) := by decide +kernel
theorem dX5_settle_132 : decode cX5_settle 132 = .ok (.ifCond .eq 13, 3) := by decide +kernel
theorem dX5_settle_135 : decode cX5_settle 135 = .ok (.aload_n 0, 1) := by decide +kernel
theorem dX5_settle_136 : decode cX5_settle 136 = .ok (.dup, 1) := by decide +kernel
theorem dX5_settle_137 : decode cX5_settle 137 = .ok (.getfield 49, 3) := by decide +kernel
theorem dX5_settle_140 : decode cX5_settle 140 = .ok (.iconst 1, 1) := by decide +kernel
theorem dX5_settle_141 : decode cX5_settle 141 = .ok (.isub, 1) := by decide +kernel
theorem dX5_settle_142 : decode cX5_settle 142 = .ok (.putfield 49, 3) := by decide +kernel
theorem dX5_settle_145 : decode cX5_settle 145 = .ok (.iload_n 2, 1) := by decide +kernel
theorem dX5_settle_146 : decode cX5_settle 146 = .ok (.ifCond .eq 14, 3) := by decide +kernel
theorem dX5_settle_149 : decode cX5_settle 149 = .ok (.aload_n 0, 1) := by decide +kernel
theorem dX5_settle_150 : decode cX5_settle 150 = .ok (.getfield 49, 3) := by decide +kernel
theorem dX5_settle_153 : decode cX5_settle 153 = .ok (.ifCond .le 7, 3) := by decide +kernel
theorem dX5_settle_156 : decode cX5_settle 156 = .ok (.iconst 1, 1) := by decide +kernel
theorem dX5_settle_157 : decode cX5_settle 157 = .ok (.goto 4, 3) := by decide +kernel
theorem dX5_settle_160 : decode cX5_settle 160 = .ok (.iconst 0, 1) := by decide +kernel
theorem dX5_settle_161 : decode cX5_settle 161 = .ok (.istore_n 2, 1) := by decide +kernel
theorem dX5_settle_162 : decode cX5_settle 162 = .ok (.iinc 3 (-1), 3) := by decide +kernel
theorem dX5_settle_165 : decode cX5_settle 165 = .ok (.goto (-149), 3) := by decide +kernel
theorem dX5_settle_168 : decode cX5_settle 168 = .ok (.return_, 1) := by decide +kernel
theorem dX5_splitTop_0 : decode cX5_splitTop 0 = .ok (.aload_n 0, 1) := by decide +kernel
theorem dX5_splitTop_1 : decode cX5_splitTop 1 = .ok (.getfield 49, 3) := by decide +kernel
theorem dX5_splitTop_4 : decode cX5_splitTop 4 = .ok (.ifCond .ne 4, 3) := by decide +kernel
theorem dX5_splitTop_7 : decode cX5_splitTop 7 = .ok (.return_, 1) := by decide +kernel
theorem dX5_splitTop_8 : decode cX5_splitTop 8 = .ok (.aload_n 0, 1) := by decide +kernel
theorem dX5_splitTop_9 : decode cX5_splitTop 9 = .ok (.getfield 24, 3) := by decide +kernel
theorem dX5_splitTop_12 : decode cX5_splitTop 12 = .ok (.aload_n 0, 1) := by decide +kernel
theorem dX5_splitTop_13 : decode cX5_splitTop 13 = .ok (.getfield 49, 3) := by decide +kernel
theorem dX5_splitTop_16 : decode cX5_splitTop 16 = .ok (.iconst 1, 1) := by decide +kernel
theorem dX5_splitTop_17 : decode cX5_splitTop 17 = .ok (.isub, 1) := by decide +kernel
theorem dX5_splitTop_18 : decode cX5_splitTop 18 = .ok (.iaload, 1) := by decide +kernel
theorem dX5_splitTop_19 : decode cX5_splitTop 19 = .ok (.iload 4, 2) := by decide +kernel
theorem dX5_splitTop_21 : decode cX5_splitTop 21 = .ok (.iconst (-1), 1) := by decide +kernel
theorem dX5_splitTop_22 : decode cX5_splitTop 22 = .ok (.ixor, 1) := by decide +kernel
theorem dX5_splitTop_23 : decode cX5_splitTop 23 = .ok (.iand, 1) := by decide +kernel
theorem dX5_splitTop_24 : decode cX5_splitTop 24 = .ok (.istore 6, 2) := by decide +kernel
theorem dX5_splitTop_26 : decode cX5_splitTop 26 = .ok (.aload_n 0, 1) := by decide +kernel
theorem dX5_splitTop_27 : decode cX5_splitTop 27 = .ok (.getfield 18, 3) := by decide +kernel
theorem dX5_splitTop_30 : decode cX5_splitTop 30 = .ok (.aload_n 0, 1) := by decide +kernel
theorem dX5_splitTop_31 : decode cX5_splitTop 31 = .ok (.getfield 49, 3) := by decide +kernel
theorem dX5_splitTop_34 : decode cX5_splitTop 34 = .ok (.iconst 1, 1) := by decide +kernel
theorem dX5_splitTop_35 : decode cX5_splitTop 35 = .ok (.isub, 1) := by decide +kernel
theorem dX5_splitTop_36 : decode cX5_splitTop 36 = .ok (.iload_n 3, 1) := by decide +kernel
theorem dX5_splitTop_37 : decode cX5_splitTop 37 = .ok (.iastore, 1) := by decide +kernel
theorem dX5_splitTop_38 : decode cX5_splitTop 38 = .ok (.iload_n 1, 1) := by decide +kernel
theorem dX5_splitTop_39 : decode cX5_splitTop 39 = .ok (.iload 5, 2) := by decide +kernel
theorem dX5_splitTop_41 : decode cX5_splitTop 41 = .ok (.if_icmp .ne 19, 3) := by decide +kernel
theorem dX5_splitTop_44 : decode cX5_splitTop 44 = .ok (.aload_n 0, 1) := by decide +kernel
theorem dX5_splitTop_45 : decode cX5_splitTop 45 = .ok (.dup, 1) := by decide +kernel
theorem dX5_splitTop_46 : decode cX5_splitTop 46 = .ok (.getfield 33, 3) := by decide +kernel
theorem dX5_splitTop_49 : decode cX5_splitTop 49 = .ok (.iload 6, 2) := by decide +kernel
theorem dX5_splitTop_51 : decode cX5_splitTop 51 = .ok (.iconst (-1), 1) := by decide +kernel
theorem dX5_splitTop_52 : decode cX5_splitTop 52 = .ok (.ixor, 1) := by decide +kernel
theorem dX5_splitTop_53 : decode cX5_splitTop 53 = .ok (.iand, 1) := by decide +kernel
theorem dX5_splitTop_54 : decode cX5_splitTop 54 = .ok (.putfield 33, 3) := by decide +kernel
theorem dX5_splitTop_57 : decode cX5_splitTop 57 = .ok (.goto 16, 3) := by decide +kernel
theorem dX5_splitTop_60 : decode cX5_splitTop 60 = .ok (.iload_n 1, 1) := by decide +kernel
theorem dX5_splitTop_61 : decode cX5_splitTop 61 = .ok (.iload_n 3, 1) := by decide +kernel
theorem dX5_splitTop_62 : decode cX5_splitTop 62 = .ok (.if_icmp .eq 11, 3) := by decide +kernel
theorem dX5_splitTop_65 : decode cX5_splitTop 65 = .ok (.aload_n 0, 1) := by decide +kernel
theorem dX5_splitTop_66 : decode cX5_splitTop 66 = .ok (.iload_n 1, 1) := by decide +kernel
theorem dX5_splitTop_67 : decode cX5_splitTop 67 = .ok (.iload_n 3, 1) := by decide +kernel
theorem dX5_splitTop_68 : decode cX5_splitTop 68 = .ok (.iload 6, 2) := by decide +kernel
theorem dX5_splitTop_70 : decode cX5_splitTop 70 = .ok (.invokevirtual 52, 3) := by decide +kernel
theorem dX5_splitTop_73 : decode cX5_splitTop 73 = .ok (.iload_n 2, 1) := by decide +kernel
theorem dX5_splitTop_74 : decode cX5_splitTop 74 = .ok (.iload_n 3, 1) := by decide +kernel
theorem dX5_splitTop_75 : decode cX5_splitTop 75 = .ok (.if_icmp .eq 11, 3) := by decide +kernel
theorem dX5_splitTop_78 : decode cX5_splitTop 78 = .ok (.aload_n 0, 1) := by decide +kernel
theorem dX5_splitTop_79 : decode cX5_splitTop 79 = .ok (.iload_n 2, 1) := by decide +kernel
theorem dX5_splitTop_80 : decode cX5_splitTop 80 = .ok (.iload_n 3, 1) := by decide +kernel
theorem dX5_splitTop_81 : decode cX5_splitTop 81 = .ok (.iload 4, 2) := by decide +kernel
theorem dX5_splitTop_83 : decode cX5_splitTop 83 = .ok (.invokevirtual 52, 3) := by decide +kernel
theorem dX5_splitTop_86 : decode cX5_splitTop 86 = .ok (.return_, 1) := by decide +kernel
theorem dX5_yieldTop_0 : decode cX5_yieldTop 0 = .ok (.aload_n 0, 1) := by decide +kernel
theorem dX5_yieldTop_1 : decode cX5_yieldTop 1 = .ok (.getfield 49, 3) := by decide +kernel
theorem dX5_yieldTop_4 : decode cX5_yieldTop 4 = .ok (.iconst 1, 1) := by decide +kernel
theorem dX5_yieldTop_5 : decode cX5_yieldTop 5 = .ok (.isub, 1) := by decide +kernel
theorem dX5_yieldTop_6 : decode cX5_yieldTop 6 = .ok (.istore_n 1, 1) := by decide +kernel
theorem dX5_yieldTop_7 : decode cX5_yieldTop 7 = .ok (.aload_n 0, 1) := by decide +kernel
theorem dX5_yieldTop_8 : decode cX5_yieldTop 8 = .ok (.getfield 49, 3) := by decide +kernel
theorem dX5_yieldTop_11 : decode cX5_yieldTop 11 = .ok (.iconst 2, 1) := by decide +kernel
theorem dX5_yieldTop_12 : decode cX5_yieldTop 12 = .ok (.isub, 1) := by decide +kernel
theorem dX5_yieldTop_13 : decode cX5_yieldTop 13 = .ok (.istore_n 2, 1) := by decide +kernel
theorem dX5_yieldTop_14 : decode cX5_yieldTop 14 = .ok (.iload_n 2, 1) := by decide +kernel
theorem dX5_yieldTop_15 : decode cX5_yieldTop 15 = .ok (.ifCond .lt 33, 3) := by decide +kernel
theorem dX5_yieldTop_18 : decode cX5_yieldTop 18 = .ok (.aload_n 0, 1) := by decide +kernel
theorem dX5_yieldTop_19 : decode cX5_yieldTop 19 = .ok (.getfield 21, 3) := by decide +kernel
theorem dX5_yieldTop_22 : decode cX5_yieldTop 22 = .ok (.iload_n 2, 1) := by decide +kernel
theorem dX5_yieldTop_23 : decode cX5_yieldTop 23 = .ok (.iaload, 1) := by decide +kernel
theorem dX5_yieldTop_24 : decode cX5_yieldTop 24 = .ok (.aload_n 0, 1) := by decide +kernel
theorem dX5_yieldTop_25 : decode cX5_yieldTop 25 = .ok (.getfield 21, 3) := by decide +kernel
theorem dX5_yieldTop_28 : decode cX5_yieldTop 28 = .ok (.iload_n 1, 1) := by decide +kernel
theorem dX5_yieldTop_29 : decode cX5_yieldTop 29 = .ok (.iaload, 1) := by decide +kernel
theorem dX5_yieldTop_30 : decode cX5_yieldTop 30 = .ok (.if_icmp .ne 18, 3) := by decide +kernel
theorem dX5_yieldTop_33 : decode cX5_yieldTop 33 = .ok (.aload_n 0, 1) := by decide +kernel
theorem dX5_yieldTop_34 : decode cX5_yieldTop 34 = .ok (.getfield 18, 3) := by decide +kernel
theorem dX5_yieldTop_37 : decode cX5_yieldTop 37 = .ok (.iload_n 2, 1) := by decide +kernel
theorem dX5_yieldTop_38 : decode cX5_yieldTop 38 = .ok (.iaload, 1) := by decide +kernel
theorem dX5_yieldTop_39 : decode cX5_yieldTop 39 = .ok (.aload_n 0, 1) := by decide +kernel
theorem dX5_yieldTop_40 : decode cX5_yieldTop 40 = .ok (.getfield 21, 3) := by decide +kernel
theorem dX5_yieldTop_43 : decode cX5_yieldTop 43 = .ok (.iload_n 2, 1) := by decide +kernel
theorem dX5_yieldTop_44 : decode cX5_yieldTop 44 = .ok (.iaload, 1) := by decide +kernel
theorem dX5_yieldTop_45 : decode cX5_yieldTop 45 = .ok (.if_icmp .ne 4, 3) := by decide +kernel
theorem dX5_yieldTop_48 : decode cX5_yieldTop 48 = .ok (.return_, 1) := by decide +kernel
theorem dX5_yieldTop_49 : decode cX5_yieldTop 49 = .ok (.aload_n 0, 1) := by decide +kernel
theorem dX5_yieldTop_50 : decode cX5_yieldTop 50 = .ok (.getfield 18, 3) := by decide +kernel
theorem dX5_yieldTop_53 : decode cX5_yieldTop 53 = .ok (.iload_n 1, 1) := by decide +kernel
theorem dX5_yieldTop_54 : decode cX5_yieldTop 54 = .ok (.iaload, 1) := by decide +kernel
theorem dX5_yieldTop_55 : decode cX5_yieldTop 55 = .ok (.istore_n 3, 1) := by decide +kernel
theorem dX5_yieldTop_56 : decode cX5_yieldTop 56 = .ok (.aload_n 0, 1) := by decide +kernel
theorem dX5_yieldTop_57 : decode cX5_yieldTop 57 = .ok (.getfield 24, 3) := by decide +kernel
theorem dX5_yieldTop_60 : decode cX5_yieldTop 60 = .ok (.iload_n 1, 1) := by decide +kernel
theorem dX5_yieldTop_61 : decode cX5_yieldTop 61 = .ok (.iaload, 1) := by decide +kernel
theorem dX5_yieldTop_62 : decode cX5_yieldTop 62 = .ok (.istore 4, 2) := by decide +kernel
theorem dX5_yieldTop_64 : decode cX5_yieldTop 64 = .ok (.aload_n 0, 1) := by decide +kernel
theorem dX5_yieldTop_65 : decode cX5_yieldTop 65 = .ok (.getfield 18, 3) := by decide +kernel
theorem dX5_yieldTop_68 : decode cX5_yieldTop 68 = .ok (.iload_n 1, 1) := by decide +kernel
theorem dX5_yieldTop_69 : decode cX5_yieldTop 69 = .ok (.aload_n 0, 1) := by decide +kernel
theorem dX5_yieldTop_70 : decode cX5_yieldTop 70 = .ok (.getfield 18, 3) := by decide +kernel
theorem dX5_yieldTop_73 : decode cX5_yieldTop 73 = .ok (.iload_n 2, 1) := by decide +kernel
theorem dX5_yieldTop_74 : decode cX5_yieldTop 74 = .ok (.iaload, 1) := by decide +kernel
theorem dX5_yieldTop_75 : decode cX5_yieldTop 75 = .ok (.iastore, 1) := by decide +kernel
theorem dX5_yieldTop_76 : decode cX5_yieldTop 76 = .ok (.aload_n 0, 1) := by decide +kernel
theorem dX5_yieldTop_77 : decode cX5_yieldTop 77 = .ok (.getfield 24, 3) := by decide +kernel
theorem dX5_yieldTop_80 : decode cX5_yieldTop 80 = .ok (.iload_n 1, 1) := by decide +kernel
theorem dX5_yieldTop_81 : decode cX5_yieldTop 81 = .ok (.aload_n 0, 1) := by decide +kernel
theorem dX5_yieldTop_82 : decode cX5_yieldTop 82 = .ok (.getfield 24, 3) := by decide +kernel
theorem dX5_yieldTop_85 : decode cX5_yieldTop 85 = .ok (.iload_n 2, 1) := by decide +kernel
theorem dX5_yieldTop_86 : decode cX5_yieldTop 86 = .ok (.iaload, 1) := by decide +kernel
theorem dX5_yieldTop_87 : decode cX5_yieldTop 87 = .ok (.iastore, 1) := by decide +kernel
theorem dX5_yieldTop_88 : decode cX5_yieldTop 88 = .ok (.aload_n 0, 1) := by decide +kernel
theorem dX5_yieldTop_89 : decode cX5_yieldTop 89 = .ok (.getfield 18, 3) := by decide +kernel
theorem dX5_yieldTop_92 : decode cX5_yieldTop 92 = .ok (.iload_n 2, 1) := by decide +kernel
theorem dX5_yieldTop_93 : decode cX5_yieldTop 93 = .ok (.iload_n 3, 1) := by decide +kernel
theorem dX5_yieldTop_94 : decode cX5_yieldTop 94 = .ok (.iastore, 1) := by decide +kernel
theorem dX5_yieldTop_95 : decode cX5_yieldTop 95 = .ok (.aload_n 0, 1) := by decide +kernel
theorem dX5_yieldTop_96 : decode cX5_yieldTop 96 = .ok (.getfield 24, 3) := by decide +kernel
theorem dX5_yieldTop_99 : decode cX5_yieldTop 99 = .ok (.iload_n 2, 1) := by decide +kernel
theorem dX5_yieldTop_100 : decode cX5_yieldTop 100 = .ok (.iload 4, 2) := by decide +kernel
theorem dX5_yieldTop_102 : decode cX5_yieldTop 102 = .ok (.iastore, 1) := by decide +kernel
theorem dX5_yieldTop_103 : decode cX5_yieldTop 103 = .ok (.return_, 1) := by decide +kernel
theorem dX6_agrees_0 : decode cX6_agrees 0 = .ok (.aload_n 0, 1) := by decide +kernel
theorem dX6_agrees_1 : decode cX6_agrees 1 = .ok (.getfield 87, 3) := by decide +kernel
theorem dX6_agrees_4 : decode cX6_agrees 4 = .ok (.ifCond .ne 5, 3) := by decide +kernel
theorem dX6_agrees_7 : decode cX6_agrees 7 = .ok (.iconst (-1), 1) := by decide +kernel
theorem dX6_agrees_8 : decode cX6_agrees 8 = .ok (.ireturn, 1) := by decide +kernel
theorem dX6_agrees_9 : decode cX6_agrees 9 = .ok (.aload_n 0, 1) := by decide +kernel
theorem dX6_agrees_10 : decode cX6_agrees 10 = .ok (.getfield 51, 3) := by decide +kernel
theorem dX6_agrees_13 : decode cX6_agrees 13 = .ok (.aload_n 0, 1) := by decide +kernel
theorem dX6_agrees_14 : decode cX6_agrees 14 = .ok (.getfield 33, 3) := by decide +kernel
theorem dX6_agrees_17 : decode cX6_agrees 17 = .ok (.getfield 144, 3) := by decide +kernel
theorem dX6_agrees_20 : decode cX6_agrees 20 = .ok (.aload_n 0, 1) := by decide +kernel
theorem dX6_agrees_21 : decode cX6_agrees 21 = .ok (.getfield 33, 3) := by decide +kernel
theorem dX6_agrees_24 : decode cX6_agrees 24 = .ok (.getfield 145, 3) := by decide +kernel
theorem dX6_agrees_27 : decode cX6_agrees 27 = .ok (.aload_n 0, 1) := by decide +kernel
theorem dX6_agrees_28 : decode cX6_agrees 28 = .ok (.getfield 33, 3) := by decide +kernel
theorem dX6_agrees_31 : decode cX6_agrees 31 = .ok (.getfield 146, 3) := by decide +kernel
theorem dX6_agrees_34 : decode cX6_agrees 34 = .ok (.invokevirtual 261, 3) := by decide +kernel
theorem dX6_agrees_37 : decode cX6_agrees 37 = .ok (.iconst 0, 1) := by decide +kernel
theorem dX6_agrees_38 : decode cX6_agrees 38 = .ok (.istore_n 1, 1) := by decide +kernel
theorem dX6_agrees_39 : decode cX6_agrees 39 = .ok (.iconst 0, 1) := by decide +kernel
theorem dX6_agrees_40 : decode cX6_agrees 40 = .ok (.istore_n 2, 1) := by decide +kernel
theorem dX6_agrees_41 : decode cX6_agrees 41 = .ok (.iload_n 2, 1) := by decide +kernel
theorem dX6_agrees_42 : decode cX6_agrees 42 = .ok (.aload_n 0, 1) := by decide +kernel
theorem dX6_agrees_43 : decode cX6_agrees 43 = .ok (.getfield 23, 3) := by decide +kernel
theorem dX6_agrees_46 : decode cX6_agrees 46 = .ok (.getfield 116, 3) := by decide +kernel
theorem dX6_agrees_49 : decode cX6_agrees 49 = .ok (.if_icmp .ge 68, 3) := by decide +kernel
theorem dX6_agrees_52 : decode cX6_agrees 52 = .ok (.iconst 0, 1) := by decide +kernel
theorem dX6_agrees_53 : decode cX6_agrees 53 = .ok (.istore_n 3, 1) := by decide +kernel
theorem dX6_agrees_54 : decode cX6_agrees 54 = .ok (.iload_n 3, 1) := by decide +kernel
theorem dX6_agrees_55 : decode cX6_agrees 55 = .ok (.bipush 8, 2) := by decide +kernel
theorem dX6_agrees_57 : decode cX6_agrees 57 = .ok (.if_icmp .ge 54, 3) := by decide +kernel
theorem dX6_agrees_60 : decode cX6_agrees 60 = .ok (.aload_n 0, 1) := by decide +kernel
theorem dX6_agrees_61 : decode cX6_agrees 61 = .ok (.getfield 33, 3) := by decide +kernel
theorem dX6_agrees_64 : decode cX6_agrees 64 = .ok (.getfield 164, 3) := by decide +kernel
theorem dX6_agrees_67 : decode cX6_agrees 67 = .ok (.iload_n 2, 1) := by decide +kernel
theorem dX6_agrees_68 : decode cX6_agrees 68 = .ok (.aaload, 1) := by decide +kernel
theorem dX6_agrees_69 : decode cX6_agrees 69 = .ok (.getfield 167, 3) := by decide +kernel
theorem dX6_agrees_72 : decode cX6_agrees 72 = .ok (.iload_n 3, 1) := by decide +kernel
theorem dX6_agrees_73 : decode cX6_agrees 73 = .ok (.ishr, 1) := by decide +kernel
theorem dX6_agrees_74 : decode cX6_agrees 74 = .ok (.iconst 1, 1) := by decide +kernel
theorem dX6_agrees_75 : decode cX6_agrees 75 = .ok (.iand, 1) := by decide +kernel
theorem dX6_agrees_76 : decode cX6_agrees 76 = .ok (.ifCond .ne 29, 3) := by decide +kernel
theorem dX6_agrees_79 : decode cX6_agrees 79 = .ok (.aload_n 0, 1) := by decide +kernel
theorem dX6_agrees_80 : decode cX6_agrees 80 = .ok (.getfield 51, 3) := by decide +kernel
theorem dX6_agrees_83 : decode cX6_agrees 83 = .ok (.iload_n 2, 1) := by decide +kernel
theorem dX6_agrees_84 : decode cX6_agrees 84 = .ok (.iload_n 3, 1) := by decide +kernel
theorem dX6_agrees_85 : decode cX6_agrees 85 = .ok (.invokevirtual 264, 3) := by decide +kernel
theorem dX6_agrees_88 : decode cX6_agrees 88 = .ok (.iload_n 1, 1) := by decide +kernel
theorem dX6_agrees_89 : decode cX6_agrees 89 = .ok (.aload_n 0, 1) := by decide +kernel
theorem dX6_agrees_90 : decode cX6_agrees 90 = .ok (.iload_n 2, 1) := by decide +kernel
theorem dX6_agrees_91 : decode cX6_agrees 91 = .ok (.iload_n 3, 1) := by decide +kernel
theorem dX6_agrees_92 : decode cX6_agrees 92 = .ok (.invokevirtual 271, 3) := by decide +kernel
theorem dX6_agrees_95 : decode cX6_agrees 95 = .ok (.ifCond .eq 7, 3) := by decide +kernel
theorem dX6_agrees_98 : decode cX6_agrees 98 = .ok (.iconst 1, 1) := by decide +kernel
theorem dX6_agrees_99 : decode cX6_agrees 99 = .ok (.goto 4, 3) := by decide +kernel
theorem dX6_agrees_102 : decode cX6_agrees 102 = .ok (.iconst 0, 1) := by decide +kernel
theorem dX6_agrees_103 : decode cX6_agrees 103 = .ok (.iadd, 1) := by decide +kernel
theorem dX6_agrees_104 : decode cX6_agrees 104 = .ok (.istore_n 1, 1) := by decide +kernel
theorem dX6_agrees_105 : decode cX6_agrees 105 = .ok (.iinc 3 1, 3) := by decide +kernel
theorem dX6_agrees_108 : decode cX6_agrees 108 = .ok (.goto (-54), 3) := by decide +kernel
theorem dX6_agrees_111 : decode cX6_agrees 111 = .ok (.iinc 2 1, 3) := by decide +kernel
theorem dX6_agrees_114 : decode cX6_agrees 114 = .ok (.goto (-73), 3) := by decide +kernel
theorem dX6_agrees_117 : decode cX6_agrees 117 = .ok (.iload_n 1, 1) := by decide +kernel
theorem dX6_agrees_118 : decode cX6_agrees 118 = .ok (.ireturn, 1) := by decide +kernel
theorem dX6_alone_0 : decode cX6_alone 0 = .ok (.aload_n 0, 1) := by decide +kernel
theorem dX6_alone_1 : decode cX6_alone 1 = .ok (.iload_n 1, 1) := by decide +kernel
theorem dX6_alone_2 : decode cX6_alone 2 = .ok (.iload_n 2, 1) := by decide +kernel
theorem dX6_alone_3 : decode cX6_alone 3 = .ok (.invokevirtual 160, 3) := by decide +kernel
theorem dX6_alone_6 : decode cX6_alone 6 = .ok (.ifCond .eq 12, 3) := by decide +kernel
theorem dX6_alone_9 : decode cX6_alone 9 = .ok (.iload_n 3, 1) := by decide +kernel
theorem dX6_alone_10 : decode cX6_alone 10 = .ok (.ifCond .lt 8, 3) := by decide +kernel
theorem dX6_alone_13 : decode cX6_alone 13 = .ok (.iload_n 3, 1) := by decide +kernel
theorem dX6_alone_14 : decode cX6_alone 14 = .ok (.iconst 5, 1) := by decide +kernel
theorem dX6_alone_15 : decode cX6_alone 15 = .ok (.if_icmp .lt 6, 3) := by decide +kernel
theorem dX6_alone_18 : decode cX6_alone 18 = .ok (.ldc 155, 2) := by decide +kernel
theorem dX6_alone_20 : decode cX6_alone 20 = .ok (.ireturn, 1) := by decide +kernel
theorem dX6_alone_21 : decode cX6_alone 21 = .ok (.aload_n 0, 1) := by decide +kernel
theorem dX6_alone_22 : decode cX6_alone 22 = .ok (.getfield 51, 3) := by decide +kernel
theorem dX6_alone_25 : decode cX6_alone 25 = .ok (.aload_n 0, 1) := by decide +kernel
theorem dX6_alone_26 : decode cX6_alone 26 = .ok (.getfield 33, 3) := by decide +kernel
theorem dX6_alone_29 : decode cX6_alone 29 = .ok (.getfield 144, 3) := by decide +kernel
theorem dX6_alone_32 : decode cX6_alone 32 = .ok (.aload_n 0, 1) := by decide +kernel
theorem dX6_alone_33 : decode cX6_alone 33 = .ok (.getfield 33, 3) := by decide +kernel
theorem dX6_alone_36 : decode cX6_alone 36 = .ok (.getfield 145, 3) := by decide +kernel
theorem dX6_alone_39 : decode cX6_alone 39 = .ok (.aload_n 0, 1) := by decide +kernel
theorem dX6_alone_40 : decode cX6_alone 40 = .ok (.getfield 33, 3) := by decide +kernel
theorem dX6_alone_43 : decode cX6_alone 43 = .ok (.getfield 146, 3) := by decide +kernel
theorem dX6_alone_46 : decode cX6_alone 46 = .ok (.invokevirtual 261, 3) := by decide +kernel
theorem dX6_alone_49 : decode cX6_alone 49 = .ok (.aload_n 0, 1) := by decide +kernel
theorem dX6_alone_50 : decode cX6_alone 50 = .ok (.getfield 51, 3) := by decide +kernel
theorem dX6_alone_53 : decode cX6_alone 53 = .ok (.iload_n 1, 1) := by decide +kernel
theorem dX6_alone_54 : decode cX6_alone 54 = .ok (.iload_n 2, 1) := by decide +kernel
theorem dX6_alone_55 : decode cX6_alone 55 = .ok (.invokevirtual 264, 3) := by decide +kernel
theorem dX6_alone_58 : decode cX6_alone 58 = .ok (.aload_n 0, 1) := by decide +kernel
theorem dX6_alone_59 : decode cX6_alone 59 = .ok (.getfield 51, 3) := by decide +kernel
theorem dX6_alone_62 : decode cX6_alone 62 = .ok (.iload_n 1, 1) := by decide +kernel
theorem dX6_alone_63 : decode cX6_alone 63 = .ok (.iload_n 2, 1) := by decide +kernel
theorem dX6_alone_64 : decode cX6_alone 64 = .ok (.iload_n 3, 1) := by decide +kernel
theorem dX6_alone_65 : decode cX6_alone 65 = .ok (.invokevirtual 268, 3) := by decide +kernel
theorem dX6_alone_68 : decode cX6_alone 68 = .ok (.ireturn, 1) := by decide +kernel
theorem dX6_areLike_0 : decode cX6_areLike 0 = .ok (.iconst 0, 1) := by decide +kernel
theorem dX6_areLike_1 : decode cX6_areLike 1 = .ok (.istore_n 2, 1) := by decide +kernel
theorem dX6_areLike_2 : decode cX6_areLike 2 = .ok (.iload_n 2, 1) := by decide +kernel
theorem dX6_areLike_3 : decode cX6_areLike 3 = .ok (.aload_n 0, 1) := by decide +kernel
theorem dX6_areLike_4 : decode cX6_areLike 4 = .ok (.arraylength, 1) := by decide +kernel
theorem dX6_areLike_5 : decode cX6_areLike 5 = .ok (.if_icmp .ge 26, 3) := by decide +kernel
theorem dX6_areLike_8 : decode cX6_areLike 8 = .ok (.iload_n 2, 1) := by decide +kernel
theorem dX6_areLike_9 : decode cX6_areLike 9 = .ok (.aload_n 1, 1) := by decide +kernel
theorem dX6_areLike_10 : decode cX6_areLike 10 = .ok (.arraylength, 1) := by decide +kernel
theorem dX6_areLike_11 : decode cX6_areLike 11 = .ok (.if_icmp .ge 20, 3) := by decide +kernel
theorem dX6_areLike_14 : decode cX6_areLike 14 = .ok (.aload_n 0, 1) := by decide +kernel
theorem dX6_areLike_15 : decode cX6_areLike 15 = .ok (.iload_n 2, 1) := by decide +kernel
theorem dX6_areLike_16 : decode cX6_areLike 16 = .ok (.iaload, 1) := by decide +kernel
theorem dX6_areLike_17 : decode cX6_areLike 17 = .ok (.aload_n 1, 1) := by decide +kernel
theorem dX6_areLike_18 : decode cX6_areLike 18 = .ok (.iload_n 2, 1) := by decide +kernel
theorem dX6_areLike_19 : decode cX6_areLike 19 = .ok (.iaload, 1) := by decide +kernel
theorem dX6_areLike_20 : decode cX6_areLike 20 = .ok (.if_icmp .eq 5, 3) := by decide +kernel
theorem dX6_areLike_23 : decode cX6_areLike 23 = .ok (.iconst 0, 1) := by decide +kernel
theorem dX6_areLike_24 : decode cX6_areLike 24 = .ok (.ireturn, 1) := by decide +kernel
theorem dX6_areLike_25 : decode cX6_areLike 25 = .ok (.iinc 2 1, 3) := by decide +kernel
theorem dX6_areLike_28 : decode cX6_areLike 28 = .ok (.goto (-26), 3) := by decide +kernel
theorem dX6_areLike_31 : decode cX6_areLike 31 = .ok (.iconst 1, 1) := by decide +kernel
theorem dX6_areLike_32 : decode cX6_areLike 32 = .ok (.ireturn, 1) := by decide +kernel
theorem dX6_begin_0 : decode cX6_begin 0 = .ok (.aload_n 0, 1) := by decide +kernel
theorem dX6_begin_1 : decode cX6_begin 1 = .ok (.getfield 87, 3) := by decide +kernel
theorem dX6_begin_4 : decode cX6_begin 4 = .ok (.ifCond .ne 11, 3) := by decide +kernel
theorem dX6_begin_7 : decode cX6_begin 7 = .ok (.aload_n 0, 1) := by decide +kernel
theorem dX6_begin_8 : decode cX6_begin 8 = .ok (.iconst 3, 1) := by decide +kernel
theorem dX6_begin_9 : decode cX6_begin 9 = .ok (.invokevirtual 72, 3) := by decide +kernel
theorem dX6_begin_12 : decode cX6_begin 12 = .ok (.pop, 1) := by decide +kernel
theorem dX6_begin_13 : decode cX6_begin 13 = .ok (.iconst 0, 1) := by decide +kernel
theorem dX6_begin_14 : decode cX6_begin 14 = .ok (.ireturn, 1) := by decide +kernel
theorem dX6_begin_15 : decode cX6_begin 15 = .ok (.aload_n 0, 1) := by decide +kernel
theorem dX6_begin_16 : decode cX6_begin 16 = .ok (.invokevirtual 283, 3) := by decide +kernel
theorem dX6_begin_19 : decode cX6_begin 19 = .ok (.aload_n 0, 1) := by decide +kernel
theorem dX6_begin_20 : decode cX6_begin 20 = .ok (.getfield 33, 3) := by decide +kernel
theorem dX6_begin_23 : decode cX6_begin 23 = .ok (.aload_n 0, 1) := by decide +kernel
theorem dX6_begin_24 : decode cX6_begin 24 = .ok (.getfield 23, 3) := by decide +kernel
theorem dX6_begin_27 : decode cX6_begin 27 = .ok (.invokevirtual 101, 3) := by decide +kernel
theorem dX6_begin_30 : decode cX6_begin 30 = .ok (.iconst 1, 1) := by decide +kernel
theorem dX6_begin_31 : decode cX6_begin 31 = .ok (.ireturn, 1) := by decide +kernel
theorem dX6_by_0 : decode cX6_by 0 = .ok (.aload_n 0, 1) := by decide +kernel
theorem dX6_by_1 : decode cX6_by 1 = .ok (.getfield 87, 3) := by decide +kernel
theorem dX6_by_4 : decode cX6_by 4 = .ok (.ifCond .eq 26, 3) := by decide +kernel
theorem dX6_by_7 : decode cX6_by 7 = .ok (.iload_n 1, 1) := by decide +kernel
theorem dX6_by_8 : decode cX6_by 8 = .ok (.invokestatic 247, 3) := by decide +kernel
theorem dX6_by_11 : decode cX6_by 11 = .ok (.ifCond .eq 19, 3) := by decide +kernel
theorem dX6_by_14 : decode cX6_by 14 = .ok (.iload_n 2, 1) := by decide +kernel
theorem dX6_by_15 : decode cX6_by 15 = .ok (.invokestatic 250, 3) := by decide +kernel
theorem dX6_by_18 : decode cX6_by 18 = .ok (.ifCond .eq 12, 3) := by decide +kernel
theorem dX6_by_21 : decode cX6_by 21 = .ok (.iload_n 3, 1) := by decide +kernel
theorem dX6_by_22 : decode cX6_by 22 = .ok (.ifCond .lt 8, 3) := by decide +kernel
theorem dX6_by_25 : decode cX6_by 25 = .ok (.iload_n 3, 1) := by decide +kernel
theorem dX6_by_26 : decode cX6_by 26 = .ok (.iconst 3, 1) := by decide +kernel
theorem dX6_by_27 : decode cX6_by 27 = .ok (.if_icmp .lt 5, 3) := by decide +kernel
theorem dX6_by_30 : decode cX6_by 30 = .ok (.iconst (-1), 1) := by decide +kernel
theorem dX6_by_31 : decode cX6_by 31 = .ok (.ireturn, 1) := by decide +kernel
theorem dX6_by_32 : decode cX6_by 32 = .ok (.aload_n 0, 1) := by decide +kernel
theorem dX6_by_33 : decode cX6_by 33 = .ok (.getfield 51, 3) := by decide +kernel
theorem dX6_by_36 : decode cX6_by 36 = .ok (.aload_n 0, 1) := by decide +kernel
theorem dX6_by_37 : decode cX6_by 37 = .ok (.getfield 51, 3) := by decide +kernel
theorem dX6_by_40 : decode cX6_by 40 = .ok (.iload_n 1, 1) := by decide +kernel
theorem dX6_by_41 : decode cX6_by 41 = .ok (.iload_n 2, 1) := by decide +kernel
theorem dX6_by_42 : decode cX6_by 42 = .ok (.aload_n 0, 1) := by decide +kernel
theorem dX6_by_43 : decode cX6_by 43 = .ok (.getfield 33, 3) := by decide +kernel
theorem dX6_by_46 : decode cX6_by 46 = .ok (.getfield 146, 3) := by decide +kernel
theorem dX6_by_49 : decode cX6_by 49 = .ok (.invokevirtual 253, 3) := by decide +kernel
theorem dX6_by_52 : decode cX6_by 52 = .ok (.iload_n 1, 1) := by decide +kernel
theorem dX6_by_53 : decode cX6_by 53 = .ok (.iload_n 2, 1) := by decide +kernel
theorem dX6_by_54 : decode cX6_by 54 = .ok (.aload_n 0, 1) := by decide +kernel
theorem dX6_by_55 : decode cX6_by 55 = .ok (.getfield 33, 3) := by decide +kernel
theorem dX6_by_58 : decode cX6_by 58 = .ok (.getfield 146, 3) := by decide +kernel
theorem dX6_by_61 : decode cX6_by 61 = .ok (.invokestatic 257, 3) := by decide +kernel
theorem dX6_by_64 : decode cX6_by 64 = .ok (.iload_n 3, 1) := by decide +kernel
theorem dX6_by_65 : decode cX6_by 65 = .ok (.invokevirtual 239, 3) := by decide +kernel
theorem dX6_by_68 : decode cX6_by 68 = .ok (.ireturn, 1) := by decide +kernel
theorem dX6_chance_0 : decode cX6_chance 0 = .ok (.aload_n 0, 1) := by decide +kernel
theorem dX6_chance_1 : decode cX6_chance 1 = .ok (.getfield 87, 3) := by decide +kernel
theorem dX6_chance_4 : decode cX6_chance 4 = .ok (.ifCond .eq 14, 3) := by decide +kernel
theorem dX6_chance_7 : decode cX6_chance 7 = .ok (.iload_n 1, 1) := by decide +kernel
theorem dX6_chance_8 : decode cX6_chance 8 = .ok (.iconst 1, 1) := by decide +kernel
theorem dX6_chance_9 : decode cX6_chance 9 = .ok (.if_icmp .lt 9, 3) := by decide +kernel
theorem dX6_chance_12 : decode cX6_chance 12 = .ok (.iload_n 1, 1) := by decide +kernel
theorem dX6_chance_13 : decode cX6_chance 13 = .ok (.bipush 20, 2) := by decide +kernel
theorem dX6_chance_15 : decode cX6_chance 15 = .ok (.if_icmp .le 9, 3) := by decide +kernel
theorem dX6_chance_18 : decode cX6_chance 18 = .ok (.aload_n 0, 1) := by decide +kernel
theorem dX6_chance_19 : decode cX6_chance 19 = .ok (.iconst 2, 1) := by decide +kernel
theorem dX6_chance_20 : decode cX6_chance 20 = .ok (.invokevirtual 72, 3) := by decide +kernel
theorem dX6_chance_23 : decode cX6_chance 23 = .ok (.ireturn, 1) := by decide +kernel
theorem dX6_chance_24 : decode cX6_chance 24 = .ok (.aload_n 0, 1) := by decide +kernel
theorem dX6_chance_25 : decode cX6_chance 25 = .ok (.invokevirtual 283, 3) := by decide +kernel
theorem dX6_chance_28 : decode cX6_chance 28 = .ok (.iconst 0, 1) := by decide +kernel
theorem dX6_chance_29 : decode cX6_chance 29 = .ok (.istore_n 2, 1) := by decide +kernel
theorem dX6_chance_30 : decode cX6_chance 30 = .ok (.iconst 0, 1) := by decide +kernel
theorem dX6_chance_31 : decode cX6_chance 31 = .ok (.istore_n 3, 1) := by decide +kernel
theorem dX6_chance_32 : decode cX6_chance 32 = .ok (.iload_n 3, 1) := by decide +kernel
theorem dX6_chance_33 : decode cX6_chance 33 = .ok (.iload_n 1, 1) := by decide +kernel
theorem dX6_chance_34 : decode cX6_chance 34 = .ok (.if_icmp .ge 66, 3) := by decide +kernel
theorem dX6_chance_37 : decode cX6_chance 37 = .ok (.aload_n 0, 1) := by decide +kernel
theorem dX6_chance_38 : decode cX6_chance 38 = .ok (.bipush 64, 2) := by decide +kernel
theorem dX6_chance_40 : decode cX6_chance 40 = .ok (.invokevirtual 289, 3) := by decide +kernel
theorem dX6_chance_43 : decode cX6_chance 43 = .ok (.istore 4, 2) := by decide +kernel
theorem dX6_chance_45 : decode cX6_chance 45 = .ok (.aload_n 0, 1) := by decide +kernel
theorem dX6_chance_46 : decode cX6_chance 46 = .ok (.getfield 33, 3) := by decide +kernel
theorem dX6_chance_49 : decode cX6_chance 49 = .ok (.getfield 214, 3) := by decide +kernel
theorem dX6_chance_52 : decode cX6_chance 52 = .ok (.iload 4, 2) := by decide +kernel
theorem dX6_chance_54 : decode cX6_chance 54 = .ok (.aload_n 0, 1) := by decide +kernel
theorem dX6_chance_55 : decode cX6_chance 55 = .ok (.bipush 16, 2) := by decide +kernel
theorem dX6_chance_57 : decode cX6_chance 57 = .ok (.invokevirtual 289, 3) := by decide +kernel
theorem dX6_chance_60 : decode cX6_chance 60 = .ok (.iastore, 1) := by decide +kernel
theorem dX6_chance_61 : decode cX6_chance 61 = .ok (.aload_n 0, 1) := by decide +kernel
theorem dX6_chance_62 : decode cX6_chance 62 = .ok (.bipush 8, 2) := by decide +kernel
theorem dX6_chance_64 : decode cX6_chance 64 = .ok (.invokevirtual 289, 3) := by decide +kernel
theorem dX6_chance_67 : decode cX6_chance 67 = .ok (.iconst 1, 1) := by decide +kernel
theorem dX6_chance_68 : decode cX6_chance 68 = .ok (.iadd, 1) := by decide +kernel
theorem dX6_chance_69 : decode cX6_chance 69 = .ok (.istore 5, 2) := by decide +kernel
theorem dX6_chance_71 : decode cX6_chance 71 = .ok (.iload_n 2, 1) := by decide +kernel
theorem dX6_chance_72 : decode cX6_chance 72 = .ok (.aload_n 0, 1) := by decide +kernel
theorem dX6_chance_73 : decode cX6_chance 73 = .ok (.iload 5, 2) := by decide +kernel
theorem dX6_chance_75 : decode cX6_chance 75 = .ok (.sipush 9999, 3) := by decide +kernel
theorem dX6_chance_78 : decode cX6_chance 78 = .ok (.aload_n 0, 1) := by decide +kernel
theorem dX6_chance_79 : decode cX6_chance 79 = .ok (.getfield 33, 3) := by decide +kernel
theorem dX6_chance_82 : decode cX6_chance 82 = .ok (.getfield 119, 3) := by decide +kernel
theorem dX6_chance_85 : decode cX6_chance 85 = .ok (.isub, 1) := by decide +kernel
theorem dX6_chance_86 : decode cX6_chance 86 = .ok (.invokestatic 135, 3) := by decide +kernel
theorem dX6_chance_89 : decode cX6_chance 89 = .ok (.invokevirtual 286, 3) := by decide +kernel
theorem dX6_chance_92 : decode cX6_chance 92 = .ok (.iadd, 1) := by decide +kernel
theorem dX6_chance_93 : decode cX6_chance 93 = .ok (.istore_n 2, 1) := by decide +kernel
theorem dX6_chance_94 : decode cX6_chance 94 = .ok (.iinc 3 1, 3) := by decide +kernel
theorem dX6_chance_97 : decode cX6_chance 97 = .ok (.goto (-65), 3) := by decide +kernel
theorem dX6_chance_100 : decode cX6_chance 100 = .ok (.iload_n 2, 1) := by decide +kernel
theorem dX6_chance_101 : decode cX6_chance 101 = .ok (.ireturn, 1) := by decide +kernel
theorem dX6_cycles_0 : decode cX6_cycles 0 = .ok (.aload_n 0, 1) := by decide +kernel
theorem dX6_cycles_1 : decode cX6_cycles 1 = .ok (.getfield 87, 3) := by decide +kernel
theorem dX6_cycles_4 : decode cX6_cycles 4 = .ok (.ifCond .eq 30, 3) := by decide +kernel
theorem dX6_cycles_7 : decode cX6_cycles 7 = .ok (.iload_n 1, 1) := by decide +kernel
theorem dX6_cycles_8 : decode cX6_cycles 8 = .ok (.iconst 1, 1) := by decide +kernel
theorem dX6_cycles_9 : decode cX6_cycles 9 = .ok (.if_icmp .lt 25, 3) := by decide +kernel
theorem dX6_cycles_12 : decode cX6_cycles 12 = .ok (.iload_n 1, 1) := by decide +kernel
theorem dX6_cycles_13 : decode cX6_cycles 13 = .ok (.sipush 400, 3) := by decide +kernel
theorem dX6_cycles_16 : decode cX6_cycles 16 = .ok (.if_icmp .gt 18, 3) := by decide +kernel
theorem dX6_cycles_19 : decode cX6_cycles 19 = .ok (.aload_n 0, 1) := by decide +kernel
theorem dX6_cycles_20 : decode cX6_cycles 20 = .ok (.getfield 33, 3) := by decide +kernel
theorem dX6_cycles_23 : decode cX6_cycles 23 = .ok (.getfield 119, 3) := by decide +kernel
theorem dX6_cycles_26 : decode cX6_cycles 26 = .ok (.iload_n 1, 1) := by decide +kernel
theorem dX6_cycles_27 : decode cX6_cycles 27 = .ok (.iadd, 1) := by decide +kernel
theorem dX6_cycles_28 : decode cX6_cycles 28 = .ok (.sipush 9999, 3) := by decide +kernel
theorem dX6_cycles_31 : decode cX6_cycles 31 = .ok (.if_icmp .le 9, 3) := by decide +kernel
theorem dX6_cycles_34 : decode cX6_cycles 34 = .ok (.aload_n 0, 1) := by decide +kernel
theorem dX6_cycles_35 : decode cX6_cycles 35 = .ok (.iconst 2, 1) := by decide +kernel
theorem dX6_cycles_36 : decode cX6_cycles 36 = .ok (.invokevirtual 72, 3) := by decide +kernel
theorem dX6_cycles_39 : decode cX6_cycles 39 = .ok (.ireturn, 1) := by decide +kernel
theorem dX6_cycles_40 : decode cX6_cycles 40 = .ok (.aload_n 0, 1) := by decide +kernel
theorem dX6_cycles_41 : decode cX6_cycles 41 = .ok (.invokevirtual 283, 3) := by decide +kernel
theorem dX6_cycles_44 : decode cX6_cycles 44 = .ok (.aload_n 0, 1) := by decide +kernel
theorem dX6_cycles_45 : decode cX6_cycles 45 = .ok (.iload_n 1, 1) := by decide +kernel
theorem dX6_cycles_46 : decode cX6_cycles 46 = .ok (.invokevirtual 286, 3) := by decide +kernel
theorem dX6_cycles_49 : decode cX6_cycles 49 = .ok (.ireturn, 1) := by decide +kernel
theorem dX6_draw_0 : decode cX6_draw 0 = .ok (.aload_n 0, 1) := by decide +kernel
theorem dX6_draw_1 : decode cX6_draw 1 = .ok (.ldc2_w 305, 3) := by decide +kernel
theorem dX6_draw_4 : decode cX6_draw 4 = .ok (.aload_n 0, 1) := by decide +kernel
theorem dX6_draw_5 : decode cX6_draw 5 = .ok (.getfield 59, 3) := by decide +kernel
theorem dX6_draw_8 : decode cX6_draw 8 = .ok (.lmul, 1) := by decide +kernel
theorem dX6_draw_9 : decode cX6_draw 9 = .ok (.ldc2_w 307, 3) := by decide +kernel
theorem dX6_draw_12 : decode cX6_draw 12 = .ok (.ladd, 1) := by decide +kernel
theorem dX6_draw_13 : decode cX6_draw 13 = .ok (.ldc2_w 309, 3) := by decide +kernel
theorem dX6_draw_16 : decode cX6_draw 16 = .ok (.land, 1) := by decide +kernel
theorem dX6_draw_17 : decode cX6_draw 17 = .ok (.putfield 59, 3) := by decide +kernel
theorem dX6_draw_20 : decode cX6_draw 20 = .ok (.aload_n 0, 1) := by decide +kernel
theorem dX6_draw_21 : decode cX6_draw 21 = .ok (.getfield 59, 3) := by decide +kernel
theorem dX6_draw_24 : decode cX6_draw 24 = .ok (.ldc2_w 311, 3) := by decide +kernel
theorem dX6_draw_27 : decode cX6_draw 27 = .ok (.ldiv, 1) := by decide +kernel
theorem dX6_draw_28 : decode cX6_draw 28 = .ok (.iload_n 1, 1) := by decide +kernel
theorem dX6_draw_29 : decode cX6_draw 29 = .ok (.i2l, 1) := by decide +kernel
theorem dX6_draw_30 : decode cX6_draw 30 = .ok (.lrem, 1) := by decide +kernel
theorem dX6_draw_31 : decode cX6_draw 31 = .ok (.l2i, 1) := by decide +kernel
theorem dX6_draw_32 : decode cX6_draw 32 = .ok (.ireturn, 1) := by decide +kernel
theorem dX6_end_0 : decode cX6_end 0 = .ok (.iload_n 1, 1) := by decide +kernel
theorem dX6_end_1 : decode cX6_end 1 = .ok (.ifCond .lt 11, 3) := by decide +kernel
theorem dX6_end_4 : decode cX6_end 4 = .ok (.iload_n 1, 1) := by decide +kernel
theorem dX6_end_5 : decode cX6_end 5 = .ok (.aload_n 0, 1) := by decide +kernel
theorem dX6_end_6 : decode cX6_end 6 = .ok (.getfield 68, 3) := by decide +kernel
theorem dX6_end_9 : decode cX6_end 9 = .ok (.if_icmp .le 11, 3) := by decide +kernel
theorem dX6_end_12 : decode cX6_end 12 = .ok (.aload_n 0, 1) := by decide +kernel
theorem dX6_end_13 : decode cX6_end 13 = .ok (.iconst 0, 1) := by decide +kernel
theorem dX6_end_14 : decode cX6_end 14 = .ok (.invokevirtual 72, 3) := by decide +kernel
theorem dX6_end_17 : decode cX6_end 17 = .ok (.pop, 1) := by decide +kernel
theorem dX6_end_18 : decode cX6_end 18 = .ok (.iconst 0, 1) := by decide +kernel
theorem dX6_end_19 : decode cX6_end 19 = .ok (.ireturn, 1) := by decide +kernel
theorem dX6_end_20 : decode cX6_end 20 = .ok (.aload_n 0, 1) := by decide +kernel
theorem dX6_end_21 : decode cX6_end 21 = .ok (.iload_n 1, 1) := by decide +kernel
theorem dX6_end_22 : decode cX6_end 22 = .ok (.putfield 68, 3) := by decide +kernel
theorem dX6_end_25 : decode cX6_end 25 = .ok (.iconst 1, 1) := by decide +kernel
theorem dX6_end_26 : decode cX6_end 26 = .ok (.ireturn, 1) := by decide +kernel
theorem dX6_fault_0 : decode cX6_fault 0 = .ok (.iload_n 1, 1) := by decide +kernel
theorem dX6_fault_1 : decode cX6_fault 1 = .ok (.ifCond .ne 11, 3) := by decide +kernel
theorem dX6_fault_4 : decode cX6_fault 4 = .ok (.aload_n 0, 1) := by decide +kernel
theorem dX6_fault_5 : decode cX6_fault 5 = .ok (.getfield 16, 3) := by decide +kernel
theorem dX6_fault_8 : decode cX6_fault 8 = .ok (.getfield 110, 3) := by decide +kernel
theorem dX6_fault_11 : decode cX6_fault 11 = .ok (.ireturn, 1) := by decide +kernel
theorem dX6_fault_12 : decode cX6_fault 12 = .ok (.iload_n 1, 1) := by decide +kernel
theorem dX6_fault_13 : decode cX6_fault 13 = .ok (.iconst 1, 1) := by decide +kernel
theorem dX6_fault_14 : decode cX6_fault 14 = .ok (.if_icmp .ne 13, 3) := by decide +kernel
theorem dX6_fault_17 : decode cX6_fault 17 = .ok (.aload_n 0, 1) := by decide +kernel
theorem dX6_fault_18 : decode cX6_fault 18 = .ok (.getfield 16, 3) := by decide +kernel
theorem dX6_fault_21 : decode cX6_fault 21 = .ok (.getfield 113, 3) := by decide +kernel
theorem dX6_fault_24 : decode cX6_fault 24 = .ok (.goto 4, 3) := by decide +kernel
theorem dX6_fault_27 : decode cX6_fault 27 = .ok (.iconst (-1), 1) := by decide +kernel
theorem dX6_fault_28 : decode cX6_fault 28 = .ok (.ireturn, 1) := by decide +kernel
theorem dX6_feed_0 : decode cX6_feed 0 = .ok (.aload_n 0, 1) := by decide +kernel
theorem dX6_feed_1 : decode cX6_feed 1 = .ok (.getfield 68, 3) := by decide +kernel
theorem dX6_feed_4 : decode cX6_feed 4 = .ok (.bipush 20, 2) := by decide +kernel
theorem dX6_feed_6 : decode cX6_feed 6 = .ok (.iadd, 1) := by decide +kernel
theorem dX6_feed_7 : decode cX6_feed 7 = .ok (.sipush 1600, 3) := by decide +kernel
theorem dX6_feed_10 : decode cX6_feed 10 = .ok (.if_icmp .le 9, 3) := by decide +kernel
theorem dX6_feed_13 : decode cX6_feed 13 = .ok (.aload_n 0, 1) := by decide +kernel
theorem dX6_feed_14 : decode cX6_feed 14 = .ok (.iconst 0, 1) := by decide +kernel
theorem dX6_feed_15 : decode cX6_feed 15 = .ok (.invokevirtual 72, 3) := by decide +kernel
theorem dX6_feed_18 : decode cX6_feed 18 = .ok (.ireturn, 1) := by decide +kernel
theorem dX6_feed_19 : decode cX6_feed 19 = .ok (.aload_n 0, 1) := by decide +kernel
theorem dX6_feed_20 : decode cX6_feed 20 = .ok (.iload_n 1, 1) := by decide +kernel
theorem dX6_feed_21 : decode cX6_feed 21 = .ok (.invokevirtual 76, 3) := by decide +kernel
theorem dX6_feed_24 : decode cX6_feed 24 = .ok (.aload_n 0, 1) := by decide +kernel
theorem dX6_feed_25 : decode cX6_feed 25 = .ok (.iload_n 2, 1) := by decide +kernel
theorem dX6_feed_26 : decode cX6_feed 26 = .ok (.invokevirtual 76, 3) := by decide +kernel
theorem dX6_feed_29 : decode cX6_feed 29 = .ok (.aload_n 0, 1) := by decide +kernel
theorem dX6_feed_30 : decode cX6_feed 30 = .ok (.iload_n 3, 1) := by decide +kernel
theorem dX6_feed_31 : decode cX6_feed 31 = .ok (.invokevirtual 76, 3) := by decide +kernel
theorem dX6_feed_34 : decode cX6_feed 34 = .ok (.aload_n 0, 1) := by decide +kernel
theorem dX6_feed_35 : decode cX6_feed 35 = .ok (.iload 4, 2) := by decide +kernel
theorem dX6_feed_37 : decode cX6_feed 37 = .ok (.invokevirtual 76, 3) := by decide +kernel
theorem dX6_feed_40 : decode cX6_feed 40 = .ok (.aload_n 0, 1) := by decide +kernel
theorem dX6_feed_41 : decode cX6_feed 41 = .ok (.iload 5, 2) := by decide +kernel
theorem dX6_feed_43 : decode cX6_feed 43 = .ok (.invokevirtual 76, 3) := by decide +kernel
theorem dX6_feed_46 : decode cX6_feed 46 = .ok (.aload_n 0, 1) := by decide +kernel
theorem dX6_feed_47 : decode cX6_feed 47 = .ok (.getfield 68, 3) := by decide +kernel
theorem dX6_feed_50 : decode cX6_feed 50 = .ok (.ireturn, 1) := by decide +kernel
theorem dX6_goes_0 : decode cX6_goes 0 = .ok (.aload_n 0, 1) := by decide +kernel
theorem dX6_goes_1 : decode cX6_goes 1 = .ok (.getfield 87, 3) := by decide +kernel
theorem dX6_goes_4 : decode cX6_goes 4 = .ok (.ifCond .eq 12, 3) := by decide +kernel
theorem dX6_goes_7 : decode cX6_goes 7 = .ok (.iload_n 1, 1) := by decide +kernel
theorem dX6_goes_8 : decode cX6_goes 8 = .ok (.ifCond .lt 8, 3) := by decide +kernel
theorem dX6_goes_11 : decode cX6_goes 11 = .ok (.iload_n 1, 1) := by decide +kernel
theorem dX6_goes_12 : decode cX6_goes 12 = .ok (.iconst 3, 1) := by decide +kernel
theorem dX6_goes_13 : decode cX6_goes 13 = .ok (.if_icmp .lt 5, 3) := by decide +kernel
theorem dX6_goes_16 : decode cX6_goes 16 = .ok (.iconst (-1), 1) := by decide +kernel
theorem dX6_goes_17 : decode cX6_goes 17 = .ok (.ireturn, 1) := by decide +kernel
theorem dX6_goes_18 : decode cX6_goes 18 = .ok (.aload_n 0, 1) := by decide +kernel
theorem dX6_goes_19 : decode cX6_goes 19 = .ok (.getfield 51, 3) := by decide +kernel
theorem dX6_goes_22 : decode cX6_goes 22 = .ok (.aload_n 0, 1) := by decide +kernel
theorem dX6_goes_23 : decode cX6_goes 23 = .ok (.getfield 33, 3) := by decide +kernel
theorem dX6_goes_26 : decode cX6_goes 26 = .ok (.bipush 16, 2) := by decide +kernel
theorem dX6_goes_28 : decode cX6_goes 28 = .ok (.iload_n 1, 1) := by decide +kernel
theorem dX6_goes_29 : decode cX6_goes 29 = .ok (.invokevirtual 239, 3) := by decide +kernel
theorem dX6_goes_32 : decode cX6_goes 32 = .ok (.ireturn, 1) := by decide +kernel
theorem dX6_has_0 : decode cX6_has 0 = .ok (.iload_n 1, 1) := by decide +kernel
theorem dX6_has_1 : decode cX6_has 1 = .ok (.ifCond .lt 9, 3) := by decide +kernel
theorem dX6_has_4 : decode cX6_has 4 = .ok (.iload_n 1, 1) := by decide +kernel
theorem dX6_has_5 : decode cX6_has 5 = .ok (.bipush 13, 2) := by decide +kernel
theorem dX6_has_7 : decode cX6_has 7 = .ok (.if_icmp .le 5, 3) := by decide +kernel
theorem dX6_has_10 : decode cX6_has 10 = .ok (.iconst (-1), 1) := by decide +kernel
theorem dX6_has_11 : decode cX6_has 11 = .ok (.ireturn, 1) := by decide +kernel
theorem dX6_has_12 : decode cX6_has 12 = .ok (.aload_n 0, 1) := by decide +kernel
theorem dX6_has_13 : decode cX6_has 13 = .ok (.getfield 87, 3) := by decide +kernel
theorem dX6_has_16 : decode cX6_has 16 = .ok (.ifCond .ne 5, 3) := by decide +kernel
theorem dX6_has_19 : decode cX6_has 19 = .ok (.iconst 0, 1) := by decide +kernel
theorem dX6_has_20 : decode cX6_has 20 = .ok (.ireturn, 1) := by decide +kernel
theorem dX6_has_21 : decode cX6_has 21 = .ok (.iload_n 1, 1) := by decide +kernel
theorem dX6_has_22 : decode cX6_has 22 = .ok (.tableswitch 172 0 12 #[66, 74, 82, 90, 98, 106, 114, 122, 135, 140, 148, 156, 164], 66) := by decide +kernel
theorem dX6_has_88 : decode cX6_has 88 = .ok (.aload_n 0, 1) := by decide +kernel
theorem dX6_has_89 : decode cX6_has 89 = .ok (.getfield 23, 3) := by decide +kernel
theorem dX6_has_92 : decode cX6_has 92 = .ok (.getfield 107, 3) := by decide +kernel
theorem dX6_has_95 : decode cX6_has 95 = .ok (.ireturn, 1) := by decide +kernel
theorem dX6_has_96 : decode cX6_has 96 = .ok (.aload_n 0, 1) := by decide +kernel
theorem dX6_has_97 : decode cX6_has 97 = .ok (.getfield 23, 3) := by decide +kernel
theorem dX6_has_100 : decode cX6_has 100 = .ok (.getfield 116, 3) := by decide +kernel
theorem dX6_has_103 : decode cX6_has 103 = .ok (.ireturn, 1) := by decide +kernel
theorem dX6_has_104 : decode cX6_has 104 = .ok (.aload_n 0, 1) := by decide +kernel
theorem dX6_has_105 : decode cX6_has 105 = .ok (.getfield 33, 3) := by decide +kernel
theorem dX6_has_108 : decode cX6_has 108 = .ok (.getfield 119, 3) := by decide +kernel
theorem dX6_has_111 : decode cX6_has 111 = .ok (.ireturn, 1) := by decide +kernel
theorem dX6_has_112 : decode cX6_has 112 = .ok (.aload_n 0, 1) := by decide +kernel
theorem dX6_has_113 : decode cX6_has 113 = .ok (.getfield 33, 3) := by decide +kernel
theorem dX6_has_116 : decode cX6_has 116 = .ok (.getfield 122, 3) := by decide +kernel
theorem dX6_has_119 : decode cX6_has 119 = .ok (.ireturn, 1) := by decide +kernel
theorem dX6_has_120 : decode cX6_has 120 = .ok (.aload_n 0, 1) := by decide +kernel
theorem dX6_has_121 : decode cX6_has 121 = .ok (.getfield 33, 3) := by decide +kernel
theorem dX6_has_124 : decode cX6_has 124 = .ok (.invokevirtual 125, 3) := by decide +kernel
theorem dX6_has_127 : decode cX6_has 127 = .ok (.ireturn, 1) := by decide +kernel
theorem dX6_has_128 : decode cX6_has 128 = .ok (.aload_n 0, 1) := by decide +kernel
theorem dX6_has_129 : decode cX6_has 129 = .ok (.getfield 33, 3) := by decide +kernel
theorem dX6_has_132 : decode cX6_has 132 = .ok (.invokevirtual 129, 3) := by decide +kernel
theorem dX6_has_135 : decode cX6_has 135 = .ok (.ireturn, 1) := by decide +kernel
theorem dX6_has_136 : decode cX6_has 136 = .ok (.aload_n 0, 1) := by decide +kernel
theorem dX6_has_137 : decode cX6_has 137 = .ok (.getfield 33, 3) := by decide +kernel
theorem dX6_has_140 : decode cX6_has 140 = .ok (.invokevirtual 132, 3) := by decide +kernel
theorem dX6_has_143 : decode cX6_has 143 = .ok (.ireturn, 1) := by decide +kernel
theorem dX6_has_144 : decode cX6_has 144 = .ok (.aload_n 0, 1) := by decide +kernel
theorem dX6_has_145 : decode cX6_has 145 = .ok (.getfield 33, 3) := by decide +kernel
theorem dX6_has_148 : decode cX6_has 148 = .ok (.getfield 122, 3) := by decide +kernel
theorem dX6_has_151 : decode cX6_has 151 = .ok (.bipush 30, 2) := by decide +kernel
theorem dX6_has_153 : decode cX6_has 153 = .ok (.invokestatic 135, 3) := by decide +kernel
theorem dX6_has_156 : decode cX6_has 156 = .ok (.ireturn, 1) := by decide +kernel
theorem dX6_has_157 : decode cX6_has 157 = .ok (.aload_n 0, 1) := by decide +kernel
theorem dX6_has_158 : decode cX6_has 158 = .ok (.getfield 104, 3) := by decide +kernel
theorem dX6_has_161 : decode cX6_has 161 = .ok (.ireturn, 1) := by decide +kernel
theorem dX6_has_162 : decode cX6_has 162 = .ok (.aload_n 0, 1) := by decide +kernel
theorem dX6_has_163 : decode cX6_has 163 = .ok (.getfield 33, 3) := by decide +kernel
theorem dX6_has_166 : decode cX6_has 166 = .ok (.getfield 141, 3) := by decide +kernel
theorem dX6_has_169 : decode cX6_has 169 = .ok (.ireturn, 1) := by decide +kernel
theorem dX6_has_170 : decode cX6_has 170 = .ok (.aload_n 0, 1) := by decide +kernel
theorem dX6_has_171 : decode cX6_has 171 = .ok (.getfield 33, 3) := by decide +kernel
theorem dX6_has_174 : decode cX6_has 174 = .ok (.getfield 144, 3) := by decide +kernel
theorem dX6_has_177 : decode cX6_has 177 = .ok (.ireturn, 1) := by decide +kernel
theorem dX6_has_178 : decode cX6_has 178 = .ok (.aload_n 0, 1) := by decide +kernel
theorem dX6_has_179 : decode cX6_has 179 = .ok (.getfield 33, 3) := by decide +kernel
theorem dX6_has_182 : decode cX6_has 182 = .ok (.getfield 145, 3) := by decide +kernel
theorem dX6_has_185 : decode cX6_has 185 = .ok (.ireturn, 1) := by decide +kernel
theorem dX6_has_186 : decode cX6_has 186 = .ok (.aload_n 0, 1) := by decide +kernel
theorem dX6_has_187 : decode cX6_has 187 = .ok (.getfield 33, 3) := by decide +kernel
theorem dX6_has_190 : decode cX6_has 190 = .ok (.getfield 146, 3) := by decide +kernel
theorem dX6_has_193 : decode cX6_has 193 = .ok (.ireturn, 1) := by decide +kernel
theorem dX6_has_194 : decode cX6_has 194 = .ok (.aload_n 0, 1) := by decide +kernel
theorem dX6_has_195 : decode cX6_has 195 = .ok (.getfield 33, 3) := by decide +kernel
theorem dX6_has_198 : decode cX6_has 198 = .ok (.getfield 149, 3) := by decide +kernel
theorem dX6_has_201 : decode cX6_has 201 = .ok (.iconst 0, 1) := by decide +kernel
theorem dX6_has_202 : decode cX6_has 202 = .ok (.invokestatic 152, 3) := by decide +kernel
theorem dX6_has_205 : decode cX6_has 205 = .ok (.ireturn, 1) := by decide +kernel
theorem dX6_hasLane_0 : decode cX6_hasLane 0 = .ok (.aload_n 0, 1) := by decide +kernel
theorem dX6_hasLane_1 : decode cX6_hasLane 1 = .ok (.iload_n 1, 1) := by decide +kernel
theorem dX6_hasLane_2 : decode cX6_hasLane 2 = .ok (.invokevirtual 181, 3) := by decide +kernel
theorem dX6_hasLane_5 : decode cX6_hasLane 5 = .ok (.ifCond .eq 17, 3) := by decide +kernel
theorem dX6_hasLane_8 : decode cX6_hasLane 8 = .ok (.iload_n 2, 1) := by decide +kernel
theorem dX6_hasLane_9 : decode cX6_hasLane 9 = .ok (.ifCond .lt 13, 3) := by decide +kernel
theorem dX6_hasLane_12 : decode cX6_hasLane 12 = .ok (.iload_n 2, 1) := by decide +kernel
theorem dX6_hasLane_13 : decode cX6_hasLane 13 = .ok (.bipush 8, 2) := by decide +kernel
theorem dX6_hasLane_15 : decode cX6_hasLane 15 = .ok (.if_icmp .ge 7, 3) := by decide +kernel
theorem dX6_hasLane_18 : decode cX6_hasLane 18 = .ok (.iconst 1, 1) := by decide +kernel
theorem dX6_hasLane_19 : decode cX6_hasLane 19 = .ok (.goto 4, 3) := by decide +kernel
theorem dX6_hasLane_22 : decode cX6_hasLane 22 = .ok (.iconst 0, 1) := by decide +kernel
theorem dX6_hasLane_23 : decode cX6_hasLane 23 = .ok (.ireturn, 1) := by decide +kernel
theorem dX6_hasWarp_0 : decode cX6_hasWarp 0 = .ok (.aload_n 0, 1) := by decide +kernel
theorem dX6_hasWarp_1 : decode cX6_hasWarp 1 = .ok (.getfield 87, 3) := by decide +kernel
theorem dX6_hasWarp_4 : decode cX6_hasWarp 4 = .ok (.ifCond .eq 22, 3) := by decide +kernel
theorem dX6_hasWarp_7 : decode cX6_hasWarp 7 = .ok (.iload_n 1, 1) := by decide +kernel
theorem dX6_hasWarp_8 : decode cX6_hasWarp 8 = .ok (.ifCond .lt 18, 3) := by decide +kernel
theorem dX6_hasWarp_11 : decode cX6_hasWarp 11 = .ok (.iload_n 1, 1) := by decide +kernel
theorem dX6_hasWarp_12 : decode cX6_hasWarp 12 = .ok (.aload_n 0, 1) := by decide +kernel
theorem dX6_hasWarp_13 : decode cX6_hasWarp 13 = .ok (.getfield 23, 3) := by decide +kernel
theorem dX6_hasWarp_16 : decode cX6_hasWarp 16 = .ok (.getfield 116, 3) := by decide +kernel
theorem dX6_hasWarp_19 : decode cX6_hasWarp 19 = .ok (.if_icmp .ge 7, 3) := by decide +kernel
theorem dX6_hasWarp_22 : decode cX6_hasWarp 22 = .ok (.iconst 1, 1) := by decide +kernel
theorem dX6_hasWarp_23 : decode cX6_hasWarp 23 = .ok (.goto 4, 3) := by decide +kernel
theorem dX6_hasWarp_26 : decode cX6_hasWarp 26 = .ok (.iconst 0, 1) := by decide +kernel
theorem dX6_hasWarp_27 : decode cX6_hasWarp 27 = .ok (.ireturn, 1) := by decide +kernel
theorem dX6_hasWord_0 : decode cX6_hasWord 0 = .ok (.aload_n 0, 1) := by decide +kernel
theorem dX6_hasWord_1 : decode cX6_hasWord 1 = .ok (.getfield 87, 3) := by decide +kernel
theorem dX6_hasWord_4 : decode cX6_hasWord 4 = .ok (.ifCond .eq 26, 3) := by decide +kernel
theorem dX6_hasWord_7 : decode cX6_hasWord 7 = .ok (.iload_n 2, 1) := by decide +kernel
theorem dX6_hasWord_8 : decode cX6_hasWord 8 = .ok (.ifCond .lt 22, 3) := by decide +kernel
theorem dX6_hasWord_11 : decode cX6_hasWord 11 = .ok (.iload_n 2, 1) := by decide +kernel
theorem dX6_hasWord_12 : decode cX6_hasWord 12 = .ok (.iload_n 1, 1) := by decide +kernel
theorem dX6_hasWord_13 : decode cX6_hasWord 13 = .ok (.ifCond .eq 8, 3) := by decide +kernel
theorem dX6_hasWord_16 : decode cX6_hasWord 16 = .ok (.bipush 32, 2) := by decide +kernel
theorem dX6_hasWord_18 : decode cX6_hasWord 18 = .ok (.goto 5, 3) := by decide +kernel
theorem dX6_hasWord_21 : decode cX6_hasWord 21 = .ok (.bipush 64, 2) := by decide +kernel
theorem dX6_hasWord_23 : decode cX6_hasWord 23 = .ok (.if_icmp .ge 7, 3) := by decide +kernel
theorem dX6_hasWord_26 : decode cX6_hasWord 26 = .ok (.iconst 1, 1) := by decide +kernel
theorem dX6_hasWord_27 : decode cX6_hasWord 27 = .ok (.goto 4, 3) := by decide +kernel
theorem dX6_hasWord_30 : decode cX6_hasWord 30 = .ok (.iconst 0, 1) := by decide +kernel
theorem dX6_hasWord_31 : decode cX6_hasWord 31 = .ok (.ireturn, 1) := by decide +kernel
theorem dX6_init_0 : decode cX6_init 0 = .ok (.aload_n 0, 1) := by decide +kernel
theorem dX6_init_1 : decode cX6_init 1 = .ok (.invokespecial 3, 3) := by decide +kernel
theorem dX6_init_4 : decode cX6_init 4 = .ok (.aload_n 0, 1) := by decide +kernel
theorem dX6_init_5 : decode cX6_init 5 = .ok (.sipush 1600, 3) := by decide +kernel
theorem dX6_init_8 : decode cX6_init 8 = .ok (.newarray .byte, 2) := by decide +kernel
theorem dX6_init_10 : decode cX6_init 10 = .ok (.putfield 9, 3) := by decide +kernel
theorem dX6_init_13 : decode cX6_init 13 = .ok (.aload_n 0, 1) := by decide +kernel
theorem dX6_init_14 : decode cX6_init 14 = .ok (.new 13, 3) := by decide +kernel
theorem dX6_init_17 : decode cX6_init 17 = .ok (.dup, 1) := by decide +kernel
theorem dX6_init_18 : decode cX6_init 18 = .ok (.invokespecial 15, 3) := by decide +kernel
theorem dX6_init_21 : decode cX6_init 21 = .ok (.putfield 16, 3) := by decide +kernel
theorem dX6_init_24 : decode cX6_init 24 = .ok (.aload_n 0, 1) := by decide +kernel
theorem dX6_init_25 : decode cX6_init 25 = .ok (.new 20, 3) := by decide +kernel
theorem dX6_init_28 : decode cX6_init 28 = .ok (.dup, 1) := by decide +kernel
theorem dX6_init_29 : decode cX6_init 29 = .ok (.invokespecial 22, 3) := by decide +kernel
theorem dX6_init_32 : decode cX6_init 32 = .ok (.putfield 23, 3) := by decide +kernel
theorem dX6_init_35 : decode cX6_init 35 = .ok (.aload_n 0, 1) := by decide +kernel
theorem dX6_init_36 : decode cX6_init 36 = .ok (.new 20, 3) := by decide +kernel
theorem dX6_init_39 : decode cX6_init 39 = .ok (.dup, 1) := by decide +kernel
theorem dX6_init_40 : decode cX6_init 40 = .ok (.invokespecial 22, 3) := by decide +kernel
theorem dX6_init_43 : decode cX6_init 43 = .ok (.putfield 27, 3) := by decide +kernel
theorem dX6_init_46 : decode cX6_init 46 = .ok (.aload_n 0, 1) := by decide +kernel
theorem dX6_init_47 : decode cX6_init 47 = .ok (.new 30, 3) := by decide +kernel
theorem dX6_init_50 : decode cX6_init 50 = .ok (.dup, 1) := by decide +kernel
theorem dX6_init_51 : decode cX6_init 51 = .ok (.invokespecial 32, 3) := by decide +kernel
theorem dX6_init_54 : decode cX6_init 54 = .ok (.putfield 33, 3) := by decide +kernel
theorem dX6_init_57 : decode cX6_init 57 = .ok (.aload_n 0, 1) := by decide +kernel
theorem dX6_init_58 : decode cX6_init 58 = .ok (.bipush 20, 2) := by decide +kernel
theorem dX6_init_60 : decode cX6_init 60 = .ok (.anewarray 30, 3) := by decide +kernel
theorem dX6_init_63 : decode cX6_init 63 = .ok (.putfield 37, 3) := by decide +kernel
theorem dX6_init_66 : decode cX6_init 66 = .ok (.aload_n 0, 1) := by decide +kernel
theorem dX6_init_67 : decode cX6_init 67 = .ok (.new 41, 3) := by decide +kernel
theorem dX6_init_70 : decode cX6_init 70 = .ok (.dup, 1) := by decide +kernel
theorem dX6_init_71 : decode cX6_init 71 = .ok (.invokespecial 43, 3) := by decide +kernel
theorem dX6_init_74 : decode cX6_init 74 = .ok (.putfield 44, 3) := by decide +kernel
theorem dX6_init_77 : decode cX6_init 77 = .ok (.aload_n 0, 1) := by decide +kernel
theorem dX6_init_78 : decode cX6_init 78 = .ok (.new 48, 3) := by decide +kernel
theorem dX6_init_81 : decode cX6_init 81 = .ok (.dup, 1) := by decide +kernel
theorem dX6_init_82 : decode cX6_init 82 = .ok (.invokespecial 50, 3) := by decide +kernel
theorem dX6_init_85 : decode cX6_init 85 = .ok (.putfield 51, 3) := by decide +kernel
theorem dX6_init_88 : decode cX6_init 88 = .ok (.aload_n 0, 1) := by decide +kernel
theorem dX6_init_89 : decode cX6_init 89 = .ok (.bipush 6, 2) := by decide +kernel
theorem dX6_init_91 : decode cX6_init 91 = .ok (.newarray .int, 2) := by decide +kernel
theorem dX6_init_93 : decode cX6_init 93 = .ok (.putfield 55, 3) := by decide +kernel
theorem dX6_init_96 : decode cX6_init 96 = .ok (.aload_n 0, 1) := by decide +kernel
theorem dX6_init_97 : decode cX6_init 97 = .ok (.lconst 1, 1) := by decide +kernel
theorem dX6_init_98 : decode cX6_init 98 = .ok (.putfield 59, 3) := by decide +kernel
theorem dX6_init_101 : decode cX6_init 101 = .ok (.aload_n 0, 1) := by decide +kernel
theorem dX6_init_102 : decode cX6_init 102 = .ok (.getfield 44, 3) := by decide +kernel
theorem dX6_init_105 : decode cX6_init 105 = .ok (.aload_n 0, 1) := by decide +kernel
theorem dX6_init_106 : decode cX6_init 106 = .ok (.getfield 23, 3) := by decide +kernel
theorem dX6_init_109 : decode cX6_init 109 = .ok (.invokevirtual 63, 3) := by decide +kernel
theorem dX6_init_112 : decode cX6_init 112 = .ok (.aload_n 0, 1) := by decide +kernel
theorem dX6_init_113 : decode cX6_init 113 = .ok (.getfield 51, 3) := by decide +kernel
theorem dX6_init_116 : decode cX6_init 116 = .ok (.aload_n 0, 1) := by decide +kernel
theorem dX6_init_117 : decode cX6_init 117 = .ok (.getfield 23, 3) := by decide +kernel
theorem dX6_init_120 : decode cX6_init 120 = .ok (.invokevirtual 67, 3) := by decide +kernel
theorem dX6_init_123 : decode cX6_init 123 = .ok (.iconst 0, 1) := by decide +kernel
theorem dX6_init_124 : decode cX6_init 124 = .ok (.istore_n 1, 1) := by decide +kernel
theorem dX6_init_125 : decode cX6_init 125 = .ok (.iload_n 1, 1) := by decide +kernel
theorem dX6_init_126 : decode cX6_init 126 = .ok (.bipush 20, 2) := by decide +kernel
theorem dX6_init_128 : decode cX6_init 128 = .ok (.if_icmp .ge 22, 3) := by decide +kernel
theorem dX6_init_131 : decode cX6_init 131 = .ok (.aload_n 0, 1) := by decide +kernel
theorem dX6_init_132 : decode cX6_init 132 = .ok (.getfield 37, 3) := by decide +kernel
theorem dX6_init_135 : decode cX6_init 135 = .ok (.iload_n 1, 1) := by decide +kernel
theorem dX6_init_136 : decode cX6_init 136 = .ok (.new 30, 3) := by decide +kernel
theorem dX6_init_139 : decode cX6_init 139 = .ok (.dup, 1) := by decide +kernel
theorem dX6_init_140 : decode cX6_init 140 = .ok (.invokespecial 32, 3) := by decide +kernel
theorem dX6_init_143 : decode cX6_init 143 = .ok (.aastore, 1) := by decide +kernel
theorem dX6_init_144 : decode cX6_init 144 = .ok (.iinc 1 1, 3) := by decide +kernel
theorem dX6_init_147 : decode cX6_init 147 = .ok (.goto (-22), 3) := by decide +kernel
theorem dX6_init_150 : decode cX6_init 150 = .ok (.return_, 1) := by decide +kernel
theorem dX6_isAsAlone_0 : decode cX6_isAsAlone 0 = .ok (.iconst 0, 1) := by decide +kernel
theorem dX6_isAsAlone_1 : decode cX6_isAsAlone 1 = .ok (.istore_n 3, 1) := by decide +kernel
theorem dX6_isAsAlone_2 : decode cX6_isAsAlone 2 = .ok (.iload_n 3, 1) := by decide +kernel
theorem dX6_isAsAlone_3 : decode cX6_isAsAlone 3 = .ok (.iconst 4, 1) := by decide +kernel
theorem dX6_isAsAlone_4 : decode cX6_isAsAlone 4 = .ok (.if_icmp .ge 42, 3) := by decide +kernel
theorem dX6_isAsAlone_7 : decode cX6_isAsAlone 7 = .ok (.aload_n 0, 1) := by decide +kernel
theorem dX6_isAsAlone_8 : decode cX6_isAsAlone 8 = .ok (.getfield 51, 3) := by decide +kernel
theorem dX6_isAsAlone_11 : decode cX6_isAsAlone 11 = .ok (.iload_n 1, 1) := by decide +kernel
theorem dX6_isAsAlone_12 : decode cX6_isAsAlone 12 = .ok (.iload_n 2, 1) := by decide +kernel
theorem dX6_isAsAlone_13 : decode cX6_isAsAlone 13 = .ok (.iload_n 3, 1) := by decide +kernel
theorem dX6_isAsAlone_14 : decode cX6_isAsAlone 14 = .ok (.invokevirtual 268, 3) := by decide +kernel
theorem dX6_isAsAlone_17 : decode cX6_isAsAlone 17 = .ok (.aload_n 0, 1) := by decide +kernel
theorem dX6_isAsAlone_18 : decode cX6_isAsAlone 18 = .ok (.getfield 33, 3) := by decide +kernel
theorem dX6_isAsAlone_21 : decode cX6_isAsAlone 21 = .ok (.getfield 164, 3) := by decide +kernel
theorem dX6_isAsAlone_24 : decode cX6_isAsAlone 24 = .ok (.iload_n 1, 1) := by decide +kernel
theorem dX6_isAsAlone_25 : decode cX6_isAsAlone 25 = .ok (.aaload, 1) := by decide +kernel
theorem dX6_isAsAlone_26 : decode cX6_isAsAlone 26 = .ok (.getfield 178, 3) := by decide +kernel
theorem dX6_isAsAlone_29 : decode cX6_isAsAlone 29 = .ok (.iload_n 2, 1) := by decide +kernel
theorem dX6_isAsAlone_30 : decode cX6_isAsAlone 30 = .ok (.iconst 4, 1) := by decide +kernel
theorem dX6_isAsAlone_31 : decode cX6_isAsAlone 31 = .ok (.imul, 1) := by decide +kernel
theorem dX6_isAsAlone_32 : decode cX6_isAsAlone 32 = .ok (.iload_n 3, 1) := by decide +kernel
theorem dX6_isAsAlone_33 : decode cX6_isAsAlone 33 = .ok (.iadd, 1) := by decide +kernel
theorem dX6_isAsAlone_34 : decode cX6_isAsAlone 34 = .ok (.iaload, 1) := by decide +kernel
theorem dX6_isAsAlone_35 : decode cX6_isAsAlone 35 = .ok (.if_icmp .eq 5, 3) := by decide +kernel
theorem dX6_isAsAlone_38 : decode cX6_isAsAlone 38 = .ok (.iconst 0, 1) := by decide +kernel
theorem dX6_isAsAlone_39 : decode cX6_isAsAlone 39 = .ok (.ireturn, 1) := by decide +kernel
theorem dX6_isAsAlone_40 : decode cX6_isAsAlone 40 = .ok (.iinc 3 1, 3) := by decide +kernel
theorem dX6_isAsAlone_43 : decode cX6_isAsAlone 43 = .ok (.goto (-41), 3) := by decide +kernel
theorem dX6_isAsAlone_46 : decode cX6_isAsAlone 46 = .ok (.iconst 1, 1) := by decide +kernel
theorem dX6_isAsAlone_47 : decode cX6_isAsAlone 47 = .ok (.ireturn, 1) := by decide +kernel
theorem dX6_isMode_0 : decode cX6_isMode 0 = .ok (.iload_n 0, 1) := by decide +kernel
theorem dX6_isMode_1 : decode cX6_isMode 1 = .ok (.ifCond .eq 8, 3) := by decide +kernel
theorem dX6_isMode_4 : decode cX6_isMode 4 = .ok (.iload_n 0, 1) := by decide +kernel
theorem dX6_isMode_5 : decode cX6_isMode 5 = .ok (.iconst 1, 1) := by decide +kernel
theorem dX6_isMode_6 : decode cX6_isMode 6 = .ok (.if_icmp .ne 7, 3) := by decide +kernel
theorem dX6_isMode_9 : decode cX6_isMode 9 = .ok (.iconst 1, 1) := by decide +kernel
theorem dX6_isMode_10 : decode cX6_isMode 10 = .ok (.goto 4, 3) := by decide +kernel
theorem dX6_isMode_13 : decode cX6_isMode 13 = .ok (.iconst 0, 1) := by decide +kernel
theorem dX6_isMode_14 : decode cX6_isMode 14 = .ok (.ireturn, 1) := by decide +kernel
theorem dX6_isOrder_0 : decode cX6_isOrder 0 = .ok (.iload_n 0, 1) := by decide +kernel
theorem dX6_isOrder_1 : decode cX6_isOrder 1 = .ok (.ifCond .eq 8, 3) := by decide +kernel
theorem dX6_isOrder_4 : decode cX6_isOrder 4 = .ok (.iload_n 0, 1) := by decide +kernel
theorem dX6_isOrder_5 : decode cX6_isOrder 5 = .ok (.iconst 1, 1) := by decide +kernel
theorem dX6_isOrder_6 : decode cX6_isOrder 6 = .ok (.if_icmp .ne 7, 3) := by decide +kernel
theorem dX6_isOrder_9 : decode cX6_isOrder 9 = .ok (.iconst 1, 1) := by decide +kernel
theorem dX6_isOrder_10 : decode cX6_isOrder 10 = .ok (.goto 4, 3) := by decide +kernel
theorem dX6_isOrder_13 : decode cX6_isOrder 13 = .ok (.iconst 0, 1) := by decide +kernel
theorem dX6_isOrder_14 : decode cX6_isOrder 14 = .ok (.ireturn, 1) := by decide +kernel
theorem dX6_keepForUndo_0 : decode cX6_keepForUndo 0 = .ok (.aload_n 0, 1) := by decide +kernel
theorem dX6_keepForUndo_1 : decode cX6_keepForUndo 1 = .ok (.getfield 104, 3) := by decide +kernel
theorem dX6_keepForUndo_4 : decode cX6_keepForUndo 4 = .ok (.bipush 20, 2) := by decide +kernel
theorem dX6_keepForUndo_6 : decode cX6_keepForUndo 6 = .ok (.if_icmp .ne 19, 3) := by decide +kernel
theorem dX6_keepForUndo_9 : decode cX6_keepForUndo 9 = .ok (.aload_n 0, 1) := by decide +kernel
theorem dX6_keepForUndo_10 : decode cX6_keepForUndo 10 = .ok (.aload_n 0, 1) := by decide +kernel
theorem dX6_keepForUndo_11 : decode cX6_keepForUndo 11 = .ok (.getfield 292, 3) := by decide +kernel
theorem dX6_keepForUndo_14 : decode cX6_keepForUndo 14 = .ok (.iconst 1, 1) := by decide +kernel
theorem dX6_keepForUndo_15 : decode cX6_keepForUndo 15 = .ok (.iadd, 1) := by decide +kernel
theorem dX6_keepForUndo_16 : decode cX6_keepForUndo 16 = .ok (.bipush 20, 2) := by decide +kernel
theorem dX6_keepForUndo_18 : decode cX6_keepForUndo 18 = .ok (.irem, 1) := by decide +kernel
theorem dX6_keepForUndo_19 : decode cX6_keepForUndo 19 = .ok (.putfield 292, 3) := by decide +kernel
theorem dX6_keepForUndo_22 : decode cX6_keepForUndo 22 = .ok (.goto 13, 3) := by decide +kernel
theorem dX6_keepForUndo_25 : decode cX6_keepForUndo 25 = .ok (.aload_n 0, 1) := by decide +kernel
theorem dX6_keepForUndo_26 : decode cX6_keepForUndo 26 = .ok (.dup, 1) := by decide +kernel
theorem dX6_keepForUndo_27 : decode cX6_keepForUndo 27 = .ok (.getfield 104, 3) := by decide +kernel
theorem dX6_keepForUndo_30 : decode cX6_keepForUndo 30 = .ok (.iconst 1, 1) := by decide +kernel
theorem dX6_keepForUndo_31 : decode cX6_keepForUndo 31 = .ok (.iadd, 1) := by decide +kernel
theorem dX6_keepForUndo_32 : decode cX6_keepForUndo 32 = .ok (.putfield 104, 3) := by decide +kernel
theorem dX6_keepForUndo_35 : decode cX6_keepForUndo 35 = .ok (.aload_n 0, 1) := by decide +kernel
theorem dX6_keepForUndo_36 : decode cX6_keepForUndo 36 = .ok (.getfield 37, 3) := by decide +kernel
theorem dX6_keepForUndo_39 : decode cX6_keepForUndo 39 = .ok (.aload_n 0, 1) := by decide +kernel
theorem dX6_keepForUndo_40 : decode cX6_keepForUndo 40 = .ok (.getfield 292, 3) := by decide +kernel
theorem dX6_keepForUndo_43 : decode cX6_keepForUndo 43 = .ok (.aload_n 0, 1) := by decide +kernel
theorem dX6_keepForUndo_44 : decode cX6_keepForUndo 44 = .ok (.getfield 104, 3) := by decide +kernel
theorem dX6_keepForUndo_47 : decode cX6_keepForUndo 47 = .ok (.iadd, 1) := by decide +kernel
theorem dX6_keepForUndo_48 : decode cX6_keepForUndo 48 = .ok (.iconst 1, 1) := by decide +kernel
theorem dX6_keepForUndo_49 : decode cX6_keepForUndo 49 = .ok (.isub, 1) := by decide +kernel
theorem dX6_keepForUndo_50 : decode cX6_keepForUndo 50 = .ok (.bipush 20, 2) := by decide +kernel
theorem dX6_keepForUndo_52 : decode cX6_keepForUndo 52 = .ok (.irem, 1) := by decide +kernel
theorem dX6_keepForUndo_53 : decode cX6_keepForUndo 53 = .ok (.aaload, 1) := by decide +kernel
theorem dX6_keepForUndo_54 : decode cX6_keepForUndo 54 = .ok (.aload_n 0, 1) := by decide +kernel
theorem dX6_keepForUndo_55 : decode cX6_keepForUndo 55 = .ok (.getfield 33, 3) := by decide +kernel
theorem dX6_keepForUndo_58 : decode cX6_keepForUndo 58 = .ok (.invokevirtual 295, 3) := by decide +kernel
theorem dX6_keepForUndo_61 : decode cX6_keepForUndo 61 = .ok (.aload_n 0, 1) := by decide +kernel
theorem dX6_keepForUndo_62 : decode cX6_keepForUndo 62 = .ok (.getfield 51, 3) := by decide +kernel
theorem dX6_keepForUndo_65 : decode cX6_keepForUndo 65 = .ok (.invokevirtual 299, 3) := by decide +kernel
theorem dX6_keepForUndo_68 : decode cX6_keepForUndo 68 = .ok (.return_, 1) := by decide +kernel
theorem dX6_kept_0 : decode cX6_kept 0 = .ok (.aload_n 0, 1) := by decide +kernel
theorem dX6_kept_1 : decode cX6_kept 1 = .ok (.getfield 33, 3) := by decide +kernel
theorem dX6_kept_4 : decode cX6_kept 4 = .ok (.getfield 122, 3) := by decide +kernel
theorem dX6_kept_7 : decode cX6_kept 7 = .ok (.bipush 30, 2) := by decide +kernel
theorem dX6_kept_9 : decode cX6_kept 9 = .ok (.invokestatic 135, 3) := by decide +kernel
theorem dX6_kept_12 : decode cX6_kept 12 = .ok (.istore_n 3, 1) := by decide +kernel
theorem dX6_kept_13 : decode cX6_kept 13 = .ok (.aload_n 0, 1) := by decide +kernel
theorem dX6_kept_14 : decode cX6_kept 14 = .ok (.getfield 87, 3) := by decide +kernel
theorem dX6_kept_17 : decode cX6_kept 17 = .ok (.ifCond .eq 21, 3) := by decide +kernel
theorem dX6_kept_20 : decode cX6_kept 20 = .ok (.iload_n 1, 1) := by decide +kernel
theorem dX6_kept_21 : decode cX6_kept 21 = .ok (.ifCond .lt 17, 3) := by decide +kernel
theorem dX6_kept_24 : decode cX6_kept 24 = .ok (.iload_n 1, 1) := by decide +kernel
theorem dX6_kept_25 : decode cX6_kept 25 = .ok (.iload_n 3, 1) := by decide +kernel
theorem dX6_kept_26 : decode cX6_kept 26 = .ok (.if_icmp .ge 12, 3) := by decide +kernel
theorem dX6_kept_29 : decode cX6_kept 29 = .ok (.iload_n 2, 1) := by decide +kernel
theorem dX6_kept_30 : decode cX6_kept 30 = .ok (.ifCond .lt 8, 3) := by decide +kernel
theorem dX6_kept_33 : decode cX6_kept 33 = .ok (.iload_n 2, 1) := by decide +kernel
theorem dX6_kept_34 : decode cX6_kept 34 = .ok (.iconst 5, 1) := by decide +kernel
theorem dX6_kept_35 : decode cX6_kept 35 = .ok (.if_icmp .lt 5, 3) := by decide +kernel
theorem dX6_kept_38 : decode cX6_kept 38 = .ok (.iconst (-1), 1) := by decide +kernel
theorem dX6_kept_39 : decode cX6_kept 39 = .ok (.ireturn, 1) := by decide +kernel
theorem dX6_kept_40 : decode cX6_kept 40 = .ok (.aload_n 0, 1) := by decide +kernel
theorem dX6_kept_41 : decode cX6_kept 41 = .ok (.getfield 33, 3) := by decide +kernel
theorem dX6_kept_44 : decode cX6_kept 44 = .ok (.getfield 220, 3) := by decide +kernel
theorem dX6_kept_47 : decode cX6_kept 47 = .ok (.aload_n 0, 1) := by decide +kernel
theorem dX6_kept_48 : decode cX6_kept 48 = .ok (.getfield 33, 3) := by decide +kernel
theorem dX6_kept_51 : decode cX6_kept 51 = .ok (.getfield 122, 3) := by decide +kernel
theorem dX6_kept_54 : decode cX6_kept 54 = .ok (.iload_n 3, 1) := by decide +kernel
theorem dX6_kept_55 : decode cX6_kept 55 = .ok (.isub, 1) := by decide +kernel
theorem dX6_kept_56 : decode cX6_kept 56 = .ok (.iload_n 1, 1) := by decide +kernel
theorem dX6_kept_57 : decode cX6_kept 57 = .ok (.iadd, 1) := by decide +kernel
theorem dX6_kept_58 : decode cX6_kept 58 = .ok (.bipush 30, 2) := by decide +kernel
theorem dX6_kept_60 : decode cX6_kept 60 = .ok (.irem, 1) := by decide +kernel
theorem dX6_kept_61 : decode cX6_kept 61 = .ok (.iconst 5, 1) := by decide +kernel
theorem dX6_kept_62 : decode cX6_kept 62 = .ok (.imul, 1) := by decide +kernel
theorem dX6_kept_63 : decode cX6_kept 63 = .ok (.iload_n 2, 1) := by decide +kernel
theorem dX6_kept_64 : decode cX6_kept 64 = .ok (.iadd, 1) := by decide +kernel
theorem dX6_kept_65 : decode cX6_kept 65 = .ok (.iaload, 1) := by decide +kernel
theorem dX6_kept_66 : decode cX6_kept 66 = .ok (.ireturn, 1) := by decide +kernel
theorem dX6_lane_0 : decode cX6_lane 0 = .ok (.aload_n 0, 1) := by decide +kernel
theorem dX6_lane_1 : decode cX6_lane 1 = .ok (.iload_n 1, 1) := by decide +kernel
theorem dX6_lane_2 : decode cX6_lane 2 = .ok (.iload_n 2, 1) := by decide +kernel
theorem dX6_lane_3 : decode cX6_lane 3 = .ok (.invokevirtual 160, 3) := by decide +kernel
theorem dX6_lane_6 : decode cX6_lane 6 = .ok (.ifCond .eq 13, 3) := by decide +kernel
theorem dX6_lane_9 : decode cX6_lane 9 = .ok (.iload_n 3, 1) := by decide +kernel
theorem dX6_lane_10 : decode cX6_lane 10 = .ok (.ifCond .lt 9, 3) := by decide +kernel
theorem dX6_lane_13 : decode cX6_lane 13 = .ok (.iload_n 3, 1) := by decide +kernel
theorem dX6_lane_14 : decode cX6_lane 14 = .ok (.bipush 6, 2) := by decide +kernel
theorem dX6_lane_16 : decode cX6_lane 16 = .ok (.if_icmp .le 6, 3) := by decide +kernel
theorem dX6_lane_19 : decode cX6_lane 19 = .ok (.ldc 155, 2) := by decide +kernel
theorem dX6_lane_21 : decode cX6_lane 21 = .ok (.ireturn, 1) := by decide +kernel
theorem dX6_lane_22 : decode cX6_lane 22 = .ok (.aload_n 0, 1) := by decide +kernel
theorem dX6_lane_23 : decode cX6_lane 23 = .ok (.getfield 33, 3) := by decide +kernel
theorem dX6_lane_26 : decode cX6_lane 26 = .ok (.getfield 164, 3) := by decide +kernel
theorem dX6_lane_29 : decode cX6_lane 29 = .ok (.iload_n 1, 1) := by decide +kernel
theorem dX6_lane_30 : decode cX6_lane 30 = .ok (.aaload, 1) := by decide +kernel
theorem dX6_lane_31 : decode cX6_lane 31 = .ok (.astore 4, 2) := by decide +kernel
theorem dX6_lane_33 : decode cX6_lane 33 = .ok (.iconst 1, 1) := by decide +kernel
theorem dX6_lane_34 : decode cX6_lane 34 = .ok (.iload_n 2, 1) := by decide +kernel
theorem dX6_lane_35 : decode cX6_lane 35 = .ok (.ishl, 1) := by decide +kernel
theorem dX6_lane_36 : decode cX6_lane 36 = .ok (.istore 5, 2) := by decide +kernel
theorem dX6_lane_38 : decode cX6_lane 38 = .ok (.iload_n 3, 1) := by decide +kernel
theorem dX6_lane_39 : decode cX6_lane 39 = .ok (.tableswitch 94 4 6 #[25, 42, 59], 25) := by decide +kernel
theorem dX6_lane_64 : decode cX6_lane 64 = .ok (.aload 4, 2) := by decide +kernel
theorem dX6_lane_66 : decode cX6_lane 66 = .ok (.getfield 167, 3) := by decide +kernel
theorem dX6_lane_69 : decode cX6_lane 69 = .ok (.iload 5, 2) := by decide +kernel
theorem dX6_lane_71 : decode cX6_lane 71 = .ok (.iand, 1) := by decide +kernel
theorem dX6_lane_72 : decode cX6_lane 72 = .ok (.ifCond .eq 7, 3) := by decide +kernel
theorem dX6_lane_75 : decode cX6_lane 75 = .ok (.iconst 1, 1) := by decide +kernel
theorem dX6_lane_76 : decode cX6_lane 76 = .ok (.goto 4, 3) := by decide +kernel
theorem dX6_lane_79 : decode cX6_lane 79 = .ok (.iconst 0, 1) := by decide +kernel
theorem dX6_lane_80 : decode cX6_lane 80 = .ok (.ireturn, 1) := by decide +kernel
theorem dX6_lane_81 : decode cX6_lane 81 = .ok (.aload 4, 2) := by decide +kernel
theorem dX6_lane_83 : decode cX6_lane 83 = .ok (.getfield 172, 3) := by decide +kernel
theorem dX6_lane_86 : decode cX6_lane 86 = .ok (.iload 5, 2) := by decide +kernel
theorem dX6_lane_88 : decode cX6_lane 88 = .ok (.iand, 1) := by decide +kernel
theorem dX6_lane_89 : decode cX6_lane 89 = .ok (.ifCond .eq 7, 3) := by decide +kernel
theorem dX6_lane_92 : decode cX6_lane 92 = .ok (.iconst 1, 1) := by decide +kernel
theorem dX6_lane_93 : decode cX6_lane 93 = .ok (.goto 4, 3) := by decide +kernel
theorem dX6_lane_96 : decode cX6_lane 96 = .ok (.iconst 0, 1) := by decide +kernel
theorem dX6_lane_97 : decode cX6_lane 97 = .ok (.ireturn, 1) := by decide +kernel
theorem dX6_lane_98 : decode cX6_lane 98 = .ok (.aload 4, 2) := by decide +kernel
theorem dX6_lane_100 : decode cX6_lane 100 = .ok (.getfield 167, 3) := by decide +kernel
theorem dX6_lane_103 : decode cX6_lane 103 = .ok (.iload 5, 2) := by decide +kernel
theorem dX6_lane_105 : decode cX6_lane 105 = .ok (.iand, 1) := by decide +kernel
theorem dX6_lane_106 : decode cX6_lane 106 = .ok (.ifCond .eq 19, 3) := by decide +kernel
theorem dX6_lane_109 : decode cX6_lane 109 = .ok (.aload 4, 2) := by decide +kernel
theorem dX6_lane_111 : decode cX6_lane 111 = .ok (.iload_n 2, 1) := by decide +kernel
theorem dX6_lane_112 : decode cX6_lane 112 = .ok (.aload_n 0, 1) := by decide +kernel
theorem dX6_lane_113 : decode cX6_lane 113 = .ok (.getfield 33, 3) := by decide +kernel
theorem dX6_lane_116 : decode cX6_lane 116 = .ok (.getfield 144, 3) := by decide +kernel
theorem dX6_lane_119 : decode cX6_lane 119 = .ok (.invokevirtual 175, 3) := by decide +kernel
theorem dX6_lane_122 : decode cX6_lane 122 = .ok (.goto 10, 3) := by decide +kernel
theorem dX6_lane_125 : decode cX6_lane 125 = .ok (.aload_n 0, 1) := by decide +kernel
theorem dX6_lane_126 : decode cX6_lane 126 = .ok (.getfield 23, 3) := by decide +kernel
theorem dX6_lane_129 : decode cX6_lane 129 = .ok (.getfield 107, 3) := by decide +kernel
theorem dX6_lane_132 : decode cX6_lane 132 = .ok (.ireturn, 1) := by decide +kernel
theorem dX6_lane_133 : decode cX6_lane 133 = .ok (.aload 4, 2) := by decide +kernel
theorem dX6_lane_135 : decode cX6_lane 135 = .ok (.getfield 178, 3) := by decide +kernel
theorem dX6_lane_138 : decode cX6_lane 138 = .ok (.iload_n 2, 1) := by decide +kernel
theorem dX6_lane_139 : decode cX6_lane 139 = .ok (.iconst 4, 1) := by decide +kernel
theorem dX6_lane_140 : decode cX6_lane 140 = .ok (.imul, 1) := by decide +kernel
theorem dX6_lane_141 : decode cX6_lane 141 = .ok (.iload_n 3, 1) := by decide +kernel
theorem dX6_lane_142 : decode cX6_lane 142 = .ok (.iadd, 1) := by decide +kernel
theorem dX6_lane_143 : decode cX6_lane 143 = .ok (.iaload, 1) := by decide +kernel
theorem dX6_lane_144 : decode cX6_lane 144 = .ok (.ireturn, 1) := by decide +kernel
theorem dX6_later_0 : decode cX6_later 0 = .ok (.aload_n 0, 1) := by decide +kernel
theorem dX6_later_1 : decode cX6_later 1 = .ok (.iload_n 2, 1) := by decide +kernel
theorem dX6_later_2 : decode cX6_later 2 = .ok (.iload_n 3, 1) := by decide +kernel
theorem dX6_later_3 : decode cX6_later 3 = .ok (.invokevirtual 160, 3) := by decide +kernel
theorem dX6_later_6 : decode cX6_later 6 = .ok (.ifCond .eq 25, 3) := by decide +kernel
theorem dX6_later_9 : decode cX6_later 9 = .ok (.iload 4, 2) := by decide +kernel
theorem dX6_later_11 : decode cX6_later 11 = .ok (.ifCond .lt 20, 3) := by decide +kernel
theorem dX6_later_14 : decode cX6_later 14 = .ok (.iload 4, 2) := by decide +kernel
theorem dX6_later_16 : decode cX6_later 16 = .ok (.iconst 4, 1) := by decide +kernel
theorem dX6_later_17 : decode cX6_later 17 = .ok (.if_icmp .ge 14, 3) := by decide +kernel
theorem dX6_later_20 : decode cX6_later 20 = .ok (.iload_n 1, 1) := by decide +kernel
theorem dX6_later_21 : decode cX6_later 21 = .ok (.ifCond .lt 10, 3) := by decide +kernel
theorem dX6_later_24 : decode cX6_later 24 = .ok (.iload_n 1, 1) := by decide +kernel
theorem dX6_later_25 : decode cX6_later 25 = .ok (.sipush 400, 3) := by decide +kernel
theorem dX6_later_28 : decode cX6_later 28 = .ok (.if_icmp .le 6, 3) := by decide +kernel
theorem dX6_later_31 : decode cX6_later 31 = .ok (.ldc 155, 2) := by decide +kernel
theorem dX6_later_33 : decode cX6_later 33 = .ok (.ireturn, 1) := by decide +kernel
theorem dX6_later_34 : decode cX6_later 34 = .ok (.aload_n 0, 1) := by decide +kernel
theorem dX6_later_35 : decode cX6_later 35 = .ok (.getfield 51, 3) := by decide +kernel
theorem dX6_later_38 : decode cX6_later 38 = .ok (.aload_n 0, 1) := by decide +kernel
theorem dX6_later_39 : decode cX6_later 39 = .ok (.getfield 33, 3) := by decide +kernel
theorem dX6_later_42 : decode cX6_later 42 = .ok (.iload_n 1, 1) := by decide +kernel
theorem dX6_later_43 : decode cX6_later 43 = .ok (.invokevirtual 243, 3) := by decide +kernel
theorem dX6_later_46 : decode cX6_later 46 = .ok (.astore 5, 2) := by decide +kernel
theorem dX6_later_48 : decode cX6_later 48 = .ok (.aload 5, 2) := by decide +kernel
theorem dX6_later_50 : decode cX6_later 50 = .ok (.getfield 164, 3) := by decide +kernel
theorem dX6_later_53 : decode cX6_later 53 = .ok (.iload_n 2, 1) := by decide +kernel
theorem dX6_later_54 : decode cX6_later 54 = .ok (.aaload, 1) := by decide +kernel
theorem dX6_later_55 : decode cX6_later 55 = .ok (.getfield 178, 3) := by decide +kernel
theorem dX6_later_58 : decode cX6_later 58 = .ok (.iload_n 3, 1) := by decide +kernel
theorem dX6_later_59 : decode cX6_later 59 = .ok (.iconst 4, 1) := by decide +kernel
theorem dX6_later_60 : decode cX6_later 60 = .ok (.imul, 1) := by decide +kernel
theorem dX6_later_61 : decode cX6_later 61 = .ok (.iload 4, 2) := by decide +kernel
theorem dX6_later_63 : decode cX6_later 63 = .ok (.iadd, 1) := by decide +kernel
theorem dX6_later_64 : decode cX6_later 64 = .ok (.iaload, 1) := by decide +kernel
theorem dX6_later_65 : decode cX6_later 65 = .ok (.ireturn, 1) := by decide +kernel
theorem dX6_layBytes_0 : decode cX6_layBytes 0 = .ok (.bipush 24, 2) := by decide +kernel
theorem dX6_layBytes_2 : decode cX6_layBytes 2 = .ok (.istore_n 2, 1) := by decide +kernel
theorem dX6_layBytes_3 : decode cX6_layBytes 3 = .ok (.iload_n 2, 1) := by decide +kernel
theorem dX6_layBytes_4 : decode cX6_layBytes 4 = .ok (.ifCond .lt 32, 3) := by decide +kernel
theorem dX6_layBytes_7 : decode cX6_layBytes 7 = .ok (.aload_n 0, 1) := by decide +kernel
theorem dX6_layBytes_8 : decode cX6_layBytes 8 = .ok (.getfield 9, 3) := by decide +kernel
theorem dX6_layBytes_11 : decode cX6_layBytes 11 = .ok (.aload_n 0, 1) := by decide +kernel
theorem dX6_layBytes_12 : decode cX6_layBytes 12 = .ok (.getfield 68, 3) := by decide +kernel
theorem dX6_layBytes_15 : decode cX6_layBytes 15 = .ok (.iload_n 1, 1) := by decide +kernel
theorem dX6_layBytes_16 : decode cX6_layBytes 16 = .ok (.iload_n 2, 1) := by decide +kernel
theorem dX6_layBytes_17 : decode cX6_layBytes 17 = .ok (.ishr, 1) := by decide +kernel
theorem dX6_layBytes_18 : decode cX6_layBytes 18 = .ok (.i2b, 1) := by decide +kernel
theorem dX6_layBytes_19 : decode cX6_layBytes 19 = .ok (.bastore, 1) := by decide +kernel
theorem dX6_layBytes_20 : decode cX6_layBytes 20 = .ok (.aload_n 0, 1) := by decide +kernel
theorem dX6_layBytes_21 : decode cX6_layBytes 21 = .ok (.dup, 1) := by decide +kernel
theorem dX6_layBytes_22 : decode cX6_layBytes 22 = .ok (.getfield 68, 3) := by decide +kernel
theorem dX6_layBytes_25 : decode cX6_layBytes 25 = .ok (.iconst 1, 1) := by decide +kernel
theorem dX6_layBytes_26 : decode cX6_layBytes 26 = .ok (.iadd, 1) := by decide +kernel
theorem dX6_layBytes_27 : decode cX6_layBytes 27 = .ok (.putfield 68, 3) := by decide +kernel
theorem dX6_layBytes_30 : decode cX6_layBytes 30 = .ok (.iinc 2 (-8), 3) := by decide +kernel
theorem dX6_layBytes_33 : decode cX6_layBytes 33 = .ok (.goto (-30), 3) := by decide +kernel
theorem dX6_layBytes_36 : decode cX6_layBytes 36 = .ok (.return_, 1) := by decide +kernel
theorem dX6_layout_0 : decode cX6_layout 0 = .ok (.iload_n 0, 1) := by decide +kernel
theorem dX6_layout_1 : decode cX6_layout 1 = .ok (.iconst 2, 1) := by decide +kernel
theorem dX6_layout_2 : decode cX6_layout 2 = .ok (.imul, 1) := by decide +kernel
theorem dX6_layout_3 : decode cX6_layout 3 = .ok (.iload_n 1, 1) := by decide +kernel
theorem dX6_layout_4 : decode cX6_layout 4 = .ok (.iadd, 1) := by decide +kernel
theorem dX6_layout_5 : decode cX6_layout 5 = .ok (.iconst 4, 1) := by decide +kernel
theorem dX6_layout_6 : decode cX6_layout 6 = .ok (.imul, 1) := by decide +kernel
theorem dX6_layout_7 : decode cX6_layout 7 = .ok (.iload_n 2, 1) := by decide +kernel
theorem dX6_layout_8 : decode cX6_layout 8 = .ok (.iadd, 1) := by decide +kernel
theorem dX6_layout_9 : decode cX6_layout 9 = .ok (.ireturn, 1) := by decide +kernel
theorem dX6_likely_0 : decode cX6_likely 0 = .ok (.aload_n 0, 1) := by decide +kernel
theorem dX6_likely_1 : decode cX6_likely 1 = .ok (.getfield 87, 3) := by decide +kernel
theorem dX6_likely_4 : decode cX6_likely 4 = .ok (.ifCond .eq 29, 3) := by decide +kernel
theorem dX6_likely_7 : decode cX6_likely 7 = .ok (.iload_n 1, 1) := by decide +kernel
theorem dX6_likely_8 : decode cX6_likely 8 = .ok (.ifCond .lt 25, 3) := by decide +kernel
theorem dX6_likely_11 : decode cX6_likely 11 = .ok (.iload_n 1, 1) := by decide +kernel
theorem dX6_likely_12 : decode cX6_likely 12 = .ok (.bipush 64, 2) := by decide +kernel
theorem dX6_likely_14 : decode cX6_likely 14 = .ok (.if_icmp .ge 19, 3) := by decide +kernel
theorem dX6_likely_17 : decode cX6_likely 17 = .ok (.iload_n 2, 1) := by decide +kernel
theorem dX6_likely_18 : decode cX6_likely 18 = .ok (.ifCond .lt 15, 3) := by decide +kernel
theorem dX6_likely_21 : decode cX6_likely 21 = .ok (.iload_n 2, 1) := by decide +kernel
theorem dX6_likely_22 : decode cX6_likely 22 = .ok (.sipush 400, 3) := by decide +kernel
theorem dX6_likely_25 : decode cX6_likely 25 = .ok (.if_icmp .gt 8, 3) := by decide +kernel
theorem dX6_likely_28 : decode cX6_likely 28 = .ok (.iload_n 3, 1) := by decide +kernel
theorem dX6_likely_29 : decode cX6_likely 29 = .ok (.iconst (-1), 1) := by decide +kernel
theorem dX6_likely_30 : decode cX6_likely 30 = .ok (.if_icmp .ge 5, 3) := by decide +kernel
theorem dX6_likely_33 : decode cX6_likely 33 = .ok (.iconst (-1), 1) := by decide +kernel
theorem dX6_likely_34 : decode cX6_likely 34 = .ok (.ireturn, 1) := by decide +kernel
theorem dX6_likely_35 : decode cX6_likely 35 = .ok (.aload_n 0, 1) := by decide +kernel
theorem dX6_likely_36 : decode cX6_likely 36 = .ok (.getfield 51, 3) := by decide +kernel
theorem dX6_likely_39 : decode cX6_likely 39 = .ok (.aload_n 0, 1) := by decide +kernel
theorem dX6_likely_40 : decode cX6_likely 40 = .ok (.getfield 33, 3) := by decide +kernel
theorem dX6_likely_43 : decode cX6_likely 43 = .ok (.getfield 144, 3) := by decide +kernel
theorem dX6_likely_46 : decode cX6_likely 46 = .ok (.aload_n 0, 1) := by decide +kernel
theorem dX6_likely_47 : decode cX6_likely 47 = .ok (.getfield 33, 3) := by decide +kernel
theorem dX6_likely_50 : decode cX6_likely 50 = .ok (.getfield 145, 3) := by decide +kernel
theorem dX6_likely_53 : decode cX6_likely 53 = .ok (.aload_n 0, 1) := by decide +kernel
theorem dX6_likely_54 : decode cX6_likely 54 = .ok (.getfield 33, 3) := by decide +kernel
theorem dX6_likely_57 : decode cX6_likely 57 = .ok (.getfield 146, 3) := by decide +kernel
theorem dX6_likely_60 : decode cX6_likely 60 = .ok (.invokevirtual 261, 3) := by decide +kernel
theorem dX6_likely_63 : decode cX6_likely 63 = .ok (.aload_n 0, 1) := by decide +kernel
theorem dX6_likely_64 : decode cX6_likely 64 = .ok (.getfield 51, 3) := by decide +kernel
theorem dX6_likely_67 : decode cX6_likely 67 = .ok (.iload_n 1, 1) := by decide +kernel
theorem dX6_likely_68 : decode cX6_likely 68 = .ok (.invokevirtual 274, 3) := by decide +kernel
theorem dX6_likely_71 : decode cX6_likely 71 = .ok (.iconst 0, 1) := by decide +kernel
theorem dX6_likely_72 : decode cX6_likely 72 = .ok (.istore 4, 2) := by decide +kernel
theorem dX6_likely_74 : decode cX6_likely 74 = .ok (.iconst 0, 1) := by decide +kernel
theorem dX6_likely_75 : decode cX6_likely 75 = .ok (.istore 5, 2) := by decide +kernel
theorem dX6_likely_77 : decode cX6_likely 77 = .ok (.iload 5, 2) := by decide +kernel
theorem dX6_likely_79 : decode cX6_likely 79 = .ok (.bipush 16, 2) := by decide +kernel
theorem dX6_likely_81 : decode cX6_likely 81 = .ok (.if_icmp .ge 35, 3) := by decide +kernel
theorem dX6_likely_84 : decode cX6_likely 84 = .ok (.aload_n 0, 1) := by decide +kernel
theorem dX6_likely_85 : decode cX6_likely 85 = .ok (.getfield 51, 3) := by decide +kernel
theorem dX6_likely_88 : decode cX6_likely 88 = .ok (.iload_n 1, 1) := by decide +kernel
theorem dX6_likely_89 : decode cX6_likely 89 = .ok (.iload 5, 2) := by decide +kernel
theorem dX6_likely_91 : decode cX6_likely 91 = .ok (.invokevirtual 277, 3) := by decide +kernel
theorem dX6_likely_94 : decode cX6_likely 94 = .ok (.iload_n 2, 1) := by decide +kernel
theorem dX6_likely_95 : decode cX6_likely 95 = .ok (.if_icmp .ne 15, 3) := by decide +kernel
theorem dX6_likely_98 : decode cX6_likely 98 = .ok (.iload 4, 2) := by decide +kernel
theorem dX6_likely_100 : decode cX6_likely 100 = .ok (.iload_n 3, 1) := by decide +kernel
theorem dX6_likely_101 : decode cX6_likely 101 = .ok (.if_icmp .ne 6, 3) := by decide +kernel
theorem dX6_likely_104 : decode cX6_likely 104 = .ok (.iload 5, 2) := by decide +kernel
theorem dX6_likely_106 : decode cX6_likely 106 = .ok (.ireturn, 1) := by decide +kernel
theorem dX6_likely_107 : decode cX6_likely 107 = .ok (.iinc 4 1, 3) := by decide +kernel
theorem dX6_likely_110 : decode cX6_likely 110 = .ok (.iinc 5 1, 3) := by decide +kernel
theorem dX6_likely_113 : decode cX6_likely 113 = .ok (.goto (-36), 3) := by decide +kernel
theorem dX6_likely_116 : decode cX6_likely 116 = .ok (.iload_n 3, 1) := by decide +kernel
theorem dX6_likely_117 : decode cX6_likely 117 = .ok (.iconst (-1), 1) := by decide +kernel
theorem dX6_likely_118 : decode cX6_likely 118 = .ok (.if_icmp .ne 8, 3) := by decide +kernel
theorem dX6_likely_121 : decode cX6_likely 121 = .ok (.iload 4, 2) := by decide +kernel
theorem dX6_likely_123 : decode cX6_likely 123 = .ok (.goto 4, 3) := by decide +kernel
theorem dX6_likely_126 : decode cX6_likely 126 = .ok (.iconst (-1), 1) := by decide +kernel
theorem dX6_likely_127 : decode cX6_likely 127 = .ok (.ireturn, 1) := by decide +kernel
theorem dX6_line_0 : decode cX6_line 0 = .ok (.aload_n 0, 1) := by decide +kernel
theorem dX6_line_1 : decode cX6_line 1 = .ok (.getfield 87, 3) := by decide +kernel
theorem dX6_line_4 : decode cX6_line 4 = .ok (.ifCond .eq 28, 3) := by decide +kernel
theorem dX6_line_7 : decode cX6_line 7 = .ok (.iload_n 1, 1) := by decide +kernel
theorem dX6_line_8 : decode cX6_line 8 = .ok (.ifCond .lt 24, 3) := by decide +kernel
theorem dX6_line_11 : decode cX6_line 11 = .ok (.iload_n 1, 1) := by decide +kernel
theorem dX6_line_12 : decode cX6_line 12 = .ok (.aload_n 0, 1) := by decide +kernel
theorem dX6_line_13 : decode cX6_line 13 = .ok (.getfield 23, 3) := by decide +kernel
theorem dX6_line_16 : decode cX6_line 16 = .ok (.getfield 107, 3) := by decide +kernel
theorem dX6_line_19 : decode cX6_line 19 = .ok (.if_icmp .ge 13, 3) := by decide +kernel
theorem dX6_line_22 : decode cX6_line 22 = .ok (.iload_n 2, 1) := by decide +kernel
theorem dX6_line_23 : decode cX6_line 23 = .ok (.ifCond .lt 9, 3) := by decide +kernel
theorem dX6_line_26 : decode cX6_line 26 = .ok (.iload_n 2, 1) := by decide +kernel
theorem dX6_line_27 : decode cX6_line 27 = .ok (.bipush 7, 2) := by decide +kernel
theorem dX6_line_29 : decode cX6_line 29 = .ok (.if_icmp .lt 6, 3) := by decide +kernel
theorem dX6_line_32 : decode cX6_line 32 = .ok (.ldc 155, 2) := by decide +kernel
theorem dX6_line_34 : decode cX6_line 34 = .ok (.ireturn, 1) := by decide +kernel
theorem dX6_line_35 : decode cX6_line 35 = .ok (.aload_n 0, 1) := by decide +kernel
theorem dX6_line_36 : decode cX6_line 36 = .ok (.getfield 23, 3) := by decide +kernel
theorem dX6_line_39 : decode cX6_line 39 = .ok (.getfield 156, 3) := by decide +kernel
theorem dX6_line_42 : decode cX6_line 42 = .ok (.iload_n 1, 1) := by decide +kernel
theorem dX6_line_43 : decode cX6_line 43 = .ok (.aaload, 1) := by decide +kernel
theorem dX6_line_44 : decode cX6_line 44 = .ok (.iload_n 2, 1) := by decide +kernel
theorem dX6_line_45 : decode cX6_line 45 = .ok (.iaload, 1) := by decide +kernel
theorem dX6_line_46 : decode cX6_line 46 = .ok (.ireturn, 1) := by decide +kernel
theorem dX6_next_0 : decode cX6_next 0 = .ok (.aload_n 0, 1) := by decide +kernel
theorem dX6_next_1 : decode cX6_next 1 = .ok (.getfield 87, 3) := by decide +kernel
theorem dX6_next_4 : decode cX6_next 4 = .ok (.ifCond .eq 30, 3) := by decide +kernel
theorem dX6_next_7 : decode cX6_next 7 = .ok (.aload_n 0, 1) := by decide +kernel
theorem dX6_next_8 : decode cX6_next 8 = .ok (.getfield 33, 3) := by decide +kernel
theorem dX6_next_11 : decode cX6_next 11 = .ok (.getfield 119, 3) := by decide +kernel
theorem dX6_next_14 : decode cX6_next 14 = .ok (.sipush 9999, 3) := by decide +kernel
theorem dX6_next_17 : decode cX6_next 17 = .ok (.if_icmp .ge 17, 3) := by decide +kernel
theorem dX6_next_20 : decode cX6_next 20 = .ok (.aload_n 0, 1) := by decide +kernel
theorem dX6_next_21 : decode cX6_next 21 = .ok (.getfield 44, 3) := by decide +kernel
theorem dX6_next_24 : decode cX6_next 24 = .ok (.aload_n 0, 1) := by decide +kernel
theorem dX6_next_25 : decode cX6_next 25 = .ok (.getfield 33, 3) := by decide +kernel
theorem dX6_next_28 : decode cX6_next 28 = .ok (.invokevirtual 223, 3) := by decide +kernel
theorem dX6_next_31 : decode cX6_next 31 = .ok (.ifCond .ne 5, 3) := by decide +kernel
theorem dX6_next_34 : decode cX6_next 34 = .ok (.iconst (-1), 1) := by decide +kernel
theorem dX6_next_35 : decode cX6_next 35 = .ok (.ireturn, 1) := by decide +kernel
theorem dX6_next_36 : decode cX6_next 36 = .ok (.iload_n 1, 1) := by decide +kernel
theorem dX6_next_37 : decode cX6_next 37 = .ok (.tableswitch 63 0 3 #[31, 39, 47, 55], 31) := by decide +kernel
theorem dX6_next_68 : decode cX6_next 68 = .ok (.aload_n 0, 1) := by decide +kernel
theorem dX6_next_69 : decode cX6_next 69 = .ok (.getfield 44, 3) := by decide +kernel
theorem dX6_next_72 : decode cX6_next 72 = .ok (.getfield 227, 3) := by decide +kernel
theorem dX6_next_75 : decode cX6_next 75 = .ok (.ireturn, 1) := by decide +kernel
theorem dX6_next_76 : decode cX6_next 76 = .ok (.aload_n 0, 1) := by decide +kernel
theorem dX6_next_77 : decode cX6_next 77 = .ok (.getfield 44, 3) := by decide +kernel
theorem dX6_next_80 : decode cX6_next 80 = .ok (.getfield 230, 3) := by decide +kernel
theorem dX6_next_83 : decode cX6_next 83 = .ok (.ireturn, 1) := by decide +kernel
theorem dX6_next_84 : decode cX6_next 84 = .ok (.aload_n 0, 1) := by decide +kernel
theorem dX6_next_85 : decode cX6_next 85 = .ok (.getfield 44, 3) := by decide +kernel
theorem dX6_next_88 : decode cX6_next 88 = .ok (.getfield 233, 3) := by decide +kernel
theorem dX6_next_91 : decode cX6_next 91 = .ok (.ireturn, 1) := by decide +kernel
theorem dX6_next_92 : decode cX6_next 92 = .ok (.aload_n 0, 1) := by decide +kernel
theorem dX6_next_93 : decode cX6_next 93 = .ok (.getfield 44, 3) := by decide +kernel
theorem dX6_next_96 : decode cX6_next 96 = .ok (.getfield 236, 3) := by decide +kernel
theorem dX6_next_99 : decode cX6_next 99 = .ok (.ireturn, 1) := by decide +kernel
theorem dX6_next_100 : decode cX6_next 100 = .ok (.iconst (-1), 1) := by decide +kernel
theorem dX6_next_101 : decode cX6_next 101 = .ok (.ireturn, 1) := by decide +kernel
theorem dX6_part_0 : decode cX6_part 0 = .ok (.aload_n 0, 1) := by decide +kernel
theorem dX6_part_1 : decode cX6_part 1 = .ok (.iload_n 1, 1) := by decide +kernel
theorem dX6_part_2 : decode cX6_part 2 = .ok (.invokevirtual 181, 3) := by decide +kernel
theorem dX6_part_5 : decode cX6_part 5 = .ok (.ifCond .eq 23, 3) := by decide +kernel
theorem dX6_part_8 : decode cX6_part 8 = .ok (.iload_n 2, 1) := by decide +kernel
theorem dX6_part_9 : decode cX6_part 9 = .ok (.ifCond .lt 19, 3) := by decide +kernel
theorem dX6_part_12 : decode cX6_part 12 = .ok (.iload_n 2, 1) := by decide +kernel
theorem dX6_part_13 : decode cX6_part 13 = .ok (.aload_n 0, 1) := by decide +kernel
theorem dX6_part_14 : decode cX6_part 14 = .ok (.getfield 33, 3) := by decide +kernel
theorem dX6_part_17 : decode cX6_part 17 = .ok (.getfield 164, 3) := by decide +kernel
theorem dX6_part_20 : decode cX6_part 20 = .ok (.iload_n 1, 1) := by decide +kernel
theorem dX6_part_21 : decode cX6_part 21 = .ok (.aaload, 1) := by decide +kernel
theorem dX6_part_22 : decode cX6_part 22 = .ok (.getfield 188, 3) := by decide +kernel
theorem dX6_part_25 : decode cX6_part 25 = .ok (.if_icmp .lt 5, 3) := by decide +kernel
theorem dX6_part_28 : decode cX6_part 28 = .ok (.iconst (-1), 1) := by decide +kernel
theorem dX6_part_29 : decode cX6_part 29 = .ok (.ireturn, 1) := by decide +kernel
theorem dX6_part_30 : decode cX6_part 30 = .ok (.aload_n 0, 1) := by decide +kernel
theorem dX6_part_31 : decode cX6_part 31 = .ok (.getfield 33, 3) := by decide +kernel
theorem dX6_part_34 : decode cX6_part 34 = .ok (.getfield 164, 3) := by decide +kernel
theorem dX6_part_37 : decode cX6_part 37 = .ok (.iload_n 1, 1) := by decide +kernel
theorem dX6_part_38 : decode cX6_part 38 = .ok (.aaload, 1) := by decide +kernel
theorem dX6_part_39 : decode cX6_part 39 = .ok (.astore 4, 2) := by decide +kernel
theorem dX6_part_41 : decode cX6_part 41 = .ok (.iload_n 3, 1) := by decide +kernel
theorem dX6_part_42 : decode cX6_part 42 = .ok (.tableswitch 50 0 2 #[26, 34, 42], 26) := by decide +kernel
theorem dX6_part_68 : decode cX6_part 68 = .ok (.aload 4, 2) := by decide +kernel
theorem dX6_part_70 : decode cX6_part 70 = .ok (.getfield 198, 3) := by decide +kernel
theorem dX6_part_73 : decode cX6_part 73 = .ok (.iload_n 2, 1) := by decide +kernel
theorem dX6_part_74 : decode cX6_part 74 = .ok (.iaload, 1) := by decide +kernel
theorem dX6_part_75 : decode cX6_part 75 = .ok (.ireturn, 1) := by decide +kernel
theorem dX6_part_76 : decode cX6_part 76 = .ok (.aload 4, 2) := by decide +kernel
theorem dX6_part_78 : decode cX6_part 78 = .ok (.getfield 201, 3) := by decide +kernel
theorem dX6_part_81 : decode cX6_part 81 = .ok (.iload_n 2, 1) := by decide +kernel
theorem dX6_part_82 : decode cX6_part 82 = .ok (.iaload, 1) := by decide +kernel
theorem dX6_part_83 : decode cX6_part 83 = .ok (.ireturn, 1) := by decide +kernel
theorem dX6_part_84 : decode cX6_part 84 = .ok (.aload 4, 2) := by decide +kernel
theorem dX6_part_86 : decode cX6_part 86 = .ok (.getfield 204, 3) := by decide +kernel
theorem dX6_part_89 : decode cX6_part 89 = .ok (.iload_n 2, 1) := by decide +kernel
theorem dX6_part_90 : decode cX6_part 90 = .ok (.iaload, 1) := by decide +kernel
theorem dX6_part_91 : decode cX6_part 91 = .ok (.ireturn, 1) := by decide +kernel
theorem dX6_part_92 : decode cX6_part 92 = .ok (.iconst (-1), 1) := by decide +kernel
theorem dX6_part_93 : decode cX6_part 93 = .ok (.ireturn, 1) := by decide +kernel
theorem dX6_poke_0 : decode cX6_poke 0 = .ok (.aload_n 0, 1) := by decide +kernel
theorem dX6_poke_1 : decode cX6_poke 1 = .ok (.iload_n 1, 1) := by decide +kernel
theorem dX6_poke_2 : decode cX6_poke 2 = .ok (.iload_n 2, 1) := by decide +kernel
theorem dX6_poke_3 : decode cX6_poke 3 = .ok (.invokevirtual 207, 3) := by decide +kernel
theorem dX6_poke_6 : decode cX6_poke 6 = .ok (.ifCond .eq 17, 3) := by decide +kernel
theorem dX6_poke_9 : decode cX6_poke 9 = .ok (.iload_n 3, 1) := by decide +kernel
theorem dX6_poke_10 : decode cX6_poke 10 = .ok (.sipush (-9999), 3) := by decide +kernel
theorem dX6_poke_13 : decode cX6_poke 13 = .ok (.if_icmp .lt 10, 3) := by decide +kernel
theorem dX6_poke_16 : decode cX6_poke 16 = .ok (.iload_n 3, 1) := by decide +kernel
theorem dX6_poke_17 : decode cX6_poke 17 = .ok (.sipush 9999, 3) := by decide +kernel
theorem dX6_poke_20 : decode cX6_poke 20 = .ok (.if_icmp .le 12, 3) := by decide +kernel
theorem dX6_poke_23 : decode cX6_poke 23 = .ok (.aload_n 0, 1) := by decide +kernel
theorem dX6_poke_24 : decode cX6_poke 24 = .ok (.iconst 3, 1) := by decide +kernel
theorem dX6_poke_25 : decode cX6_poke 25 = .ok (.invokevirtual 72, 3) := by decide +kernel
theorem dX6_poke_28 : decode cX6_poke 28 = .ok (.pop, 1) := by decide +kernel
theorem dX6_poke_29 : decode cX6_poke 29 = .ok (.ldc 155, 2) := by decide +kernel
theorem dX6_poke_31 : decode cX6_poke 31 = .ok (.ireturn, 1) := by decide +kernel
theorem dX6_poke_32 : decode cX6_poke 32 = .ok (.aload_n 0, 1) := by decide +kernel
theorem dX6_poke_33 : decode cX6_poke 33 = .ok (.invokevirtual 283, 3) := by decide +kernel
theorem dX6_poke_36 : decode cX6_poke 36 = .ok (.iload_n 1, 1) := by decide +kernel
theorem dX6_poke_37 : decode cX6_poke 37 = .ok (.ifCond .eq 13, 3) := by decide +kernel
theorem dX6_poke_40 : decode cX6_poke 40 = .ok (.aload_n 0, 1) := by decide +kernel
theorem dX6_poke_41 : decode cX6_poke 41 = .ok (.getfield 33, 3) := by decide +kernel
theorem dX6_poke_44 : decode cX6_poke 44 = .ok (.getfield 211, 3) := by decide +kernel
theorem dX6_poke_47 : decode cX6_poke 47 = .ok (.goto 10, 3) := by decide +kernel
theorem dX6_poke_50 : decode cX6_poke 50 = .ok (.aload_n 0, 1) := by decide +kernel
theorem dX6_poke_51 : decode cX6_poke 51 = .ok (.getfield 33, 3) := by decide +kernel
theorem dX6_poke_54 : decode cX6_poke 54 = .ok (.getfield 214, 3) := by decide +kernel
theorem dX6_poke_57 : decode cX6_poke 57 = .ok (.astore 4, 2) := by decide +kernel
theorem dX6_poke_59 : decode cX6_poke 59 = .ok (.aload 4, 2) := by decide +kernel
theorem dX6_poke_61 : decode cX6_poke 61 = .ok (.iload_n 2, 1) := by decide +kernel
theorem dX6_poke_62 : decode cX6_poke 62 = .ok (.iaload, 1) := by decide +kernel
theorem dX6_poke_63 : decode cX6_poke 63 = .ok (.istore 5, 2) := by decide +kernel
theorem dX6_poke_65 : decode cX6_poke 65 = .ok (.aload 4, 2) := by decide +kernel
theorem dX6_poke_67 : decode cX6_poke 67 = .ok (.iload_n 2, 1) := by decide +kernel
theorem dX6_poke_68 : decode cX6_poke 68 = .ok (.iload_n 3, 1) := by decide +kernel
theorem dX6_poke_69 : decode cX6_poke 69 = .ok (.iastore, 1) := by decide +kernel
theorem dX6_poke_70 : decode cX6_poke 70 = .ok (.iload 5, 2) := by decide +kernel
theorem dX6_poke_72 : decode cX6_poke 72 = .ok (.ireturn, 1) := by decide +kernel
theorem dX6_program_0 : decode cX6_program 0 = .ok (.aload_n 0, 1) := by decide +kernel
theorem dX6_program_1 : decode cX6_program 1 = .ok (.getfield 16, 3) := by decide +kernel
theorem dX6_program_4 : decode cX6_program 4 = .ok (.aload_n 0, 1) := by decide +kernel
theorem dX6_program_5 : decode cX6_program 5 = .ok (.getfield 9, 3) := by decide +kernel
theorem dX6_program_8 : decode cX6_program 8 = .ok (.aload_n 0, 1) := by decide +kernel
theorem dX6_program_9 : decode cX6_program 9 = .ok (.getfield 68, 3) := by decide +kernel
theorem dX6_program_12 : decode cX6_program 12 = .ok (.aload_n 0, 1) := by decide +kernel
theorem dX6_program_13 : decode cX6_program 13 = .ok (.getfield 27, 3) := by decide +kernel
theorem dX6_program_16 : decode cX6_program 16 = .ok (.invokevirtual 80, 3) := by decide +kernel
theorem dX6_program_19 : decode cX6_program 19 = .ok (.istore_n 1, 1) := by decide +kernel
theorem dX6_program_20 : decode cX6_program 20 = .ok (.aload_n 0, 1) := by decide +kernel
theorem dX6_program_21 : decode cX6_program 21 = .ok (.iconst 0, 1) := by decide +kernel
theorem dX6_program_22 : decode cX6_program 22 = .ok (.putfield 68, 3) := by decide +kernel
theorem dX6_program_25 : decode cX6_program 25 = .ok (.iload_n 1, 1) := by decide +kernel
theorem dX6_program_26 : decode cX6_program 26 = .ok (.ifCond .ne 9, 3) := by decide +kernel
theorem dX6_program_29 : decode cX6_program 29 = .ok (.aload_n 0, 1) := by decide +kernel
theorem dX6_program_30 : decode cX6_program 30 = .ok (.iconst 1, 1) := by decide +kernel
theorem dX6_program_31 : decode cX6_program 31 = .ok (.invokevirtual 72, 3) := by decide +kernel
theorem dX6_program_34 : decode cX6_program 34 = .ok (.ireturn, 1) := by decide +kernel
theorem dX6_program_35 : decode cX6_program 35 = .ok (.aload_n 0, 1) := by decide +kernel
theorem dX6_program_36 : decode cX6_program 36 = .ok (.getfield 27, 3) := by decide +kernel
theorem dX6_program_39 : decode cX6_program 39 = .ok (.invokevirtual 84, 3) := by decide +kernel
theorem dX6_program_42 : decode cX6_program 42 = .ok (.aload_n 0, 1) := by decide +kernel
theorem dX6_program_43 : decode cX6_program 43 = .ok (.getfield 23, 3) := by decide +kernel
theorem dX6_program_46 : decode cX6_program 46 = .ok (.astore_n 2, 1) := by decide +kernel
theorem dX6_program_47 : decode cX6_program 47 = .ok (.aload_n 0, 1) := by decide +kernel
theorem dX6_program_48 : decode cX6_program 48 = .ok (.aload_n 0, 1) := by decide +kernel
theorem dX6_program_49 : decode cX6_program 49 = .ok (.getfield 27, 3) := by decide +kernel
theorem dX6_program_52 : decode cX6_program 52 = .ok (.putfield 23, 3) := by decide +kernel
theorem dX6_program_55 : decode cX6_program 55 = .ok (.aload_n 0, 1) := by decide +kernel
theorem dX6_program_56 : decode cX6_program 56 = .ok (.aload_n 2, 1) := by decide +kernel
theorem dX6_program_57 : decode cX6_program 57 = .ok (.putfield 27, 3) := by decide +kernel
theorem dX6_program_60 : decode cX6_program 60 = .ok (.aload_n 0, 1) := by decide +kernel
theorem dX6_program_61 : decode cX6_program 61 = .ok (.iconst 1, 1) := by decide +kernel
theorem dX6_program_62 : decode cX6_program 62 = .ok (.putfield 87, 3) := by decide +kernel
theorem dX6_program_65 : decode cX6_program 65 = .ok (.aload_n 0, 1) := by decide +kernel
theorem dX6_program_66 : decode cX6_program 66 = .ok (.getfield 44, 3) := by decide +kernel
theorem dX6_program_69 : decode cX6_program 69 = .ok (.aload_n 0, 1) := by decide +kernel
theorem dX6_program_70 : decode cX6_program 70 = .ok (.getfield 23, 3) := by decide +kernel
theorem dX6_program_73 : decode cX6_program 73 = .ok (.invokevirtual 63, 3) := by decide +kernel
theorem dX6_program_76 : decode cX6_program 76 = .ok (.aload_n 0, 1) := by decide +kernel
theorem dX6_program_77 : decode cX6_program 77 = .ok (.getfield 51, 3) := by decide +kernel
theorem dX6_program_80 : decode cX6_program 80 = .ok (.aload_n 0, 1) := by decide +kernel
theorem dX6_program_81 : decode cX6_program 81 = .ok (.getfield 23, 3) := by decide +kernel
theorem dX6_program_84 : decode cX6_program 84 = .ok (.invokevirtual 67, 3) := by decide +kernel
theorem dX6_program_87 : decode cX6_program 87 = .ok (.aload_n 0, 1) := by decide +kernel
theorem dX6_program_88 : decode cX6_program 88 = .ok (.getfield 33, 3) := by decide +kernel
theorem dX6_program_91 : decode cX6_program 91 = .ok (.aload_n 0, 1) := by decide +kernel
theorem dX6_program_92 : decode cX6_program 92 = .ok (.getfield 23, 3) := by decide +kernel
theorem dX6_program_95 : decode cX6_program 95 = .ok (.getfield 91, 3) := by decide +kernel
theorem dX6_program_98 : decode cX6_program 98 = .ok (.aload_n 0, 1) := by decide +kernel
theorem dX6_program_99 : decode cX6_program 99 = .ok (.getfield 23, 3) := by decide +kernel
theorem dX6_program_102 : decode cX6_program 102 = .ok (.getfield 94, 3) := by decide +kernel
theorem dX6_program_105 : decode cX6_program 105 = .ok (.iconst 0, 1) := by decide +kernel
theorem dX6_program_106 : decode cX6_program 106 = .ok (.invokevirtual 97, 3) := by decide +kernel
theorem dX6_program_109 : decode cX6_program 109 = .ok (.aload_n 0, 1) := by decide +kernel
theorem dX6_program_110 : decode cX6_program 110 = .ok (.getfield 33, 3) := by decide +kernel
theorem dX6_program_113 : decode cX6_program 113 = .ok (.aload_n 0, 1) := by decide +kernel
theorem dX6_program_114 : decode cX6_program 114 = .ok (.getfield 23, 3) := by decide +kernel
theorem dX6_program_117 : decode cX6_program 117 = .ok (.invokevirtual 101, 3) := by decide +kernel
theorem dX6_program_120 : decode cX6_program 120 = .ok (.aload_n 0, 1) := by decide +kernel
theorem dX6_program_121 : decode cX6_program 121 = .ok (.iconst 0, 1) := by decide +kernel
theorem dX6_program_122 : decode cX6_program 122 = .ok (.putfield 104, 3) := by decide +kernel
theorem dX6_program_125 : decode cX6_program 125 = .ok (.aload_n 0, 1) := by decide +kernel
theorem dX6_program_126 : decode cX6_program 126 = .ok (.getfield 23, 3) := by decide +kernel
theorem dX6_program_129 : decode cX6_program 129 = .ok (.getfield 107, 3) := by decide +kernel
theorem dX6_program_132 : decode cX6_program 132 = .ok (.ireturn, 1) := by decide +kernel
theorem dX6_raced_0 : decode cX6_raced 0 = .ok (.aload_n 0, 1) := by decide +kernel
theorem dX6_raced_1 : decode cX6_raced 1 = .ok (.iload_n 1, 1) := by decide +kernel
theorem dX6_raced_2 : decode cX6_raced 2 = .ok (.iload_n 2, 1) := by decide +kernel
theorem dX6_raced_3 : decode cX6_raced 3 = .ok (.invokevirtual 207, 3) := by decide +kernel
theorem dX6_raced_6 : decode cX6_raced 6 = .ok (.ifCond .ne 5, 3) := by decide +kernel
theorem dX6_raced_9 : decode cX6_raced 9 = .ok (.iconst (-1), 1) := by decide +kernel
theorem dX6_raced_10 : decode cX6_raced 10 = .ok (.ireturn, 1) := by decide +kernel
theorem dX6_raced_11 : decode cX6_raced 11 = .ok (.aload_n 0, 1) := by decide +kernel
theorem dX6_raced_12 : decode cX6_raced 12 = .ok (.getfield 33, 3) := by decide +kernel
theorem dX6_raced_15 : decode cX6_raced 15 = .ok (.getfield 217, 3) := by decide +kernel
theorem dX6_raced_18 : decode cX6_raced 18 = .ok (.iload_n 1, 1) := by decide +kernel
theorem dX6_raced_19 : decode cX6_raced 19 = .ok (.ifCond .eq 10, 3) := by decide +kernel
theorem dX6_raced_22 : decode cX6_raced 22 = .ok (.bipush 64, 2) := by decide +kernel
theorem dX6_raced_24 : decode cX6_raced 24 = .ok (.iload_n 2, 1) := by decide +kernel
theorem dX6_raced_25 : decode cX6_raced 25 = .ok (.iadd, 1) := by decide +kernel
theorem dX6_raced_26 : decode cX6_raced 26 = .ok (.goto 4, 3) := by decide +kernel
theorem dX6_raced_29 : decode cX6_raced 29 = .ok (.iload_n 2, 1) := by decide +kernel
theorem dX6_raced_30 : decode cX6_raced 30 = .ok (.iaload, 1) := by decide +kernel
theorem dX6_raced_31 : decode cX6_raced 31 = .ok (.ireturn, 1) := by decide +kernel
theorem dX6_refuse_0 : decode cX6_refuse 0 = .ok (.aload_n 0, 1) := by decide +kernel
theorem dX6_refuse_1 : decode cX6_refuse 1 = .ok (.getfield 55, 3) := by decide +kernel
theorem dX6_refuse_4 : decode cX6_refuse 4 = .ok (.iload_n 1, 1) := by decide +kernel
theorem dX6_refuse_5 : decode cX6_refuse 5 = .ok (.dup2, 1) := by decide +kernel
theorem dX6_refuse_6 : decode cX6_refuse 6 = .ok (.iaload, 1) := by decide +kernel
theorem dX6_refuse_7 : decode cX6_refuse 7 = .ok (.iconst 1, 1) := by decide +kernel
theorem dX6_refuse_8 : decode cX6_refuse 8 = .ok (.iadd, 1) := by decide +kernel
theorem dX6_refuse_9 : decode cX6_refuse 9 = .ok (.iastore, 1) := by decide +kernel
theorem dX6_refuse_10 : decode cX6_refuse 10 = .ok (.iconst (-1), 1) := by decide +kernel
theorem dX6_refuse_11 : decode cX6_refuse 11 = .ok (.ireturn, 1) := by decide +kernel
theorem dX6_run_0 : decode cX6_run 0 = .ok (.iconst 0, 1) := by decide +kernel
theorem dX6_run_1 : decode cX6_run 1 = .ok (.istore_n 2, 1) := by decide +kernel
theorem dX6_run_2 : decode cX6_run 2 = .ok (.iconst 0, 1) := by decide +kernel
theorem dX6_run_3 : decode cX6_run 3 = .ok (.istore_n 3, 1) := by decide +kernel
theorem dX6_run_4 : decode cX6_run 4 = .ok (.iload_n 3, 1) := by decide +kernel
theorem dX6_run_5 : decode cX6_run 5 = .ok (.iload_n 1, 1) := by decide +kernel
theorem dX6_run_6 : decode cX6_run 6 = .ok (.if_icmp .ge 26, 3) := by decide +kernel
theorem dX6_run_9 : decode cX6_run 9 = .ok (.aload_n 0, 1) := by decide +kernel
theorem dX6_run_10 : decode cX6_run 10 = .ok (.getfield 44, 3) := by decide +kernel
theorem dX6_run_13 : decode cX6_run 13 = .ok (.aload_n 0, 1) := by decide +kernel
theorem dX6_run_14 : decode cX6_run 14 = .ok (.getfield 33, 3) := by decide +kernel
theorem dX6_run_17 : decode cX6_run 17 = .ok (.invokevirtual 302, 3) := by decide +kernel
theorem dX6_run_20 : decode cX6_run 20 = .ok (.ifCond .eq 6, 3) := by decide +kernel
theorem dX6_run_23 : decode cX6_run 23 = .ok (.iinc 2 1, 3) := by decide +kernel
theorem dX6_run_26 : decode cX6_run 26 = .ok (.iinc 3 1, 3) := by decide +kernel
theorem dX6_run_29 : decode cX6_run 29 = .ok (.goto (-25), 3) := by decide +kernel
theorem dX6_run_32 : decode cX6_run 32 = .ok (.iload_n 2, 1) := by decide +kernel
theorem dX6_run_33 : decode cX6_run 33 = .ok (.ireturn, 1) := by decide +kernel
theorem dX6_seed_0 : decode cX6_seed 0 = .ok (.iload_n 1, 1) := by decide +kernel
theorem dX6_seed_1 : decode cX6_seed 1 = .ok (.ifCond .ge 11, 3) := by decide +kernel
theorem dX6_seed_4 : decode cX6_seed 4 = .ok (.aload_n 0, 1) := by decide +kernel
theorem dX6_seed_5 : decode cX6_seed 5 = .ok (.iconst 5, 1) := by decide +kernel
theorem dX6_seed_6 : decode cX6_seed 6 = .ok (.invokevirtual 72, 3) := by decide +kernel
theorem dX6_seed_9 : decode cX6_seed 9 = .ok (.pop, 1) := by decide +kernel
theorem dX6_seed_10 : decode cX6_seed 10 = .ok (.iconst 0, 1) := by decide +kernel
theorem dX6_seed_11 : decode cX6_seed 11 = .ok (.ireturn, 1) := by decide +kernel
theorem dX6_seed_12 : decode cX6_seed 12 = .ok (.aload_n 0, 1) := by decide +kernel
theorem dX6_seed_13 : decode cX6_seed 13 = .ok (.iload_n 1, 1) := by decide +kernel
theorem dX6_seed_14 : decode cX6_seed 14 = .ok (.i2l, 1) := by decide +kernel
theorem dX6_seed_15 : decode cX6_seed 15 = .ok (.putfield 59, 3) := by decide +kernel
theorem dX6_seed_18 : decode cX6_seed 18 = .ok (.iconst 1, 1) := by decide +kernel
theorem dX6_seed_19 : decode cX6_seed 19 = .ok (.ireturn, 1) := by decide +kernel
theorem dX6_set_0 : decode cX6_set 0 = .ok (.aload_n 0, 1) := by decide +kernel
theorem dX6_set_1 : decode cX6_set 1 = .ok (.getfield 87, 3) := by decide +kernel
theorem dX6_set_4 : decode cX6_set 4 = .ok (.ifCond .eq 26, 3) := by decide +kernel
theorem dX6_set_7 : decode cX6_set 7 = .ok (.iload_n 1, 1) := by decide +kernel
theorem dX6_set_8 : decode cX6_set 8 = .ok (.invokestatic 247, 3) := by decide +kernel
theorem dX6_set_11 : decode cX6_set 11 = .ok (.ifCond .eq 19, 3) := by decide +kernel
theorem dX6_set_14 : decode cX6_set 14 = .ok (.iload_n 2, 1) := by decide +kernel
theorem dX6_set_15 : decode cX6_set 15 = .ok (.invokestatic 250, 3) := by decide +kernel
theorem dX6_set_18 : decode cX6_set 18 = .ok (.ifCond .eq 12, 3) := by decide +kernel
theorem dX6_set_21 : decode cX6_set 21 = .ok (.iload_n 3, 1) := by decide +kernel
theorem dX6_set_22 : decode cX6_set 22 = .ok (.ifCond .lt 8, 3) := by decide +kernel
theorem dX6_set_25 : decode cX6_set 25 = .ok (.iload_n 3, 1) := by decide +kernel
theorem dX6_set_26 : decode cX6_set 26 = .ok (.iconst 4, 1) := by decide +kernel
theorem dX6_set_27 : decode cX6_set 27 = .ok (.if_icmp .lt 11, 3) := by decide +kernel
theorem dX6_set_30 : decode cX6_set 30 = .ok (.aload_n 0, 1) := by decide +kernel
theorem dX6_set_31 : decode cX6_set 31 = .ok (.iconst 3, 1) := by decide +kernel
theorem dX6_set_32 : decode cX6_set 32 = .ok (.invokevirtual 72, 3) := by decide +kernel
theorem dX6_set_35 : decode cX6_set 35 = .ok (.pop, 1) := by decide +kernel
theorem dX6_set_36 : decode cX6_set 36 = .ok (.iconst 0, 1) := by decide +kernel
theorem dX6_set_37 : decode cX6_set 37 = .ok (.ireturn, 1) := by decide +kernel
theorem dX6_set_38 : decode cX6_set 38 = .ok (.aload_n 0, 1) := by decide +kernel
theorem dX6_set_39 : decode cX6_set 39 = .ok (.invokevirtual 283, 3) := by decide +kernel
theorem dX6_set_42 : decode cX6_set 42 = .ok (.aload_n 0, 1) := by decide +kernel
theorem dX6_set_43 : decode cX6_set 43 = .ok (.getfield 33, 3) := by decide +kernel
theorem dX6_set_46 : decode cX6_set 46 = .ok (.iload_n 1, 1) := by decide +kernel
theorem dX6_set_47 : decode cX6_set 47 = .ok (.iload_n 2, 1) := by decide +kernel
theorem dX6_set_48 : decode cX6_set 48 = .ok (.iload_n 3, 1) := by decide +kernel
theorem dX6_set_49 : decode cX6_set 49 = .ok (.invokevirtual 97, 3) := by decide +kernel
theorem dX6_set_52 : decode cX6_set 52 = .ok (.aload_n 0, 1) := by decide +kernel
theorem dX6_set_53 : decode cX6_set 53 = .ok (.getfield 33, 3) := by decide +kernel
theorem dX6_set_56 : decode cX6_set 56 = .ok (.aload_n 0, 1) := by decide +kernel
theorem dX6_set_57 : decode cX6_set 57 = .ok (.getfield 23, 3) := by decide +kernel
theorem dX6_set_60 : decode cX6_set 60 = .ok (.invokevirtual 101, 3) := by decide +kernel
theorem dX6_set_63 : decode cX6_set 63 = .ok (.iconst 1, 1) := by decide +kernel
theorem dX6_set_64 : decode cX6_set 64 = .ok (.ireturn, 1) := by decide +kernel
theorem dX6_skew_0 : decode cX6_skew 0 = .ok (.aload_n 0, 1) := by decide +kernel
theorem dX6_skew_1 : decode cX6_skew 1 = .ok (.getfield 87, 3) := by decide +kernel
theorem dX6_skew_4 : decode cX6_skew 4 = .ok (.ifCond .eq 12, 3) := by decide +kernel
theorem dX6_skew_7 : decode cX6_skew 7 = .ok (.iload_n 1, 1) := by decide +kernel
theorem dX6_skew_8 : decode cX6_skew 8 = .ok (.ifCond .lt 8, 3) := by decide +kernel
theorem dX6_skew_11 : decode cX6_skew 11 = .ok (.iload_n 1, 1) := by decide +kernel
theorem dX6_skew_12 : decode cX6_skew 12 = .ok (.iconst 1, 1) := by decide +kernel
theorem dX6_skew_13 : decode cX6_skew 13 = .ok (.if_icmp .le 5, 3) := by decide +kernel
theorem dX6_skew_16 : decode cX6_skew 16 = .ok (.iconst (-1), 1) := by decide +kernel
theorem dX6_skew_17 : decode cX6_skew 17 = .ok (.ireturn, 1) := by decide +kernel
theorem dX6_skew_18 : decode cX6_skew 18 = .ok (.iconst (-1), 1) := by decide +kernel
theorem dX6_skew_19 : decode cX6_skew 19 = .ok (.istore_n 2, 1) := by decide +kernel
theorem dX6_skew_20 : decode cX6_skew 20 = .ok (.iconst (-1), 1) := by decide +kernel
theorem dX6_skew_21 : decode cX6_skew 21 = .ok (.istore_n 3, 1) := by decide +kernel
theorem dX6_skew_22 : decode cX6_skew 22 = .ok (.iconst 0, 1) := by decide +kernel
theorem dX6_skew_23 : decode cX6_skew 23 = .ok (.istore 4, 2) := by decide +kernel
theorem dX6_skew_25 : decode cX6_skew 25 = .ok (.iload 4, 2) := by decide +kernel
theorem dX6_skew_27 : decode cX6_skew 27 = .ok (.iconst 4, 1) := by decide +kernel
theorem dX6_skew_28 : decode cX6_skew 28 = .ok (.if_icmp .ge 113, 3) := by decide +kernel
theorem dX6_skew_31 : decode cX6_skew 31 = .ok (.aload_n 0, 1) := by decide +kernel
theorem dX6_skew_32 : decode cX6_skew 32 = .ok (.getfield 33, 3) := by decide +kernel
theorem dX6_skew_35 : decode cX6_skew 35 = .ok (.getfield 144, 3) := by decide +kernel
theorem dX6_skew_38 : decode cX6_skew 38 = .ok (.aload_n 0, 1) := by decide +kernel
theorem dX6_skew_39 : decode cX6_skew 39 = .ok (.getfield 33, 3) := by decide +kernel
theorem dX6_skew_42 : decode cX6_skew 42 = .ok (.getfield 145, 3) := by decide +kernel
theorem dX6_skew_45 : decode cX6_skew 45 = .ok (.iload 4, 2) := by decide +kernel
theorem dX6_skew_47 : decode cX6_skew 47 = .ok (.invokestatic 257, 3) := by decide +kernel
theorem dX6_skew_50 : decode cX6_skew 50 = .ok (.istore 5, 2) := by decide +kernel
theorem dX6_skew_52 : decode cX6_skew 52 = .ok (.aload_n 0, 1) := by decide +kernel
theorem dX6_skew_53 : decode cX6_skew 53 = .ok (.getfield 51, 3) := by decide +kernel
theorem dX6_skew_56 : decode cX6_skew 56 = .ok (.aload_n 0, 1) := by decide +kernel
theorem dX6_skew_57 : decode cX6_skew 57 = .ok (.getfield 33, 3) := by decide +kernel
theorem dX6_skew_60 : decode cX6_skew 60 = .ok (.getfield 144, 3) := by decide +kernel
theorem dX6_skew_63 : decode cX6_skew 63 = .ok (.aload_n 0, 1) := by decide +kernel
theorem dX6_skew_64 : decode cX6_skew 64 = .ok (.getfield 33, 3) := by decide +kernel
theorem dX6_skew_67 : decode cX6_skew 67 = .ok (.getfield 145, 3) := by decide +kernel
theorem dX6_skew_70 : decode cX6_skew 70 = .ok (.iload 4, 2) := by decide +kernel
theorem dX6_skew_72 : decode cX6_skew 72 = .ok (.invokevirtual 253, 3) := by decide +kernel
theorem dX6_skew_75 : decode cX6_skew 75 = .ok (.astore 6, 2) := by decide +kernel
theorem dX6_skew_77 : decode cX6_skew 77 = .ok (.aload_n 0, 1) := by decide +kernel
theorem dX6_skew_78 : decode cX6_skew 78 = .ok (.getfield 51, 3) := by decide +kernel
theorem dX6_skew_81 : decode cX6_skew 81 = .ok (.aload 6, 2) := by decide +kernel
theorem dX6_skew_83 : decode cX6_skew 83 = .ok (.iload 5, 2) := by decide +kernel
theorem dX6_skew_85 : decode cX6_skew 85 = .ok (.iconst 0, 1) := by decide +kernel
theorem dX6_skew_86 : decode cX6_skew 86 = .ok (.invokevirtual 239, 3) := by decide +kernel
theorem dX6_skew_89 : decode cX6_skew 89 = .ok (.ifCond .ne 7, 3) := by decide +kernel
theorem dX6_skew_92 : decode cX6_skew 92 = .ok (.iconst 1, 1) := by decide +kernel
theorem dX6_skew_93 : decode cX6_skew 93 = .ok (.goto 4, 3) := by decide +kernel
theorem dX6_skew_96 : decode cX6_skew 96 = .ok (.iconst 0, 1) := by decide +kernel
theorem dX6_skew_97 : decode cX6_skew 97 = .ok (.istore 7, 2) := by decide +kernel
theorem dX6_skew_99 : decode cX6_skew 99 = .ok (.aload_n 0, 1) := by decide +kernel
theorem dX6_skew_100 : decode cX6_skew 100 = .ok (.getfield 51, 3) := by decide +kernel
theorem dX6_skew_103 : decode cX6_skew 103 = .ok (.aload 6, 2) := by decide +kernel
theorem dX6_skew_105 : decode cX6_skew 105 = .ok (.iload 5, 2) := by decide +kernel
theorem dX6_skew_107 : decode cX6_skew 107 = .ok (.iconst 1, 1) := by decide +kernel
theorem dX6_skew_108 : decode cX6_skew 108 = .ok (.invokevirtual 239, 3) := by decide +kernel
theorem dX6_skew_111 : decode cX6_skew 111 = .ok (.istore 8, 2) := by decide +kernel
theorem dX6_skew_113 : decode cX6_skew 113 = .ok (.iload 7, 2) := by decide +kernel
theorem dX6_skew_115 : decode cX6_skew 115 = .ok (.ifCond .eq 20, 3) := by decide +kernel
theorem dX6_skew_118 : decode cX6_skew 118 = .ok (.iload_n 2, 1) := by decide +kernel
theorem dX6_skew_119 : decode cX6_skew 119 = .ok (.iconst (-1), 1) := by decide +kernel
theorem dX6_skew_120 : decode cX6_skew 120 = .ok (.if_icmp .eq 9, 3) := by decide +kernel
theorem dX6_skew_123 : decode cX6_skew 123 = .ok (.iload 8, 2) := by decide +kernel
theorem dX6_skew_125 : decode cX6_skew 125 = .ok (.iload_n 3, 1) := by decide +kernel
theorem dX6_skew_126 : decode cX6_skew 126 = .ok (.if_icmp .ge 9, 3) := by decide +kernel
theorem dX6_skew_129 : decode cX6_skew 129 = .ok (.iload 4, 2) := by decide +kernel
theorem dX6_skew_131 : decode cX6_skew 131 = .ok (.istore_n 2, 1) := by decide +kernel
theorem dX6_skew_132 : decode cX6_skew 132 = .ok (.iload 8, 2) := by decide +kernel
theorem dX6_skew_134 : decode cX6_skew 134 = .ok (.istore_n 3, 1) := by decide +kernel
theorem dX6_skew_135 : decode cX6_skew 135 = .ok (.iinc 4 1, 3) := by decide +kernel
theorem dX6_skew_138 : decode cX6_skew 138 = .ok (.goto (-113), 3) := by decide +kernel
theorem dX6_skew_141 : decode cX6_skew 141 = .ok (.iload_n 1, 1) := by decide +kernel
theorem dX6_skew_142 : decode cX6_skew 142 = .ok (.ifCond .ne 7, 3) := by decide +kernel
theorem dX6_skew_145 : decode cX6_skew 145 = .ok (.iload_n 2, 1) := by decide +kernel
theorem dX6_skew_146 : decode cX6_skew 146 = .ok (.goto 4, 3) := by decide +kernel
theorem dX6_skew_149 : decode cX6_skew 149 = .ok (.iload_n 3, 1) := by decide +kernel
theorem dX6_skew_150 : decode cX6_skew 150 = .ok (.ireturn, 1) := by decide +kernel
theorem dX6_status_0 : decode cX6_status 0 = .ok (.iload_n 1, 1) := by decide +kernel
theorem dX6_status_1 : decode cX6_status 1 = .ok (.ifCond .lt 9, 3) := by decide +kernel
theorem dX6_status_4 : decode cX6_status 4 = .ok (.iload_n 1, 1) := by decide +kernel
theorem dX6_status_5 : decode cX6_status 5 = .ok (.bipush 6, 2) := by decide +kernel
theorem dX6_status_7 : decode cX6_status 7 = .ok (.if_icmp .lt 7, 3) := by decide +kernel
theorem dX6_status_10 : decode cX6_status 10 = .ok (.iconst (-1), 1) := by decide +kernel
theorem dX6_status_11 : decode cX6_status 11 = .ok (.goto 9, 3) := by decide +kernel
theorem dX6_status_14 : decode cX6_status 14 = .ok (.aload_n 0, 1) := by decide +kernel
theorem dX6_status_15 : decode cX6_status 15 = .ok (.getfield 55, 3) := by decide +kernel
theorem dX6_status_18 : decode cX6_status 18 = .ok (.iload_n 1, 1) := by decide +kernel
theorem dX6_status_19 : decode cX6_status 19 = .ok (.iaload, 1) := by decide +kernel
theorem dX6_status_20 : decode cX6_status 20 = .ok (.ireturn, 1) := by decide +kernel
theorem dX6_tells_0 : decode cX6_tells 0 = .ok (.aload_n 0, 1) := by decide +kernel
theorem dX6_tells_1 : decode cX6_tells 1 = .ok (.getfield 87, 3) := by decide +kernel
theorem dX6_tells_4 : decode cX6_tells 4 = .ok (.ifCond .eq 12, 3) := by decide +kernel
theorem dX6_tells_7 : decode cX6_tells 7 = .ok (.iload_n 1, 1) := by decide +kernel
theorem dX6_tells_8 : decode cX6_tells 8 = .ok (.ifCond .lt 8, 3) := by decide +kernel
theorem dX6_tells_11 : decode cX6_tells 11 = .ok (.iload_n 1, 1) := by decide +kernel
theorem dX6_tells_12 : decode cX6_tells 12 = .ok (.iconst 1, 1) := by decide +kernel
theorem dX6_tells_13 : decode cX6_tells 13 = .ok (.if_icmp .le 5, 3) := by decide +kernel
theorem dX6_tells_16 : decode cX6_tells 16 = .ok (.iconst (-1), 1) := by decide +kernel
theorem dX6_tells_17 : decode cX6_tells 17 = .ok (.ireturn, 1) := by decide +kernel
theorem dX6_tells_18 : decode cX6_tells 18 = .ok (.aload_n 0, 1) := by decide +kernel
theorem dX6_tells_19 : decode cX6_tells 19 = .ok (.getfield 51, 3) := by decide +kernel
theorem dX6_tells_22 : decode cX6_tells 22 = .ok (.aload_n 0, 1) := by decide +kernel
theorem dX6_tells_23 : decode cX6_tells 23 = .ok (.getfield 33, 3) := by decide +kernel
theorem dX6_tells_26 : decode cX6_tells 26 = .ok (.getfield 144, 3) := by decide +kernel
theorem dX6_tells_29 : decode cX6_tells 29 = .ok (.aload_n 0, 1) := by decide +kernel
theorem dX6_tells_30 : decode cX6_tells 30 = .ok (.getfield 33, 3) := by decide +kernel
theorem dX6_tells_33 : decode cX6_tells 33 = .ok (.getfield 145, 3) := by decide +kernel
theorem dX6_tells_36 : decode cX6_tells 36 = .ok (.aload_n 0, 1) := by decide +kernel
theorem dX6_tells_37 : decode cX6_tells 37 = .ok (.getfield 33, 3) := by decide +kernel
theorem dX6_tells_40 : decode cX6_tells 40 = .ok (.getfield 146, 3) := by decide +kernel
theorem dX6_tells_43 : decode cX6_tells 43 = .ok (.invokevirtual 261, 3) := by decide +kernel
theorem dX6_tells_46 : decode cX6_tells 46 = .ok (.iconst (-1), 1) := by decide +kernel
theorem dX6_tells_47 : decode cX6_tells 47 = .ok (.istore_n 2, 1) := by decide +kernel
theorem dX6_tells_48 : decode cX6_tells 48 = .ok (.iconst 0, 1) := by decide +kernel
theorem dX6_tells_49 : decode cX6_tells 49 = .ok (.istore_n 3, 1) := by decide +kernel
theorem dX6_tells_50 : decode cX6_tells 50 = .ok (.iconst 0, 1) := by decide +kernel
theorem dX6_tells_51 : decode cX6_tells 51 = .ok (.istore 4, 2) := by decide +kernel
theorem dX6_tells_53 : decode cX6_tells 53 = .ok (.iload 4, 2) := by decide +kernel
theorem dX6_tells_55 : decode cX6_tells 55 = .ok (.bipush 8, 2) := by decide +kernel
theorem dX6_tells_57 : decode cX6_tells 57 = .ok (.if_icmp .ge 41, 3) := by decide +kernel
theorem dX6_tells_60 : decode cX6_tells 60 = .ok (.aload_n 0, 1) := by decide +kernel
theorem dX6_tells_61 : decode cX6_tells 61 = .ok (.getfield 51, 3) := by decide +kernel
theorem dX6_tells_64 : decode cX6_tells 64 = .ok (.iload 4, 2) := by decide +kernel
theorem dX6_tells_66 : decode cX6_tells 66 = .ok (.invokevirtual 274, 3) := by decide +kernel
theorem dX6_tells_69 : decode cX6_tells 69 = .ok (.aload_n 0, 1) := by decide +kernel
theorem dX6_tells_70 : decode cX6_tells 70 = .ok (.getfield 51, 3) := by decide +kernel
theorem dX6_tells_73 : decode cX6_tells 73 = .ok (.iload 4, 2) := by decide +kernel
theorem dX6_tells_75 : decode cX6_tells 75 = .ok (.invokevirtual 280, 3) := by decide +kernel
theorem dX6_tells_78 : decode cX6_tells 78 = .ok (.istore 5, 2) := by decide +kernel
theorem dX6_tells_80 : decode cX6_tells 80 = .ok (.iload 5, 2) := by decide +kernel
theorem dX6_tells_82 : decode cX6_tells 82 = .ok (.iload_n 3, 1) := by decide +kernel
theorem dX6_tells_83 : decode cX6_tells 83 = .ok (.if_icmp .le 9, 3) := by decide +kernel
theorem dX6_tells_86 : decode cX6_tells 86 = .ok (.iload 4, 2) := by decide +kernel
theorem dX6_tells_88 : decode cX6_tells 88 = .ok (.istore_n 2, 1) := by decide +kernel
theorem dX6_tells_89 : decode cX6_tells 89 = .ok (.iload 5, 2) := by decide +kernel
theorem dX6_tells_91 : decode cX6_tells 91 = .ok (.istore_n 3, 1) := by decide +kernel
theorem dX6_tells_92 : decode cX6_tells 92 = .ok (.iinc 4 1, 3) := by decide +kernel
theorem dX6_tells_95 : decode cX6_tells 95 = .ok (.goto (-42), 3) := by decide +kernel
theorem dX6_tells_98 : decode cX6_tells 98 = .ok (.iload_n 1, 1) := by decide +kernel
theorem dX6_tells_99 : decode cX6_tells 99 = .ok (.ifCond .ne 7, 3) := by decide +kernel
theorem dX6_tells_102 : decode cX6_tells 102 = .ok (.iload_n 2, 1) := by decide +kernel
theorem dX6_tells_103 : decode cX6_tells 103 = .ok (.goto 4, 3) := by decide +kernel
theorem dX6_tells_106 : decode cX6_tells 106 = .ok (.iload_n 3, 1) := by decide +kernel
theorem dX6_tells_107 : decode cX6_tells 107 = .ok (.ireturn, 1) := by decide +kernel
theorem dX6_undo_0 : decode cX6_undo 0 = .ok (.aload_n 0, 1) := by decide +kernel
theorem dX6_undo_1 : decode cX6_undo 1 = .ok (.getfield 104, 3) := by decide +kernel
theorem dX6_undo_4 : decode cX6_undo 4 = .ok (.ifCond .ne 11, 3) := by decide +kernel
theorem dX6_undo_7 : decode cX6_undo 7 = .ok (.aload_n 0, 1) := by decide +kernel
theorem dX6_undo_8 : decode cX6_undo 8 = .ok (.iconst 4, 1) := by decide +kernel
theorem dX6_undo_9 : decode cX6_undo 9 = .ok (.invokevirtual 72, 3) := by decide +kernel
theorem dX6_undo_12 : decode cX6_undo 12 = .ok (.pop, 1) := by decide +kernel
theorem dX6_undo_13 : decode cX6_undo 13 = .ok (.iconst 0, 1) := by decide +kernel
theorem dX6_undo_14 : decode cX6_undo 14 = .ok (.ireturn, 1) := by decide +kernel
theorem dX6_undo_15 : decode cX6_undo 15 = .ok (.aload_n 0, 1) := by decide +kernel
theorem dX6_undo_16 : decode cX6_undo 16 = .ok (.dup, 1) := by decide +kernel
theorem dX6_undo_17 : decode cX6_undo 17 = .ok (.getfield 104, 3) := by decide +kernel
theorem dX6_undo_20 : decode cX6_undo 20 = .ok (.iconst 1, 1) := by decide +kernel
theorem dX6_undo_21 : decode cX6_undo 21 = .ok (.isub, 1) := by decide +kernel
theorem dX6_undo_22 : decode cX6_undo 22 = .ok (.putfield 104, 3) := by decide +kernel
theorem dX6_undo_25 : decode cX6_undo 25 = .ok (.aload_n 0, 1) := by decide +kernel
theorem dX6_undo_26 : decode cX6_undo 26 = .ok (.getfield 33, 3) := by decide +kernel
theorem dX6_undo_29 : decode cX6_undo 29 = .ok (.aload_n 0, 1) := by decide +kernel
theorem dX6_undo_30 : decode cX6_undo 30 = .ok (.getfield 37, 3) := by decide +kernel
theorem dX6_undo_33 : decode cX6_undo 33 = .ok (.aload_n 0, 1) := by decide +kernel
theorem dX6_undo_34 : decode cX6_undo 34 = .ok (.getfield 292, 3) := by decide +kernel
theorem dX6_undo_37 : decode cX6_undo 37 = .ok (.aload_n 0, 1) := by decide +kernel
theorem dX6_undo_38 : decode cX6_undo 38 = .ok (.getfield 104, 3) := by decide +kernel
theorem dX6_undo_41 : decode cX6_undo 41 = .ok (.iadd, 1) := by decide +kernel
theorem dX6_undo_42 : decode cX6_undo 42 = .ok (.bipush 20, 2) := by decide +kernel
theorem dX6_undo_44 : decode cX6_undo 44 = .ok (.irem, 1) := by decide +kernel
theorem dX6_undo_45 : decode cX6_undo 45 = .ok (.aaload, 1) := by decide +kernel
theorem dX6_undo_46 : decode cX6_undo 46 = .ok (.invokevirtual 295, 3) := by decide +kernel
theorem dX6_undo_49 : decode cX6_undo 49 = .ok (.aload_n 0, 1) := by decide +kernel
theorem dX6_undo_50 : decode cX6_undo 50 = .ok (.getfield 51, 3) := by decide +kernel
theorem dX6_undo_53 : decode cX6_undo 53 = .ok (.invokevirtual 299, 3) := by decide +kernel
theorem dX6_undo_56 : decode cX6_undo 56 = .ok (.iconst 1, 1) := by decide +kernel
theorem dX6_undo_57 : decode cX6_undo 57 = .ok (.ireturn, 1) := by decide +kernel
theorem dX6_warp_0 : decode cX6_warp 0 = .ok (.aload_n 0, 1) := by decide +kernel
theorem dX6_warp_1 : decode cX6_warp 1 = .ok (.iload_n 1, 1) := by decide +kernel
theorem dX6_warp_2 : decode cX6_warp 2 = .ok (.invokevirtual 181, 3) := by decide +kernel
theorem dX6_warp_5 : decode cX6_warp 5 = .ok (.ifCond .ne 5, 3) := by decide +kernel
theorem dX6_warp_8 : decode cX6_warp 8 = .ok (.iconst (-1), 1) := by decide +kernel
theorem dX6_warp_9 : decode cX6_warp 9 = .ok (.ireturn, 1) := by decide +kernel
theorem dX6_warp_10 : decode cX6_warp 10 = .ok (.aload_n 0, 1) := by decide +kernel
theorem dX6_warp_11 : decode cX6_warp 11 = .ok (.getfield 33, 3) := by decide +kernel
theorem dX6_warp_14 : decode cX6_warp 14 = .ok (.getfield 164, 3) := by decide +kernel
theorem dX6_warp_17 : decode cX6_warp 17 = .ok (.iload_n 1, 1) := by decide +kernel
theorem dX6_warp_18 : decode cX6_warp 18 = .ok (.aaload, 1) := by decide +kernel
theorem dX6_warp_19 : decode cX6_warp 19 = .ok (.astore_n 3, 1) := by decide +kernel
theorem dX6_warp_20 : decode cX6_warp 20 = .ok (.iload_n 2, 1) := by decide +kernel
theorem dX6_warp_21 : decode cX6_warp 21 = .ok (.tableswitch 81 0 5 #[39, 44, 49, 54, 59, 64], 39) := by decide +kernel
theorem dX6_warp_60 : decode cX6_warp 60 = .ok (.aload_n 3, 1) := by decide +kernel
theorem dX6_warp_61 : decode cX6_warp 61 = .ok (.getfield 167, 3) := by decide +kernel
theorem dX6_warp_64 : decode cX6_warp 64 = .ok (.ireturn, 1) := by decide +kernel
theorem dX6_warp_65 : decode cX6_warp 65 = .ok (.aload_n 3, 1) := by decide +kernel
theorem dX6_warp_66 : decode cX6_warp 66 = .ok (.getfield 185, 3) := by decide +kernel
theorem dX6_warp_69 : decode cX6_warp 69 = .ok (.ireturn, 1) := by decide +kernel
theorem dX6_warp_70 : decode cX6_warp 70 = .ok (.aload_n 3, 1) := by decide +kernel
theorem dX6_warp_71 : decode cX6_warp 71 = .ok (.getfield 188, 3) := by decide +kernel
theorem dX6_warp_74 : decode cX6_warp 74 = .ok (.ireturn, 1) := by decide +kernel
theorem dX6_warp_75 : decode cX6_warp 75 = .ok (.aload_n 3, 1) := by decide +kernel
theorem dX6_warp_76 : decode cX6_warp 76 = .ok (.getfield 191, 3) := by decide +kernel
theorem dX6_warp_79 : decode cX6_warp 79 = .ok (.ireturn, 1) := by decide +kernel
theorem dX6_warp_80 : decode cX6_warp 80 = .ok (.aload_n 3, 1) := by decide +kernel
theorem dX6_warp_81 : decode cX6_warp 81 = .ok (.getfield 194, 3) := by decide +kernel
theorem dX6_warp_84 : decode cX6_warp 84 = .ok (.ireturn, 1) := by decide +kernel
theorem dX6_warp_85 : decode cX6_warp 85 = .ok (.aload_n 0, 1) := by decide +kernel
theorem dX6_warp_86 : decode cX6_warp 86 = .ok (.getfield 33, 3) := by decide +kernel
theorem dX6_warp_89 : decode cX6_warp 89 = .ok (.iload_n 1, 1) := by decide +kernel
theorem dX6_warp_90 : decode cX6_warp 90 = .ok (.invokevirtual 195, 3) := by decide +kernel
theorem dX6_warp_93 : decode cX6_warp 93 = .ok (.ifCond .eq 7, 3) := by decide +kernel
theorem dX6_warp_96 : decode cX6_warp 96 = .ok (.iconst 1, 1) := by decide +kernel
theorem dX6_warp_97 : decode cX6_warp 97 = .ok (.goto 4, 3) := by decide +kernel
theorem dX6_warp_100 : decode cX6_warp 100 = .ok (.iconst 0, 1) := by decide +kernel
theorem dX6_warp_101 : decode cX6_warp 101 = .ok (.ireturn, 1) := by decide +kernel
theorem dX6_warp_102 : decode cX6_warp 102 = .ok (.iconst (-1), 1) := by decide +kernel
theorem dX6_warp_103 : decode cX6_warp 103 = .ok (.ireturn, 1) := by decide +kernel
theorem dX6_word_0 : decode cX6_word 0 = .ok (.aload_n 0, 1) := by decide +kernel
theorem dX6_word_1 : decode cX6_word 1 = .ok (.iload_n 1, 1) := by decide +kernel
theorem dX6_word_2 : decode cX6_word 2 = .ok (.iload_n 2, 1) := by decide +kernel
theorem dX6_word_3 : decode cX6_word 3 = .ok (.invokevirtual 207, 3) := by decide +kernel
theorem dX6_word_6 : decode cX6_word 6 = .ok (.ifCond .ne 6, 3) := by decide +kernel
theorem dX6_word_9 : decode cX6_word 9 = .ok (.ldc 155, 2) := by decide +kernel
theorem dX6_word_11 : decode cX6_word 11 = .ok (.ireturn, 1) := by decide +kernel
theorem dX6_word_12 : decode cX6_word 12 = .ok (.iload_n 1, 1) := by decide +kernel
theorem dX6_word_13 : decode cX6_word 13 = .ok (.ifCond .eq 15, 3) := by decide +kernel
theorem dX6_word_16 : decode cX6_word 16 = .ok (.aload_n 0, 1) := by decide +kernel
theorem dX6_word_17 : decode cX6_word 17 = .ok (.getfield 33, 3) := by decide +kernel
theorem dX6_word_20 : decode cX6_word 20 = .ok (.getfield 211, 3) := by decide +kernel
theorem dX6_word_23 : decode cX6_word 23 = .ok (.iload_n 2, 1) := by decide +kernel
theorem dX6_word_24 : decode cX6_word 24 = .ok (.iaload, 1) := by decide +kernel
theorem dX6_word_25 : decode cX6_word 25 = .ok (.goto 12, 3) := by decide +kernel
theorem dX6_word_28 : decode cX6_word 28 = .ok (.aload_n 0, 1) := by decide +kernel
theorem dX6_word_29 : decode cX6_word 29 = .ok (.getfield 33, 3) := by decide +kernel
theorem dX6_word_32 : decode cX6_word 32 = .ok (.getfield 214, 3) := by decide +kernel
theorem dX6_word_35 : decode cX6_word 35 = .ok (.iload_n 2, 1) := by decide +kernel
theorem dX6_word_36 : decode cX6_word 36 = .ok (.iaload, 1) := by decide +kernel
theorem dX6_word_37 : decode cX6_word 37 = .ok (.ireturn, 1) := by decide +kernel
