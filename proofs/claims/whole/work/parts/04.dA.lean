theorem dJxf58ca_isNaN_12338_0 : decode cJxf58ca_isNaN_12338 0 = .ok (.fload_n 0, 1) := by decide +kernel
theorem dJxf58ca_isNaN_12338_1 : decode cJxf58ca_isNaN_12338 1 = .ok (.fload_n 0, 1) := by decide +kernel
theorem dJxf58ca_isNaN_12338_2 : decode cJxf58ca_isNaN_12338 2 = .ok (.fcmp .l, 1) := by decide +kernel
theorem dJxf58ca_isNaN_12338_3 : decode cJxf58ca_isNaN_12338 3 = .ok (.ifCond .eq 7, 3) := by decide +kernel
theorem dJxf58ca_isNaN_12338_6 : decode cJxf58ca_isNaN_12338 6 = .ok (.iconst 1, 1) := by decide +kernel
theorem dJxf58ca_isNaN_12338_7 : decode cJxf58ca_isNaN_12338 7 = .ok (.goto 4, 3) := by decide +kernel
theorem dJxf58ca_isNaN_12338_10 : decode cJxf58ca_isNaN_12338 10 = .ok (.iconst 0, 1) := by decide +kernel
theorem dJxf58ca_isNaN_12338_11 : decode cJxf58ca_isNaN_12338 11 = .ok (.ireturn, 1) := by decide +kernel
theorem dJxf58ca_floatToIntBits_5c35a_0 : decode cJxf58ca_floatToIntBits_5c35a 0 = .ok (.fload_n 0, 1) := by decide +kernel
theorem dJxf58ca_floatToIntBits_5c35a_1 : decode cJxf58ca_floatToIntBits_5c35a 1 = .ok (.invokestatic 59, 3) := by decide +kernel
theorem dJxf58ca_floatToIntBits_5c35a_4 : decode cJxf58ca_floatToIntBits_5c35a 4 = .ok (.ifCond .ne 8, 3) := by decide +kernel
theorem dJxf58ca_floatToIntBits_5c35a_7 : decode cJxf58ca_floatToIntBits_5c35a 7 = .ok (.fload_n 0, 1) := by decide +kernel
theorem dJxf58ca_floatToIntBits_5c35a_8 : decode cJxf58ca_floatToIntBits_5c35a 8 = .ok (.invokestatic 74, 3) := by decide +kernel
theorem dJxf58ca_floatToIntBits_5c35a_11 : decode cJxf58ca_floatToIntBits_5c35a 11 = .ok (.ireturn, 1) := by decide +kernel
theorem dJxf58ca_floatToIntBits_5c35a_12 : decode cJxf58ca_floatToIntBits_5c35a 12 = .ok (.ldc 77, 2) := by decide +kernel
theorem dJxf58ca_floatToIntBits_5c35a_14 : decode cJxf58ca_floatToIntBits_5c35a 14 = .ok (.ireturn, 1) := by decide +kernel
theorem dJ6_bitCount_0f7a4_0 : decode cJ6_bitCount_0f7a4 0 = .ok (.iload_n 0, 1) := by decide +kernel
theorem dJ6_bitCount_0f7a4_1 : decode cJ6_bitCount_0f7a4 1 = .ok (.iload_n 0, 1) := by decide +kernel
theorem dJ6_bitCount_0f7a4_2 : decode cJ6_bitCount_0f7a4 2 = .ok (.iconst 1, 1) := by decide +kernel
theorem dJ6_bitCount_0f7a4_3 : decode cJ6_bitCount_0f7a4 3 = .ok (.iushr, 1) := by decide +kernel
theorem dJ6_bitCount_0f7a4_4 : decode cJ6_bitCount_0f7a4 4 = .ok (.ldc_w 265, 3) := by decide +kernel
theorem dJ6_bitCount_0f7a4_7 : decode cJ6_bitCount_0f7a4 7 = .ok (.iand, 1) := by decide +kernel
theorem dJ6_bitCount_0f7a4_8 : decode cJ6_bitCount_0f7a4 8 = .ok (.isub, 1) := by decide +kernel
theorem dJ6_bitCount_0f7a4_9 : decode cJ6_bitCount_0f7a4 9 = .ok (.istore_n 0, 1) := by decide +kernel
theorem dJ6_bitCount_0f7a4_10 : decode cJ6_bitCount_0f7a4 10 = .ok (.iload_n 0, 1) := by decide +kernel
theorem dJ6_bitCount_0f7a4_11 : decode cJ6_bitCount_0f7a4 11 = .ok (.ldc_w 266, 3) := by decide +kernel
theorem dJ6_bitCount_0f7a4_14 : decode cJ6_bitCount_0f7a4 14 = .ok (.iand, 1) := by decide +kernel
theorem dJ6_bitCount_0f7a4_15 : decode cJ6_bitCount_0f7a4 15 = .ok (.iload_n 0, 1) := by decide +kernel
theorem dJ6_bitCount_0f7a4_16 : decode cJ6_bitCount_0f7a4 16 = .ok (.iconst 2, 1) := by decide +kernel
theorem dJ6_bitCount_0f7a4_17 : decode cJ6_bitCount_0f7a4 17 = .ok (.iushr, 1) := by decide +kernel
theorem dJ6_bitCount_0f7a4_18 : decode cJ6_bitCount_0f7a4 18 = .ok (.ldc_w 266, 3) := by decide +kernel
theorem dJ6_bitCount_0f7a4_21 : decode cJ6_bitCount_0f7a4 21 = .ok (.iand, 1) := by decide +kernel
theorem dJ6_bitCount_0f7a4_22 : decode cJ6_bitCount_0f7a4 22 = .ok (.iadd, 1) := by decide +kernel
theorem dJ6_bitCount_0f7a4_23 : decode cJ6_bitCount_0f7a4 23 = .ok (.istore_n 0, 1) := by decide +kernel
theorem dJ6_bitCount_0f7a4_24 : decode cJ6_bitCount_0f7a4 24 = .ok (.iload_n 0, 1) := by decide +kernel
theorem dJ6_bitCount_0f7a4_25 : decode cJ6_bitCount_0f7a4 25 = .ok (.iload_n 0, 1) := by decide +kernel
theorem dJ6_bitCount_0f7a4_26 : decode cJ6_bitCount_0f7a4 26 = .ok (.iconst 4, 1) := by decide +kernel
theorem dJ6_bitCount_0f7a4_27 : decode cJ6_bitCount_0f7a4 27 = .ok (.iushr, 1) := by decide +kernel
theorem dJ6_bitCount_0f7a4_28 : decode cJ6_bitCount_0f7a4 28 = .ok (.iadd, 1) := by decide +kernel
theorem dJ6_bitCount_0f7a4_29 : decode cJ6_bitCount_0f7a4 29 = .ok (.ldc_w 267, 3) := by decide +kernel
theorem dJ6_bitCount_0f7a4_32 : decode cJ6_bitCount_0f7a4 32 = .ok (.iand, 1) := by decide +kernel
theorem dJ6_bitCount_0f7a4_33 : decode cJ6_bitCount_0f7a4 33 = .ok (.istore_n 0, 1) := by decide +kernel
theorem dJ6_bitCount_0f7a4_34 : decode cJ6_bitCount_0f7a4 34 = .ok (.iload_n 0, 1) := by decide +kernel
theorem dJ6_bitCount_0f7a4_35 : decode cJ6_bitCount_0f7a4 35 = .ok (.iload_n 0, 1) := by decide +kernel
theorem dJ6_bitCount_0f7a4_36 : decode cJ6_bitCount_0f7a4 36 = .ok (.bipush 8, 2) := by decide +kernel
theorem dJ6_bitCount_0f7a4_38 : decode cJ6_bitCount_0f7a4 38 = .ok (.iushr, 1) := by decide +kernel
theorem dJ6_bitCount_0f7a4_39 : decode cJ6_bitCount_0f7a4 39 = .ok (.iadd, 1) := by decide +kernel
theorem dJ6_bitCount_0f7a4_40 : decode cJ6_bitCount_0f7a4 40 = .ok (.istore_n 0, 1) := by decide +kernel
theorem dJ6_bitCount_0f7a4_41 : decode cJ6_bitCount_0f7a4 41 = .ok (.iload_n 0, 1) := by decide +kernel
theorem dJ6_bitCount_0f7a4_42 : decode cJ6_bitCount_0f7a4 42 = .ok (.iload_n 0, 1) := by decide +kernel
theorem dJ6_bitCount_0f7a4_43 : decode cJ6_bitCount_0f7a4 43 = .ok (.bipush 16, 2) := by decide +kernel
theorem dJ6_bitCount_0f7a4_45 : decode cJ6_bitCount_0f7a4 45 = .ok (.iushr, 1) := by decide +kernel
theorem dJ6_bitCount_0f7a4_46 : decode cJ6_bitCount_0f7a4 46 = .ok (.iadd, 1) := by decide +kernel
theorem dJ6_bitCount_0f7a4_47 : decode cJ6_bitCount_0f7a4 47 = .ok (.istore_n 0, 1) := by decide +kernel
theorem dJ6_bitCount_0f7a4_48 : decode cJ6_bitCount_0f7a4 48 = .ok (.iload_n 0, 1) := by decide +kernel
theorem dJ6_bitCount_0f7a4_49 : decode cJ6_bitCount_0f7a4 49 = .ok (.bipush 63, 2) := by decide +kernel
theorem dJ6_bitCount_0f7a4_51 : decode cJ6_bitCount_0f7a4 51 = .ok (.iand, 1) := by decide +kernel
theorem dJ6_bitCount_0f7a4_52 : decode cJ6_bitCount_0f7a4 52 = .ok (.ireturn, 1) := by decide +kernel
theorem dJ9_max_7cf53_0 : decode cJ9_max_7cf53 0 = .ok (.iload_n 0, 1) := by decide +kernel
theorem dJ9_max_7cf53_1 : decode cJ9_max_7cf53 1 = .ok (.iload_n 1, 1) := by decide +kernel
theorem dJ9_max_7cf53_2 : decode cJ9_max_7cf53 2 = .ok (.if_icmp .lt 7, 3) := by decide +kernel
theorem dJ9_max_7cf53_5 : decode cJ9_max_7cf53 5 = .ok (.iload_n 0, 1) := by decide +kernel
theorem dJ9_max_7cf53_6 : decode cJ9_max_7cf53 6 = .ok (.goto 4, 3) := by decide +kernel
theorem dJ9_max_7cf53_9 : decode cJ9_max_7cf53 9 = .ok (.iload_n 1, 1) := by decide +kernel
theorem dJ9_max_7cf53_10 : decode cJ9_max_7cf53 10 = .ok (.ireturn, 1) := by decide +kernel
theorem dJ9_min_7cf53_0 : decode cJ9_min_7cf53 0 = .ok (.iload_n 0, 1) := by decide +kernel
theorem dJ9_min_7cf53_1 : decode cJ9_min_7cf53 1 = .ok (.iload_n 1, 1) := by decide +kernel
theorem dJ9_min_7cf53_2 : decode cJ9_min_7cf53 2 = .ok (.if_icmp .gt 7, 3) := by decide +kernel
theorem dJ9_min_7cf53_5 : decode cJ9_min_7cf53 5 = .ok (.iload_n 0, 1) := by decide +kernel
theorem dJ9_min_7cf53_6 : decode cJ9_min_7cf53 6 = .ok (.goto 4, 3) := by decide +kernel
theorem dJ9_min_7cf53_9 : decode cJ9_min_7cf53 9 = .ok (.iload_n 1, 1) := by decide +kernel
theorem dJ9_min_7cf53_10 : decode cJ9_min_7cf53 10 = .ok (.ireturn, 1) := by decide +kernel
theorem dJ0_length_8abf5_0 : decode cJ0_length_8abf5 0 = .ok (.aload_n 0, 1) := by decide +kernel
theorem dJ0_length_8abf5_1 : decode cJ0_length_8abf5 1 = .ok (.getfield 9, 3) := by decide +kernel
theorem dJ0_length_8abf5_4 : decode cJ0_length_8abf5 4 = .ok (.arraylength, 1) := by decide +kernel
theorem dJ0_length_8abf5_5 : decode cJ0_length_8abf5 5 = .ok (.aload_n 0, 1) := by decide +kernel
theorem dJ0_length_8abf5_6 : decode cJ0_length_8abf5 6 = .ok (.invokevirtual 335, 3) := by decide +kernel
theorem dJ0_length_8abf5_9 : decode cJ0_length_8abf5 9 = .ok (.ishr, 1) := by decide +kernel
theorem dJ0_length_8abf5_10 : decode cJ0_length_8abf5 10 = .ok (.ireturn, 1) := by decide +kernel
theorem dJ0_charAt_5068e_0 : decode cJ0_charAt_5068e 0 = .ok (.aload_n 0, 1) := by decide +kernel
theorem dJ0_charAt_5068e_1 : decode cJ0_charAt_5068e 1 = .ok (.invokevirtual 492, 3) := by decide +kernel
theorem dJ0_charAt_5068e_4 : decode cJ0_charAt_5068e 4 = .ok (.ifCond .eq 12, 3) := by decide +kernel
theorem dJ0_charAt_5068e_7 : decode cJ0_charAt_5068e 7 = .ok (.aload_n 0, 1) := by decide +kernel
theorem dJ0_charAt_5068e_8 : decode cJ0_charAt_5068e 8 = .ok (.getfield 9, 3) := by decide +kernel
theorem dJ0_charAt_5068e_11 : decode cJ0_charAt_5068e 11 = .ok (.iload_n 1, 1) := by decide +kernel
theorem dJ0_charAt_5068e_12 : decode cJ0_charAt_5068e 12 = .ok (.invokestatic 495, 3) := by decide +kernel
theorem dJ0_charAt_5068e_15 : decode cJ0_charAt_5068e 15 = .ok (.ireturn, 1) := by decide +kernel
theorem dJ0_charAt_5068e_16 : decode cJ0_charAt_5068e 16 = .ok (.aload_n 0, 1) := by decide +kernel
theorem dJ0_charAt_5068e_17 : decode cJ0_charAt_5068e 17 = .ok (.getfield 9, 3) := by decide +kernel
theorem dJ0_charAt_5068e_20 : decode cJ0_charAt_5068e 20 = .ok (.iload_n 1, 1) := by decide +kernel
theorem dJ0_charAt_5068e_21 : decode cJ0_charAt_5068e 21 = .ok (.invokestatic 498, 3) := by decide +kernel
theorem dJ0_charAt_5068e_24 : decode cJ0_charAt_5068e 24 = .ok (.ireturn, 1) := by decide +kernel
theorem dJ0_coder_7d493_0 : decode cJ0_coder_7d493 0 = .ok (.getstatic 38, 3) := by decide +kernel
theorem dJ0_coder_7d493_3 : decode cJ0_coder_7d493 3 = .ok (.ifCond .eq 10, 3) := by decide +kernel
theorem dJ0_coder_7d493_6 : decode cJ0_coder_7d493 6 = .ok (.aload_n 0, 1) := by decide +kernel
theorem dJ0_coder_7d493_7 : decode cJ0_coder_7d493 7 = .ok (.getfield 15, 3) := by decide +kernel
theorem dJ0_coder_7d493_10 : decode cJ0_coder_7d493 10 = .ok (.goto 4, 3) := by decide +kernel
theorem dJ0_coder_7d493_13 : decode cJ0_coder_7d493 13 = .ok (.iconst 1, 1) := by decide +kernel
theorem dJ0_coder_7d493_14 : decode cJ0_coder_7d493 14 = .ok (.ireturn, 1) := by decide +kernel
theorem dJ0_isLatin1_aae02_0 : decode cJ0_isLatin1_aae02 0 = .ok (.getstatic 38, 3) := by decide +kernel
theorem dJ0_isLatin1_aae02_3 : decode cJ0_isLatin1_aae02 3 = .ok (.ifCond .eq 14, 3) := by decide +kernel
theorem dJ0_isLatin1_aae02_6 : decode cJ0_isLatin1_aae02 6 = .ok (.aload_n 0, 1) := by decide +kernel
theorem dJ0_isLatin1_aae02_7 : decode cJ0_isLatin1_aae02 7 = .ok (.getfield 15, 3) := by decide +kernel
theorem dJ0_isLatin1_aae02_10 : decode cJ0_isLatin1_aae02 10 = .ok (.ifCond .ne 7, 3) := by decide +kernel
theorem dJ0_isLatin1_aae02_13 : decode cJ0_isLatin1_aae02 13 = .ok (.iconst 1, 1) := by decide +kernel
theorem dJ0_isLatin1_aae02_14 : decode cJ0_isLatin1_aae02 14 = .ok (.goto 4, 3) := by decide +kernel
theorem dJ0_isLatin1_aae02_17 : decode cJ0_isLatin1_aae02 17 = .ok (.iconst 0, 1) := by decide +kernel
theorem dJ0_isLatin1_aae02_18 : decode cJ0_isLatin1_aae02 18 = .ok (.ireturn, 1) := by decide +kernel
theorem dJ0_checkIndex_df160_0 : decode cJ0_checkIndex_df160 0 = .ok (.iload_n 0, 1) := by decide +kernel
theorem dJ0_checkIndex_df160_1 : decode cJ0_checkIndex_df160 1 = .ok (.iload_n 1, 1) := by decide +kernel
theorem dJ0_checkIndex_df160_2 : decode cJ0_checkIndex_df160 2 = .ok (.getstatic 1053, 3) := by decide +kernel
theorem dJ0_checkIndex_df160_5 : decode cJ0_checkIndex_df160 5 = .ok (.invokestatic 1059, 3) := by decide +kernel
theorem dJ0_checkIndex_df160_8 : decode cJ0_checkIndex_df160 8 = .ok (.pop, 1) := by decide +kernel
theorem dJ0_checkIndex_df160_9 : decode cJ0_checkIndex_df160 9 = .ok (.return_, 1) := by decide +kernel
theorem dJ1_charAt_3b067_0 : decode cJ1_charAt_3b067 0 = .ok (.iload_n 1, 1) := by decide +kernel
theorem dJ1_charAt_3b067_1 : decode cJ1_charAt_3b067 1 = .ok (.aload_n 0, 1) := by decide +kernel
theorem dJ1_charAt_3b067_2 : decode cJ1_charAt_3b067 2 = .ok (.arraylength, 1) := by decide +kernel
theorem dJ1_charAt_3b067_3 : decode cJ1_charAt_3b067 3 = .ok (.invokestatic 9, 3) := by decide +kernel
theorem dJ1_charAt_3b067_6 : decode cJ1_charAt_3b067 6 = .ok (.aload_n 0, 1) := by decide +kernel
theorem dJ1_charAt_3b067_7 : decode cJ1_charAt_3b067 7 = .ok (.iload_n 1, 1) := by decide +kernel
theorem dJ1_charAt_3b067_8 : decode cJ1_charAt_3b067 8 = .ok (.baload, 1) := by decide +kernel
theorem dJ1_charAt_3b067_9 : decode cJ1_charAt_3b067 9 = .ok (.sipush 255, 3) := by decide +kernel
theorem dJ1_charAt_3b067_12 : decode cJ1_charAt_3b067 12 = .ok (.iand, 1) := by decide +kernel
theorem dJ1_charAt_3b067_13 : decode cJ1_charAt_3b067 13 = .ok (.i2c, 1) := by decide +kernel
theorem dJ1_charAt_3b067_14 : decode cJ1_charAt_3b067 14 = .ok (.ireturn, 1) := by decide +kernel
theorem dJ2_getChar_3b067_0 : decode cJ2_getChar_3b067 0 = .ok (.getstatic 44, 3) := by decide +kernel
theorem dJ2_getChar_3b067_3 : decode cJ2_getChar_3b067 3 = .ok (.ifCond .ne 25, 3) := by decide +kernel
theorem dJ2_getChar_3b067_6 : decode cJ2_getChar_3b067 6 = .ok (.iload_n 1, 1) := by decide +kernel
theorem dJ2_getChar_3b067_7 : decode cJ2_getChar_3b067 7 = .ok (.ifCond .lt 11, 3) := by decide +kernel
theorem dJ2_getChar_3b067_10 : decode cJ2_getChar_3b067 10 = .ok (.iload_n 1, 1) := by decide +kernel
theorem dJ2_getChar_3b067_11 : decode cJ2_getChar_3b067 11 = .ok (.aload_n 0, 1) := by decide +kernel
theorem dJ2_getChar_3b067_12 : decode cJ2_getChar_3b067 12 = .ok (.invokestatic 48, 3) := by decide +kernel
theorem dJ2_getChar_3b067_15 : decode cJ2_getChar_3b067 15 = .ok (.if_icmp .lt 13, 3) := by decide +kernel
theorem dJ2_getChar_3b067_18 : decode cJ2_getChar_3b067 18 = .ok (.new 52, 3) := by decide +kernel
theorem dJ2_getChar_3b067_21 : decode cJ2_getChar_3b067 21 = .ok (.dup, 1) := by decide +kernel
theorem dJ2_getChar_3b067_22 : decode cJ2_getChar_3b067 22 = .ok (.ldc 54, 2) := by decide +kernel
theorem dJ2_getChar_3b067_24 : decode cJ2_getChar_3b067 24 = .ok (.invokespecial 56, 3) := by decide +kernel
theorem dJ2_getChar_3b067_27 : decode cJ2_getChar_3b067 27 = .ok (.athrow, 1) := by decide +kernel
theorem dJ2_getChar_3b067_28 : decode cJ2_getChar_3b067 28 = .ok (.iload_n 1, 1) := by decide +kernel
theorem dJ2_getChar_3b067_29 : decode cJ2_getChar_3b067 29 = .ok (.iconst 1, 1) := by decide +kernel
theorem dJ2_getChar_3b067_30 : decode cJ2_getChar_3b067 30 = .ok (.ishl, 1) := by decide +kernel
theorem dJ2_getChar_3b067_31 : decode cJ2_getChar_3b067 31 = .ok (.istore_n 1, 1) := by decide +kernel
theorem dJ2_getChar_3b067_32 : decode cJ2_getChar_3b067 32 = .ok (.aload_n 0, 1) := by decide +kernel
theorem dJ2_getChar_3b067_33 : decode cJ2_getChar_3b067 33 = .ok (.iload_n 1, 1) := by decide +kernel
theorem dJ2_getChar_3b067_34 : decode cJ2_getChar_3b067 34 = .ok (.iinc 1 1, 3) := by decide +kernel
theorem dJ2_getChar_3b067_37 : decode cJ2_getChar_3b067 37 = .ok (.baload, 1) := by decide +kernel
theorem dJ2_getChar_3b067_38 : decode cJ2_getChar_3b067 38 = .ok (.sipush 255, 3) := by decide +kernel
theorem dJ2_getChar_3b067_41 : decode cJ2_getChar_3b067 41 = .ok (.iand, 1) := by decide +kernel
theorem dJ2_getChar_3b067_42 : decode cJ2_getChar_3b067 42 = .ok (.getstatic 59, 3) := by decide +kernel
theorem dJ2_getChar_3b067_45 : decode cJ2_getChar_3b067 45 = .ok (.ishl, 1) := by decide +kernel
theorem dJ2_getChar_3b067_46 : decode cJ2_getChar_3b067 46 = .ok (.aload_n 0, 1) := by decide +kernel
theorem dJ2_getChar_3b067_47 : decode cJ2_getChar_3b067 47 = .ok (.iload_n 1, 1) := by decide +kernel
theorem dJ2_getChar_3b067_48 : decode cJ2_getChar_3b067 48 = .ok (.baload, 1) := by decide +kernel
theorem dJ2_getChar_3b067_49 : decode cJ2_getChar_3b067 49 = .ok (.sipush 255, 3) := by decide +kernel
theorem dJ2_getChar_3b067_52 : decode cJ2_getChar_3b067 52 = .ok (.iand, 1) := by decide +kernel
theorem dJ2_getChar_3b067_53 : decode cJ2_getChar_3b067 53 = .ok (.getstatic 63, 3) := by decide +kernel
theorem dJ2_getChar_3b067_56 : decode cJ2_getChar_3b067 56 = .ok (.ishl, 1) := by decide +kernel
theorem dJ2_getChar_3b067_57 : decode cJ2_getChar_3b067 57 = .ok (.ior, 1) := by decide +kernel
theorem dJ2_getChar_3b067_58 : decode cJ2_getChar_3b067 58 = .ok (.i2c, 1) := by decide +kernel
theorem dJ2_getChar_3b067_59 : decode cJ2_getChar_3b067 59 = .ok (.ireturn, 1) := by decide +kernel
theorem dJ2_length_9d52b_0 : decode cJ2_length_9d52b 0 = .ok (.aload_n 0, 1) := by decide +kernel
theorem dJ2_length_9d52b_1 : decode cJ2_length_9d52b 1 = .ok (.arraylength, 1) := by decide +kernel
theorem dJ2_length_9d52b_2 : decode cJ2_length_9d52b 2 = .ok (.iconst 1, 1) := by decide +kernel
theorem dJ2_length_9d52b_3 : decode cJ2_length_9d52b 3 = .ok (.ishr, 1) := by decide +kernel
theorem dJ2_length_9d52b_4 : decode cJ2_length_9d52b 4 = .ok (.ireturn, 1) := by decide +kernel
theorem dJ2_charAt_3b067_0 : decode cJ2_charAt_3b067 0 = .ok (.iload_n 1, 1) := by decide +kernel
theorem dJ2_charAt_3b067_1 : decode cJ2_charAt_3b067 1 = .ok (.aload_n 0, 1) := by decide +kernel
theorem dJ2_charAt_3b067_2 : decode cJ2_charAt_3b067 2 = .ok (.invokestatic 67, 3) := by decide +kernel
theorem dJ2_charAt_3b067_5 : decode cJ2_charAt_3b067 5 = .ok (.aload_n 0, 1) := by decide +kernel
theorem dJ2_charAt_3b067_6 : decode cJ2_charAt_3b067 6 = .ok (.iload_n 1, 1) := by decide +kernel
theorem dJ2_charAt_3b067_7 : decode cJ2_charAt_3b067 7 = .ok (.invokestatic 71, 3) := by decide +kernel
theorem dJ2_charAt_3b067_10 : decode cJ2_charAt_3b067 10 = .ok (.ireturn, 1) := by decide +kernel
theorem dJ2_checkIndex_2214a_0 : decode cJ2_checkIndex_2214a 0 = .ok (.iload_n 0, 1) := by decide +kernel
theorem dJ2_checkIndex_2214a_1 : decode cJ2_checkIndex_2214a 1 = .ok (.aload_n 1, 1) := by decide +kernel
theorem dJ2_checkIndex_2214a_2 : decode cJ2_checkIndex_2214a 2 = .ok (.invokestatic 48, 3) := by decide +kernel
theorem dJ2_checkIndex_2214a_5 : decode cJ2_checkIndex_2214a 5 = .ok (.invokestatic 414, 3) := by decide +kernel
theorem dJ2_checkIndex_2214a_8 : decode cJ2_checkIndex_2214a 8 = .ok (.return_, 1) := by decide +kernel
theorem dJ7_fill_53178_0 : decode cJ7_fill_53178 0 = .ok (.iconst 0, 1) := by decide +kernel
theorem dJ7_fill_53178_1 : decode cJ7_fill_53178 1 = .ok (.istore_n 2, 1) := by decide +kernel
theorem dJ7_fill_53178_2 : decode cJ7_fill_53178 2 = .ok (.aload_n 0, 1) := by decide +kernel
theorem dJ7_fill_53178_3 : decode cJ7_fill_53178 3 = .ok (.arraylength, 1) := by decide +kernel
theorem dJ7_fill_53178_4 : decode cJ7_fill_53178 4 = .ok (.istore_n 3, 1) := by decide +kernel
theorem dJ7_fill_53178_5 : decode cJ7_fill_53178 5 = .ok (.iload_n 2, 1) := by decide +kernel
theorem dJ7_fill_53178_6 : decode cJ7_fill_53178 6 = .ok (.iload_n 3, 1) := by decide +kernel
theorem dJ7_fill_53178_7 : decode cJ7_fill_53178 7 = .ok (.if_icmp .ge 13, 3) := by decide +kernel
theorem dJ7_fill_53178_10 : decode cJ7_fill_53178 10 = .ok (.aload_n 0, 1) := by decide +kernel
theorem dJ7_fill_53178_11 : decode cJ7_fill_53178 11 = .ok (.iload_n 2, 1) := by decide +kernel
theorem dJ7_fill_53178_12 : decode cJ7_fill_53178 12 = .ok (.iload_n 1, 1) := by decide +kernel
theorem dJ7_fill_53178_13 : decode cJ7_fill_53178 13 = .ok (.iastore, 1) := by decide +kernel
theorem dJ7_fill_53178_14 : decode cJ7_fill_53178 14 = .ok (.iinc 2 1, 3) := by decide +kernel
theorem dJ7_fill_53178_17 : decode cJ7_fill_53178 17 = .ok (.goto (-12), 3) := by decide +kernel
theorem dJ7_fill_53178_20 : decode cJ7_fill_53178 20 = .ok (.return_, 1) := by decide +kernel
theorem dJ3_checkIndex_8e157_0 : decode cJ3_checkIndex_8e157 0 = .ok (.iload_n 0, 1) := by decide +kernel
theorem dJ3_checkIndex_8e157_1 : decode cJ3_checkIndex_8e157 1 = .ok (.ifCond .lt 8, 3) := by decide +kernel
theorem dJ3_checkIndex_8e157_4 : decode cJ3_checkIndex_8e157 4 = .ok (.iload_n 0, 1) := by decide +kernel
theorem dJ3_checkIndex_8e157_5 : decode cJ3_checkIndex_8e157 5 = .ok (.iload_n 1, 1) := by decide +kernel
theorem dJ3_checkIndex_8e157_6 : decode cJ3_checkIndex_8e157 6 = .ok (.if_icmp .lt 10, 3) := by decide +kernel
theorem dJ3_checkIndex_8e157_9 : decode cJ3_checkIndex_8e157 9 = .ok (.aload_n 2, 1) := by decide +kernel
theorem dJ3_checkIndex_8e157_10 : decode cJ3_checkIndex_8e157 10 = .ok (.iload_n 0, 1) := by decide +kernel
theorem dJ3_checkIndex_8e157_11 : decode cJ3_checkIndex_8e157 11 = .ok (.iload_n 1, 1) := by decide +kernel
theorem dJ3_checkIndex_8e157_12 : decode cJ3_checkIndex_8e157 12 = .ok (.invokestatic 95, 3) := by decide +kernel
theorem dJ3_checkIndex_8e157_15 : decode cJ3_checkIndex_8e157 15 = .ok (.athrow, 1) := by decide +kernel
theorem dJ3_checkIndex_8e157_16 : decode cJ3_checkIndex_8e157 16 = .ok (.iload_n 0, 1) := by decide +kernel
theorem dJ3_checkIndex_8e157_17 : decode cJ3_checkIndex_8e157 17 = .ok (.ireturn, 1) := by decide +kernel
theorem dX0_init_0 : decode cX0_init 0 = .ok (.aload_n 0, 1) := by decide +kernel
theorem dX0_init_1 : decode cX0_init 1 = .ok (.invokespecial 3, 3) := by decide +kernel
theorem dX0_init_4 : decode cX0_init 4 = .ok (.aload_n 0, 1) := by decide +kernel
theorem dX0_init_5 : decode cX0_init 5 = .ok (.iconst 0, 1) := by decide +kernel
theorem dX0_init_6 : decode cX0_init 6 = .ok (.newarray .byte, 2) := by decide +kernel
theorem dX0_init_8 : decode cX0_init 8 = .ok (.putfield 9, 3) := by decide +kernel
theorem dX0_init_11 : decode cX0_init 11 = .ok (.aload_n 0, 1) := by decide +kernel
theorem dX0_init_12 : decode cX0_init 12 = .ok (.bipush 24, 2) := by decide +kernel
theorem dX0_init_14 : decode cX0_init 14 = .ok (.newarray .int, 2) := by decide +kernel
theorem dX0_init_16 : decode cX0_init 16 = .ok (.putfield 15, 3) := by decide +kernel
theorem dX0_init_19 : decode cX0_init 19 = .ok (.return_, 1) := by decide +kernel
theorem dX0_describe_0 : decode cX0_describe 0 = .ok (.aload_n 0, 1) := by decide +kernel
theorem dX0_describe_1 : decode cX0_describe 1 = .ok (.aload_n 2, 1) := by decide +kernel
theorem dX0_describe_2 : decode cX0_describe 2 = .ok (.putfield 9, 3) := by decide +kernel
theorem dX0_describe_5 : decode cX0_describe 5 = .ok (.aload_n 0, 1) := by decide +kernel
theorem dX0_describe_6 : decode cX0_describe 6 = .ok (.iload_n 3, 1) := by decide +kernel
theorem dX0_describe_7 : decode cX0_describe 7 = .ok (.putfield 19, 3) := by decide +kernel
theorem dX0_describe_10 : decode cX0_describe 10 = .ok (.aload_n 0, 1) := by decide +kernel
theorem dX0_describe_11 : decode cX0_describe 11 = .ok (.iconst 0, 1) := by decide +kernel
theorem dX0_describe_12 : decode cX0_describe 12 = .ok (.putfield 23, 3) := by decide +kernel
theorem dX0_describe_15 : decode cX0_describe 15 = .ok (.aload_n 0, 1) := by decide +kernel
theorem dX0_describe_16 : decode cX0_describe 16 = .ok (.iconst 0, 1) := by decide +kernel
theorem dX0_describe_17 : decode cX0_describe 17 = .ok (.putfield 26, 3) := by decide +kernel
theorem dX0_describe_20 : decode cX0_describe 20 = .ok (.aload_n 0, 1) := by decide +kernel
theorem dX0_describe_21 : decode cX0_describe 21 = .ok (.iconst (-1), 1) := by decide +kernel
theorem dX0_describe_22 : decode cX0_describe 22 = .ok (.putfield 29, 3) := by decide +kernel
theorem dX0_describe_25 : decode cX0_describe 25 = .ok (.aload_n 0, 1) := by decide +kernel
theorem dX0_describe_26 : decode cX0_describe 26 = .ok (.iconst 0, 1) := by decide +kernel
theorem dX0_describe_27 : decode cX0_describe 27 = .ok (.putfield 32, 3) := by decide +kernel
theorem dX0_describe_30 : decode cX0_describe 30 = .ok (.aload_n 0, 1) := by decide +kernel
theorem dX0_describe_31 : decode cX0_describe 31 = .ok (.iconst 0, 1) := by decide +kernel
theorem dX0_describe_32 : decode cX0_describe 32 = .ok (.putfield 36, 3) := by decide +kernel
theorem dX0_describe_35 : decode cX0_describe 35 = .ok (.aload_n 1, 1) := by decide +kernel
theorem dX0_describe_36 : decode cX0_describe 36 = .ok (.invokevirtual 39, 3) := by decide +kernel
theorem dX0_describe_39 : decode cX0_describe 39 = .ok (.aload_n 0, 1) := by decide +kernel
theorem dX0_describe_40 : decode cX0_describe 40 = .ok (.invokevirtual 44, 3) := by decide +kernel
theorem dX0_describe_43 : decode cX0_describe 43 = .ok (.iconst 0, 1) := by decide +kernel
theorem dX0_describe_44 : decode cX0_describe 44 = .ok (.istore 4, 2) := by decide +kernel
theorem dX0_describe_46 : decode cX0_describe 46 = .ok (.iload 4, 2) := by decide +kernel
theorem dX0_describe_48 : decode cX0_describe 48 = .ok (.sipush 600, 3) := by decide +kernel
theorem dX0_describe_51 : decode cX0_describe 51 = .ok (.if_icmp .gt 32, 3) := by decide +kernel
theorem dX0_describe_54 : decode cX0_describe 54 = .ok (.aload_n 0, 1) := by decide +kernel
theorem dX0_describe_55 : decode cX0_describe 55 = .ok (.getfield 26, 3) := by decide +kernel
theorem dX0_describe_58 : decode cX0_describe 58 = .ok (.ifCond .ne 25, 3) := by decide +kernel
theorem dX0_describe_61 : decode cX0_describe 61 = .ok (.aload_n 0, 1) := by decide +kernel
theorem dX0_describe_62 : decode cX0_describe 62 = .ok (.getfield 47, 3) := by decide +kernel
theorem dX0_describe_65 : decode cX0_describe 65 = .ok (.ifCond .eq 18, 3) := by decide +kernel
theorem dX0_describe_68 : decode cX0_describe 68 = .ok (.aload_n 0, 1) := by decide +kernel
theorem dX0_describe_69 : decode cX0_describe 69 = .ok (.aload_n 1, 1) := by decide +kernel
theorem dX0_describe_70 : decode cX0_describe 70 = .ok (.invokevirtual 50, 3) := by decide +kernel
theorem dX0_describe_73 : decode cX0_describe 73 = .ok (.aload_n 0, 1) := by decide +kernel
theorem dX0_describe_74 : decode cX0_describe 74 = .ok (.invokevirtual 54, 3) := by decide +kernel
theorem dX0_describe_77 : decode cX0_describe 77 = .ok (.iinc 4 1, 3) := by decide +kernel
theorem dX0_describe_80 : decode cX0_describe 80 = .ok (.goto (-34), 3) := by decide +kernel
theorem dX0_describe_83 : decode cX0_describe 83 = .ok (.aload_n 0, 1) := by decide +kernel
theorem dX0_describe_84 : decode cX0_describe 84 = .ok (.getfield 26, 3) := by decide +kernel
theorem dX0_describe_87 : decode cX0_describe 87 = .ok (.ireturn, 1) := by decide +kernel
theorem dX0_fail_0 : decode cX0_fail 0 = .ok (.aload_n 0, 1) := by decide +kernel
theorem dX0_fail_1 : decode cX0_fail 1 = .ok (.getfield 26, 3) := by decide +kernel
theorem dX0_fail_4 : decode cX0_fail 4 = .ok (.ifCond .ne 16, 3) := by decide +kernel
theorem dX0_fail_7 : decode cX0_fail 7 = .ok (.aload_n 0, 1) := by decide +kernel
theorem dX0_fail_8 : decode cX0_fail 8 = .ok (.iload_n 1, 1) := by decide +kernel
theorem dX0_fail_9 : decode cX0_fail 9 = .ok (.putfield 26, 3) := by decide +kernel
theorem dX0_fail_12 : decode cX0_fail 12 = .ok (.aload_n 0, 1) := by decide +kernel
theorem dX0_fail_13 : decode cX0_fail 13 = .ok (.aload_n 0, 1) := by decide +kernel
theorem dX0_fail_14 : decode cX0_fail 14 = .ok (.getfield 57, 3) := by decide +kernel
theorem dX0_fail_17 : decode cX0_fail 17 = .ok (.putfield 29, 3) := by decide +kernel
theorem dX0_fail_20 : decode cX0_fail 20 = .ok (.return_, 1) := by decide +kernel
theorem dX0_statement_0 : decode cX0_statement 0 = .ok (.aload_n 0, 1) := by decide +kernel
theorem dX0_statement_1 : decode cX0_statement 1 = .ok (.ldc 60, 2) := by decide +kernel
theorem dX0_statement_3 : decode cX0_statement 3 = .ok (.invokevirtual 62, 3) := by decide +kernel
theorem dX0_statement_6 : decode cX0_statement 6 = .ok (.ifCond .eq 19, 3) := by decide +kernel
theorem dX0_statement_9 : decode cX0_statement 9 = .ok (.aload_n 0, 1) := by decide +kernel
theorem dX0_statement_10 : decode cX0_statement 10 = .ok (.aload_n 1, 1) := by decide +kernel
theorem dX0_statement_11 : decode cX0_statement 11 = .ok (.getfield 66, 3) := by decide +kernel
theorem dX0_statement_14 : decode cX0_statement 14 = .ok (.iconst 2, 1) := by decide +kernel
theorem dX0_statement_15 : decode cX0_statement 15 = .ok (.iconst 4, 1) := by decide +kernel
theorem dX0_statement_16 : decode cX0_statement 16 = .ok (.iconst 1, 1) := by decide +kernel
theorem dX0_statement_17 : decode cX0_statement 17 = .ok (.bipush 8, 2) := by decide +kernel
theorem dX0_statement_19 : decode cX0_statement 19 = .ok (.invokevirtual 69, 3) := by decide +kernel
theorem dX0_statement_22 : decode cX0_statement 22 = .ok (.goto 185, 3) := by decide +kernel
theorem dX0_statement_25 : decode cX0_statement 25 = .ok (.aload_n 0, 1) := by decide +kernel
theorem dX0_statement_26 : decode cX0_statement 26 = .ok (.ldc 73, 2) := by decide +kernel
theorem dX0_statement_28 : decode cX0_statement 28 = .ok (.invokevirtual 62, 3) := by decide +kernel
theorem dX0_statement_31 : decode cX0_statement 31 = .ok (.ifCond .eq 19, 3) := by decide +kernel
theorem dX0_statement_34 : decode cX0_statement 34 = .ok (.aload_n 0, 1) := by decide +kernel
theorem dX0_statement_35 : decode cX0_statement 35 = .ok (.aload_n 1, 1) := by decide +kernel
theorem dX0_statement_36 : decode cX0_statement 36 = .ok (.getfield 75, 3) := by decide +kernel
theorem dX0_statement_39 : decode cX0_statement 39 = .ok (.iconst 2, 1) := by decide +kernel
theorem dX0_statement_40 : decode cX0_statement 40 = .ok (.iconst 4, 1) := by decide +kernel
theorem dX0_statement_41 : decode cX0_statement 41 = .ok (.iconst 0, 1) := by decide +kernel
theorem dX0_statement_42 : decode cX0_statement 42 = .ok (.bipush 8, 2) := by decide +kernel
theorem dX0_statement_44 : decode cX0_statement 44 = .ok (.invokevirtual 69, 3) := by decide +kernel
theorem dX0_statement_47 : decode cX0_statement 47 = .ok (.goto 160, 3) := by decide +kernel
theorem dX0_statement_50 : decode cX0_statement 50 = .ok (.aload_n 0, 1) := by decide +kernel
theorem dX0_statement_51 : decode cX0_statement 51 = .ok (.ldc 78, 2) := by decide +kernel
theorem dX0_statement_53 : decode cX0_statement 53 = .ok (.invokevirtual 62, 3) := by decide +kernel
theorem dX0_statement_56 : decode cX0_statement 56 = .ok (.ifCond .eq 18, 3) := by decide +kernel
theorem dX0_statement_59 : decode cX0_statement 59 = .ok (.aload_n 0, 1) := by decide +kernel
theorem dX0_statement_60 : decode cX0_statement 60 = .ok (.aload_n 1, 1) := by decide +kernel
theorem dX0_statement_61 : decode cX0_statement 61 = .ok (.getfield 80, 3) := by decide +kernel
theorem dX0_statement_64 : decode cX0_statement 64 = .ok (.iconst 4, 1) := by decide +kernel
theorem dX0_statement_65 : decode cX0_statement 65 = .ok (.iconst 4, 1) := by decide +kernel
theorem dX0_statement_66 : decode cX0_statement 66 = .ok (.iconst 0, 1) := by decide +kernel
theorem dX0_statement_67 : decode cX0_statement 67 = .ok (.iconst 1, 1) := by decide +kernel
theorem dX0_statement_68 : decode cX0_statement 68 = .ok (.invokevirtual 69, 3) := by decide +kernel
theorem dX0_statement_71 : decode cX0_statement 71 = .ok (.goto 136, 3) := by decide +kernel
theorem dX0_statement_74 : decode cX0_statement 74 = .ok (.aload_n 0, 1) := by decide +kernel
theorem dX0_statement_75 : decode cX0_statement 75 = .ok (.ldc 82, 2) := by decide +kernel
theorem dX0_statement_77 : decode cX0_statement 77 = .ok (.invokevirtual 62, 3) := by decide +kernel
theorem dX0_statement_80 : decode cX0_statement 80 = .ok (.ifCond .eq 21, 3) := by decide +kernel
theorem dX0_statement_83 : decode cX0_statement 83 = .ok (.aload_n 0, 1) := by decide +kernel
theorem dX0_statement_84 : decode cX0_statement 84 = .ok (.aload_n 1, 1) := by decide +kernel
theorem dX0_statement_85 : decode cX0_statement 85 = .ok (.getfield 84, 3) := by decide +kernel
theorem dX0_statement_88 : decode cX0_statement 88 = .ok (.iconst 2, 1) := by decide +kernel
theorem dX0_statement_89 : decode cX0_statement 89 = .ok (.bipush 16, 2) := by decide +kernel
theorem dX0_statement_91 : decode cX0_statement 91 = .ok (.iconst 0, 1) := by decide +kernel
theorem dX0_statement_92 : decode cX0_statement 92 = .ok (.sipush 9999, 3) := by decide +kernel
theorem dX0_statement_95 : decode cX0_statement 95 = .ok (.invokevirtual 69, 3) := by decide +kernel
theorem dX0_statement_98 : decode cX0_statement 98 = .ok (.goto 109, 3) := by decide +kernel
theorem dX0_statement_101 : decode cX0_statement 101 = .ok (.aload_n 0, 1) := by decide +kernel
theorem dX0_statement_102 : decode cX0_statement 102 = .ok (.ldc 87, 2) := by decide +kernel
theorem dX0_statement_104 : decode cX0_statement 104 = .ok (.invokevirtual 62, 3) := by decide +kernel
theorem dX0_statement_107 : decode cX0_statement 107 = .ok (.ifCond .eq 24, 3) := by decide +kernel
theorem dX0_statement_110 : decode cX0_statement 110 = .ok (.aload_n 0, 1) := by decide +kernel
theorem dX0_statement_111 : decode cX0_statement 111 = .ok (.invokevirtual 44, 3) := by decide +kernel
theorem dX0_statement_114 : decode cX0_statement 114 = .ok (.aload_n 0, 1) := by decide +kernel
theorem dX0_statement_115 : decode cX0_statement 115 = .ok (.aload_n 1, 1) := by decide +kernel
theorem dX0_statement_116 : decode cX0_statement 116 = .ok (.aload_n 0, 1) := by decide +kernel
theorem dX0_statement_117 : decode cX0_statement 117 = .ok (.iconst 0, 1) := by decide +kernel
theorem dX0_statement_118 : decode cX0_statement 118 = .ok (.iconst 1, 1) := by decide +kernel
theorem dX0_statement_119 : decode cX0_statement 119 = .ok (.invokevirtual 89, 3) := by decide +kernel
theorem dX0_statement_122 : decode cX0_statement 122 = .ok (.invokevirtual 93, 3) := by decide +kernel
theorem dX0_statement_125 : decode cX0_statement 125 = .ok (.invokevirtual 97, 3) := by decide +kernel
theorem dX0_statement_128 : decode cX0_statement 128 = .ok (.goto 79, 3) := by decide +kernel
theorem dX0_statement_131 : decode cX0_statement 131 = .ok (.aload_n 0, 1) := by decide +kernel
theorem dX0_statement_132 : decode cX0_statement 132 = .ok (.ldc 101, 2) := by decide +kernel
theorem dX0_statement_134 : decode cX0_statement 134 = .ok (.invokevirtual 62, 3) := by decide +kernel
theorem dX0_statement_137 : decode cX0_statement 137 = .ok (.ifCond .eq 29, 3) := by decide +kernel
theorem dX0_statement_140 : decode cX0_statement 140 = .ok (.aload_n 0, 1) := by decide +kernel
theorem dX0_statement_141 : decode cX0_statement 141 = .ok (.aload_n 0, 1) := by decide +kernel
theorem dX0_statement_142 : decode cX0_statement 142 = .ok (.getfield 32, 3) := by decide +kernel
theorem dX0_statement_145 : decode cX0_statement 145 = .ok (.invokevirtual 103, 3) := by decide +kernel
theorem dX0_statement_148 : decode cX0_statement 148 = .ok (.aload_n 0, 1) := by decide +kernel
theorem dX0_statement_149 : decode cX0_statement 149 = .ok (.iconst 1, 1) := by decide +kernel
theorem dX0_statement_150 : decode cX0_statement 150 = .ok (.putfield 32, 3) := by decide +kernel
theorem dX0_statement_153 : decode cX0_statement 153 = .ok (.aload_n 1, 1) := by decide +kernel
theorem dX0_statement_154 : decode cX0_statement 154 = .ok (.aload_n 0, 1) := by decide +kernel
theorem dX0_statement_155 : decode cX0_statement 155 = .ok (.iconst 1, 1) := by decide +kernel
theorem dX0_statement_156 : decode cX0_statement 156 = .ok (.iconst 4, 1) := by decide +kernel
theorem dX0_statement_157 : decode cX0_statement 157 = .ok (.invokevirtual 89, 3) := by decide +kernel
theorem dX0_statement_160 : decode cX0_statement 160 = .ok (.putfield 107, 3) := by decide +kernel
theorem dX0_statement_163 : decode cX0_statement 163 = .ok (.goto 44, 3) := by decide +kernel
theorem dX0_statement_166 : decode cX0_statement 166 = .ok (.aload_n 0, 1) := by decide +kernel
theorem dX0_statement_167 : decode cX0_statement 167 = .ok (.ldc 109, 2) := by decide +kernel
theorem dX0_statement_169 : decode cX0_statement 169 = .ok (.invokevirtual 62, 3) := by decide +kernel
theorem dX0_statement_172 : decode cX0_statement 172 = .ok (.ifCond .eq 30, 3) := by decide +kernel
theorem dX0_statement_175 : decode cX0_statement 175 = .ok (.aload_n 0, 1) := by decide +kernel
theorem dX0_statement_176 : decode cX0_statement 176 = .ok (.aload_n 0, 1) := by decide +kernel
theorem dX0_statement_177 : decode cX0_statement 177 = .ok (.getfield 36, 3) := by decide +kernel
theorem dX0_statement_180 : decode cX0_statement 180 = .ok (.invokevirtual 103, 3) := by decide +kernel
theorem dX0_statement_183 : decode cX0_statement 183 = .ok (.aload_n 0, 1) := by decide +kernel
theorem dX0_statement_184 : decode cX0_statement 184 = .ok (.iconst 1, 1) := by decide +kernel
theorem dX0_statement_185 : decode cX0_statement 185 = .ok (.putfield 36, 3) := by decide +kernel
theorem dX0_statement_188 : decode cX0_statement 188 = .ok (.aload_n 1, 1) := by decide +kernel
theorem dX0_statement_189 : decode cX0_statement 189 = .ok (.aload_n 0, 1) := by decide +kernel
theorem dX0_statement_190 : decode cX0_statement 190 = .ok (.iconst 1, 1) := by decide +kernel
theorem dX0_statement_191 : decode cX0_statement 191 = .ok (.bipush 8, 2) := by decide +kernel
theorem dX0_statement_193 : decode cX0_statement 193 = .ok (.invokevirtual 89, 3) := by decide +kernel
theorem dX0_statement_196 : decode cX0_statement 196 = .ok (.putfield 111, 3) := by decide +kernel
theorem dX0_statement_199 : decode cX0_statement 199 = .ok (.goto 8, 3) := by decide +kernel
theorem dX0_statement_202 : decode cX0_statement 202 = .ok (.aload_n 0, 1) := by decide +kernel
theorem dX0_statement_203 : decode cX0_statement 203 = .ok (.iconst 1, 1) := by decide +kernel
theorem dX0_statement_204 : decode cX0_statement 204 = .ok (.invokevirtual 114, 3) := by decide +kernel
theorem dX0_statement_207 : decode cX0_statement 207 = .ok (.return_, 1) := by decide +kernel
theorem dX0_setting_0 : decode cX0_setting 0 = .ok (.aload_n 0, 1) := by decide +kernel
theorem dX0_setting_1 : decode cX0_setting 1 = .ok (.invokevirtual 44, 3) := by decide +kernel
theorem dX0_setting_4 : decode cX0_setting 4 = .ok (.aload_n 0, 1) := by decide +kernel
theorem dX0_setting_5 : decode cX0_setting 5 = .ok (.iconst 0, 1) := by decide +kernel
theorem dX0_setting_6 : decode cX0_setting 6 = .ok (.iload_n 2, 1) := by decide +kernel
theorem dX0_setting_7 : decode cX0_setting 7 = .ok (.iconst 1, 1) := by decide +kernel
theorem dX0_setting_8 : decode cX0_setting 8 = .ok (.isub, 1) := by decide +kernel
theorem dX0_setting_9 : decode cX0_setting 9 = .ok (.invokevirtual 89, 3) := by decide +kernel
theorem dX0_setting_12 : decode cX0_setting 12 = .ok (.istore 6, 2) := by decide +kernel
theorem dX0_setting_14 : decode cX0_setting 14 = .ok (.aload_n 0, 1) := by decide +kernel
theorem dX0_setting_15 : decode cX0_setting 15 = .ok (.iconst 0, 1) := by decide +kernel
theorem dX0_setting_16 : decode cX0_setting 16 = .ok (.iload_n 3, 1) := by decide +kernel
theorem dX0_setting_17 : decode cX0_setting 17 = .ok (.iconst 1, 1) := by decide +kernel
theorem dX0_setting_18 : decode cX0_setting 18 = .ok (.isub, 1) := by decide +kernel
theorem dX0_setting_19 : decode cX0_setting 19 = .ok (.invokevirtual 89, 3) := by decide +kernel
theorem dX0_setting_22 : decode cX0_setting 22 = .ok (.istore 7, 2) := by decide +kernel
theorem dX0_setting_24 : decode cX0_setting 24 = .ok (.aload_n 0, 1) := by decide +kernel
theorem dX0_setting_25 : decode cX0_setting 25 = .ok (.iload 4, 2) := by decide +kernel
theorem dX0_setting_27 : decode cX0_setting 27 = .ok (.iload 5, 2) := by decide +kernel
theorem dX0_setting_29 : decode cX0_setting 29 = .ok (.invokevirtual 89, 3) := by decide +kernel
theorem dX0_setting_32 : decode cX0_setting 32 = .ok (.istore 8, 2) := by decide +kernel
theorem dX0_setting_34 : decode cX0_setting 34 = .ok (.iload 6, 2) := by decide +kernel
theorem dX0_setting_36 : decode cX0_setting 36 = .ok (.iload_n 3, 1) := by decide +kernel
theorem dX0_setting_37 : decode cX0_setting 37 = .ok (.imul, 1) := by decide +kernel
theorem dX0_setting_38 : decode cX0_setting 38 = .ok (.iload 7, 2) := by decide +kernel
theorem dX0_setting_40 : decode cX0_setting 40 = .ok (.iadd, 1) := by decide +kernel
theorem dX0_setting_41 : decode cX0_setting 41 = .ok (.istore 9, 2) := by decide +kernel
theorem dX0_setting_43 : decode cX0_setting 43 = .ok (.iload 9, 2) := by decide +kernel
theorem dX0_setting_45 : decode cX0_setting 45 = .ok (.ifCond .lt 16, 3) := by decide +kernel
theorem dX0_setting_48 : decode cX0_setting 48 = .ok (.iload 9, 2) := by decide +kernel
theorem dX0_setting_50 : decode cX0_setting 50 = .ok (.aload_n 1, 1) := by decide +kernel
theorem dX0_setting_51 : decode cX0_setting 51 = .ok (.arraylength, 1) := by decide +kernel
theorem dX0_setting_52 : decode cX0_setting 52 = .ok (.if_icmp .ge 9, 3) := by decide +kernel
theorem dX0_setting_55 : decode cX0_setting 55 = .ok (.aload_n 1, 1) := by decide +kernel
theorem dX0_setting_56 : decode cX0_setting 56 = .ok (.iload 9, 2) := by decide +kernel
theorem dX0_setting_58 : decode cX0_setting 58 = .ok (.iload 8, 2) := by decide +kernel
theorem dX0_setting_60 : decode cX0_setting 60 = .ok (.iastore, 1) := by decide +kernel
theorem dX0_setting_61 : decode cX0_setting 61 = .ok (.return_, 1) := by decide +kernel
theorem dX0_once_0 : decode cX0_once 0 = .ok (.iload_n 1, 1) := by decide +kernel
theorem dX0_once_1 : decode cX0_once 1 = .ok (.ifCond .eq 8, 3) := by decide +kernel
theorem dX0_once_4 : decode cX0_once 4 = .ok (.aload_n 0, 1) := by decide +kernel
theorem dX0_once_5 : decode cX0_once 5 = .ok (.iconst 2, 1) := by decide +kernel
theorem dX0_once_6 : decode cX0_once 6 = .ok (.invokevirtual 114, 3) := by decide +kernel
theorem dX0_once_9 : decode cX0_once 9 = .ok (.aload_n 0, 1) := by decide +kernel
theorem dX0_once_10 : decode cX0_once 10 = .ok (.invokevirtual 44, 3) := by decide +kernel
theorem dX0_once_13 : decode cX0_once 13 = .ok (.return_, 1) := by decide +kernel
theorem dX0_numberIn_0 : decode cX0_numberIn 0 = .ok (.aload_n 0, 1) := by decide +kernel
theorem dX0_numberIn_1 : decode cX0_numberIn 1 = .ok (.getfield 47, 3) := by decide +kernel
theorem dX0_numberIn_4 : decode cX0_numberIn 4 = .ok (.iconst 3, 1) := by decide +kernel
theorem dX0_numberIn_5 : decode cX0_numberIn 5 = .ok (.if_icmp .eq 10, 3) := by decide +kernel
theorem dX0_numberIn_8 : decode cX0_numberIn 8 = .ok (.aload_n 0, 1) := by decide +kernel
theorem dX0_numberIn_9 : decode cX0_numberIn 9 = .ok (.iconst 1, 1) := by decide +kernel
theorem dX0_numberIn_10 : decode cX0_numberIn 10 = .ok (.invokevirtual 114, 3) := by decide +kernel
theorem dX0_numberIn_13 : decode cX0_numberIn 13 = .ok (.iload_n 1, 1) := by decide +kernel
theorem dX0_numberIn_14 : decode cX0_numberIn 14 = .ok (.ireturn, 1) := by decide +kernel
theorem dX0_numberIn_15 : decode cX0_numberIn 15 = .ok (.aload_n 0, 1) := by decide +kernel
theorem dX0_numberIn_16 : decode cX0_numberIn 16 = .ok (.getfield 118, 3) := by decide +kernel
theorem dX0_numberIn_19 : decode cX0_numberIn 19 = .ok (.iload_n 1, 1) := by decide +kernel
theorem dX0_numberIn_20 : decode cX0_numberIn 20 = .ok (.if_icmp .lt 11, 3) := by decide +kernel
theorem dX0_numberIn_23 : decode cX0_numberIn 23 = .ok (.aload_n 0, 1) := by decide +kernel
theorem dX0_numberIn_24 : decode cX0_numberIn 24 = .ok (.getfield 118, 3) := by decide +kernel
theorem dX0_numberIn_27 : decode cX0_numberIn 27 = .ok (.iload_n 2, 1) := by decide +kernel
theorem dX0_numberIn_28 : decode cX0_numberIn 28 = .ok (.if_icmp .le 10, 3) := by decide +kernel
theorem dX0_numberIn_31 : decode cX0_numberIn 31 = .ok (.aload_n 0, 1) := by decide +kernel
theorem dX0_numberIn_32 : decode cX0_numberIn 32 = .ok (.iconst 3, 1) := by decide +kernel
theorem dX0_numberIn_33 : decode cX0_numberIn 33 = .ok (.invokevirtual 114, 3) := by decide +kernel
theorem dX0_numberIn_36 : decode cX0_numberIn 36 = .ok (.iload_n 1, 1) := by decide +kernel
theorem dX0_numberIn_37 : decode cX0_numberIn 37 = .ok (.ireturn, 1) := by decide +kernel
theorem dX0_numberIn_38 : decode cX0_numberIn 38 = .ok (.aload_n 0, 1) := by decide +kernel
theorem dX0_numberIn_39 : decode cX0_numberIn 39 = .ok (.getfield 118, 3) := by decide +kernel
theorem dX0_numberIn_42 : decode cX0_numberIn 42 = .ok (.istore_n 3, 1) := by decide +kernel
theorem dX0_numberIn_43 : decode cX0_numberIn 43 = .ok (.aload_n 0, 1) := by decide +kernel
theorem dX0_numberIn_44 : decode cX0_numberIn 44 = .ok (.invokevirtual 44, 3) := by decide +kernel
theorem dX0_numberIn_47 : decode cX0_numberIn 47 = .ok (.iload_n 3, 1) := by decide +kernel
theorem dX0_numberIn_48 : decode cX0_numberIn 48 = .ok (.ireturn, 1) := by decide +kernel
theorem dX0_expectSemicolon_0 : decode cX0_expectSemicolon 0 = .ok (.aload_n 0, 1) := by decide +kernel
theorem dX0_expectSemicolon_1 : decode cX0_expectSemicolon 1 = .ok (.getfield 47, 3) := by decide +kernel
theorem dX0_expectSemicolon_4 : decode cX0_expectSemicolon 4 = .ok (.bipush 59, 2) := by decide +kernel
theorem dX0_expectSemicolon_6 : decode cX0_expectSemicolon 6 = .ok (.if_icmp .ne 10, 3) := by decide +kernel
theorem dX0_expectSemicolon_9 : decode cX0_expectSemicolon 9 = .ok (.aload_n 0, 1) := by decide +kernel
theorem dX0_expectSemicolon_10 : decode cX0_expectSemicolon 10 = .ok (.invokevirtual 44, 3) := by decide +kernel
theorem dX0_expectSemicolon_13 : decode cX0_expectSemicolon 13 = .ok (.goto 8, 3) := by decide +kernel
theorem dX0_expectSemicolon_16 : decode cX0_expectSemicolon 16 = .ok (.aload_n 0, 1) := by decide +kernel
theorem dX0_expectSemicolon_17 : decode cX0_expectSemicolon 17 = .ok (.iconst 1, 1) := by decide +kernel
theorem dX0_expectSemicolon_18 : decode cX0_expectSemicolon 18 = .ok (.invokevirtual 114, 3) := by decide +kernel
theorem dX0_expectSemicolon_21 : decode cX0_expectSemicolon 21 = .ok (.return_, 1) := by decide +kernel
theorem dX0_sum_0 : decode cX0_sum 0 = .ok (.aload_n 1, 1) := by decide +kernel
theorem dX0_sum_1 : decode cX0_sum 1 = .ok (.invokevirtual 121, 3) := by decide +kernel
theorem dX0_sum_4 : decode cX0_sum 4 = .ok (.aload_n 0, 1) := by decide +kernel
theorem dX0_sum_5 : decode cX0_sum 5 = .ok (.iconst 0, 1) := by decide +kernel
theorem dX0_sum_6 : decode cX0_sum 6 = .ok (.putfield 126, 3) := by decide +kernel
theorem dX0_sum_9 : decode cX0_sum 9 = .ok (.aload_n 0, 1) := by decide +kernel
theorem dX0_sum_10 : decode cX0_sum 10 = .ok (.iconst 0, 1) := by decide +kernel
theorem dX0_sum_11 : decode cX0_sum 11 = .ok (.putfield 129, 3) := by decide +kernel
theorem dX0_sum_14 : decode cX0_sum 14 = .ok (.iconst 1, 1) := by decide +kernel
theorem dX0_sum_15 : decode cX0_sum 15 = .ok (.istore_n 2, 1) := by decide +kernel
theorem dX0_sum_16 : decode cX0_sum 16 = .ok (.iconst 0, 1) := by decide +kernel
theorem dX0_sum_17 : decode cX0_sum 17 = .ok (.istore_n 3, 1) := by decide +kernel
theorem dX0_sum_18 : decode cX0_sum 18 = .ok (.iconst 0, 1) := by decide +kernel
theorem dX0_sum_19 : decode cX0_sum 19 = .ok (.istore 4, 2) := by decide +kernel
theorem dX0_sum_21 : decode cX0_sum 21 = .ok (.iload 4, 2) := by decide +kernel
theorem dX0_sum_23 : decode cX0_sum 23 = .ok (.sipush 600, 3) := by decide +kernel
theorem dX0_sum_26 : decode cX0_sum 26 = .ok (.if_icmp .gt 116, 3) := by decide +kernel
theorem dX0_sum_29 : decode cX0_sum 29 = .ok (.aload_n 0, 1) := by decide +kernel
theorem dX0_sum_30 : decode cX0_sum 30 = .ok (.getfield 26, 3) := by decide +kernel
theorem dX0_sum_33 : decode cX0_sum 33 = .ok (.ifCond .ne 109, 3) := by decide +kernel
theorem dX0_sum_36 : decode cX0_sum 36 = .ok (.iload_n 3, 1) := by decide +kernel
theorem dX0_sum_37 : decode cX0_sum 37 = .ok (.ifCond .ne 105, 3) := by decide +kernel
theorem dX0_sum_40 : decode cX0_sum 40 = .ok (.iload_n 2, 1) := by decide +kernel
theorem dX0_sum_41 : decode cX0_sum 41 = .ok (.ifCond .eq 26, 3) := by decide +kernel
theorem dX0_sum_44 : decode cX0_sum 44 = .ok (.aload_n 0, 1) := by decide +kernel
theorem dX0_sum_45 : decode cX0_sum 45 = .ok (.getfield 47, 3) := by decide +kernel
theorem dX0_sum_48 : decode cX0_sum 48 = .ok (.bipush 40, 2) := by decide +kernel
theorem dX0_sum_50 : decode cX0_sum 50 = .ok (.if_icmp .ne 7, 3) := by decide +kernel
theorem dX0_sum_53 : decode cX0_sum 53 = .ok (.iconst 1, 1) := by decide +kernel
theorem dX0_sum_54 : decode cX0_sum 54 = .ok (.goto 4, 3) := by decide +kernel
theorem dX0_sum_57 : decode cX0_sum 57 = .ok (.iconst 0, 1) := by decide +kernel
theorem dX0_sum_58 : decode cX0_sum 58 = .ok (.istore_n 2, 1) := by decide +kernel
theorem dX0_sum_59 : decode cX0_sum 59 = .ok (.aload_n 0, 1) := by decide +kernel
theorem dX0_sum_60 : decode cX0_sum 60 = .ok (.aload_n 1, 1) := by decide +kernel
theorem dX0_sum_61 : decode cX0_sum 61 = .ok (.invokevirtual 132, 3) := by decide +kernel
theorem dX0_sum_64 : decode cX0_sum 64 = .ok (.goto 64, 3) := by decide +kernel
theorem dX0_sum_67 : decode cX0_sum 67 = .ok (.aload_n 0, 1) := by decide +kernel
theorem dX0_sum_68 : decode cX0_sum 68 = .ok (.getfield 47, 3) := by decide +kernel
theorem dX0_sum_71 : decode cX0_sum 71 = .ok (.invokestatic 135, 3) := by decide +kernel
theorem dX0_sum_74 : decode cX0_sum 74 = .ok (.ifCond .le 28, 3) := by decide +kernel
theorem dX0_sum_77 : decode cX0_sum 77 = .ok (.aload_n 0, 1) := by decide +kernel
theorem dX0_sum_78 : decode cX0_sum 78 = .ok (.aload_n 1, 1) := by decide +kernel
theorem dX0_sum_79 : decode cX0_sum 79 = .ok (.aload_n 0, 1) := by decide +kernel
theorem dX0_sum_80 : decode cX0_sum 80 = .ok (.getfield 47, 3) := by decide +kernel
theorem dX0_sum_83 : decode cX0_sum 83 = .ok (.invokestatic 135, 3) := by decide +kernel
theorem dX0_sum_86 : decode cX0_sum 86 = .ok (.invokevirtual 139, 3) := by decide +kernel
theorem dX0_sum_89 : decode cX0_sum 89 = .ok (.aload_n 0, 1) := by decide +kernel
theorem dX0_sum_90 : decode cX0_sum 90 = .ok (.aload_n 0, 1) := by decide +kernel
theorem dX0_sum_91 : decode cX0_sum 91 = .ok (.getfield 47, 3) := by decide +kernel
theorem dX0_sum_94 : decode cX0_sum 94 = .ok (.invokevirtual 143, 3) := by decide +kernel
theorem dX0_sum_97 : decode cX0_sum 97 = .ok (.iconst 1, 1) := by decide +kernel
theorem dX0_sum_98 : decode cX0_sum 98 = .ok (.istore_n 2, 1) := by decide +kernel
theorem dX0_sum_99 : decode cX0_sum 99 = .ok (.goto 29, 3) := by decide +kernel
theorem dX0_sum_102 : decode cX0_sum 102 = .ok (.aload_n 0, 1) := by decide +kernel
theorem dX0_sum_103 : decode cX0_sum 103 = .ok (.getfield 47, 3) := by decide +kernel
theorem dX0_sum_106 : decode cX0_sum 106 = .ok (.bipush 41, 2) := by decide +kernel
theorem dX0_sum_108 : decode cX0_sum 108 = .ok (.if_icmp .ne 18, 3) := by decide +kernel
theorem dX0_sum_111 : decode cX0_sum 111 = .ok (.aload_n 0, 1) := by decide +kernel
theorem dX0_sum_112 : decode cX0_sum 112 = .ok (.getfield 129, 3) := by decide +kernel
theorem dX0_sum_115 : decode cX0_sum 115 = .ok (.ifCond .le 11, 3) := by decide +kernel
theorem dX0_sum_118 : decode cX0_sum 118 = .ok (.aload_n 0, 1) := by decide +kernel
theorem dX0_sum_119 : decode cX0_sum 119 = .ok (.aload_n 1, 1) := by decide +kernel
theorem dX0_sum_120 : decode cX0_sum 120 = .ok (.invokevirtual 146, 3) := by decide +kernel
theorem dX0_sum_123 : decode cX0_sum 123 = .ok (.goto 5, 3) := by decide +kernel
theorem dX0_sum_126 : decode cX0_sum 126 = .ok (.iconst 1, 1) := by decide +kernel
theorem dX0_sum_127 : decode cX0_sum 127 = .ok (.istore_n 3, 1) := by decide +kernel
theorem dX0_sum_128 : decode cX0_sum 128 = .ok (.iload_n 3, 1) := by decide +kernel
theorem dX0_sum_129 : decode cX0_sum 129 = .ok (.ifCond .ne 7, 3) := by decide +kernel
theorem dX0_sum_132 : decode cX0_sum 132 = .ok (.aload_n 0, 1) := by decide +kernel
theorem dX0_sum_133 : decode cX0_sum 133 = .ok (.invokevirtual 44, 3) := by decide +kernel
theorem dX0_sum_136 : decode cX0_sum 136 = .ok (.iinc 4 1, 3) := by decide +kernel
theorem dX0_sum_139 : decode cX0_sum 139 = .ok (.goto (-118), 3) := by decide +kernel
theorem dX0_sum_142 : decode cX0_sum 142 = .ok (.aload_n 0, 1) := by decide +kernel
theorem dX0_sum_143 : decode cX0_sum 143 = .ok (.getfield 129, 3) := by decide +kernel
theorem dX0_sum_146 : decode cX0_sum 146 = .ok (.ifCond .le 8, 3) := by decide +kernel
theorem dX0_sum_149 : decode cX0_sum 149 = .ok (.aload_n 0, 1) := by decide +kernel
theorem dX0_sum_150 : decode cX0_sum 150 = .ok (.iconst 1, 1) := by decide +kernel
theorem dX0_sum_151 : decode cX0_sum 151 = .ok (.invokevirtual 114, 3) := by decide +kernel
theorem dX0_sum_154 : decode cX0_sum 154 = .ok (.aload_n 0, 1) := by decide +kernel
theorem dX0_sum_155 : decode cX0_sum 155 = .ok (.aload_n 1, 1) := by decide +kernel
theorem dX0_sum_156 : decode cX0_sum 156 = .ok (.iconst 1, 1) := by decide +kernel
theorem dX0_sum_157 : decode cX0_sum 157 = .ok (.invokevirtual 139, 3) := by decide +kernel
theorem dX0_sum_160 : decode cX0_sum 160 = .ok (.return_, 1) := by decide +kernel
theorem dX0_beginFactor_0 : decode cX0_beginFactor 0 = .ok (.aload_n 0, 1) := by decide +kernel
theorem dX0_beginFactor_1 : decode cX0_beginFactor 1 = .ok (.getfield 47, 3) := by decide +kernel
theorem dX0_beginFactor_4 : decode cX0_beginFactor 4 = .ok (.bipush 40, 2) := by decide +kernel
theorem dX0_beginFactor_6 : decode cX0_beginFactor 6 = .ok (.if_icmp .ne 10, 3) := by decide +kernel
theorem dX0_beginFactor_9 : decode cX0_beginFactor 9 = .ok (.aload_n 0, 1) := by decide +kernel
theorem dX0_beginFactor_10 : decode cX0_beginFactor 10 = .ok (.invokevirtual 149, 3) := by decide +kernel
theorem dX0_beginFactor_13 : decode cX0_beginFactor 13 = .ok (.goto 98, 3) := by decide +kernel
theorem dX0_beginFactor_16 : decode cX0_beginFactor 16 = .ok (.aload_n 0, 1) := by decide +kernel
theorem dX0_beginFactor_17 : decode cX0_beginFactor 17 = .ok (.getfield 47, 3) := by decide +kernel
theorem dX0_beginFactor_20 : decode cX0_beginFactor 20 = .ok (.iconst 3, 1) := by decide +kernel
theorem dX0_beginFactor_21 : decode cX0_beginFactor 21 = .ok (.if_icmp .ne 14, 3) := by decide +kernel
theorem dX0_beginFactor_24 : decode cX0_beginFactor 24 = .ok (.aload_n 1, 1) := by decide +kernel
theorem dX0_beginFactor_25 : decode cX0_beginFactor 25 = .ok (.aload_n 0, 1) := by decide +kernel
theorem dX0_beginFactor_26 : decode cX0_beginFactor 26 = .ok (.getfield 118, 3) := by decide +kernel
theorem dX0_beginFactor_29 : decode cX0_beginFactor 29 = .ok (.invokevirtual 152, 3) := by decide +kernel
theorem dX0_beginFactor_32 : decode cX0_beginFactor 32 = .ok (.goto 79, 3) := by decide +kernel
theorem dX0_beginFactor_35 : decode cX0_beginFactor 35 = .ok (.aload_n 0, 1) := by decide +kernel
theorem dX0_beginFactor_36 : decode cX0_beginFactor 36 = .ok (.ldc 155, 2) := by decide +kernel
theorem dX0_beginFactor_38 : decode cX0_beginFactor 38 = .ok (.invokevirtual 62, 3) := by decide +kernel
theorem dX0_beginFactor_41 : decode cX0_beginFactor 41 = .ok (.ifCond .eq 11, 3) := by decide +kernel
theorem dX0_beginFactor_44 : decode cX0_beginFactor 44 = .ok (.aload_n 1, 1) := by decide +kernel
theorem dX0_beginFactor_45 : decode cX0_beginFactor 45 = .ok (.iconst (-1), 1) := by decide +kernel
theorem dX0_beginFactor_46 : decode cX0_beginFactor 46 = .ok (.invokevirtual 152, 3) := by decide +kernel
theorem dX0_beginFactor_49 : decode cX0_beginFactor 49 = .ok (.goto 62, 3) := by decide +kernel
theorem dX0_beginFactor_52 : decode cX0_beginFactor 52 = .ok (.aload_n 0, 1) := by decide +kernel
theorem dX0_beginFactor_53 : decode cX0_beginFactor 53 = .ok (.ldc 157, 2) := by decide +kernel
theorem dX0_beginFactor_55 : decode cX0_beginFactor 55 = .ok (.invokevirtual 62, 3) := by decide +kernel
theorem dX0_beginFactor_58 : decode cX0_beginFactor 58 = .ok (.ifCond .eq 12, 3) := by decide +kernel
theorem dX0_beginFactor_61 : decode cX0_beginFactor 61 = .ok (.aload_n 1, 1) := by decide +kernel
theorem dX0_beginFactor_62 : decode cX0_beginFactor 62 = .ok (.bipush (-2), 2) := by decide +kernel
theorem dX0_beginFactor_64 : decode cX0_beginFactor 64 = .ok (.invokevirtual 152, 3) := by decide +kernel
theorem dX0_beginFactor_67 : decode cX0_beginFactor 67 = .ok (.goto 44, 3) := by decide +kernel
theorem dX0_beginFactor_70 : decode cX0_beginFactor 70 = .ok (.aload_n 0, 1) := by decide +kernel
theorem dX0_beginFactor_71 : decode cX0_beginFactor 71 = .ok (.ldc 159, 2) := by decide +kernel
theorem dX0_beginFactor_73 : decode cX0_beginFactor 73 = .ok (.invokevirtual 62, 3) := by decide +kernel
theorem dX0_beginFactor_76 : decode cX0_beginFactor 76 = .ok (.ifCond .eq 12, 3) := by decide +kernel
theorem dX0_beginFactor_79 : decode cX0_beginFactor 79 = .ok (.aload_n 1, 1) := by decide +kernel
theorem dX0_beginFactor_80 : decode cX0_beginFactor 80 = .ok (.bipush (-3), 2) := by decide +kernel
theorem dX0_beginFactor_82 : decode cX0_beginFactor 82 = .ok (.invokevirtual 152, 3) := by decide +kernel
theorem dX0_beginFactor_85 : decode cX0_beginFactor 85 = .ok (.goto 26, 3) := by decide +kernel
theorem dX0_beginFactor_88 : decode cX0_beginFactor 88 = .ok (.aload_n 0, 1) := by decide +kernel
theorem dX0_beginFactor_89 : decode cX0_beginFactor 89 = .ok (.ldc 161, 2) := by decide +kernel
theorem dX0_beginFactor_91 : decode cX0_beginFactor 91 = .ok (.invokevirtual 62, 3) := by decide +kernel
theorem dX0_beginFactor_94 : decode cX0_beginFactor 94 = .ok (.ifCond .eq 12, 3) := by decide +kernel
theorem dX0_beginFactor_97 : decode cX0_beginFactor 97 = .ok (.aload_n 1, 1) := by decide +kernel
theorem dX0_beginFactor_98 : decode cX0_beginFactor 98 = .ok (.bipush (-4), 2) := by decide +kernel
theorem dX0_beginFactor_100 : decode cX0_beginFactor 100 = .ok (.invokevirtual 152, 3) := by decide +kernel
theorem dX0_beginFactor_103 : decode cX0_beginFactor 103 = .ok (.goto 8, 3) := by decide +kernel
theorem dX0_beginFactor_106 : decode cX0_beginFactor 106 = .ok (.aload_n 0, 1) := by decide +kernel
theorem dX0_beginFactor_107 : decode cX0_beginFactor 107 = .ok (.iconst 1, 1) := by decide +kernel
theorem dX0_beginFactor_108 : decode cX0_beginFactor 108 = .ok (.invokevirtual 114, 3) := by decide +kernel
theorem dX0_beginFactor_111 : decode cX0_beginFactor 111 = .ok (.return_, 1) := by decide +kernel
theorem dX0_openBracket_0 : decode cX0_openBracket 0 = .ok (.aload_n 0, 1) := by decide +kernel
theorem dX0_openBracket_1 : decode cX0_openBracket 1 = .ok (.getfield 129, 3) := by decide +kernel
theorem dX0_openBracket_4 : decode cX0_openBracket 4 = .ok (.iconst 5, 1) := by decide +kernel
theorem dX0_openBracket_5 : decode cX0_openBracket 5 = .ok (.if_icmp .lt 11, 3) := by decide +kernel
theorem dX0_openBracket_8 : decode cX0_openBracket 8 = .ok (.aload_n 0, 1) := by decide +kernel
theorem dX0_openBracket_9 : decode cX0_openBracket 9 = .ok (.iconst 4, 1) := by decide +kernel
theorem dX0_openBracket_10 : decode cX0_openBracket 10 = .ok (.invokevirtual 114, 3) := by decide +kernel
theorem dX0_openBracket_13 : decode cX0_openBracket 13 = .ok (.goto 19, 3) := by decide +kernel
theorem dX0_openBracket_16 : decode cX0_openBracket 16 = .ok (.aload_n 0, 1) := by decide +kernel
theorem dX0_openBracket_17 : decode cX0_openBracket 17 = .ok (.dup, 1) := by decide +kernel
theorem dX0_openBracket_18 : decode cX0_openBracket 18 = .ok (.getfield 129, 3) := by decide +kernel
theorem dX0_openBracket_21 : decode cX0_openBracket 21 = .ok (.iconst 1, 1) := by decide +kernel
theorem dX0_openBracket_22 : decode cX0_openBracket 22 = .ok (.iadd, 1) := by decide +kernel
theorem dX0_openBracket_23 : decode cX0_openBracket 23 = .ok (.putfield 129, 3) := by decide +kernel
theorem dX0_openBracket_26 : decode cX0_openBracket 26 = .ok (.aload_n 0, 1) := by decide +kernel
theorem dX0_openBracket_27 : decode cX0_openBracket 27 = .ok (.bipush 40, 2) := by decide +kernel
theorem dX0_openBracket_29 : decode cX0_openBracket 29 = .ok (.invokevirtual 143, 3) := by decide +kernel
theorem dX0_openBracket_32 : decode cX0_openBracket 32 = .ok (.return_, 1) := by decide +kernel
theorem dX0_closeBracket_0 : decode cX0_closeBracket 0 = .ok (.aload_n 0, 1) := by decide +kernel
theorem dX0_closeBracket_1 : decode cX0_closeBracket 1 = .ok (.aload_n 1, 1) := by decide +kernel
theorem dX0_closeBracket_2 : decode cX0_closeBracket 2 = .ok (.iconst 1, 1) := by decide +kernel
theorem dX0_closeBracket_3 : decode cX0_closeBracket 3 = .ok (.invokevirtual 139, 3) := by decide +kernel
theorem dX0_closeBracket_6 : decode cX0_closeBracket 6 = .ok (.aload_n 0, 1) := by decide +kernel
theorem dX0_closeBracket_7 : decode cX0_closeBracket 7 = .ok (.getfield 126, 3) := by decide +kernel
theorem dX0_closeBracket_10 : decode cX0_closeBracket 10 = .ok (.ifCond .le 13, 3) := by decide +kernel
theorem dX0_closeBracket_13 : decode cX0_closeBracket 13 = .ok (.aload_n 0, 1) := by decide +kernel
theorem dX0_closeBracket_14 : decode cX0_closeBracket 14 = .ok (.dup, 1) := by decide +kernel
theorem dX0_closeBracket_15 : decode cX0_closeBracket 15 = .ok (.getfield 126, 3) := by decide +kernel
theorem dX0_closeBracket_18 : decode cX0_closeBracket 18 = .ok (.iconst 1, 1) := by decide +kernel
theorem dX0_closeBracket_19 : decode cX0_closeBracket 19 = .ok (.isub, 1) := by decide +kernel
theorem dX0_closeBracket_20 : decode cX0_closeBracket 20 = .ok (.putfield 126, 3) := by decide +kernel
theorem dX0_closeBracket_23 : decode cX0_closeBracket 23 = .ok (.aload_n 0, 1) := by decide +kernel
theorem dX0_closeBracket_24 : decode cX0_closeBracket 24 = .ok (.dup, 1) := by decide +kernel
theorem dX0_closeBracket_25 : decode cX0_closeBracket 25 = .ok (.getfield 129, 3) := by decide +kernel
theorem dX0_closeBracket_28 : decode cX0_closeBracket 28 = .ok (.iconst 1, 1) := by decide +kernel
theorem dX0_closeBracket_29 : decode cX0_closeBracket 29 = .ok (.isub, 1) := by decide +kernel
theorem dX0_closeBracket_30 : decode cX0_closeBracket 30 = .ok (.putfield 129, 3) := by decide +kernel
theorem dX0_closeBracket_33 : decode cX0_closeBracket 33 = .ok (.return_, 1) := by decide +kernel
theorem dX0_push_0 : decode cX0_push 0 = .ok (.aload_n 0, 1) := by decide +kernel
theorem dX0_push_1 : decode cX0_push 1 = .ok (.getfield 126, 3) := by decide +kernel
theorem dX0_push_4 : decode cX0_push 4 = .ok (.ifCond .lt 35, 3) := by decide +kernel
theorem dX0_push_7 : decode cX0_push 7 = .ok (.aload_n 0, 1) := by decide +kernel
theorem dX0_push_8 : decode cX0_push 8 = .ok (.getfield 126, 3) := by decide +kernel
theorem dX0_push_11 : decode cX0_push 11 = .ok (.aload_n 0, 1) := by decide +kernel
theorem dX0_push_12 : decode cX0_push 12 = .ok (.getfield 15, 3) := by decide +kernel
theorem dX0_push_15 : decode cX0_push 15 = .ok (.arraylength, 1) := by decide +kernel
theorem dX0_push_16 : decode cX0_push 16 = .ok (.if_icmp .ge 23, 3) := by decide +kernel
theorem dX0_push_19 : decode cX0_push 19 = .ok (.aload_n 0, 1) := by decide +kernel
theorem dX0_push_20 : decode cX0_push 20 = .ok (.getfield 15, 3) := by decide +kernel
theorem dX0_push_23 : decode cX0_push 23 = .ok (.aload_n 0, 1) := by decide +kernel
theorem dX0_push_24 : decode cX0_push 24 = .ok (.getfield 126, 3) := by decide +kernel
theorem dX0_push_27 : decode cX0_push 27 = .ok (.iload_n 1, 1) := by decide +kernel
theorem dX0_push_28 : decode cX0_push 28 = .ok (.iastore, 1) := by decide +kernel
theorem dX0_push_29 : decode cX0_push 29 = .ok (.aload_n 0, 1) := by decide +kernel
theorem dX0_push_30 : decode cX0_push 30 = .ok (.dup, 1) := by decide +kernel
theorem dX0_push_31 : decode cX0_push 31 = .ok (.getfield 126, 3) := by decide +kernel
theorem dX0_push_34 : decode cX0_push 34 = .ok (.iconst 1, 1) := by decide +kernel
theorem dX0_push_35 : decode cX0_push 35 = .ok (.iadd, 1) := by decide +kernel
theorem dX0_push_36 : decode cX0_push 36 = .ok (.putfield 126, 3) := by decide +kernel
theorem dX0_push_39 : decode cX0_push 39 = .ok (.return_, 1) := by decide +kernel
theorem dX0_addPending_0 : decode cX0_addPending 0 = .ok (.aload_n 0, 1) := by decide +kernel
theorem dX0_addPending_1 : decode cX0_addPending 1 = .ok (.getfield 126, 3) := by decide +kernel
theorem dX0_addPending_4 : decode cX0_addPending 4 = .ok (.iconst 1, 1) := by decide +kernel
theorem dX0_addPending_5 : decode cX0_addPending 5 = .ok (.isub, 1) := by decide +kernel
theorem dX0_addPending_6 : decode cX0_addPending 6 = .ok (.istore_n 3, 1) := by decide +kernel
theorem dX0_addPending_7 : decode cX0_addPending 7 = .ok (.iload_n 3, 1) := by decide +kernel
theorem dX0_addPending_8 : decode cX0_addPending 8 = .ok (.ifCond .lt 42, 3) := by decide +kernel
theorem dX0_addPending_11 : decode cX0_addPending 11 = .ok (.aload_n 0, 1) := by decide +kernel
theorem dX0_addPending_12 : decode cX0_addPending 12 = .ok (.getfield 15, 3) := by decide +kernel
theorem dX0_addPending_15 : decode cX0_addPending 15 = .ok (.iload_n 3, 1) := by decide +kernel
theorem dX0_addPending_16 : decode cX0_addPending 16 = .ok (.invokestatic 163, 3) := by decide +kernel
theorem dX0_addPending_19 : decode cX0_addPending 19 = .ok (.invokestatic 135, 3) := by decide +kernel
theorem dX0_addPending_22 : decode cX0_addPending 22 = .ok (.iload_n 2, 1) := by decide +kernel
theorem dX0_addPending_23 : decode cX0_addPending 23 = .ok (.if_icmp .lt 27, 3) := by decide +kernel
theorem dX0_addPending_26 : decode cX0_addPending 26 = .ok (.aload_n 1, 1) := by decide +kernel
theorem dX0_addPending_27 : decode cX0_addPending 27 = .ok (.aload_n 0, 1) := by decide +kernel
theorem dX0_addPending_28 : decode cX0_addPending 28 = .ok (.getfield 15, 3) := by decide +kernel
theorem dX0_addPending_31 : decode cX0_addPending 31 = .ok (.iload_n 3, 1) := by decide +kernel
theorem dX0_addPending_32 : decode cX0_addPending 32 = .ok (.invokestatic 163, 3) := by decide +kernel
theorem dX0_addPending_35 : decode cX0_addPending 35 = .ok (.ineg, 1) := by decide +kernel
theorem dX0_addPending_36 : decode cX0_addPending 36 = .ok (.invokevirtual 152, 3) := by decide +kernel
theorem dX0_addPending_39 : decode cX0_addPending 39 = .ok (.aload_n 0, 1) := by decide +kernel
theorem dX0_addPending_40 : decode cX0_addPending 40 = .ok (.iload_n 3, 1) := by decide +kernel
theorem dX0_addPending_41 : decode cX0_addPending 41 = .ok (.putfield 126, 3) := by decide +kernel
theorem dX0_addPending_44 : decode cX0_addPending 44 = .ok (.iinc 3 (-1), 3) := by decide +kernel
theorem dX0_addPending_47 : decode cX0_addPending 47 = .ok (.goto (-40), 3) := by decide +kernel
theorem dX0_addPending_50 : decode cX0_addPending 50 = .ok (.return_, 1) := by decide +kernel
theorem dX0_rankOf_0 : decode cX0_rankOf 0 = .ok (.iload_n 0, 1) := by decide +kernel
theorem dX0_rankOf_1 : decode cX0_rankOf 1 = .ok (.bipush 43, 2) := by decide +kernel
theorem dX0_rankOf_3 : decode cX0_rankOf 3 = .ok (.if_icmp .eq 9, 3) := by decide +kernel
theorem dX0_rankOf_6 : decode cX0_rankOf 6 = .ok (.iload_n 0, 1) := by decide +kernel
theorem dX0_rankOf_7 : decode cX0_rankOf 7 = .ok (.bipush 45, 2) := by decide +kernel
theorem dX0_rankOf_9 : decode cX0_rankOf 9 = .ok (.if_icmp .ne 5, 3) := by decide +kernel
theorem dX0_rankOf_12 : decode cX0_rankOf 12 = .ok (.iconst 1, 1) := by decide +kernel
theorem dX0_rankOf_13 : decode cX0_rankOf 13 = .ok (.ireturn, 1) := by decide +kernel
theorem dX0_rankOf_14 : decode cX0_rankOf 14 = .ok (.iload_n 0, 1) := by decide +kernel
theorem dX0_rankOf_15 : decode cX0_rankOf 15 = .ok (.bipush 42, 2) := by decide +kernel
theorem dX0_rankOf_17 : decode cX0_rankOf 17 = .ok (.if_icmp .eq 15, 3) := by decide +kernel
theorem dX0_rankOf_20 : decode cX0_rankOf 20 = .ok (.iload_n 0, 1) := by decide +kernel
theorem dX0_rankOf_21 : decode cX0_rankOf 21 = .ok (.bipush 47, 2) := by decide +kernel
theorem dX0_rankOf_23 : decode cX0_rankOf 23 = .ok (.if_icmp .eq 9, 3) := by decide +kernel
theorem dX0_rankOf_26 : decode cX0_rankOf 26 = .ok (.iload_n 0, 1) := by decide +kernel
theorem dX0_rankOf_27 : decode cX0_rankOf 27 = .ok (.bipush 37, 2) := by decide +kernel
theorem dX0_rankOf_29 : decode cX0_rankOf 29 = .ok (.if_icmp .ne 7, 3) := by decide +kernel
theorem dX0_rankOf_32 : decode cX0_rankOf 32 = .ok (.iconst 2, 1) := by decide +kernel
theorem dX0_rankOf_33 : decode cX0_rankOf 33 = .ok (.goto 4, 3) := by decide +kernel
theorem dX0_rankOf_36 : decode cX0_rankOf 36 = .ok (.iconst 0, 1) := by decide +kernel
theorem dX0_rankOf_37 : decode cX0_rankOf 37 = .ok (.ireturn, 1) := by decide +kernel
theorem dX0_isWord_0 : decode cX0_isWord 0 = .ok (.aload_n 0, 1) := by decide +kernel
theorem dX0_isWord_1 : decode cX0_isWord 1 = .ok (.getfield 47, 3) := by decide +kernel
theorem dX0_isWord_4 : decode cX0_isWord 4 = .ok (.iconst 2, 1) := by decide +kernel
theorem dX0_isWord_5 : decode cX0_isWord 5 = .ok (.if_icmp .ne 19, 3) := by decide +kernel
theorem dX0_isWord_8 : decode cX0_isWord 8 = .ok (.aload_n 0, 1) := by decide +kernel
theorem dX0_isWord_9 : decode cX0_isWord 9 = .ok (.getfield 23, 3) := by decide +kernel
theorem dX0_isWord_12 : decode cX0_isWord 12 = .ok (.aload_n 0, 1) := by decide +kernel
theorem dX0_isWord_13 : decode cX0_isWord 13 = .ok (.getfield 57, 3) := by decide +kernel
theorem dX0_isWord_16 : decode cX0_isWord 16 = .ok (.isub, 1) := by decide +kernel
theorem dX0_isWord_17 : decode cX0_isWord 17 = .ok (.aload_n 1, 1) := by decide +kernel
theorem dX0_isWord_18 : decode cX0_isWord 18 = .ok (.invokevirtual 167, 3) := by decide +kernel
theorem dX0_isWord_21 : decode cX0_isWord 21 = .ok (.if_icmp .eq 5, 3) := by decide +kernel
theorem dX0_isWord_24 : decode cX0_isWord 24 = .ok (.iconst 0, 1) := by decide +kernel
theorem dX0_isWord_25 : decode cX0_isWord 25 = .ok (.ireturn, 1) := by decide +kernel
theorem dX0_isWord_26 : decode cX0_isWord 26 = .ok (.iconst 0, 1) := by decide +kernel
theorem dX0_isWord_27 : decode cX0_isWord 27 = .ok (.istore_n 2, 1) := by decide +kernel
theorem dX0_isWord_28 : decode cX0_isWord 28 = .ok (.iload_n 2, 1) := by decide +kernel
theorem dX0_isWord_29 : decode cX0_isWord 29 = .ok (.aload_n 1, 1) := by decide +kernel
theorem dX0_isWord_30 : decode cX0_isWord 30 = .ok (.invokevirtual 167, 3) := by decide +kernel
theorem dX0_isWord_33 : decode cX0_isWord 33 = .ok (.if_icmp .ge 29, 3) := by decide +kernel
theorem dX0_isWord_36 : decode cX0_isWord 36 = .ok (.aload_n 0, 1) := by decide +kernel
theorem dX0_isWord_37 : decode cX0_isWord 37 = .ok (.aload_n 0, 1) := by decide +kernel
theorem dX0_isWord_38 : decode cX0_isWord 38 = .ok (.getfield 57, 3) := by decide +kernel
theorem dX0_isWord_41 : decode cX0_isWord 41 = .ok (.iload_n 2, 1) := by decide +kernel
theorem dX0_isWord_42 : decode cX0_isWord 42 = .ok (.iadd, 1) := by decide +kernel
theorem dX0_isWord_43 : decode cX0_isWord 43 = .ok (.invokevirtual 172, 3) := by decide +kernel
theorem dX0_isWord_46 : decode cX0_isWord 46 = .ok (.aload_n 1, 1) := by decide +kernel
theorem dX0_isWord_47 : decode cX0_isWord 47 = .ok (.iload_n 2, 1) := by decide +kernel
theorem dX0_isWord_48 : decode cX0_isWord 48 = .ok (.invokevirtual 175, 3) := by decide +kernel
theorem dX0_isWord_51 : decode cX0_isWord 51 = .ok (.if_icmp .eq 5, 3) := by decide +kernel
theorem dX0_isWord_54 : decode cX0_isWord 54 = .ok (.iconst 0, 1) := by decide +kernel
theorem dX0_isWord_55 : decode cX0_isWord 55 = .ok (.ireturn, 1) := by decide +kernel
theorem dX0_isWord_56 : decode cX0_isWord 56 = .ok (.iinc 2 1, 3) := by decide +kernel
theorem dX0_isWord_59 : decode cX0_isWord 59 = .ok (.goto (-31), 3) := by decide +kernel
theorem dX0_isWord_62 : decode cX0_isWord 62 = .ok (.iconst 1, 1) := by decide +kernel
theorem dX0_isWord_63 : decode cX0_isWord 63 = .ok (.ireturn, 1) := by decide +kernel
theorem dX0_step_0 : decode cX0_step 0 = .ok (.aload_n 0, 1) := by decide +kernel
theorem dX0_step_1 : decode cX0_step 1 = .ok (.getfield 23, 3) := by decide +kernel
theorem dX0_step_4 : decode cX0_step 4 = .ok (.aload_n 0, 1) := by decide +kernel
theorem dX0_step_5 : decode cX0_step 5 = .ok (.getfield 19, 3) := by decide +kernel
theorem dX0_step_8 : decode cX0_step 8 = .ok (.if_icmp .ge 30, 3) := by decide +kernel
theorem dX0_step_11 : decode cX0_step 11 = .ok (.aload_n 0, 1) := by decide +kernel
theorem dX0_step_12 : decode cX0_step 12 = .ok (.aload_n 0, 1) := by decide +kernel
theorem dX0_step_13 : decode cX0_step 13 = .ok (.getfield 23, 3) := by decide +kernel
theorem dX0_step_16 : decode cX0_step 16 = .ok (.invokevirtual 172, 3) := by decide +kernel
theorem dX0_step_19 : decode cX0_step 19 = .ok (.invokestatic 179, 3) := by decide +kernel
theorem dX0_step_22 : decode cX0_step 22 = .ok (.ifCond .eq 16, 3) := by decide +kernel
theorem dX0_step_25 : decode cX0_step 25 = .ok (.aload_n 0, 1) := by decide +kernel
theorem dX0_step_26 : decode cX0_step 26 = .ok (.dup, 1) := by decide +kernel
theorem dX0_step_27 : decode cX0_step 27 = .ok (.getfield 23, 3) := by decide +kernel
theorem dX0_step_30 : decode cX0_step 30 = .ok (.iconst 1, 1) := by decide +kernel
theorem dX0_step_31 : decode cX0_step 31 = .ok (.iadd, 1) := by decide +kernel
theorem dX0_step_32 : decode cX0_step 32 = .ok (.putfield 23, 3) := by decide +kernel
theorem dX0_step_35 : decode cX0_step 35 = .ok (.goto (-35), 3) := by decide +kernel
theorem dX0_step_38 : decode cX0_step 38 = .ok (.aload_n 0, 1) := by decide +kernel
theorem dX0_step_39 : decode cX0_step 39 = .ok (.aload_n 0, 1) := by decide +kernel
theorem dX0_step_40 : decode cX0_step 40 = .ok (.getfield 23, 3) := by decide +kernel
theorem dX0_step_43 : decode cX0_step 43 = .ok (.putfield 57, 3) := by decide +kernel
theorem dX0_step_46 : decode cX0_step 46 = .ok (.aload_n 0, 1) := by decide +kernel
theorem dX0_step_47 : decode cX0_step 47 = .ok (.aload_n 0, 1) := by decide +kernel
theorem dX0_step_48 : decode cX0_step 48 = .ok (.getfield 23, 3) := by decide +kernel
theorem dX0_step_51 : decode cX0_step 51 = .ok (.invokevirtual 172, 3) := by decide +kernel
theorem dX0_step_54 : decode cX0_step 54 = .ok (.istore_n 1, 1) := by decide +kernel
theorem dX0_step_55 : decode cX0_step 55 = .ok (.aload_n 0, 1) := by decide +kernel
theorem dX0_step_56 : decode cX0_step 56 = .ok (.getfield 23, 3) := by decide +kernel
theorem dX0_step_59 : decode cX0_step 59 = .ok (.aload_n 0, 1) := by decide +kernel
theorem dX0_step_60 : decode cX0_step 60 = .ok (.getfield 19, 3) := by decide +kernel
theorem dX0_step_63 : decode cX0_step 63 = .ok (.if_icmp .lt 11, 3) := by decide +kernel
theorem dX0_step_66 : decode cX0_step 66 = .ok (.aload_n 0, 1) := by decide +kernel
theorem dX0_step_67 : decode cX0_step 67 = .ok (.iconst 0, 1) := by decide +kernel
theorem dX0_step_68 : decode cX0_step 68 = .ok (.putfield 47, 3) := by decide +kernel
theorem dX0_step_71 : decode cX0_step 71 = .ok (.goto 57, 3) := by decide +kernel
theorem dX0_step_74 : decode cX0_step 74 = .ok (.iload_n 1, 1) := by decide +kernel
theorem dX0_step_75 : decode cX0_step 75 = .ok (.invokestatic 183, 3) := by decide +kernel
theorem dX0_step_78 : decode cX0_step 78 = .ok (.ifCond .eq 10, 3) := by decide +kernel
theorem dX0_step_81 : decode cX0_step 81 = .ok (.aload_n 0, 1) := by decide +kernel
theorem dX0_step_82 : decode cX0_step 82 = .ok (.invokevirtual 186, 3) := by decide +kernel
theorem dX0_step_85 : decode cX0_step 85 = .ok (.goto 43, 3) := by decide +kernel
theorem dX0_step_88 : decode cX0_step 88 = .ok (.iload_n 1, 1) := by decide +kernel
theorem dX0_step_89 : decode cX0_step 89 = .ok (.invokestatic 189, 3) := by decide +kernel
theorem dX0_step_92 : decode cX0_step 92 = .ok (.ifCond .eq 10, 3) := by decide +kernel
theorem dX0_step_95 : decode cX0_step 95 = .ok (.aload_n 0, 1) := by decide +kernel
theorem dX0_step_96 : decode cX0_step 96 = .ok (.invokevirtual 192, 3) := by decide +kernel
theorem dX0_step_99 : decode cX0_step 99 = .ok (.goto 29, 3) := by decide +kernel
theorem dX0_step_102 : decode cX0_step 102 = .ok (.aload_n 0, 1) := by decide +kernel
theorem dX0_step_103 : decode cX0_step 103 = .ok (.iload_n 1, 1) := by decide +kernel
theorem dX0_step_104 : decode cX0_step 104 = .ok (.invokestatic 195, 3) := by decide +kernel
theorem dX0_step_107 : decode cX0_step 107 = .ok (.ifCond .eq 7, 3) := by decide +kernel
theorem dX0_step_110 : decode cX0_step 110 = .ok (.iload_n 1, 1) := by decide +kernel
theorem dX0_step_111 : decode cX0_step 111 = .ok (.goto 4, 3) := by decide +kernel
theorem dX0_step_114 : decode cX0_step 114 = .ok (.iconst 1, 1) := by decide +kernel
theorem dX0_step_115 : decode cX0_step 115 = .ok (.putfield 47, 3) := by decide +kernel
theorem dX0_step_118 : decode cX0_step 118 = .ok (.aload_n 0, 1) := by decide +kernel
theorem dX0_step_119 : decode cX0_step 119 = .ok (.dup, 1) := by decide +kernel
theorem dX0_step_120 : decode cX0_step 120 = .ok (.getfield 23, 3) := by decide +kernel
theorem dX0_step_123 : decode cX0_step 123 = .ok (.iconst 1, 1) := by decide +kernel
theorem dX0_step_124 : decode cX0_step 124 = .ok (.iadd, 1) := by decide +kernel
theorem dX0_step_125 : decode cX0_step 125 = .ok (.putfield 23, 3) := by decide +kernel
theorem dX0_step_128 : decode cX0_step 128 = .ok (.return_, 1) := by decide +kernel
theorem dX0_stepOverWord_0 : decode cX0_stepOverWord 0 = .ok (.aload_n 0, 1) := by decide +kernel
theorem dX0_stepOverWord_1 : decode cX0_stepOverWord 1 = .ok (.getfield 23, 3) := by decide +kernel
theorem dX0_stepOverWord_4 : decode cX0_stepOverWord 4 = .ok (.aload_n 0, 1) := by decide +kernel
theorem dX0_stepOverWord_5 : decode cX0_stepOverWord 5 = .ok (.getfield 19, 3) := by decide +kernel
theorem dX0_stepOverWord_8 : decode cX0_stepOverWord 8 = .ok (.if_icmp .ge 30, 3) := by decide +kernel
theorem dX0_stepOverWord_11 : decode cX0_stepOverWord 11 = .ok (.aload_n 0, 1) := by decide +kernel
theorem dX0_stepOverWord_12 : decode cX0_stepOverWord 12 = .ok (.aload_n 0, 1) := by decide +kernel
theorem dX0_stepOverWord_13 : decode cX0_stepOverWord 13 = .ok (.getfield 23, 3) := by decide +kernel
theorem dX0_stepOverWord_16 : decode cX0_stepOverWord 16 = .ok (.invokevirtual 172, 3) := by decide +kernel
theorem dX0_stepOverWord_19 : decode cX0_stepOverWord 19 = .ok (.invokestatic 183, 3) := by decide +kernel
theorem dX0_stepOverWord_22 : decode cX0_stepOverWord 22 = .ok (.ifCond .eq 16, 3) := by decide +kernel
theorem dX0_stepOverWord_25 : decode cX0_stepOverWord 25 = .ok (.aload_n 0, 1) := by decide +kernel
theorem dX0_stepOverWord_26 : decode cX0_stepOverWord 26 = .ok (.dup, 1) := by decide +kernel
theorem dX0_stepOverWord_27 : decode cX0_stepOverWord 27 = .ok (.getfield 23, 3) := by decide +kernel
theorem dX0_stepOverWord_30 : decode cX0_stepOverWord 30 = .ok (.iconst 1, 1) := by decide +kernel
theorem dX0_stepOverWord_31 : decode cX0_stepOverWord 31 = .ok (.iadd, 1) := by decide +kernel
theorem dX0_stepOverWord_32 : decode cX0_stepOverWord 32 = .ok (.putfield 23, 3) := by decide +kernel
theorem dX0_stepOverWord_35 : decode cX0_stepOverWord 35 = .ok (.goto (-35), 3) := by decide +kernel
theorem dX0_stepOverWord_38 : decode cX0_stepOverWord 38 = .ok (.aload_n 0, 1) := by decide +kernel
theorem dX0_stepOverWord_39 : decode cX0_stepOverWord 39 = .ok (.aload_n 0, 1) := by decide +kernel
theorem dX0_stepOverWord_40 : decode cX0_stepOverWord 40 = .ok (.getfield 23, 3) := by decide +kernel
theorem dX0_stepOverWord_43 : decode cX0_stepOverWord 43 = .ok (.aload_n 0, 1) := by decide +kernel
theorem dX0_stepOverWord_44 : decode cX0_stepOverWord 44 = .ok (.getfield 57, 3) := by decide +kernel
theorem dX0_stepOverWord_47 : decode cX0_stepOverWord 47 = .ok (.isub, 1) := by decide +kernel
theorem dX0_stepOverWord_48 : decode cX0_stepOverWord 48 = .ok (.bipush 8, 2) := by decide +kernel
theorem dX0_stepOverWord_50 : decode cX0_stepOverWord 50 = .ok (.if_icmp .gt 7, 3) := by decide +kernel
theorem dX0_stepOverWord_53 : decode cX0_stepOverWord 53 = .ok (.iconst 2, 1) := by decide +kernel
theorem dX0_stepOverWord_54 : decode cX0_stepOverWord 54 = .ok (.goto 4, 3) := by decide +kernel
theorem dX0_stepOverWord_57 : decode cX0_stepOverWord 57 = .ok (.iconst 1, 1) := by decide +kernel
theorem dX0_stepOverWord_58 : decode cX0_stepOverWord 58 = .ok (.putfield 47, 3) := by decide +kernel
theorem dX0_stepOverWord_61 : decode cX0_stepOverWord 61 = .ok (.return_, 1) := by decide +kernel
theorem dX0_stepOverNumber_0 : decode cX0_stepOverNumber 0 = .ok (.aload_n 0, 1) := by decide +kernel
theorem dX0_stepOverNumber_1 : decode cX0_stepOverNumber 1 = .ok (.iconst 0, 1) := by decide +kernel
theorem dX0_stepOverNumber_2 : decode cX0_stepOverNumber 2 = .ok (.putfield 118, 3) := by decide +kernel
theorem dX0_stepOverNumber_5 : decode cX0_stepOverNumber 5 = .ok (.aload_n 0, 1) := by decide +kernel
theorem dX0_stepOverNumber_6 : decode cX0_stepOverNumber 6 = .ok (.getfield 23, 3) := by decide +kernel
theorem dX0_stepOverNumber_9 : decode cX0_stepOverNumber 9 = .ok (.aload_n 0, 1) := by decide +kernel
theorem dX0_stepOverNumber_10 : decode cX0_stepOverNumber 10 = .ok (.getfield 19, 3) := by decide +kernel
theorem dX0_stepOverNumber_13 : decode cX0_stepOverNumber 13 = .ok (.if_icmp .ge 53, 3) := by decide +kernel
theorem dX0_stepOverNumber_16 : decode cX0_stepOverNumber 16 = .ok (.aload_n 0, 1) := by decide +kernel
theorem dX0_stepOverNumber_17 : decode cX0_stepOverNumber 17 = .ok (.aload_n 0, 1) := by decide +kernel
theorem dX0_stepOverNumber_18 : decode cX0_stepOverNumber 18 = .ok (.getfield 23, 3) := by decide +kernel
theorem dX0_stepOverNumber_21 : decode cX0_stepOverNumber 21 = .ok (.invokevirtual 172, 3) := by decide +kernel
theorem dX0_stepOverNumber_24 : decode cX0_stepOverNumber 24 = .ok (.invokestatic 189, 3) := by decide +kernel
theorem dX0_stepOverNumber_27 : decode cX0_stepOverNumber 27 = .ok (.ifCond .eq 39, 3) := by decide +kernel
theorem dX0_stepOverNumber_30 : decode cX0_stepOverNumber 30 = .ok (.aload_n 0, 1) := by decide +kernel
theorem dX0_stepOverNumber_31 : decode cX0_stepOverNumber 31 = .ok (.aload_n 0, 1) := by decide +kernel
theorem dX0_stepOverNumber_32 : decode cX0_stepOverNumber 32 = .ok (.getfield 118, 3) := by decide +kernel
theorem dX0_stepOverNumber_35 : decode cX0_stepOverNumber 35 = .ok (.bipush 10, 2) := by decide +kernel
theorem dX0_stepOverNumber_37 : decode cX0_stepOverNumber 37 = .ok (.imul, 1) := by decide +kernel
theorem dX0_stepOverNumber_38 : decode cX0_stepOverNumber 38 = .ok (.aload_n 0, 1) := by decide +kernel
theorem dX0_stepOverNumber_39 : decode cX0_stepOverNumber 39 = .ok (.aload_n 0, 1) := by decide +kernel
theorem dX0_stepOverNumber_40 : decode cX0_stepOverNumber 40 = .ok (.getfield 23, 3) := by decide +kernel
theorem dX0_stepOverNumber_43 : decode cX0_stepOverNumber 43 = .ok (.invokevirtual 172, 3) := by decide +kernel
theorem dX0_stepOverNumber_46 : decode cX0_stepOverNumber 46 = .ok (.iadd, 1) := by decide +kernel
theorem dX0_stepOverNumber_47 : decode cX0_stepOverNumber 47 = .ok (.bipush 48, 2) := by decide +kernel
theorem dX0_stepOverNumber_49 : decode cX0_stepOverNumber 49 = .ok (.isub, 1) := by decide +kernel
theorem dX0_stepOverNumber_50 : decode cX0_stepOverNumber 50 = .ok (.putfield 118, 3) := by decide +kernel
theorem dX0_stepOverNumber_53 : decode cX0_stepOverNumber 53 = .ok (.aload_n 0, 1) := by decide +kernel
theorem dX0_stepOverNumber_54 : decode cX0_stepOverNumber 54 = .ok (.dup, 1) := by decide +kernel
theorem dX0_stepOverNumber_55 : decode cX0_stepOverNumber 55 = .ok (.getfield 23, 3) := by decide +kernel
theorem dX0_stepOverNumber_58 : decode cX0_stepOverNumber 58 = .ok (.iconst 1, 1) := by decide +kernel
theorem dX0_stepOverNumber_59 : decode cX0_stepOverNumber 59 = .ok (.iadd, 1) := by decide +kernel
theorem dX0_stepOverNumber_60 : decode cX0_stepOverNumber 60 = .ok (.putfield 23, 3) := by decide +kernel
theorem dX0_stepOverNumber_63 : decode cX0_stepOverNumber 63 = .ok (.goto (-58), 3) := by decide +kernel
theorem dX0_stepOverNumber_66 : decode cX0_stepOverNumber 66 = .ok (.aload_n 0, 1) := by decide +kernel
theorem dX0_stepOverNumber_67 : decode cX0_stepOverNumber 67 = .ok (.aload_n 0, 1) := by decide +kernel
theorem dX0_stepOverNumber_68 : decode cX0_stepOverNumber 68 = .ok (.getfield 23, 3) := by decide +kernel
theorem dX0_stepOverNumber_71 : decode cX0_stepOverNumber 71 = .ok (.aload_n 0, 1) := by decide +kernel
theorem dX0_stepOverNumber_72 : decode cX0_stepOverNumber 72 = .ok (.getfield 57, 3) := by decide +kernel
theorem dX0_stepOverNumber_75 : decode cX0_stepOverNumber 75 = .ok (.isub, 1) := by decide +kernel
theorem dX0_stepOverNumber_76 : decode cX0_stepOverNumber 76 = .ok (.iconst 4, 1) := by decide +kernel
theorem dX0_stepOverNumber_77 : decode cX0_stepOverNumber 77 = .ok (.if_icmp .gt 7, 3) := by decide +kernel
theorem dX0_stepOverNumber_80 : decode cX0_stepOverNumber 80 = .ok (.iconst 3, 1) := by decide +kernel
theorem dX0_stepOverNumber_81 : decode cX0_stepOverNumber 81 = .ok (.goto 4, 3) := by decide +kernel
theorem dX0_stepOverNumber_84 : decode cX0_stepOverNumber 84 = .ok (.iconst 1, 1) := by decide +kernel
theorem dX0_stepOverNumber_85 : decode cX0_stepOverNumber 85 = .ok (.putfield 47, 3) := by decide +kernel
theorem dX0_stepOverNumber_88 : decode cX0_stepOverNumber 88 = .ok (.return_, 1) := by decide +kernel
theorem dX0_byteAt_0 : decode cX0_byteAt 0 = .ok (.iload_n 1, 1) := by decide +kernel
theorem dX0_byteAt_1 : decode cX0_byteAt 1 = .ok (.ifCond .lt 29, 3) := by decide +kernel
theorem dX0_byteAt_4 : decode cX0_byteAt 4 = .ok (.iload_n 1, 1) := by decide +kernel
theorem dX0_byteAt_5 : decode cX0_byteAt 5 = .ok (.aload_n 0, 1) := by decide +kernel
theorem dX0_byteAt_6 : decode cX0_byteAt 6 = .ok (.getfield 19, 3) := by decide +kernel
theorem dX0_byteAt_9 : decode cX0_byteAt 9 = .ok (.if_icmp .ge 21, 3) := by decide +kernel
theorem dX0_byteAt_12 : decode cX0_byteAt 12 = .ok (.iload_n 1, 1) := by decide +kernel
theorem dX0_byteAt_13 : decode cX0_byteAt 13 = .ok (.aload_n 0, 1) := by decide +kernel
theorem dX0_byteAt_14 : decode cX0_byteAt 14 = .ok (.getfield 9, 3) := by decide +kernel
theorem dX0_byteAt_17 : decode cX0_byteAt 17 = .ok (.arraylength, 1) := by decide +kernel
theorem dX0_byteAt_18 : decode cX0_byteAt 18 = .ok (.if_icmp .ge 12, 3) := by decide +kernel
theorem dX0_byteAt_21 : decode cX0_byteAt 21 = .ok (.aload_n 0, 1) := by decide +kernel
theorem dX0_byteAt_22 : decode cX0_byteAt 22 = .ok (.getfield 9, 3) := by decide +kernel
theorem dX0_byteAt_25 : decode cX0_byteAt 25 = .ok (.iload_n 1, 1) := by decide +kernel
theorem dX0_byteAt_26 : decode cX0_byteAt 26 = .ok (.baload, 1) := by decide +kernel
theorem dX0_byteAt_27 : decode cX0_byteAt 27 = .ok (.goto 4, 3) := by decide +kernel
theorem dX0_byteAt_30 : decode cX0_byteAt 30 = .ok (.iconst 0, 1) := by decide +kernel
theorem dX0_byteAt_31 : decode cX0_byteAt 31 = .ok (.ireturn, 1) := by decide +kernel
theorem dX0_isSpace_0 : decode cX0_isSpace 0 = .ok (.iload_n 0, 1) := by decide +kernel
theorem dX0_isSpace_1 : decode cX0_isSpace 1 = .ok (.bipush 32, 2) := by decide +kernel
theorem dX0_isSpace_3 : decode cX0_isSpace 3 = .ok (.if_icmp .eq 9, 3) := by decide +kernel
theorem dX0_isSpace_6 : decode cX0_isSpace 6 = .ok (.iload_n 0, 1) := by decide +kernel
theorem dX0_isSpace_7 : decode cX0_isSpace 7 = .ok (.bipush 10, 2) := by decide +kernel
theorem dX0_isSpace_9 : decode cX0_isSpace 9 = .ok (.if_icmp .ne 7, 3) := by decide +kernel
theorem dX0_isSpace_12 : decode cX0_isSpace 12 = .ok (.iconst 1, 1) := by decide +kernel
theorem dX0_isSpace_13 : decode cX0_isSpace 13 = .ok (.goto 4, 3) := by decide +kernel
theorem dX0_isSpace_16 : decode cX0_isSpace 16 = .ok (.iconst 0, 1) := by decide +kernel
theorem dX0_isSpace_17 : decode cX0_isSpace 17 = .ok (.ireturn, 1) := by decide +kernel
theorem dX0_isLetter_0 : decode cX0_isLetter 0 = .ok (.iload_n 0, 1) := by decide +kernel
theorem dX0_isLetter_1 : decode cX0_isLetter 1 = .ok (.bipush 97, 2) := by decide +kernel
theorem dX0_isLetter_3 : decode cX0_isLetter 3 = .ok (.if_icmp .lt 13, 3) := by decide +kernel
theorem dX0_isLetter_6 : decode cX0_isLetter 6 = .ok (.iload_n 0, 1) := by decide +kernel
theorem dX0_isLetter_7 : decode cX0_isLetter 7 = .ok (.bipush 122, 2) := by decide +kernel
theorem dX0_isLetter_9 : decode cX0_isLetter 9 = .ok (.if_icmp .gt 7, 3) := by decide +kernel
theorem dX0_isLetter_12 : decode cX0_isLetter 12 = .ok (.iconst 1, 1) := by decide +kernel
theorem dX0_isLetter_13 : decode cX0_isLetter 13 = .ok (.goto 4, 3) := by decide +kernel
theorem dX0_isLetter_16 : decode cX0_isLetter 16 = .ok (.iconst 0, 1) := by decide +kernel
theorem dX0_isLetter_17 : decode cX0_isLetter 17 = .ok (.ireturn, 1) := by decide +kernel
theorem dX0_isDigit_0 : decode cX0_isDigit 0 = .ok (.iload_n 0, 1) := by decide +kernel
theorem dX0_isDigit_1 : decode cX0_isDigit 1 = .ok (.bipush 48, 2) := by decide +kernel
theorem dX0_isDigit_3 : decode cX0_isDigit 3 = .ok (.if_icmp .lt 13, 3) := by decide +kernel
theorem dX0_isDigit_6 : decode cX0_isDigit 6 = .ok (.iload_n 0, 1) := by decide +kernel
theorem dX0_isDigit_7 : decode cX0_isDigit 7 = .ok (.bipush 57, 2) := by decide +kernel
theorem dX0_isDigit_9 : decode cX0_isDigit 9 = .ok (.if_icmp .gt 7, 3) := by decide +kernel
theorem dX0_isDigit_12 : decode cX0_isDigit 12 = .ok (.iconst 1, 1) := by decide +kernel
theorem dX0_isDigit_13 : decode cX0_isDigit 13 = .ok (.goto 4, 3) := by decide +kernel
theorem dX0_isDigit_16 : decode cX0_isDigit 16 = .ok (.iconst 0, 1) := by decide +kernel
theorem dX0_isDigit_17 : decode cX0_isDigit 17 = .ok (.ireturn, 1) := by decide +kernel
theorem dX0_isSign_0 : decode cX0_isSign 0 = .ok (.iload_n 0, 1) := by decide +kernel
theorem dX0_isSign_1 : decode cX0_isSign 1 = .ok (.bipush 59, 2) := by decide +kernel
theorem dX0_isSign_3 : decode cX0_isSign 3 = .ok (.if_icmp .eq 22, 3) := by decide +kernel
theorem dX0_isSign_6 : decode cX0_isSign 6 = .ok (.iload_n 0, 1) := by decide +kernel
theorem dX0_isSign_7 : decode cX0_isSign 7 = .ok (.bipush 40, 2) := by decide +kernel
theorem dX0_isSign_9 : decode cX0_isSign 9 = .ok (.if_icmp .eq 16, 3) := by decide +kernel
theorem dX0_isSign_12 : decode cX0_isSign 12 = .ok (.iload_n 0, 1) := by decide +kernel
theorem dX0_isSign_13 : decode cX0_isSign 13 = .ok (.bipush 41, 2) := by decide +kernel
theorem dX0_isSign_15 : decode cX0_isSign 15 = .ok (.if_icmp .eq 10, 3) := by decide +kernel
theorem dX0_isSign_18 : decode cX0_isSign 18 = .ok (.iload_n 0, 1) := by decide +kernel
theorem dX0_isSign_19 : decode cX0_isSign 19 = .ok (.invokestatic 135, 3) := by decide +kernel
theorem dX0_isSign_22 : decode cX0_isSign 22 = .ok (.ifCond .le 7, 3) := by decide +kernel
theorem dX0_isSign_25 : decode cX0_isSign 25 = .ok (.iconst 1, 1) := by decide +kernel
theorem dX0_isSign_26 : decode cX0_isSign 26 = .ok (.goto 4, 3) := by decide +kernel
theorem dX0_isSign_29 : decode cX0_isSign 29 = .ok (.iconst 0, 1) := by decide +kernel
theorem dX0_isSign_30 : decode cX0_isSign 30 = .ok (.ireturn, 1) := by decide +kernel
theorem dX1_init_0 : decode cX1_init 0 = .ok (.aload_n 0, 1) := by decide +kernel
theorem dX1_init_1 : decode cX1_init 1 = .ok (.invokespecial 3, 3) := by decide +kernel
theorem dX1_init_4 : decode cX1_init 4 = .ok (.aload_n 0, 1) := by decide +kernel
theorem dX1_init_5 : decode cX1_init 5 = .ok (.bipush 10, 2) := by decide +kernel
theorem dX1_init_7 : decode cX1_init 7 = .ok (.anewarray 9, 3) := by decide +kernel
theorem dX1_init_10 : decode cX1_init 10 = .ok (.putfield 11, 3) := by decide +kernel
theorem dX1_init_13 : decode cX1_init 13 = .ok (.iconst 0, 1) := by decide +kernel
theorem dX1_init_14 : decode cX1_init 14 = .ok (.istore_n 1, 1) := by decide +kernel
theorem dX1_init_15 : decode cX1_init 15 = .ok (.iload_n 1, 1) := by decide +kernel
theorem dX1_init_16 : decode cX1_init 16 = .ok (.bipush 10, 2) := by decide +kernel
theorem dX1_init_18 : decode cX1_init 18 = .ok (.if_icmp .ge 22, 3) := by decide +kernel
theorem dX1_init_21 : decode cX1_init 21 = .ok (.aload_n 0, 1) := by decide +kernel
theorem dX1_init_22 : decode cX1_init 22 = .ok (.getfield 11, 3) := by decide +kernel
theorem dX1_init_25 : decode cX1_init 25 = .ok (.iload_n 1, 1) := by decide +kernel
theorem dX1_init_26 : decode cX1_init 26 = .ok (.new 9, 3) := by decide +kernel
theorem dX1_init_29 : decode cX1_init 29 = .ok (.dup, 1) := by decide +kernel
theorem dX1_init_30 : decode cX1_init 30 = .ok (.invokespecial 17, 3) := by decide +kernel
theorem dX1_init_33 : decode cX1_init 33 = .ok (.aastore, 1) := by decide +kernel
theorem dX1_init_34 : decode cX1_init 34 = .ok (.iinc 1 1, 3) := by decide +kernel
theorem dX1_init_37 : decode cX1_init 37 = .ok (.goto (-22), 3) := by decide +kernel
theorem dX1_init_40 : decode cX1_init 40 = .ok (.return_, 1) := by decide +kernel
theorem dX1_forget_0 : decode cX1_forget 0 = .ok (.aload_n 0, 1) := by decide +kernel
theorem dX1_forget_1 : decode cX1_forget 1 = .ok (.iconst 0, 1) := by decide +kernel
theorem dX1_forget_2 : decode cX1_forget 2 = .ok (.putfield 18, 3) := by decide +kernel
theorem dX1_forget_5 : decode cX1_forget 5 = .ok (.return_, 1) := by decide +kernel
theorem dX1_remember_0 : decode cX1_remember 0 = .ok (.aload_n 0, 1) := by decide +kernel
theorem dX1_remember_1 : decode cX1_remember 1 = .ok (.aload_n 0, 1) := by decide +kernel
theorem dX1_remember_2 : decode cX1_remember 2 = .ok (.getfield 22, 3) := by decide +kernel
theorem dX1_remember_5 : decode cX1_remember 5 = .ok (.iconst 1, 1) := by decide +kernel
theorem dX1_remember_6 : decode cX1_remember 6 = .ok (.iadd, 1) := by decide +kernel
theorem dX1_remember_7 : decode cX1_remember 7 = .ok (.bipush 10, 2) := by decide +kernel
theorem dX1_remember_9 : decode cX1_remember 9 = .ok (.if_icmp .ge 12, 3) := by decide +kernel
theorem dX1_remember_12 : decode cX1_remember 12 = .ok (.aload_n 0, 1) := by decide +kernel
theorem dX1_remember_13 : decode cX1_remember 13 = .ok (.getfield 22, 3) := by decide +kernel
theorem dX1_remember_16 : decode cX1_remember 16 = .ok (.iconst 1, 1) := by decide +kernel
theorem dX1_remember_17 : decode cX1_remember 17 = .ok (.iadd, 1) := by decide +kernel
theorem dX1_remember_18 : decode cX1_remember 18 = .ok (.goto 4, 3) := by decide +kernel
theorem dX1_remember_21 : decode cX1_remember 21 = .ok (.iconst 0, 1) := by decide +kernel
theorem dX1_remember_22 : decode cX1_remember 22 = .ok (.putfield 22, 3) := by decide +kernel
theorem dX1_remember_25 : decode cX1_remember 25 = .ok (.aload_n 0, 1) := by decide +kernel
theorem dX1_remember_26 : decode cX1_remember 26 = .ok (.invokevirtual 25, 3) := by decide +kernel
theorem dX1_remember_29 : decode cX1_remember 29 = .ok (.astore_n 2, 1) := by decide +kernel
theorem dX1_remember_30 : decode cX1_remember 30 = .ok (.aload_n 2, 1) := by decide +kernel
theorem dX1_remember_31 : decode cX1_remember 31 = .ok (.ifnull 23, 3) := by decide +kernel
theorem dX1_remember_34 : decode cX1_remember 34 = .ok (.aload_n 2, 1) := by decide +kernel
theorem dX1_remember_35 : decode cX1_remember 35 = .ok (.aload_n 1, 1) := by decide +kernel
theorem dX1_remember_36 : decode cX1_remember 36 = .ok (.invokevirtual 29, 3) := by decide +kernel
theorem dX1_remember_39 : decode cX1_remember 39 = .ok (.aload_n 0, 1) := by decide +kernel
theorem dX1_remember_40 : decode cX1_remember 40 = .ok (.bipush 10, 2) := by decide +kernel
theorem dX1_remember_42 : decode cX1_remember 42 = .ok (.aload_n 0, 1) := by decide +kernel
theorem dX1_remember_43 : decode cX1_remember 43 = .ok (.getfield 18, 3) := by decide +kernel
theorem dX1_remember_46 : decode cX1_remember 46 = .ok (.iconst 1, 1) := by decide +kernel
theorem dX1_remember_47 : decode cX1_remember 47 = .ok (.iadd, 1) := by decide +kernel
theorem dX1_remember_48 : decode cX1_remember 48 = .ok (.invokestatic 33, 3) := by decide +kernel
theorem dX1_remember_51 : decode cX1_remember 51 = .ok (.putfield 18, 3) := by decide +kernel
theorem dX1_remember_54 : decode cX1_remember 54 = .ok (.return_, 1) := by decide +kernel
theorem dX1_takeBack_0 : decode cX1_takeBack 0 = .ok (.aload_n 0, 1) := by decide +kernel
theorem dX1_takeBack_1 : decode cX1_takeBack 1 = .ok (.invokevirtual 25, 3) := by decide +kernel
theorem dX1_takeBack_4 : decode cX1_takeBack 4 = .ok (.astore_n 2, 1) := by decide +kernel
theorem dX1_takeBack_5 : decode cX1_takeBack 5 = .ok (.aload_n 0, 1) := by decide +kernel
theorem dX1_takeBack_6 : decode cX1_takeBack 6 = .ok (.getfield 18, 3) := by decide +kernel
theorem dX1_takeBack_9 : decode cX1_takeBack 9 = .ok (.ifCond .le 7, 3) := by decide +kernel
theorem dX1_takeBack_12 : decode cX1_takeBack 12 = .ok (.aload_n 2, 1) := by decide +kernel
theorem dX1_takeBack_13 : decode cX1_takeBack 13 = .ok (.ifnonnull 5, 3) := by decide +kernel
theorem dX1_takeBack_16 : decode cX1_takeBack 16 = .ok (.iconst (-1), 1) := by decide +kernel
theorem dX1_takeBack_17 : decode cX1_takeBack 17 = .ok (.ireturn, 1) := by decide +kernel
theorem dX1_takeBack_18 : decode cX1_takeBack 18 = .ok (.aload_n 1, 1) := by decide +kernel
theorem dX1_takeBack_19 : decode cX1_takeBack 19 = .ok (.aload_n 2, 1) := by decide +kernel
theorem dX1_takeBack_20 : decode cX1_takeBack 20 = .ok (.invokevirtual 29, 3) := by decide +kernel
theorem dX1_takeBack_23 : decode cX1_takeBack 23 = .ok (.aload_n 0, 1) := by decide +kernel
theorem dX1_takeBack_24 : decode cX1_takeBack 24 = .ok (.aload_n 0, 1) := by decide +kernel
theorem dX1_takeBack_25 : decode cX1_takeBack 25 = .ok (.getfield 22, 3) := by decide +kernel
theorem dX1_takeBack_28 : decode cX1_takeBack 28 = .ok (.ifCond .le 12, 3) := by decide +kernel
theorem dX1_takeBack_31 : decode cX1_takeBack 31 = .ok (.aload_n 0, 1) := by decide +kernel
theorem dX1_takeBack_32 : decode cX1_takeBack 32 = .ok (.getfield 22, 3) := by decide +kernel
theorem dX1_takeBack_35 : decode cX1_takeBack 35 = .ok (.iconst 1, 1) := by decide +kernel
theorem dX1_takeBack_36 : decode cX1_takeBack 36 = .ok (.isub, 1) := by decide +kernel
theorem dX1_takeBack_37 : decode cX1_takeBack 37 = .ok (.goto 5, 3) := by decide +kernel
theorem dX1_takeBack_40 : decode cX1_takeBack 40 = .ok (.bipush 9, 2) := by decide +kernel
theorem dX1_takeBack_42 : decode cX1_takeBack 42 = .ok (.putfield 22, 3) := by decide +kernel
theorem dX1_takeBack_45 : decode cX1_takeBack 45 = .ok (.aload_n 0, 1) := by decide +kernel
theorem dX1_takeBack_46 : decode cX1_takeBack 46 = .ok (.dup, 1) := by decide +kernel
theorem dX1_takeBack_47 : decode cX1_takeBack 47 = .ok (.getfield 18, 3) := by decide +kernel
theorem dX1_takeBack_50 : decode cX1_takeBack 50 = .ok (.iconst 1, 1) := by decide +kernel
theorem dX1_takeBack_51 : decode cX1_takeBack 51 = .ok (.isub, 1) := by decide +kernel
theorem dX1_takeBack_52 : decode cX1_takeBack 52 = .ok (.putfield 18, 3) := by decide +kernel
theorem dX1_takeBack_55 : decode cX1_takeBack 55 = .ok (.aload_n 0, 1) := by decide +kernel
theorem dX1_takeBack_56 : decode cX1_takeBack 56 = .ok (.getfield 18, 3) := by decide +kernel
theorem dX1_takeBack_59 : decode cX1_takeBack 59 = .ok (.ireturn, 1) := by decide +kernel
theorem dX1_newestBefore_0 : decode cX1_newestBefore 0 = .ok (.aload_n 0, 1) := by decide +kernel
theorem dX1_newestBefore_1 : decode cX1_newestBefore 1 = .ok (.getfield 22, 3) := by decide +kernel
theorem dX1_newestBefore_4 : decode cX1_newestBefore 4 = .ok (.ifCond .lt 27, 3) := by decide +kernel
theorem dX1_newestBefore_7 : decode cX1_newestBefore 7 = .ok (.aload_n 0, 1) := by decide +kernel
theorem dX1_newestBefore_8 : decode cX1_newestBefore 8 = .ok (.getfield 22, 3) := by decide +kernel
theorem dX1_newestBefore_11 : decode cX1_newestBefore 11 = .ok (.aload_n 0, 1) := by decide +kernel
theorem dX1_newestBefore_12 : decode cX1_newestBefore 12 = .ok (.getfield 11, 3) := by decide +kernel
theorem dX1_newestBefore_15 : decode cX1_newestBefore 15 = .ok (.arraylength, 1) := by decide +kernel
theorem dX1_newestBefore_16 : decode cX1_newestBefore 16 = .ok (.if_icmp .ge 15, 3) := by decide +kernel
theorem dX1_newestBefore_19 : decode cX1_newestBefore 19 = .ok (.aload_n 0, 1) := by decide +kernel
theorem dX1_newestBefore_20 : decode cX1_newestBefore 20 = .ok (.getfield 11, 3) := by decide +kernel
theorem dX1_newestBefore_23 : decode cX1_newestBefore 23 = .ok (.aload_n 0, 1) := by decide +kernel
theorem dX1_newestBefore_24 : decode cX1_newestBefore 24 = .ok (.getfield 22, 3) := by decide +kernel
theorem dX1_newestBefore_27 : decode cX1_newestBefore 27 = .ok (.aaload, 1) := by decide +kernel
theorem dX1_newestBefore_28 : decode cX1_newestBefore 28 = .ok (.goto 4, 3) := by decide +kernel
theorem dX1_newestBefore_31 : decode cX1_newestBefore 31 = .ok (.aconst_null, 1) := by decide +kernel
theorem dX1_newestBefore_32 : decode cX1_newestBefore 32 = .ok (.areturn, 1) := by decide +kernel
theorem dX2_init_0 : decode cX2_init 0 = .ok (.aload_n 0, 1) := by decide +kernel
theorem dX2_init_1 : decode cX2_init 1 = .ok (.invokespecial 5, 3) := by decide +kernel
theorem dX2_init_4 : decode cX2_init 4 = .ok (.aload_n 0, 1) := by decide +kernel
theorem dX2_init_5 : decode cX2_init 5 = .ok (.sipush 352, 3) := by decide +kernel
theorem dX2_init_8 : decode cX2_init 8 = .ok (.newarray .int, 2) := by decide +kernel
theorem dX2_init_10 : decode cX2_init 10 = .ok (.putfield 11, 3) := by decide +kernel
theorem dX2_init_13 : decode cX2_init 13 = .ok (.aload_n 0, 1) := by decide +kernel
theorem dX2_init_14 : decode cX2_init 14 = .ok (.iconst 4, 1) := by decide +kernel
theorem dX2_init_15 : decode cX2_init 15 = .ok (.newarray .int, 2) := by decide +kernel
theorem dX2_init_17 : decode cX2_init 17 = .ok (.putfield 15, 3) := by decide +kernel
theorem dX2_init_20 : decode cX2_init 20 = .ok (.return_, 1) := by decide +kernel
theorem dX2_clear_0 : decode cX2_clear 0 = .ok (.aload_n 0, 1) := by decide +kernel
theorem dX2_clear_1 : decode cX2_clear 1 = .ok (.iconst 0, 1) := by decide +kernel
theorem dX2_clear_2 : decode cX2_clear 2 = .ok (.putfield 18, 3) := by decide +kernel
theorem dX2_clear_5 : decode cX2_clear 5 = .ok (.aload_n 0, 1) := by decide +kernel
theorem dX2_clear_6 : decode cX2_clear 6 = .ok (.getfield 15, 3) := by decide +kernel
theorem dX2_clear_9 : decode cX2_clear 9 = .ok (.iconst 0, 1) := by decide +kernel
theorem dX2_clear_10 : decode cX2_clear 10 = .ok (.invokestatic 22, 3) := by decide +kernel
theorem dX2_clear_13 : decode cX2_clear 13 = .ok (.return_, 1) := by decide +kernel
theorem dX2_copyFrom_0 : decode cX2_copyFrom 0 = .ok (.aload_n 0, 1) := by decide +kernel
theorem dX2_copyFrom_1 : decode cX2_copyFrom 1 = .ok (.aload_n 1, 1) := by decide +kernel
theorem dX2_copyFrom_2 : decode cX2_copyFrom 2 = .ok (.getfield 18, 3) := by decide +kernel
theorem dX2_copyFrom_5 : decode cX2_copyFrom 5 = .ok (.putfield 18, 3) := by decide +kernel
theorem dX2_copyFrom_8 : decode cX2_copyFrom 8 = .ok (.aload_n 1, 1) := by decide +kernel
theorem dX2_copyFrom_9 : decode cX2_copyFrom 9 = .ok (.getfield 15, 3) := by decide +kernel
theorem dX2_copyFrom_12 : decode cX2_copyFrom 12 = .ok (.iconst 0, 1) := by decide +kernel
theorem dX2_copyFrom_13 : decode cX2_copyFrom 13 = .ok (.aload_n 0, 1) := by decide +kernel
theorem dX2_copyFrom_14 : decode cX2_copyFrom 14 = .ok (.getfield 15, 3) := by decide +kernel
theorem dX2_copyFrom_17 : decode cX2_copyFrom 17 = .ok (.iconst 0, 1) := by decide +kernel
theorem dX2_copyFrom_18 : decode cX2_copyFrom 18 = .ok (.iconst 4, 1) := by decide +kernel
theorem dX2_copyFrom_19 : decode cX2_copyFrom 19 = .ok (.invokestatic 28, 3) := by decide +kernel
theorem dX2_copyFrom_22 : decode cX2_copyFrom 22 = .ok (.aload_n 0, 1) := by decide +kernel
theorem dX2_copyFrom_23 : decode cX2_copyFrom 23 = .ok (.getfield 18, 3) := by decide +kernel
theorem dX2_copyFrom_26 : decode cX2_copyFrom 26 = .ok (.ifCond .lt 32, 3) := by decide +kernel
theorem dX2_copyFrom_29 : decode cX2_copyFrom 29 = .ok (.aload_n 0, 1) := by decide +kernel
theorem dX2_copyFrom_30 : decode cX2_copyFrom 30 = .ok (.getfield 18, 3) := by decide +kernel
theorem dX2_copyFrom_33 : decode cX2_copyFrom 33 = .ok (.bipush 32, 2) := by decide +kernel
theorem dX2_copyFrom_35 : decode cX2_copyFrom 35 = .ok (.if_icmp .gt 23, 3) := by decide +kernel
theorem dX2_copyFrom_38 : decode cX2_copyFrom 38 = .ok (.aload_n 1, 1) := by decide +kernel
theorem dX2_copyFrom_39 : decode cX2_copyFrom 39 = .ok (.getfield 11, 3) := by decide +kernel
theorem dX2_copyFrom_42 : decode cX2_copyFrom 42 = .ok (.iconst 0, 1) := by decide +kernel
theorem dX2_copyFrom_43 : decode cX2_copyFrom 43 = .ok (.aload_n 0, 1) := by decide +kernel
theorem dX2_copyFrom_44 : decode cX2_copyFrom 44 = .ok (.getfield 11, 3) := by decide +kernel
theorem dX2_copyFrom_47 : decode cX2_copyFrom 47 = .ok (.iconst 0, 1) := by decide +kernel
theorem dX2_copyFrom_48 : decode cX2_copyFrom 48 = .ok (.aload_n 0, 1) := by decide +kernel
theorem dX2_copyFrom_49 : decode cX2_copyFrom 49 = .ok (.getfield 18, 3) := by decide +kernel
theorem dX2_copyFrom_52 : decode cX2_copyFrom 52 = .ok (.bipush 11, 2) := by decide +kernel
theorem dX2_copyFrom_54 : decode cX2_copyFrom 54 = .ok (.imul, 1) := by decide +kernel
theorem dX2_copyFrom_55 : decode cX2_copyFrom 55 = .ok (.invokestatic 28, 3) := by decide +kernel
theorem dX2_copyFrom_58 : decode cX2_copyFrom 58 = .ok (.return_, 1) := by decide +kernel
theorem dX2_get_0 : decode cX2_get 0 = .ok (.iload_n 1, 1) := by decide +kernel
theorem dX2_get_1 : decode cX2_get 1 = .ok (.bipush 11, 2) := by decide +kernel
theorem dX2_get_3 : decode cX2_get 3 = .ok (.imul, 1) := by decide +kernel
theorem dX2_get_4 : decode cX2_get 4 = .ok (.iload_n 2, 1) := by decide +kernel
theorem dX2_get_5 : decode cX2_get 5 = .ok (.iadd, 1) := by decide +kernel
theorem dX2_get_6 : decode cX2_get 6 = .ok (.istore_n 3, 1) := by decide +kernel
theorem dX2_get_7 : decode cX2_get 7 = .ok (.iload_n 3, 1) := by decide +kernel
theorem dX2_get_8 : decode cX2_get 8 = .ok (.ifCond .lt 21, 3) := by decide +kernel
theorem dX2_get_11 : decode cX2_get 11 = .ok (.iload_n 3, 1) := by decide +kernel
theorem dX2_get_12 : decode cX2_get 12 = .ok (.aload_n 0, 1) := by decide +kernel
theorem dX2_get_13 : decode cX2_get 13 = .ok (.getfield 11, 3) := by decide +kernel
theorem dX2_get_16 : decode cX2_get 16 = .ok (.arraylength, 1) := by decide +kernel
theorem dX2_get_17 : decode cX2_get 17 = .ok (.if_icmp .ge 12, 3) := by decide +kernel
theorem dX2_get_20 : decode cX2_get 20 = .ok (.aload_n 0, 1) := by decide +kernel
theorem dX2_get_21 : decode cX2_get 21 = .ok (.getfield 11, 3) := by decide +kernel
theorem dX2_get_24 : decode cX2_get 24 = .ok (.iload_n 3, 1) := by decide +kernel
theorem dX2_get_25 : decode cX2_get 25 = .ok (.iaload, 1) := by decide +kernel
theorem dX2_get_26 : decode cX2_get 26 = .ok (.goto 4, 3) := by decide +kernel
theorem dX2_get_29 : decode cX2_get 29 = .ok (.iconst 0, 1) := by decide +kernel
theorem dX2_get_30 : decode cX2_get 30 = .ok (.ireturn, 1) := by decide +kernel
theorem dX2_put_0 : decode cX2_put 0 = .ok (.iload_n 1, 1) := by decide +kernel
theorem dX2_put_1 : decode cX2_put 1 = .ok (.bipush 11, 2) := by decide +kernel
theorem dX2_put_3 : decode cX2_put 3 = .ok (.imul, 1) := by decide +kernel
theorem dX2_put_4 : decode cX2_put 4 = .ok (.iload_n 2, 1) := by decide +kernel
theorem dX2_put_5 : decode cX2_put 5 = .ok (.iadd, 1) := by decide +kernel
theorem dX2_put_6 : decode cX2_put 6 = .ok (.istore 4, 2) := by decide +kernel
theorem dX2_put_8 : decode cX2_put 8 = .ok (.iload 4, 2) := by decide +kernel
theorem dX2_put_10 : decode cX2_put 10 = .ok (.ifCond .lt 21, 3) := by decide +kernel
theorem dX2_put_13 : decode cX2_put 13 = .ok (.iload 4, 2) := by decide +kernel
theorem dX2_put_15 : decode cX2_put 15 = .ok (.aload_n 0, 1) := by decide +kernel
theorem dX2_put_16 : decode cX2_put 16 = .ok (.getfield 11, 3) := by decide +kernel
theorem dX2_put_19 : decode cX2_put 19 = .ok (.arraylength, 1) := by decide +kernel
theorem dX2_put_20 : decode cX2_put 20 = .ok (.if_icmp .ge 11, 3) := by decide +kernel
theorem dX2_put_23 : decode cX2_put 23 = .ok (.aload_n 0, 1) := by decide +kernel
theorem dX2_put_24 : decode cX2_put 24 = .ok (.getfield 11, 3) := by decide +kernel
theorem dX2_put_27 : decode cX2_put 27 = .ok (.iload 4, 2) := by decide +kernel
theorem dX2_put_29 : decode cX2_put 29 = .ok (.iload_n 3, 1) := by decide +kernel
theorem dX2_put_30 : decode cX2_put 30 = .ok (.iastore, 1) := by decide +kernel
theorem dX2_put_31 : decode cX2_put 31 = .ok (.return_, 1) := by decide +kernel
theorem dX2_isRelaxed_0 : decode cX2_isRelaxed 0 = .ok (.aload_n 0, 1) := by decide +kernel
theorem dX2_isRelaxed_1 : decode cX2_isRelaxed 1 = .ok (.iload_n 1, 1) := by decide +kernel
theorem dX2_isRelaxed_2 : decode cX2_isRelaxed 2 = .ok (.iconst 2, 1) := by decide +kernel
theorem dX2_isRelaxed_3 : decode cX2_isRelaxed 3 = .ok (.invokevirtual 34, 3) := by decide +kernel
theorem dX2_isRelaxed_6 : decode cX2_isRelaxed 6 = .ok (.iconst 1, 1) := by decide +kernel
theorem dX2_isRelaxed_7 : decode cX2_isRelaxed 7 = .ok (.if_icmp .ne 7, 3) := by decide +kernel
theorem dX2_isRelaxed_10 : decode cX2_isRelaxed 10 = .ok (.iconst 1, 1) := by decide +kernel
theorem dX2_isRelaxed_11 : decode cX2_isRelaxed 11 = .ok (.goto 4, 3) := by decide +kernel
theorem dX2_isRelaxed_14 : decode cX2_isRelaxed 14 = .ok (.iconst 0, 1) := by decide +kernel
theorem dX2_isRelaxed_15 : decode cX2_isRelaxed 15 = .ok (.ireturn, 1) := by decide +kernel
theorem dX2_countOf_0 : decode cX2_countOf 0 = .ok (.aload_n 0, 1) := by decide +kernel
theorem dX2_countOf_1 : decode cX2_countOf 1 = .ok (.getfield 15, 3) := by decide +kernel
theorem dX2_countOf_4 : decode cX2_countOf 4 = .ok (.iload_n 1, 1) := by decide +kernel
theorem dX2_countOf_5 : decode cX2_countOf 5 = .ok (.invokestatic 38, 3) := by decide +kernel
theorem dX2_countOf_8 : decode cX2_countOf 8 = .ok (.ireturn, 1) := by decide +kernel
theorem dX2_count_0 : decode cX2_count 0 = .ok (.iload_n 1, 1) := by decide +kernel
theorem dX2_count_1 : decode cX2_count 1 = .ok (.ifCond .lt 22, 3) := by decide +kernel
theorem dX2_count_4 : decode cX2_count 4 = .ok (.iload_n 1, 1) := by decide +kernel
theorem dX2_count_5 : decode cX2_count 5 = .ok (.aload_n 0, 1) := by decide +kernel
theorem dX2_count_6 : decode cX2_count 6 = .ok (.getfield 15, 3) := by decide +kernel
theorem dX2_count_9 : decode cX2_count 9 = .ok (.arraylength, 1) := by decide +kernel
theorem dX2_count_10 : decode cX2_count 10 = .ok (.if_icmp .ge 13, 3) := by decide +kernel
theorem dX2_count_13 : decode cX2_count 13 = .ok (.aload_n 0, 1) := by decide +kernel
theorem dX2_count_14 : decode cX2_count 14 = .ok (.getfield 15, 3) := by decide +kernel
theorem dX2_count_17 : decode cX2_count 17 = .ok (.iload_n 1, 1) := by decide +kernel
theorem dX2_count_18 : decode cX2_count 18 = .ok (.dup2, 1) := by decide +kernel
theorem dX2_count_19 : decode cX2_count 19 = .ok (.iaload, 1) := by decide +kernel
theorem dX2_count_20 : decode cX2_count 20 = .ok (.iload_n 2, 1) := by decide +kernel
theorem dX2_count_21 : decode cX2_count 21 = .ok (.iadd, 1) := by decide +kernel
theorem dX2_count_22 : decode cX2_count 22 = .ok (.iastore, 1) := by decide +kernel
theorem dX2_count_23 : decode cX2_count 23 = .ok (.return_, 1) := by decide +kernel
theorem dX2_open_0 : decode cX2_open 0 = .ok (.aload_n 0, 1) := by decide +kernel
theorem dX2_open_1 : decode cX2_open 1 = .ok (.getfield 18, 3) := by decide +kernel
theorem dX2_open_4 : decode cX2_open 4 = .ok (.bipush 11, 2) := by decide +kernel
theorem dX2_open_6 : decode cX2_open 6 = .ok (.imul, 1) := by decide +kernel
theorem dX2_open_7 : decode cX2_open 7 = .ok (.istore 7, 2) := by decide +kernel
theorem dX2_open_9 : decode cX2_open 9 = .ok (.aload_n 0, 1) := by decide +kernel
theorem dX2_open_10 : decode cX2_open 10 = .ok (.getfield 18, 3) := by decide +kernel
theorem dX2_open_13 : decode cX2_open 13 = .ok (.ifCond .lt 21, 3) := by decide +kernel
theorem dX2_open_16 : decode cX2_open 16 = .ok (.aload_n 0, 1) := by decide +kernel
theorem dX2_open_17 : decode cX2_open 17 = .ok (.getfield 18, 3) := by decide +kernel
theorem dX2_open_20 : decode cX2_open 20 = .ok (.bipush 32, 2) := by decide +kernel
theorem dX2_open_22 : decode cX2_open 22 = .ok (.if_icmp .ge 12, 3) := by decide +kernel
theorem dX2_open_25 : decode cX2_open 25 = .ok (.iload_n 1, 1) := by decide +kernel
theorem dX2_open_26 : decode cX2_open 26 = .ok (.ifCond .lt 8, 3) := by decide +kernel
theorem dX2_open_29 : decode cX2_open 29 = .ok (.iload_n 1, 1) := by decide +kernel
theorem dX2_open_30 : decode cX2_open 30 = .ok (.iconst 4, 1) := by decide +kernel
theorem dX2_open_31 : decode cX2_open 31 = .ok (.if_icmp .lt 5, 3) := by decide +kernel
theorem dX2_open_34 : decode cX2_open 34 = .ok (.iconst (-1), 1) := by decide +kernel
theorem dX2_open_35 : decode cX2_open 35 = .ok (.ireturn, 1) := by decide +kernel
theorem dX2_open_36 : decode cX2_open 36 = .ok (.aload_n 0, 1) := by decide +kernel
theorem dX2_open_37 : decode cX2_open 37 = .ok (.getfield 11, 3) := by decide +kernel
theorem dX2_open_40 : decode cX2_open 40 = .ok (.iload 7, 2) := by decide +kernel
theorem dX2_open_42 : decode cX2_open 42 = .ok (.iconst 0, 1) := by decide +kernel
theorem dX2_open_43 : decode cX2_open 43 = .ok (.iadd, 1) := by decide +kernel
theorem dX2_open_44 : decode cX2_open 44 = .ok (.iload_n 1, 1) := by decide +kernel
theorem dX2_open_45 : decode cX2_open 45 = .ok (.iastore, 1) := by decide +kernel
theorem dX2_open_46 : decode cX2_open 46 = .ok (.aload_n 0, 1) := by decide +kernel
theorem dX2_open_47 : decode cX2_open 47 = .ok (.getfield 11, 3) := by decide +kernel
theorem dX2_open_50 : decode cX2_open 50 = .ok (.iload 7, 2) := by decide +kernel
theorem dX2_open_52 : decode cX2_open 52 = .ok (.iconst 1, 1) := by decide +kernel
theorem dX2_open_53 : decode cX2_open 53 = .ok (.iadd, 1) := by decide +kernel
theorem dX2_open_54 : decode cX2_open 54 = .ok (.iload_n 2, 1) := by decide +kernel
theorem dX2_open_55 : decode cX2_open 55 = .ok (.iastore, 1) := by decide +kernel
theorem dX2_open_56 : decode cX2_open 56 = .ok (.aload_n 0, 1) := by decide +kernel
theorem dX2_open_57 : decode cX2_open 57 = .ok (.getfield 11, 3) := by decide +kernel
theorem dX2_open_60 : decode cX2_open 60 = .ok (.iload 7, 2) := by decide +kernel
theorem dX2_open_62 : decode cX2_open 62 = .ok (.iconst 2, 1) := by decide +kernel
theorem dX2_open_63 : decode cX2_open 63 = .ok (.iadd, 1) := by decide +kernel
theorem dX2_open_64 : decode cX2_open 64 = .ok (.iload_n 3, 1) := by decide +kernel
theorem dX2_open_65 : decode cX2_open 65 = .ok (.ifCond .eq 7, 3) := by decide +kernel
theorem dX2_open_68 : decode cX2_open 68 = .ok (.iconst 1, 1) := by decide +kernel
theorem dX2_open_69 : decode cX2_open 69 = .ok (.goto 4, 3) := by decide +kernel
theorem dX2_open_72 : decode cX2_open 72 = .ok (.iconst 0, 1) := by decide +kernel
theorem dX2_open_73 : decode cX2_open 73 = .ok (.iastore, 1) := by decide +kernel
theorem dX2_open_74 : decode cX2_open 74 = .ok (.aload_n 0, 1) := by decide +kernel
theorem dX2_open_75 : decode cX2_open 75 = .ok (.getfield 11, 3) := by decide +kernel
theorem dX2_open_78 : decode cX2_open 78 = .ok (.iload 7, 2) := by decide +kernel
theorem dX2_open_80 : decode cX2_open 80 = .ok (.iconst 3, 1) := by decide +kernel
theorem dX2_open_81 : decode cX2_open 81 = .ok (.iadd, 1) := by decide +kernel
theorem dX2_open_82 : decode cX2_open 82 = .ok (.iload 4, 2) := by decide +kernel
theorem dX2_open_84 : decode cX2_open 84 = .ok (.iastore, 1) := by decide +kernel
theorem dX2_open_85 : decode cX2_open 85 = .ok (.aload_n 0, 1) := by decide +kernel
theorem dX2_open_86 : decode cX2_open 86 = .ok (.getfield 11, 3) := by decide +kernel
theorem dX2_open_89 : decode cX2_open 89 = .ok (.iload 7, 2) := by decide +kernel
theorem dX2_open_91 : decode cX2_open 91 = .ok (.iconst 4, 1) := by decide +kernel
theorem dX2_open_92 : decode cX2_open 92 = .ok (.iadd, 1) := by decide +kernel
theorem dX2_open_93 : decode cX2_open 93 = .ok (.iload 5, 2) := by decide +kernel
theorem dX2_open_95 : decode cX2_open 95 = .ok (.iastore, 1) := by decide +kernel
theorem dX2_open_96 : decode cX2_open 96 = .ok (.aload_n 0, 1) := by decide +kernel
theorem dX2_open_97 : decode cX2_open 97 = .ok (.getfield 11, 3) := by decide +kernel
theorem dX2_open_100 : decode cX2_open 100 = .ok (.iload 7, 2) := by decide +kernel
theorem dX2_open_102 : decode cX2_open 102 = .ok (.iconst 5, 1) := by decide +kernel
theorem dX2_open_103 : decode cX2_open 103 = .ok (.iadd, 1) := by decide +kernel
theorem dX2_open_104 : decode cX2_open 104 = .ok (.iload 6, 2) := by decide +kernel
theorem dX2_open_106 : decode cX2_open 106 = .ok (.iastore, 1) := by decide +kernel
theorem dX2_open_107 : decode cX2_open 107 = .ok (.aload_n 0, 1) := by decide +kernel
theorem dX2_open_108 : decode cX2_open 108 = .ok (.getfield 11, 3) := by decide +kernel
theorem dX2_open_111 : decode cX2_open 111 = .ok (.iload 7, 2) := by decide +kernel
theorem dX2_open_113 : decode cX2_open 113 = .ok (.bipush 6, 2) := by decide +kernel
theorem dX2_open_115 : decode cX2_open 115 = .ok (.iadd, 1) := by decide +kernel
theorem dX2_open_116 : decode cX2_open 116 = .ok (.iconst 0, 1) := by decide +kernel
theorem dX2_open_117 : decode cX2_open 117 = .ok (.iastore, 1) := by decide +kernel
theorem dX2_open_118 : decode cX2_open 118 = .ok (.aload_n 0, 1) := by decide +kernel
theorem dX2_open_119 : decode cX2_open 119 = .ok (.getfield 15, 3) := by decide +kernel
theorem dX2_open_122 : decode cX2_open 122 = .ok (.iload_n 1, 1) := by decide +kernel
theorem dX2_open_123 : decode cX2_open 123 = .ok (.dup2, 1) := by decide +kernel
theorem dX2_open_124 : decode cX2_open 124 = .ok (.iaload, 1) := by decide +kernel
theorem dX2_open_125 : decode cX2_open 125 = .ok (.iconst 1, 1) := by decide +kernel
theorem dX2_open_126 : decode cX2_open 126 = .ok (.iadd, 1) := by decide +kernel
theorem dX2_open_127 : decode cX2_open 127 = .ok (.iastore, 1) := by decide +kernel
theorem dX2_open_128 : decode cX2_open 128 = .ok (.aload_n 0, 1) := by decide +kernel
theorem dX2_open_129 : decode cX2_open 129 = .ok (.dup, 1) := by decide +kernel
theorem dX2_open_130 : decode cX2_open 130 = .ok (.getfield 18, 3) := by decide +kernel
theorem dX2_open_133 : decode cX2_open 133 = .ok (.iconst 1, 1) := by decide +kernel
theorem dX2_open_134 : decode cX2_open 134 = .ok (.iadd, 1) := by decide +kernel
theorem dX2_open_135 : decode cX2_open 135 = .ok (.putfield 18, 3) := by decide +kernel
theorem dX2_open_138 : decode cX2_open 138 = .ok (.aload_n 0, 1) := by decide +kernel
theorem dX2_open_139 : decode cX2_open 139 = .ok (.getfield 18, 3) := by decide +kernel
theorem dX2_open_142 : decode cX2_open 142 = .ok (.iconst 1, 1) := by decide +kernel
theorem dX2_open_143 : decode cX2_open 143 = .ok (.isub, 1) := by decide +kernel
theorem dX2_open_144 : decode cX2_open 144 = .ok (.ireturn, 1) := by decide +kernel
theorem dX2_putValues_0 : decode cX2_putValues 0 = .ok (.iconst 0, 1) := by decide +kernel
theorem dX2_putValues_1 : decode cX2_putValues 1 = .ok (.istore_n 3, 1) := by decide +kernel
theorem dX2_putValues_2 : decode cX2_putValues 2 = .ok (.iload_n 3, 1) := by decide +kernel
theorem dX2_putValues_3 : decode cX2_putValues 3 = .ok (.iconst 4, 1) := by decide +kernel
theorem dX2_putValues_4 : decode cX2_putValues 4 = .ok (.if_icmp .ge 21, 3) := by decide +kernel
theorem dX2_putValues_7 : decode cX2_putValues 7 = .ok (.aload_n 0, 1) := by decide +kernel
theorem dX2_putValues_8 : decode cX2_putValues 8 = .ok (.iload_n 1, 1) := by decide +kernel
theorem dX2_putValues_9 : decode cX2_putValues 9 = .ok (.bipush 7, 2) := by decide +kernel
theorem dX2_putValues_11 : decode cX2_putValues 11 = .ok (.iload_n 3, 1) := by decide +kernel
theorem dX2_putValues_12 : decode cX2_putValues 12 = .ok (.iadd, 1) := by decide +kernel
theorem dX2_putValues_13 : decode cX2_putValues 13 = .ok (.iload_n 2, 1) := by decide +kernel
theorem dX2_putValues_14 : decode cX2_putValues 14 = .ok (.iload_n 3, 1) := by decide +kernel
theorem dX2_putValues_15 : decode cX2_putValues 15 = .ok (.iadd, 1) := by decide +kernel
theorem dX2_putValues_16 : decode cX2_putValues 16 = .ok (.invokevirtual 42, 3) := by decide +kernel
theorem dX2_putValues_19 : decode cX2_putValues 19 = .ok (.iinc 3 1, 3) := by decide +kernel
theorem dX2_putValues_22 : decode cX2_putValues 22 = .ok (.goto (-20), 3) := by decide +kernel
theorem dX2_putValues_25 : decode cX2_putValues 25 = .ok (.return_, 1) := by decide +kernel
theorem dX2_takeFrom_0 : decode cX2_takeFrom 0 = .ok (.aload_n 0, 1) := by decide +kernel
theorem dX2_takeFrom_1 : decode cX2_takeFrom 1 = .ok (.getfield 18, 3) := by decide +kernel
theorem dX2_takeFrom_4 : decode cX2_takeFrom 4 = .ok (.ifCond .lt 22, 3) := by decide +kernel
theorem dX2_takeFrom_7 : decode cX2_takeFrom 7 = .ok (.aload_n 0, 1) := by decide +kernel
theorem dX2_takeFrom_8 : decode cX2_takeFrom 8 = .ok (.getfield 18, 3) := by decide +kernel
theorem dX2_takeFrom_11 : decode cX2_takeFrom 11 = .ok (.bipush 32, 2) := by decide +kernel
theorem dX2_takeFrom_13 : decode cX2_takeFrom 13 = .ok (.if_icmp .ge 13, 3) := by decide +kernel
theorem dX2_takeFrom_16 : decode cX2_takeFrom 16 = .ok (.iload_n 2, 1) := by decide +kernel
theorem dX2_takeFrom_17 : decode cX2_takeFrom 17 = .ok (.ifCond .lt 9, 3) := by decide +kernel
theorem dX2_takeFrom_20 : decode cX2_takeFrom 20 = .ok (.iload_n 2, 1) := by decide +kernel
theorem dX2_takeFrom_21 : decode cX2_takeFrom 21 = .ok (.bipush 32, 2) := by decide +kernel
theorem dX2_takeFrom_23 : decode cX2_takeFrom 23 = .ok (.if_icmp .lt 5, 3) := by decide +kernel
theorem dX2_takeFrom_26 : decode cX2_takeFrom 26 = .ok (.iconst (-1), 1) := by decide +kernel
theorem dX2_takeFrom_27 : decode cX2_takeFrom 27 = .ok (.ireturn, 1) := by decide +kernel
theorem dX2_takeFrom_28 : decode cX2_takeFrom 28 = .ok (.aload_n 1, 1) := by decide +kernel
theorem dX2_takeFrom_29 : decode cX2_takeFrom 29 = .ok (.getfield 11, 3) := by decide +kernel
theorem dX2_takeFrom_32 : decode cX2_takeFrom 32 = .ok (.iload_n 2, 1) := by decide +kernel
theorem dX2_takeFrom_33 : decode cX2_takeFrom 33 = .ok (.bipush 11, 2) := by decide +kernel
theorem dX2_takeFrom_35 : decode cX2_takeFrom 35 = .ok (.imul, 1) := by decide +kernel
theorem dX2_takeFrom_36 : decode cX2_takeFrom 36 = .ok (.aload_n 0, 1) := by decide +kernel
theorem dX2_takeFrom_37 : decode cX2_takeFrom 37 = .ok (.getfield 11, 3) := by decide +kernel
theorem dX2_takeFrom_40 : decode cX2_takeFrom 40 = .ok (.aload_n 0, 1) := by decide +kernel
theorem dX2_takeFrom_41 : decode cX2_takeFrom 41 = .ok (.getfield 18, 3) := by decide +kernel
theorem dX2_takeFrom_44 : decode cX2_takeFrom 44 = .ok (.bipush 11, 2) := by decide +kernel
theorem dX2_takeFrom_46 : decode cX2_takeFrom 46 = .ok (.imul, 1) := by decide +kernel
theorem dX2_takeFrom_47 : decode cX2_takeFrom 47 = .ok (.bipush 11, 2) := by decide +kernel
theorem dX2_takeFrom_49 : decode cX2_takeFrom 49 = .ok (.invokestatic 28, 3) := by decide +kernel
theorem dX2_takeFrom_52 : decode cX2_takeFrom 52 = .ok (.aload_n 0, 1) := by decide +kernel
theorem dX2_takeFrom_53 : decode cX2_takeFrom 53 = .ok (.aload_n 1, 1) := by decide +kernel
theorem dX2_takeFrom_54 : decode cX2_takeFrom 54 = .ok (.iload_n 2, 1) := by decide +kernel
theorem dX2_takeFrom_55 : decode cX2_takeFrom 55 = .ok (.iconst 0, 1) := by decide +kernel
theorem dX2_takeFrom_56 : decode cX2_takeFrom 56 = .ok (.invokevirtual 34, 3) := by decide +kernel
theorem dX2_takeFrom_59 : decode cX2_takeFrom 59 = .ok (.iconst 1, 1) := by decide +kernel
theorem dX2_takeFrom_60 : decode cX2_takeFrom 60 = .ok (.invokevirtual 46, 3) := by decide +kernel
theorem dX2_takeFrom_63 : decode cX2_takeFrom 63 = .ok (.aload_n 1, 1) := by decide +kernel
theorem dX2_takeFrom_64 : decode cX2_takeFrom 64 = .ok (.iload_n 2, 1) := by decide +kernel
theorem dX2_takeFrom_65 : decode cX2_takeFrom 65 = .ok (.invokevirtual 50, 3) := by decide +kernel
theorem dX2_takeFrom_68 : decode cX2_takeFrom 68 = .ok (.aload_n 0, 1) := by decide +kernel
theorem dX2_takeFrom_69 : decode cX2_takeFrom 69 = .ok (.dup, 1) := by decide +kernel
theorem dX2_takeFrom_70 : decode cX2_takeFrom 70 = .ok (.getfield 18, 3) := by decide +kernel
theorem dX2_takeFrom_73 : decode cX2_takeFrom 73 = .ok (.iconst 1, 1) := by decide +kernel
theorem dX2_takeFrom_74 : decode cX2_takeFrom 74 = .ok (.iadd, 1) := by decide +kernel
theorem dX2_takeFrom_75 : decode cX2_takeFrom 75 = .ok (.putfield 18, 3) := by decide +kernel
theorem dX2_takeFrom_78 : decode cX2_takeFrom 78 = .ok (.aload_n 0, 1) := by decide +kernel
theorem dX2_takeFrom_79 : decode cX2_takeFrom 79 = .ok (.getfield 18, 3) := by decide +kernel
theorem dX2_takeFrom_82 : decode cX2_takeFrom 82 = .ok (.iconst 1, 1) := by decide +kernel
theorem dX2_takeFrom_83 : decode cX2_takeFrom 83 = .ok (.isub, 1) := by decide +kernel
theorem dX2_takeFrom_84 : decode cX2_takeFrom 84 = .ok (.ireturn, 1) := by decide +kernel
theorem dX2_remove_0 : decode cX2_remove 0 = .ok (.iload_n 1, 1) := by decide +kernel
theorem dX2_remove_1 : decode cX2_remove 1 = .ok (.ifCond .lt 20, 3) := by decide +kernel
theorem dX2_remove_4 : decode cX2_remove 4 = .ok (.iload_n 1, 1) := by decide +kernel
theorem dX2_remove_5 : decode cX2_remove 5 = .ok (.aload_n 0, 1) := by decide +kernel
theorem dX2_remove_6 : decode cX2_remove 6 = .ok (.getfield 18, 3) := by decide +kernel
theorem dX2_remove_9 : decode cX2_remove 9 = .ok (.if_icmp .ge 12, 3) := by decide +kernel
theorem dX2_remove_12 : decode cX2_remove 12 = .ok (.aload_n 0, 1) := by decide +kernel
theorem dX2_remove_13 : decode cX2_remove 13 = .ok (.getfield 18, 3) := by decide +kernel
theorem dX2_remove_16 : decode cX2_remove 16 = .ok (.bipush 32, 2) := by decide +kernel
theorem dX2_remove_18 : decode cX2_remove 18 = .ok (.if_icmp .le 4, 3) := by decide +kernel
theorem dX2_remove_21 : decode cX2_remove 21 = .ok (.return_, 1) := by decide +kernel
theorem dX2_remove_22 : decode cX2_remove 22 = .ok (.aload_n 0, 1) := by decide +kernel
theorem dX2_remove_23 : decode cX2_remove 23 = .ok (.aload_n 0, 1) := by decide +kernel
theorem dX2_remove_24 : decode cX2_remove 24 = .ok (.iload_n 1, 1) := by decide +kernel
theorem dX2_remove_25 : decode cX2_remove 25 = .ok (.iconst 0, 1) := by decide +kernel
theorem dX2_remove_26 : decode cX2_remove 26 = .ok (.invokevirtual 34, 3) := by decide +kernel
theorem dX2_remove_29 : decode cX2_remove 29 = .ok (.iconst (-1), 1) := by decide +kernel
theorem dX2_remove_30 : decode cX2_remove 30 = .ok (.invokevirtual 46, 3) := by decide +kernel
theorem dX2_remove_33 : decode cX2_remove 33 = .ok (.aload_n 0, 1) := by decide +kernel
theorem dX2_remove_34 : decode cX2_remove 34 = .ok (.dup, 1) := by decide +kernel
theorem dX2_remove_35 : decode cX2_remove 35 = .ok (.getfield 18, 3) := by decide +kernel
theorem dX2_remove_38 : decode cX2_remove 38 = .ok (.iconst 1, 1) := by decide +kernel
theorem dX2_remove_39 : decode cX2_remove 39 = .ok (.isub, 1) := by decide +kernel
theorem dX2_remove_40 : decode cX2_remove 40 = .ok (.putfield 18, 3) := by decide +kernel
theorem dX2_remove_43 : decode cX2_remove 43 = .ok (.aload_n 0, 1) := by decide +kernel
theorem dX2_remove_44 : decode cX2_remove 44 = .ok (.getfield 18, 3) := by decide +kernel
theorem dX2_remove_47 : decode cX2_remove 47 = .ok (.iload_n 1, 1) := by decide +kernel
theorem dX2_remove_48 : decode cX2_remove 48 = .ok (.isub, 1) := by decide +kernel
theorem dX2_remove_49 : decode cX2_remove 49 = .ok (.bipush 11, 2) := by decide +kernel
theorem dX2_remove_51 : decode cX2_remove 51 = .ok (.imul, 1) := by decide +kernel
theorem dX2_remove_52 : decode cX2_remove 52 = .ok (.istore_n 2, 1) := by decide +kernel
theorem dX2_remove_53 : decode cX2_remove 53 = .ok (.aload_n 0, 1) := by decide +kernel
theorem dX2_remove_54 : decode cX2_remove 54 = .ok (.getfield 11, 3) := by decide +kernel
theorem dX2_remove_57 : decode cX2_remove 57 = .ok (.iload_n 1, 1) := by decide +kernel
theorem dX2_remove_58 : decode cX2_remove 58 = .ok (.iconst 1, 1) := by decide +kernel
theorem dX2_remove_59 : decode cX2_remove 59 = .ok (.iadd, 1) := by decide +kernel
theorem dX2_remove_60 : decode cX2_remove 60 = .ok (.bipush 11, 2) := by decide +kernel
theorem dX2_remove_62 : decode cX2_remove 62 = .ok (.imul, 1) := by decide +kernel
theorem dX2_remove_63 : decode cX2_remove 63 = .ok (.aload_n 0, 1) := by decide +kernel
theorem dX2_remove_64 : decode cX2_remove 64 = .ok (.getfield 11, 3) := by decide +kernel
theorem dX2_remove_67 : decode cX2_remove 67 = .ok (.iload_n 1, 1) := by decide +kernel
theorem dX2_remove_68 : decode cX2_remove 68 = .ok (.bipush 11, 2) := by decide +kernel
theorem dX2_remove_70 : decode cX2_remove 70 = .ok (.imul, 1) := by decide +kernel
theorem dX2_remove_71 : decode cX2_remove 71 = .ok (.iload_n 2, 1) := by decide +kernel
theorem dX2_remove_72 : decode cX2_remove 72 = .ok (.invokestatic 28, 3) := by decide +kernel
theorem dX2_remove_75 : decode cX2_remove 75 = .ok (.return_, 1) := by decide +kernel
theorem dX3_init_0 : decode cX3_init 0 = .ok (.aload_n 0, 1) := by decide +kernel
theorem dX3_init_1 : decode cX3_init 1 = .ok (.invokespecial 3, 3) := by decide +kernel
theorem dX3_init_4 : decode cX3_init 4 = .ok (.aload_n 0, 1) := by decide +kernel
theorem dX3_init_5 : decode cX3_init 5 = .ok (.bipush 8, 2) := by decide +kernel
theorem dX3_init_7 : decode cX3_init 7 = .ok (.newarray .int, 2) := by decide +kernel
theorem dX3_init_9 : decode cX3_init 9 = .ok (.putfield 9, 3) := by decide +kernel
theorem dX3_init_12 : decode cX3_init 12 = .ok (.aload_n 0, 1) := by decide +kernel
theorem dX3_init_13 : decode cX3_init 13 = .ok (.bipush 8, 2) := by decide +kernel
theorem dX3_init_15 : decode cX3_init 15 = .ok (.newarray .int, 2) := by decide +kernel
theorem dX3_init_17 : decode cX3_init 17 = .ok (.putfield 15, 3) := by decide +kernel
theorem dX3_init_20 : decode cX3_init 20 = .ok (.aload_n 0, 1) := by decide +kernel
theorem dX3_init_21 : decode cX3_init 21 = .ok (.bipush 16, 2) := by decide +kernel
theorem dX3_init_23 : decode cX3_init 23 = .ok (.newarray .int, 2) := by decide +kernel
theorem dX3_init_25 : decode cX3_init 25 = .ok (.putfield 18, 3) := by decide +kernel
theorem dX3_init_28 : decode cX3_init 28 = .ok (.aload_n 0, 1) := by decide +kernel
theorem dX3_init_29 : decode cX3_init 29 = .ok (.bipush 32, 2) := by decide +kernel
theorem dX3_init_31 : decode cX3_init 31 = .ok (.newarray .int, 2) := by decide +kernel
theorem dX3_init_33 : decode cX3_init 33 = .ok (.putfield 21, 3) := by decide +kernel
theorem dX3_init_36 : decode cX3_init 36 = .ok (.aload_n 0, 1) := by decide +kernel
theorem dX3_init_37 : decode cX3_init 37 = .ok (.new 24, 3) := by decide +kernel
theorem dX3_init_40 : decode cX3_init 40 = .ok (.dup, 1) := by decide +kernel
theorem dX3_init_41 : decode cX3_init 41 = .ok (.invokespecial 26, 3) := by decide +kernel
theorem dX3_init_44 : decode cX3_init 44 = .ok (.putfield 27, 3) := by decide +kernel
theorem dX3_init_47 : decode cX3_init 47 = .ok (.aload_n 0, 1) := by decide +kernel
theorem dX3_init_48 : decode cX3_init 48 = .ok (.new 24, 3) := by decide +kernel
theorem dX3_init_51 : decode cX3_init 51 = .ok (.dup, 1) := by decide +kernel
theorem dX3_init_52 : decode cX3_init 52 = .ok (.invokespecial 26, 3) := by decide +kernel
theorem dX3_init_55 : decode cX3_init 55 = .ok (.putfield 31, 3) := by decide +kernel
theorem dX3_init_58 : decode cX3_init 58 = .ok (.return_, 1) := by decide +kernel
theorem dX3_setDefaults_0 : decode cX3_setDefaults 0 = .ok (.aload_n 0, 1) := by decide +kernel
theorem dX3_setDefaults_1 : decode cX3_setDefaults 1 = .ok (.getfield 9, 3) := by decide +kernel
theorem dX3_setDefaults_4 : decode cX3_setDefaults 4 = .ok (.iconst 4, 1) := by decide +kernel
theorem dX3_setDefaults_5 : decode cX3_setDefaults 5 = .ok (.invokestatic 34, 3) := by decide +kernel
theorem dX3_setDefaults_8 : decode cX3_setDefaults 8 = .ok (.aload_n 0, 1) := by decide +kernel
theorem dX3_setDefaults_9 : decode cX3_setDefaults 9 = .ok (.getfield 15, 3) := by decide +kernel
theorem dX3_setDefaults_12 : decode cX3_setDefaults 12 = .ok (.iconst 2, 1) := by decide +kernel
theorem dX3_setDefaults_13 : decode cX3_setDefaults 13 = .ok (.invokestatic 34, 3) := by decide +kernel
theorem dX3_setDefaults_16 : decode cX3_setDefaults 16 = .ok (.aload_n 0, 1) := by decide +kernel
theorem dX3_setDefaults_17 : decode cX3_setDefaults 17 = .ok (.getfield 21, 3) := by decide +kernel
theorem dX3_setDefaults_20 : decode cX3_setDefaults 20 = .ok (.iconst 0, 1) := by decide +kernel
theorem dX3_setDefaults_21 : decode cX3_setDefaults 21 = .ok (.invokestatic 34, 3) := by decide +kernel
theorem dX3_setDefaults_24 : decode cX3_setDefaults 24 = .ok (.aload_n 0, 1) := by decide +kernel
theorem dX3_setDefaults_25 : decode cX3_setDefaults 25 = .ok (.getfield 18, 3) := by decide +kernel
theorem dX3_setDefaults_28 : decode cX3_setDefaults 28 = .ok (.iconst 0, 1) := by decide +kernel
theorem dX3_setDefaults_29 : decode cX3_setDefaults 29 = .ok (.invokestatic 34, 3) := by decide +kernel
theorem dX3_setDefaults_32 : decode cX3_setDefaults 32 = .ok (.aload_n 0, 1) := by decide +kernel
theorem dX3_setDefaults_33 : decode cX3_setDefaults 33 = .ok (.iconst 0, 1) := by decide +kernel
theorem dX3_setDefaults_34 : decode cX3_setDefaults 34 = .ok (.iconst 1, 1) := by decide +kernel
theorem dX3_setDefaults_35 : decode cX3_setDefaults 35 = .ok (.iconst 3, 1) := by decide +kernel
theorem dX3_setDefaults_36 : decode cX3_setDefaults 36 = .ok (.invokevirtual 40, 3) := by decide +kernel
theorem dX3_setDefaults_39 : decode cX3_setDefaults 39 = .ok (.aload_n 0, 1) := by decide +kernel
theorem dX3_setDefaults_40 : decode cX3_setDefaults 40 = .ok (.iconst 1, 1) := by decide +kernel
theorem dX3_setDefaults_41 : decode cX3_setDefaults 41 = .ok (.iconst 1, 1) := by decide +kernel
theorem dX3_setDefaults_42 : decode cX3_setDefaults 42 = .ok (.iconst 2, 1) := by decide +kernel
theorem dX3_setDefaults_43 : decode cX3_setDefaults 43 = .ok (.invokevirtual 40, 3) := by decide +kernel
theorem dX3_setDefaults_46 : decode cX3_setDefaults 46 = .ok (.aload_n 0, 1) := by decide +kernel
theorem dX3_setDefaults_47 : decode cX3_setDefaults 47 = .ok (.iconst 2, 1) := by decide +kernel
theorem dX3_setDefaults_48 : decode cX3_setDefaults 48 = .ok (.iconst 1, 1) := by decide +kernel
theorem dX3_setDefaults_49 : decode cX3_setDefaults 49 = .ok (.iconst 2, 1) := by decide +kernel
theorem dX3_setDefaults_50 : decode cX3_setDefaults 50 = .ok (.invokevirtual 40, 3) := by decide +kernel
theorem dX3_setDefaults_53 : decode cX3_setDefaults 53 = .ok (.aload_n 0, 1) := by decide +kernel
theorem dX3_setDefaults_54 : decode cX3_setDefaults 54 = .ok (.iconst 3, 1) := by decide +kernel
theorem dX3_setDefaults_55 : decode cX3_setDefaults 55 = .ok (.iconst 1, 1) := by decide +kernel
theorem dX3_setDefaults_56 : decode cX3_setDefaults 56 = .ok (.iconst 3, 1) := by decide +kernel
theorem dX3_setDefaults_57 : decode cX3_setDefaults 57 = .ok (.invokevirtual 40, 3) := by decide +kernel
theorem dX3_setDefaults_60 : decode cX3_setDefaults 60 = .ok (.aload_n 0, 1) := by decide +kernel
theorem dX3_setDefaults_61 : decode cX3_setDefaults 61 = .ok (.getfield 27, 3) := by decide +kernel
theorem dX3_setDefaults_64 : decode cX3_setDefaults 64 = .ok (.iconst 1, 1) := by decide +kernel
theorem dX3_setDefaults_65 : decode cX3_setDefaults 65 = .ok (.invokevirtual 44, 3) := by decide +kernel
theorem dX3_setDefaults_68 : decode cX3_setDefaults 68 = .ok (.aload_n 0, 1) := by decide +kernel
theorem dX3_setDefaults_69 : decode cX3_setDefaults 69 = .ok (.getfield 31, 3) := by decide +kernel
theorem dX3_setDefaults_72 : decode cX3_setDefaults 72 = .ok (.iconst 1, 1) := by decide +kernel
theorem dX3_setDefaults_73 : decode cX3_setDefaults 73 = .ok (.invokevirtual 44, 3) := by decide +kernel
theorem dX3_setDefaults_76 : decode cX3_setDefaults 76 = .ok (.aload_n 0, 1) := by decide +kernel
theorem dX3_setDefaults_77 : decode cX3_setDefaults 77 = .ok (.iconst 2, 1) := by decide +kernel
theorem dX3_setDefaults_78 : decode cX3_setDefaults 78 = .ok (.putfield 48, 3) := by decide +kernel
theorem dX3_setDefaults_81 : decode cX3_setDefaults 81 = .ok (.aload_n 0, 1) := by decide +kernel
theorem dX3_setDefaults_82 : decode cX3_setDefaults 82 = .ok (.iconst 4, 1) := by decide +kernel
theorem dX3_setDefaults_83 : decode cX3_setDefaults 83 = .ok (.putfield 52, 3) := by decide +kernel
theorem dX3_setDefaults_86 : decode cX3_setDefaults 86 = .ok (.return_, 1) := by decide +kernel
theorem dX3_letPass_0 : decode cX3_letPass 0 = .ok (.iload_n 2, 1) := by decide +kernel
theorem dX3_letPass_1 : decode cX3_letPass 1 = .ok (.istore 4, 2) := by decide +kernel
theorem dX3_letPass_3 : decode cX3_letPass 3 = .ok (.iload 4, 2) := by decide +kernel
theorem dX3_letPass_5 : decode cX3_letPass 5 = .ok (.iload_n 3, 1) := by decide +kernel
theorem dX3_letPass_6 : decode cX3_letPass 6 = .ok (.if_icmp .gt 40, 3) := by decide +kernel
theorem dX3_letPass_9 : decode cX3_letPass 9 = .ok (.iload_n 1, 1) := by decide +kernel
theorem dX3_letPass_10 : decode cX3_letPass 10 = .ok (.iconst 4, 1) := by decide +kernel
theorem dX3_letPass_11 : decode cX3_letPass 11 = .ok (.imul, 1) := by decide +kernel
theorem dX3_letPass_12 : decode cX3_letPass 12 = .ok (.iload 4, 2) := by decide +kernel
theorem dX3_letPass_14 : decode cX3_letPass 14 = .ok (.iadd, 1) := by decide +kernel
theorem dX3_letPass_15 : decode cX3_letPass 15 = .ok (.istore 5, 2) := by decide +kernel
theorem dX3_letPass_17 : decode cX3_letPass 17 = .ok (.iload 5, 2) := by decide +kernel
theorem dX3_letPass_19 : decode cX3_letPass 19 = .ok (.ifCond .lt 21, 3) := by decide +kernel
theorem dX3_letPass_22 : decode cX3_letPass 22 = .ok (.iload 5, 2) := by decide +kernel
theorem dX3_letPass_24 : decode cX3_letPass 24 = .ok (.aload_n 0, 1) := by decide +kernel
theorem dX3_letPass_25 : decode cX3_letPass 25 = .ok (.getfield 18, 3) := by decide +kernel
theorem dX3_letPass_28 : decode cX3_letPass 28 = .ok (.arraylength, 1) := by decide +kernel
theorem dX3_letPass_29 : decode cX3_letPass 29 = .ok (.if_icmp .ge 11, 3) := by decide +kernel
theorem dX3_letPass_32 : decode cX3_letPass 32 = .ok (.aload_n 0, 1) := by decide +kernel
theorem dX3_letPass_33 : decode cX3_letPass 33 = .ok (.getfield 18, 3) := by decide +kernel
theorem dX3_letPass_36 : decode cX3_letPass 36 = .ok (.iload 5, 2) := by decide +kernel
theorem dX3_letPass_38 : decode cX3_letPass 38 = .ok (.iconst 1, 1) := by decide +kernel
theorem dX3_letPass_39 : decode cX3_letPass 39 = .ok (.iastore, 1) := by decide +kernel
theorem dX3_letPass_40 : decode cX3_letPass 40 = .ok (.iinc 4 1, 3) := by decide +kernel
theorem dX3_letPass_43 : decode cX3_letPass 43 = .ok (.goto (-40), 3) := by decide +kernel
theorem dX3_letPass_46 : decode cX3_letPass 46 = .ok (.return_, 1) := by decide +kernel
theorem dX3_sizeOf_0 : decode cX3_sizeOf 0 = .ok (.aload_n 0, 1) := by decide +kernel
theorem dX3_sizeOf_1 : decode cX3_sizeOf 1 = .ok (.getfield 9, 3) := by decide +kernel
theorem dX3_sizeOf_4 : decode cX3_sizeOf 4 = .ok (.iload_n 1, 1) := by decide +kernel
theorem dX3_sizeOf_5 : decode cX3_sizeOf 5 = .ok (.iconst 4, 1) := by decide +kernel
theorem dX3_sizeOf_6 : decode cX3_sizeOf 6 = .ok (.imul, 1) := by decide +kernel
theorem dX3_sizeOf_7 : decode cX3_sizeOf 7 = .ok (.iload_n 2, 1) := by decide +kernel
theorem dX3_sizeOf_8 : decode cX3_sizeOf 8 = .ok (.iadd, 1) := by decide +kernel
theorem dX3_sizeOf_9 : decode cX3_sizeOf 9 = .ok (.invokestatic 55, 3) := by decide +kernel
theorem dX3_sizeOf_12 : decode cX3_sizeOf 12 = .ok (.ireturn, 1) := by decide +kernel
theorem dX3_creditsOf_0 : decode cX3_creditsOf 0 = .ok (.aload_n 0, 1) := by decide +kernel
theorem dX3_creditsOf_1 : decode cX3_creditsOf 1 = .ok (.getfield 15, 3) := by decide +kernel
theorem dX3_creditsOf_4 : decode cX3_creditsOf 4 = .ok (.iload_n 1, 1) := by decide +kernel
theorem dX3_creditsOf_5 : decode cX3_creditsOf 5 = .ok (.iconst 4, 1) := by decide +kernel
theorem dX3_creditsOf_6 : decode cX3_creditsOf 6 = .ok (.imul, 1) := by decide +kernel
theorem dX3_creditsOf_7 : decode cX3_creditsOf 7 = .ok (.iload_n 2, 1) := by decide +kernel
theorem dX3_creditsOf_8 : decode cX3_creditsOf 8 = .ok (.iadd, 1) := by decide +kernel
theorem dX3_creditsOf_9 : decode cX3_creditsOf 9 = .ok (.invokestatic 55, 3) := by decide +kernel
theorem dX3_creditsOf_12 : decode cX3_creditsOf 12 = .ok (.ireturn, 1) := by decide +kernel
theorem dX3_blockingKinds_0 : decode cX3_blockingKinds 0 = .ok (.iconst 0, 1) := by decide +kernel
theorem dX3_blockingKinds_1 : decode cX3_blockingKinds 1 = .ok (.istore_n 3, 1) := by decide +kernel
theorem dX3_blockingKinds_2 : decode cX3_blockingKinds 2 = .ok (.iconst 0, 1) := by decide +kernel
theorem dX3_blockingKinds_3 : decode cX3_blockingKinds 3 = .ok (.istore 4, 2) := by decide +kernel
theorem dX3_blockingKinds_5 : decode cX3_blockingKinds 5 = .ok (.iload 4, 2) := by decide +kernel
theorem dX3_blockingKinds_7 : decode cX3_blockingKinds 7 = .ok (.iconst 4, 1) := by decide +kernel
theorem dX3_blockingKinds_8 : decode cX3_blockingKinds 8 = .ok (.if_icmp .ge 53, 3) := by decide +kernel
theorem dX3_blockingKinds_11 : decode cX3_blockingKinds 11 = .ok (.iload_n 2, 1) := by decide +kernel
theorem dX3_blockingKinds_12 : decode cX3_blockingKinds 12 = .ok (.ifCond .eq 12, 3) := by decide +kernel
theorem dX3_blockingKinds_15 : decode cX3_blockingKinds 15 = .ok (.iload 4, 2) := by decide +kernel
theorem dX3_blockingKinds_17 : decode cX3_blockingKinds 17 = .ok (.ifCond .ne 7, 3) := by decide +kernel
theorem dX3_blockingKinds_20 : decode cX3_blockingKinds 20 = .ok (.iconst 1, 1) := by decide +kernel
theorem dX3_blockingKinds_21 : decode cX3_blockingKinds 21 = .ok (.goto 4, 3) := by decide +kernel
theorem dX3_blockingKinds_24 : decode cX3_blockingKinds 24 = .ok (.iconst 0, 1) := by decide +kernel
theorem dX3_blockingKinds_25 : decode cX3_blockingKinds 25 = .ok (.istore 5, 2) := by decide +kernel
theorem dX3_blockingKinds_27 : decode cX3_blockingKinds 27 = .ok (.iload 5, 2) := by decide +kernel
theorem dX3_blockingKinds_29 : decode cX3_blockingKinds 29 = .ok (.ifCond .ne 26, 3) := by decide +kernel
theorem dX3_blockingKinds_32 : decode cX3_blockingKinds 32 = .ok (.aload_n 0, 1) := by decide +kernel
theorem dX3_blockingKinds_33 : decode cX3_blockingKinds 33 = .ok (.getfield 18, 3) := by decide +kernel
theorem dX3_blockingKinds_36 : decode cX3_blockingKinds 36 = .ok (.iload_n 1, 1) := by decide +kernel
theorem dX3_blockingKinds_37 : decode cX3_blockingKinds 37 = .ok (.iconst 4, 1) := by decide +kernel
theorem dX3_blockingKinds_38 : decode cX3_blockingKinds 38 = .ok (.imul, 1) := by decide +kernel
theorem dX3_blockingKinds_39 : decode cX3_blockingKinds 39 = .ok (.iload 4, 2) := by decide +kernel
theorem dX3_blockingKinds_41 : decode cX3_blockingKinds 41 = .ok (.iadd, 1) := by decide +kernel
theorem dX3_blockingKinds_42 : decode cX3_blockingKinds 42 = .ok (.invokestatic 55, 3) := by decide +kernel
theorem dX3_blockingKinds_45 : decode cX3_blockingKinds 45 = .ok (.ifCond .ne 10, 3) := by decide +kernel
theorem dX3_blockingKinds_48 : decode cX3_blockingKinds 48 = .ok (.iload_n 3, 1) := by decide +kernel
theorem dX3_blockingKinds_49 : decode cX3_blockingKinds 49 = .ok (.iconst 1, 1) := by decide +kernel
theorem dX3_blockingKinds_50 : decode cX3_blockingKinds 50 = .ok (.iload 4, 2) := by decide +kernel
theorem dX3_blockingKinds_52 : decode cX3_blockingKinds 52 = .ok (.ishl, 1) := by decide +kernel
theorem dX3_blockingKinds_53 : decode cX3_blockingKinds 53 = .ok (.ior, 1) := by decide +kernel
theorem dX3_blockingKinds_54 : decode cX3_blockingKinds 54 = .ok (.istore_n 3, 1) := by decide +kernel
theorem dX3_blockingKinds_55 : decode cX3_blockingKinds 55 = .ok (.iinc 4 1, 3) := by decide +kernel
theorem dX3_blockingKinds_58 : decode cX3_blockingKinds 58 = .ok (.goto (-53), 3) := by decide +kernel
theorem dX3_blockingKinds_61 : decode cX3_blockingKinds 61 = .ok (.iload_n 3, 1) := by decide +kernel
theorem dX3_blockingKinds_62 : decode cX3_blockingKinds 62 = .ok (.ireturn, 1) := by decide +kernel
theorem dX3_latencyOf_0 : decode cX3_latencyOf 0 = .ok (.iload_n 1, 1) := by decide +kernel
theorem dX3_latencyOf_1 : decode cX3_latencyOf 1 = .ok (.ifCond .ne 10, 3) := by decide +kernel
theorem dX3_latencyOf_4 : decode cX3_latencyOf 4 = .ok (.aload_n 0, 1) := by decide +kernel
theorem dX3_latencyOf_5 : decode cX3_latencyOf 5 = .ok (.getfield 27, 3) := by decide +kernel
theorem dX3_latencyOf_8 : decode cX3_latencyOf 8 = .ok (.goto 7, 3) := by decide +kernel
theorem dX3_latencyOf_11 : decode cX3_latencyOf 11 = .ok (.aload_n 0, 1) := by decide +kernel
theorem dX3_latencyOf_12 : decode cX3_latencyOf 12 = .ok (.getfield 31, 3) := by decide +kernel
theorem dX3_latencyOf_15 : decode cX3_latencyOf 15 = .ok (.areturn, 1) := by decide +kernel
theorem dX4_init_0 : decode cX4_init 0 = .ok (.aload_n 0, 1) := by decide +kernel
theorem dX4_init_1 : decode cX4_init 1 = .ok (.invokespecial 3, 3) := by decide +kernel
theorem dX4_init_4 : decode cX4_init 4 = .ok (.aload_n 0, 1) := by decide +kernel
theorem dX4_init_5 : decode cX4_init 5 = .ok (.new 9, 3) := by decide +kernel
theorem dX4_init_8 : decode cX4_init 8 = .ok (.dup, 1) := by decide +kernel
theorem dX4_init_9 : decode cX4_init 9 = .ok (.invokespecial 11, 3) := by decide +kernel
theorem dX4_init_12 : decode cX4_init 12 = .ok (.putfield 12, 3) := by decide +kernel
theorem dX4_init_15 : decode cX4_init 15 = .ok (.aload_n 0, 1) := by decide +kernel
theorem dX4_init_16 : decode cX4_init 16 = .ok (.new 9, 3) := by decide +kernel
theorem dX4_init_19 : decode cX4_init 19 = .ok (.dup, 1) := by decide +kernel
theorem dX4_init_20 : decode cX4_init 20 = .ok (.invokespecial 11, 3) := by decide +kernel
theorem dX4_init_23 : decode cX4_init 23 = .ok (.putfield 18, 3) := by decide +kernel
theorem dX4_init_26 : decode cX4_init 26 = .ok (.aload_n 0, 1) := by decide +kernel
theorem dX4_init_27 : decode cX4_init 27 = .ok (.new 21, 3) := by decide +kernel
theorem dX4_init_30 : decode cX4_init 30 = .ok (.dup, 1) := by decide +kernel
theorem dX4_init_31 : decode cX4_init 31 = .ok (.invokespecial 23, 3) := by decide +kernel
theorem dX4_init_34 : decode cX4_init 34 = .ok (.putfield 24, 3) := by decide +kernel
theorem dX4_init_37 : decode cX4_init 37 = .ok (.aload_n 0, 1) := by decide +kernel
theorem dX4_init_38 : decode cX4_init 38 = .ok (.bipush 16, 2) := by decide +kernel
theorem dX4_init_40 : decode cX4_init 40 = .ok (.newarray .int, 2) := by decide +kernel
theorem dX4_init_42 : decode cX4_init 42 = .ok (.putfield 28, 3) := by decide +kernel
theorem dX4_init_45 : decode cX4_init 45 = .ok (.return_, 1) := by decide +kernel
theorem dX4_start_0 : decode cX4_start 0 = .ok (.aload_n 0, 1) := by decide +kernel
theorem dX4_start_1 : decode cX4_start 1 = .ok (.getfield 12, 3) := by decide +kernel
theorem dX4_start_4 : decode cX4_start 4 = .ok (.invokevirtual 32, 3) := by decide +kernel
theorem dX4_start_7 : decode cX4_start 7 = .ok (.aload_n 0, 1) := by decide +kernel
theorem dX4_start_8 : decode cX4_start 8 = .ok (.getfield 18, 3) := by decide +kernel
theorem dX4_start_11 : decode cX4_start 11 = .ok (.invokevirtual 32, 3) := by decide +kernel
theorem dX4_start_14 : decode cX4_start 14 = .ok (.aload_n 0, 1) := by decide +kernel
theorem dX4_start_15 : decode cX4_start 15 = .ok (.getfield 24, 3) := by decide +kernel
theorem dX4_start_18 : decode cX4_start 18 = .ok (.invokevirtual 35, 3) := by decide +kernel
theorem dX4_start_21 : decode cX4_start 21 = .ok (.iconst 0, 1) := by decide +kernel
theorem dX4_start_22 : decode cX4_start 22 = .ok (.istore_n 3, 1) := by decide +kernel
theorem dX4_start_23 : decode cX4_start 23 = .ok (.iload_n 3, 1) := by decide +kernel
theorem dX4_start_24 : decode cX4_start 24 = .ok (.bipush 16, 2) := by decide +kernel
theorem dX4_start_26 : decode cX4_start 26 = .ok (.if_icmp .ge 28, 3) := by decide +kernel
theorem dX4_start_29 : decode cX4_start 29 = .ok (.aload_n 0, 1) := by decide +kernel
theorem dX4_start_30 : decode cX4_start 30 = .ok (.getfield 28, 3) := by decide +kernel
theorem dX4_start_33 : decode cX4_start 33 = .ok (.iload_n 3, 1) := by decide +kernel
theorem dX4_start_34 : decode cX4_start 34 = .ok (.aload_n 1, 1) := by decide +kernel
theorem dX4_start_35 : decode cX4_start 35 = .ok (.getfield 36, 3) := by decide +kernel
theorem dX4_start_38 : decode cX4_start 38 = .ok (.iload_n 2, 1) := by decide +kernel
theorem dX4_start_39 : decode cX4_start 39 = .ok (.bipush 16, 2) := by decide +kernel
theorem dX4_start_41 : decode cX4_start 41 = .ok (.imul, 1) := by decide +kernel
theorem dX4_start_42 : decode cX4_start 42 = .ok (.iload_n 3, 1) := by decide +kernel
theorem dX4_start_43 : decode cX4_start 43 = .ok (.iadd, 1) := by decide +kernel
theorem dX4_start_44 : decode cX4_start 44 = .ok (.invokestatic 41, 3) := by decide +kernel
theorem dX4_start_47 : decode cX4_start 47 = .ok (.iastore, 1) := by decide +kernel
theorem dX4_start_48 : decode cX4_start 48 = .ok (.iinc 3 1, 3) := by decide +kernel
theorem dX4_start_51 : decode cX4_start 51 = .ok (.goto (-28), 3) := by decide +kernel
theorem dX4_start_54 : decode cX4_start 54 = .ok (.aload_n 0, 1) := by decide +kernel
theorem dX4_start_55 : decode cX4_start 55 = .ok (.iconst 0, 1) := by decide +kernel
theorem dX4_start_56 : decode cX4_start 56 = .ok (.putfield 45, 3) := by decide +kernel
theorem dX4_start_59 : decode cX4_start 59 = .ok (.aload_n 0, 1) := by decide +kernel
theorem dX4_start_60 : decode cX4_start 60 = .ok (.iconst 0, 1) := by decide +kernel
theorem dX4_start_61 : decode cX4_start 61 = .ok (.putfield 49, 3) := by decide +kernel
theorem dX4_start_64 : decode cX4_start 64 = .ok (.aload_n 0, 1) := by decide +kernel
theorem dX4_start_65 : decode cX4_start 65 = .ok (.iconst 0, 1) := by decide +kernel
theorem dX4_start_66 : decode cX4_start 66 = .ok (.putfield 52, 3) := by decide +kernel
theorem dX4_start_69 : decode cX4_start 69 = .ok (.return_, 1) := by decide +kernel
theorem dX4_copyFrom_0 : decode cX4_copyFrom 0 = .ok (.aload_n 0, 1) := by decide +kernel
theorem dX4_copyFrom_1 : decode cX4_copyFrom 1 = .ok (.getfield 12, 3) := by decide +kernel
theorem dX4_copyFrom_4 : decode cX4_copyFrom 4 = .ok (.aload_n 1, 1) := by decide +kernel
theorem dX4_copyFrom_5 : decode cX4_copyFrom 5 = .ok (.getfield 12, 3) := by decide +kernel
theorem dX4_copyFrom_8 : decode cX4_copyFrom 8 = .ok (.invokevirtual 55, 3) := by decide +kernel
theorem dX4_copyFrom_11 : decode cX4_copyFrom 11 = .ok (.aload_n 0, 1) := by decide +kernel
theorem dX4_copyFrom_12 : decode cX4_copyFrom 12 = .ok (.getfield 18, 3) := by decide +kernel
theorem dX4_copyFrom_15 : decode cX4_copyFrom 15 = .ok (.aload_n 1, 1) := by decide +kernel
theorem dX4_copyFrom_16 : decode cX4_copyFrom 16 = .ok (.getfield 18, 3) := by decide +kernel
theorem dX4_copyFrom_19 : decode cX4_copyFrom 19 = .ok (.invokevirtual 55, 3) := by decide +kernel
theorem dX4_copyFrom_22 : decode cX4_copyFrom 22 = .ok (.aload_n 0, 1) := by decide +kernel
theorem dX4_copyFrom_23 : decode cX4_copyFrom 23 = .ok (.getfield 24, 3) := by decide +kernel
theorem dX4_copyFrom_26 : decode cX4_copyFrom 26 = .ok (.aload_n 1, 1) := by decide +kernel
theorem dX4_copyFrom_27 : decode cX4_copyFrom 27 = .ok (.getfield 24, 3) := by decide +kernel
theorem dX4_copyFrom_30 : decode cX4_copyFrom 30 = .ok (.invokevirtual 59, 3) := by decide +kernel
theorem dX4_copyFrom_33 : decode cX4_copyFrom 33 = .ok (.aload_n 1, 1) := by decide +kernel
theorem dX4_copyFrom_34 : decode cX4_copyFrom 34 = .ok (.getfield 28, 3) := by decide +kernel
theorem dX4_copyFrom_37 : decode cX4_copyFrom 37 = .ok (.iconst 0, 1) := by decide +kernel
theorem dX4_copyFrom_38 : decode cX4_copyFrom 38 = .ok (.aload_n 0, 1) := by decide +kernel
theorem dX4_copyFrom_39 : decode cX4_copyFrom 39 = .ok (.getfield 28, 3) := by decide +kernel
theorem dX4_copyFrom_42 : decode cX4_copyFrom 42 = .ok (.iconst 0, 1) := by decide +kernel
theorem dX4_copyFrom_43 : decode cX4_copyFrom 43 = .ok (.bipush 16, 2) := by decide +kernel
theorem dX4_copyFrom_45 : decode cX4_copyFrom 45 = .ok (.invokestatic 62, 3) := by decide +kernel
theorem dX4_copyFrom_48 : decode cX4_copyFrom 48 = .ok (.aload_n 0, 1) := by decide +kernel
theorem dX4_copyFrom_49 : decode cX4_copyFrom 49 = .ok (.aload_n 1, 1) := by decide +kernel
theorem dX4_copyFrom_50 : decode cX4_copyFrom 50 = .ok (.getfield 45, 3) := by decide +kernel
theorem dX4_copyFrom_53 : decode cX4_copyFrom 53 = .ok (.putfield 45, 3) := by decide +kernel
theorem dX4_copyFrom_56 : decode cX4_copyFrom 56 = .ok (.aload_n 0, 1) := by decide +kernel
theorem dX4_copyFrom_57 : decode cX4_copyFrom 57 = .ok (.aload_n 1, 1) := by decide +kernel
theorem dX4_copyFrom_58 : decode cX4_copyFrom 58 = .ok (.getfield 49, 3) := by decide +kernel
theorem dX4_copyFrom_61 : decode cX4_copyFrom 61 = .ok (.putfield 49, 3) := by decide +kernel
theorem dX4_copyFrom_64 : decode cX4_copyFrom 64 = .ok (.aload_n 0, 1) := by decide +kernel
theorem dX4_copyFrom_65 : decode cX4_copyFrom 65 = .ok (.aload_n 1, 1) := by decide +kernel
theorem dX4_copyFrom_66 : decode cX4_copyFrom 66 = .ok (.getfield 52, 3) := by decide +kernel
theorem dX4_copyFrom_69 : decode cX4_copyFrom 69 = .ok (.putfield 52, 3) := by decide +kernel
theorem dX4_copyFrom_72 : decode cX4_copyFrom 72 = .ok (.return_, 1) := by decide +kernel
theorem dX4_memoryAt_0 : decode cX4_memoryAt 0 = .ok (.aload_n 0, 1) := by decide +kernel
theorem dX4_memoryAt_1 : decode cX4_memoryAt 1 = .ok (.getfield 28, 3) := by decide +kernel
theorem dX4_memoryAt_4 : decode cX4_memoryAt 4 = .ok (.iload_n 1, 1) := by decide +kernel
theorem dX4_memoryAt_5 : decode cX4_memoryAt 5 = .ok (.invokestatic 41, 3) := by decide +kernel
theorem dX4_memoryAt_8 : decode cX4_memoryAt 8 = .ok (.ireturn, 1) := by decide +kernel
theorem dX4_workInTick_0 : decode cX4_workInTick 0 = .ok (.aload_n 0, 1) := by decide +kernel
theorem dX4_workInTick_1 : decode cX4_workInTick 1 = .ok (.getfield 18, 3) := by decide +kernel
theorem dX4_workInTick_4 : decode cX4_workInTick 4 = .ok (.getfield 68, 3) := by decide +kernel
theorem dX4_workInTick_7 : decode cX4_workInTick 7 = .ok (.istore 4, 2) := by decide +kernel
theorem dX4_workInTick_9 : decode cX4_workInTick 9 = .ok (.aload_n 0, 1) := by decide +kernel
theorem dX4_workInTick_10 : decode cX4_workInTick 10 = .ok (.getfield 12, 3) := by decide +kernel
theorem dX4_workInTick_13 : decode cX4_workInTick 13 = .ok (.getfield 68, 3) := by decide +kernel
theorem dX4_workInTick_16 : decode cX4_workInTick 16 = .ok (.istore 5, 2) := by decide +kernel
theorem dX4_workInTick_18 : decode cX4_workInTick 18 = .ok (.iconst 0, 1) := by decide +kernel
theorem dX4_workInTick_19 : decode cX4_workInTick 19 = .ok (.istore 6, 2) := by decide +kernel
theorem dX4_workInTick_21 : decode cX4_workInTick 21 = .ok (.iconst 0, 1) := by decide +kernel
theorem dX4_workInTick_22 : decode cX4_workInTick 22 = .ok (.istore 7, 2) := by decide +kernel
theorem dX4_workInTick_24 : decode cX4_workInTick 24 = .ok (.iload 7, 2) := by decide +kernel
theorem dX4_workInTick_26 : decode cX4_workInTick 26 = .ok (.iload 4, 2) := by decide +kernel
theorem dX4_workInTick_28 : decode cX4_workInTick 28 = .ok (.if_icmp .ge 50, 3) := by decide +kernel
theorem dX4_workInTick_31 : decode cX4_workInTick 31 = .ok (.aload_n 0, 1) := by decide +kernel
theorem dX4_workInTick_32 : decode cX4_workInTick 32 = .ok (.getfield 18, 3) := by decide +kernel
theorem dX4_workInTick_35 : decode cX4_workInTick 35 = .ok (.iload 6, 2) := by decide +kernel
theorem dX4_workInTick_37 : decode cX4_workInTick 37 = .ok (.iconst 5, 1) := by decide +kernel
theorem dX4_workInTick_38 : decode cX4_workInTick 38 = .ok (.invokevirtual 71, 3) := by decide +kernel
theorem dX4_workInTick_41 : decode cX4_workInTick 41 = .ok (.iload_n 1, 1) := by decide +kernel
theorem dX4_workInTick_42 : decode cX4_workInTick 42 = .ok (.if_icmp .gt 27, 3) := by decide +kernel
theorem dX4_workInTick_45 : decode cX4_workInTick 45 = .ok (.aload_n 0, 1) := by decide +kernel
theorem dX4_workInTick_46 : decode cX4_workInTick 46 = .ok (.iload 6, 2) := by decide +kernel
theorem dX4_workInTick_48 : decode cX4_workInTick 48 = .ok (.iload_n 1, 1) := by decide +kernel
theorem dX4_workInTick_49 : decode cX4_workInTick 49 = .ok (.iload_n 2, 1) := by decide +kernel
theorem dX4_workInTick_50 : decode cX4_workInTick 50 = .ok (.iload_n 3, 1) := by decide +kernel
theorem dX4_workInTick_51 : decode cX4_workInTick 51 = .ok (.invokevirtual 75, 3) := by decide +kernel
theorem dX4_workInTick_54 : decode cX4_workInTick 54 = .ok (.ifCond .eq 15, 3) := by decide +kernel
theorem dX4_workInTick_57 : decode cX4_workInTick 57 = .ok (.aload_n 0, 1) := by decide +kernel
theorem dX4_workInTick_58 : decode cX4_workInTick 58 = .ok (.getfield 18, 3) := by decide +kernel
theorem dX4_workInTick_61 : decode cX4_workInTick 61 = .ok (.iload 6, 2) := by decide +kernel
theorem dX4_workInTick_63 : decode cX4_workInTick 63 = .ok (.invokevirtual 79, 3) := by decide +kernel
theorem dX4_workInTick_66 : decode cX4_workInTick 66 = .ok (.goto 6, 3) := by decide +kernel
theorem dX4_workInTick_69 : decode cX4_workInTick 69 = .ok (.iinc 6 1, 3) := by decide +kernel
theorem dX4_workInTick_72 : decode cX4_workInTick 72 = .ok (.iinc 7 1, 3) := by decide +kernel
theorem dX4_workInTick_75 : decode cX4_workInTick 75 = .ok (.goto (-51), 3) := by decide +kernel
theorem dX4_workInTick_78 : decode cX4_workInTick 78 = .ok (.aload_n 0, 1) := by decide +kernel
theorem dX4_workInTick_79 : decode cX4_workInTick 79 = .ok (.getfield 18, 3) := by decide +kernel
theorem dX4_workInTick_82 : decode cX4_workInTick 82 = .ok (.getfield 68, 3) := by decide +kernel
theorem dX4_workInTick_85 : decode cX4_workInTick 85 = .ok (.iload 4, 2) := by decide +kernel
theorem dX4_workInTick_87 : decode cX4_workInTick 87 = .ok (.if_icmp .ne 15, 3) := by decide +kernel
theorem dX4_workInTick_90 : decode cX4_workInTick 90 = .ok (.aload_n 0, 1) := by decide +kernel
theorem dX4_workInTick_91 : decode cX4_workInTick 91 = .ok (.getfield 12, 3) := by decide +kernel
theorem dX4_workInTick_94 : decode cX4_workInTick 94 = .ok (.getfield 68, 3) := by decide +kernel
theorem dX4_workInTick_97 : decode cX4_workInTick 97 = .ok (.iload 5, 2) := by decide +kernel
theorem dX4_workInTick_99 : decode cX4_workInTick 99 = .ok (.if_icmp .eq 7, 3) := by decide +kernel
theorem dX4_workInTick_102 : decode cX4_workInTick 102 = .ok (.iconst 1, 1) := by decide +kernel
theorem dX4_workInTick_103 : decode cX4_workInTick 103 = .ok (.goto 4, 3) := by decide +kernel
theorem dX4_workInTick_106 : decode cX4_workInTick 106 = .ok (.iconst 0, 1) := by decide +kernel
theorem dX4_workInTick_107 : decode cX4_workInTick 107 = .ok (.ireturn, 1) := by decide +kernel
theorem dX4_firstDueAfter_0 : decode cX4_firstDueAfter 0 = .ok (.ldc 83, 2) := by decide +kernel
theorem dX4_firstDueAfter_2 : decode cX4_firstDueAfter 2 = .ok (.istore_n 2, 1) := by decide +kernel
theorem dX4_firstDueAfter_3 : decode cX4_firstDueAfter 3 = .ok (.iconst 0, 1) := by decide +kernel
theorem dX4_firstDueAfter_4 : decode cX4_firstDueAfter 4 = .ok (.istore_n 3, 1) := by decide +kernel
theorem dX4_firstDueAfter_5 : decode cX4_firstDueAfter 5 = .ok (.iload_n 3, 1) := by decide +kernel
theorem dX4_firstDueAfter_6 : decode cX4_firstDueAfter 6 = .ok (.aload_n 0, 1) := by decide +kernel
theorem dX4_firstDueAfter_7 : decode cX4_firstDueAfter 7 = .ok (.getfield 18, 3) := by decide +kernel
theorem dX4_firstDueAfter_10 : decode cX4_firstDueAfter 10 = .ok (.getfield 68, 3) := by decide +kernel
theorem dX4_firstDueAfter_13 : decode cX4_firstDueAfter 13 = .ok (.if_icmp .ge 33, 3) := by decide +kernel
theorem dX4_firstDueAfter_16 : decode cX4_firstDueAfter 16 = .ok (.aload_n 0, 1) := by decide +kernel
theorem dX4_firstDueAfter_17 : decode cX4_firstDueAfter 17 = .ok (.getfield 18, 3) := by decide +kernel
theorem dX4_firstDueAfter_20 : decode cX4_firstDueAfter 20 = .ok (.iload_n 3, 1) := by decide +kernel
theorem dX4_firstDueAfter_21 : decode cX4_firstDueAfter 21 = .ok (.iconst 5, 1) := by decide +kernel
theorem dX4_firstDueAfter_22 : decode cX4_firstDueAfter 22 = .ok (.invokevirtual 71, 3) := by decide +kernel
theorem dX4_firstDueAfter_25 : decode cX4_firstDueAfter 25 = .ok (.istore 4, 2) := by decide +kernel
theorem dX4_firstDueAfter_27 : decode cX4_firstDueAfter 27 = .ok (.iload 4, 2) := by decide +kernel
theorem dX4_firstDueAfter_29 : decode cX4_firstDueAfter 29 = .ok (.iload_n 1, 1) := by decide +kernel
theorem dX4_firstDueAfter_30 : decode cX4_firstDueAfter 30 = .ok (.if_icmp .le 10, 3) := by decide +kernel
theorem dX4_firstDueAfter_33 : decode cX4_firstDueAfter 33 = .ok (.iload_n 2, 1) := by decide +kernel
theorem dX4_firstDueAfter_34 : decode cX4_firstDueAfter 34 = .ok (.iload 4, 2) := by decide +kernel
theorem dX4_firstDueAfter_36 : decode cX4_firstDueAfter 36 = .ok (.invokestatic 84, 3) := by decide +kernel
theorem dX4_firstDueAfter_39 : decode cX4_firstDueAfter 39 = .ok (.istore_n 2, 1) := by decide +kernel
theorem dX4_firstDueAfter_40 : decode cX4_firstDueAfter 40 = .ok (.iinc 3 1, 3) := by decide +kernel
theorem dX4_firstDueAfter_43 : decode cX4_firstDueAfter 43 = .ok (.goto (-38), 3) := by decide +kernel
theorem dX4_firstDueAfter_46 : decode cX4_firstDueAfter 46 = .ok (.iload_n 2, 1) := by decide +kernel
theorem dX4_firstDueAfter_47 : decode cX4_firstDueAfter 47 = .ok (.ireturn, 1) := by decide +kernel
theorem dX4_finishes_0 : decode cX4_finishes 0 = .ok (.aload_n 0, 1) := by decide +kernel
theorem dX4_finishes_1 : decode cX4_finishes 1 = .ok (.getfield 18, 3) := by decide +kernel
theorem dX4_finishes_4 : decode cX4_finishes 4 = .ok (.iload_n 1, 1) := by decide +kernel
theorem dX4_finishes_5 : decode cX4_finishes 5 = .ok (.iconst 0, 1) := by decide +kernel
theorem dX4_finishes_6 : decode cX4_finishes 6 = .ok (.invokevirtual 71, 3) := by decide +kernel
theorem dX4_finishes_9 : decode cX4_finishes 9 = .ok (.tableswitch 52 0 2 #[27, 34, 44], 27) := by decide +kernel
theorem dX4_finishes_36 : decode cX4_finishes 36 = .ok (.aload_n 0, 1) := by decide +kernel
theorem dX4_finishes_37 : decode cX4_finishes 37 = .ok (.iload_n 1, 1) := by decide +kernel
theorem dX4_finishes_38 : decode cX4_finishes 38 = .ok (.invokevirtual 89, 3) := by decide +kernel
theorem dX4_finishes_41 : decode cX4_finishes 41 = .ok (.iconst 1, 1) := by decide +kernel
theorem dX4_finishes_42 : decode cX4_finishes 42 = .ok (.ireturn, 1) := by decide +kernel
theorem dX4_finishes_43 : decode cX4_finishes 43 = .ok (.aload_n 0, 1) := by decide +kernel
theorem dX4_finishes_44 : decode cX4_finishes 44 = .ok (.iload_n 1, 1) := by decide +kernel
theorem dX4_finishes_45 : decode cX4_finishes 45 = .ok (.iload_n 2, 1) := by decide +kernel
theorem dX4_finishes_46 : decode cX4_finishes 46 = .ok (.iload_n 3, 1) := by decide +kernel
theorem dX4_finishes_47 : decode cX4_finishes 47 = .ok (.iload 4, 2) := by decide +kernel
theorem dX4_finishes_49 : decode cX4_finishes 49 = .ok (.invokevirtual 92, 3) := by decide +kernel
theorem dX4_finishes_52 : decode cX4_finishes 52 = .ok (.ireturn, 1) := by decide +kernel
theorem dX4_finishes_53 : decode cX4_finishes 53 = .ok (.aload_n 0, 1) := by decide +kernel
theorem dX4_finishes_54 : decode cX4_finishes 54 = .ok (.iload_n 1, 1) := by decide +kernel
theorem dX4_finishes_55 : decode cX4_finishes 55 = .ok (.iload_n 2, 1) := by decide +kernel
theorem dX4_finishes_56 : decode cX4_finishes 56 = .ok (.iload_n 3, 1) := by decide +kernel
theorem dX4_finishes_57 : decode cX4_finishes 57 = .ok (.invokevirtual 95, 3) := by decide +kernel
theorem dX4_finishes_60 : decode cX4_finishes 60 = .ok (.ireturn, 1) := by decide +kernel
theorem dX4_finishes_61 : decode cX4_finishes 61 = .ok (.aload_n 0, 1) := by decide +kernel
theorem dX4_finishes_62 : decode cX4_finishes 62 = .ok (.iload_n 1, 1) := by decide +kernel
theorem dX4_finishes_63 : decode cX4_finishes 63 = .ok (.invokevirtual 99, 3) := by decide +kernel
theorem dX4_finishes_66 : decode cX4_finishes 66 = .ok (.iconst 1, 1) := by decide +kernel
theorem dX4_finishes_67 : decode cX4_finishes 67 = .ok (.ireturn, 1) := by decide +kernel
theorem dX4_writeMemory_0 : decode cX4_writeMemory 0 = .ok (.aload_n 0, 1) := by decide +kernel
theorem dX4_writeMemory_1 : decode cX4_writeMemory 1 = .ok (.getfield 18, 3) := by decide +kernel
theorem dX4_writeMemory_4 : decode cX4_writeMemory 4 = .ok (.iload_n 1, 1) := by decide +kernel
theorem dX4_writeMemory_5 : decode cX4_writeMemory 5 = .ok (.iconst 4, 1) := by decide +kernel
theorem dX4_writeMemory_6 : decode cX4_writeMemory 6 = .ok (.invokevirtual 71, 3) := by decide +kernel
theorem dX4_writeMemory_9 : decode cX4_writeMemory 9 = .ok (.istore_n 2, 1) := by decide +kernel
theorem dX4_writeMemory_10 : decode cX4_writeMemory 10 = .ok (.iconst 0, 1) := by decide +kernel
theorem dX4_writeMemory_11 : decode cX4_writeMemory 11 = .ok (.istore_n 3, 1) := by decide +kernel
theorem dX4_writeMemory_12 : decode cX4_writeMemory 12 = .ok (.iload_n 3, 1) := by decide +kernel
theorem dX4_writeMemory_13 : decode cX4_writeMemory 13 = .ok (.iload_n 2, 1) := by decide +kernel
theorem dX4_writeMemory_14 : decode cX4_writeMemory 14 = .ok (.if_icmp .ge 58, 3) := by decide +kernel
theorem dX4_writeMemory_17 : decode cX4_writeMemory 17 = .ok (.iload_n 3, 1) := by decide +kernel
theorem dX4_writeMemory_18 : decode cX4_writeMemory 18 = .ok (.iconst 4, 1) := by decide +kernel
theorem dX4_writeMemory_19 : decode cX4_writeMemory 19 = .ok (.if_icmp .ge 53, 3) := by decide +kernel
theorem dX4_writeMemory_22 : decode cX4_writeMemory 22 = .ok (.aload_n 0, 1) := by decide +kernel
theorem dX4_writeMemory_23 : decode cX4_writeMemory 23 = .ok (.getfield 18, 3) := by decide +kernel
theorem dX4_writeMemory_26 : decode cX4_writeMemory 26 = .ok (.iload_n 1, 1) := by decide +kernel
theorem dX4_writeMemory_27 : decode cX4_writeMemory 27 = .ok (.iconst 3, 1) := by decide +kernel
theorem dX4_writeMemory_28 : decode cX4_writeMemory 28 = .ok (.invokevirtual 71, 3) := by decide +kernel
theorem dX4_writeMemory_31 : decode cX4_writeMemory 31 = .ok (.iload_n 3, 1) := by decide +kernel
theorem dX4_writeMemory_32 : decode cX4_writeMemory 32 = .ok (.iadd, 1) := by decide +kernel
theorem dX4_writeMemory_33 : decode cX4_writeMemory 33 = .ok (.istore 4, 2) := by decide +kernel
theorem dX4_writeMemory_35 : decode cX4_writeMemory 35 = .ok (.iload 4, 2) := by decide +kernel
theorem dX4_writeMemory_37 : decode cX4_writeMemory 37 = .ok (.ifCond .lt 29, 3) := by decide +kernel
theorem dX4_writeMemory_40 : decode cX4_writeMemory 40 = .ok (.iload 4, 2) := by decide +kernel
theorem dX4_writeMemory_42 : decode cX4_writeMemory 42 = .ok (.bipush 16, 2) := by decide +kernel
theorem dX4_writeMemory_44 : decode cX4_writeMemory 44 = .ok (.if_icmp .ge 22, 3) := by decide +kernel
theorem dX4_writeMemory_47 : decode cX4_writeMemory 47 = .ok (.aload_n 0, 1) := by decide +kernel
theorem dX4_writeMemory_48 : decode cX4_writeMemory 48 = .ok (.getfield 28, 3) := by decide +kernel
theorem dX4_writeMemory_51 : decode cX4_writeMemory 51 = .ok (.iload 4, 2) := by decide +kernel
theorem dX4_writeMemory_53 : decode cX4_writeMemory 53 = .ok (.aload_n 0, 1) := by decide +kernel
theorem dX4_writeMemory_54 : decode cX4_writeMemory 54 = .ok (.getfield 18, 3) := by decide +kernel
theorem dX4_writeMemory_57 : decode cX4_writeMemory 57 = .ok (.iload_n 1, 1) := by decide +kernel
theorem dX4_writeMemory_58 : decode cX4_writeMemory 58 = .ok (.bipush 7, 2) := by decide +kernel
theorem dX4_writeMemory_60 : decode cX4_writeMemory 60 = .ok (.iload_n 3, 1) := by decide +kernel
theorem dX4_writeMemory_61 : decode cX4_writeMemory 61 = .ok (.iadd, 1) := by decide +kernel
theorem dX4_writeMemory_62 : decode cX4_writeMemory 62 = .ok (.invokevirtual 71, 3) := by decide +kernel
theorem dX4_writeMemory_65 : decode cX4_writeMemory 65 = .ok (.iastore, 1) := by decide +kernel
theorem dX4_writeMemory_66 : decode cX4_writeMemory 66 = .ok (.iinc 3 1, 3) := by decide +kernel
theorem dX4_writeMemory_69 : decode cX4_writeMemory 69 = .ok (.goto (-57), 3) := by decide +kernel
theorem dX4_writeMemory_72 : decode cX4_writeMemory 72 = .ok (.return_, 1) := by decide +kernel
theorem dX4_answerConfiguration_0 : decode cX4_answerConfiguration 0 = .ok (.aload_n 0, 1) := by decide +kernel
theorem dX4_answerConfiguration_1 : decode cX4_answerConfiguration 1 = .ok (.getfield 12, 3) := by decide +kernel
theorem dX4_answerConfiguration_4 : decode cX4_answerConfiguration 4 = .ok (.iconst 3, 1) := by decide +kernel
theorem dX4_answerConfiguration_5 : decode cX4_answerConfiguration 5 = .ok (.invokevirtual 102, 3) := by decide +kernel
theorem dX4_answerConfiguration_8 : decode cX4_answerConfiguration 8 = .ok (.iload_n 3, 1) := by decide +kernel
theorem dX4_answerConfiguration_9 : decode cX4_answerConfiguration 9 = .ok (.if_icmp .lt 5, 3) := by decide +kernel
theorem dX4_answerConfiguration_12 : decode cX4_answerConfiguration 12 = .ok (.iconst 0, 1) := by decide +kernel
theorem dX4_answerConfiguration_13 : decode cX4_answerConfiguration 13 = .ok (.ireturn, 1) := by decide +kernel
theorem dX4_answerConfiguration_14 : decode cX4_answerConfiguration 14 = .ok (.aload_n 0, 1) := by decide +kernel
theorem dX4_answerConfiguration_15 : decode cX4_answerConfiguration 15 = .ok (.iload_n 1, 1) := by decide +kernel
theorem dX4_answerConfiguration_16 : decode cX4_answerConfiguration 16 = .ok (.invokevirtual 89, 3) := by decide +kernel
theorem dX4_answerConfiguration_19 : decode cX4_answerConfiguration 19 = .ok (.aload_n 0, 1) := by decide +kernel
theorem dX4_answerConfiguration_20 : decode cX4_answerConfiguration 20 = .ok (.iload_n 1, 1) := by decide +kernel
theorem dX4_answerConfiguration_21 : decode cX4_answerConfiguration 21 = .ok (.iconst 0, 1) := by decide +kernel
theorem dX4_answerConfiguration_22 : decode cX4_answerConfiguration 22 = .ok (.iconst 0, 1) := by decide +kernel
theorem dX4_answerConfiguration_23 : decode cX4_answerConfiguration 23 = .ok (.iload_n 2, 1) := by decide +kernel
theorem dX4_answerConfiguration_24 : decode cX4_answerConfiguration 24 = .ok (.invokevirtual 106, 3) := by decide +kernel
theorem dX4_answerConfiguration_27 : decode cX4_answerConfiguration 27 = .ok (.iconst 1, 1) := by decide +kernel
theorem dX4_answerConfiguration_28 : decode cX4_answerConfiguration 28 = .ok (.ireturn, 1) := by decide +kernel
theorem dX4_answerRead_0 : decode cX4_answerRead 0 = .ok (.aload_n 0, 1) := by decide +kernel
theorem dX4_answerRead_1 : decode cX4_answerRead 1 = .ok (.getfield 18, 3) := by decide +kernel
theorem dX4_answerRead_4 : decode cX4_answerRead 4 = .ok (.iload_n 1, 1) := by decide +kernel
theorem dX4_answerRead_5 : decode cX4_answerRead 5 = .ok (.iconst 4, 1) := by decide +kernel
theorem dX4_answerRead_6 : decode cX4_answerRead 6 = .ok (.invokevirtual 71, 3) := by decide +kernel
theorem dX4_answerRead_9 : decode cX4_answerRead 9 = .ok (.istore 5, 2) := by decide +kernel
theorem dX4_answerRead_11 : decode cX4_answerRead 11 = .ok (.aload_n 0, 1) := by decide +kernel
theorem dX4_answerRead_12 : decode cX4_answerRead 12 = .ok (.getfield 18, 3) := by decide +kernel
theorem dX4_answerRead_15 : decode cX4_answerRead 15 = .ok (.iload_n 1, 1) := by decide +kernel
theorem dX4_answerRead_16 : decode cX4_answerRead 16 = .ok (.bipush 6, 2) := by decide +kernel
theorem dX4_answerRead_18 : decode cX4_answerRead 18 = .ok (.invokevirtual 71, 3) := by decide +kernel
theorem dX4_answerRead_21 : decode cX4_answerRead 21 = .ok (.istore 6, 2) := by decide +kernel
theorem dX4_answerRead_23 : decode cX4_answerRead 23 = .ok (.iconst 0, 1) := by decide +kernel
theorem dX4_answerRead_24 : decode cX4_answerRead 24 = .ok (.istore 7, 2) := by decide +kernel
theorem dX4_answerRead_26 : decode cX4_answerRead 26 = .ok (.iload 7, 2) := by decide +kernel
theorem dX4_answerRead_28 : decode cX4_answerRead 28 = .ok (.iconst 4, 1) := by decide +kernel
theorem dX4_answerRead_29 : decode cX4_answerRead 29 = .ok (.if_icmp .ge 57, 3) := by decide +kernel
theorem dX4_answerRead_32 : decode cX4_answerRead 32 = .ok (.iload 6, 2) := by decide +kernel
theorem dX4_answerRead_34 : decode cX4_answerRead 34 = .ok (.iload 5, 2) := by decide +kernel
theorem dX4_answerRead_36 : decode cX4_answerRead 36 = .ok (.if_icmp .ge 50, 3) := by decide +kernel
theorem dX4_answerRead_39 : decode cX4_answerRead 39 = .ok (.aload_n 0, 1) := by decide +kernel
theorem dX4_answerRead_40 : decode cX4_answerRead 40 = .ok (.getfield 12, 3) := by decide +kernel
theorem dX4_answerRead_43 : decode cX4_answerRead 43 = .ok (.iconst 3, 1) := by decide +kernel
theorem dX4_answerRead_44 : decode cX4_answerRead 44 = .ok (.invokevirtual 102, 3) := by decide +kernel
theorem dX4_answerRead_47 : decode cX4_answerRead 47 = .ok (.iload_n 3, 1) := by decide +kernel
theorem dX4_answerRead_48 : decode cX4_answerRead 48 = .ok (.if_icmp .ge 38, 3) := by decide +kernel
theorem dX4_answerRead_51 : decode cX4_answerRead 51 = .ok (.iload 4, 2) := by decide +kernel
theorem dX4_answerRead_53 : decode cX4_answerRead 53 = .ok (.iload 5, 2) := by decide +kernel
theorem dX4_answerRead_55 : decode cX4_answerRead 55 = .ok (.iload 6, 2) := by decide +kernel
theorem dX4_answerRead_57 : decode cX4_answerRead 57 = .ok (.isub, 1) := by decide +kernel
theorem dX4_answerRead_58 : decode cX4_answerRead 58 = .ok (.invokestatic 84, 3) := by decide +kernel
theorem dX4_answerRead_61 : decode cX4_answerRead 61 = .ok (.istore 8, 2) := by decide +kernel
theorem dX4_answerRead_63 : decode cX4_answerRead 63 = .ok (.aload_n 0, 1) := by decide +kernel
theorem dX4_answerRead_64 : decode cX4_answerRead 64 = .ok (.iload_n 1, 1) := by decide +kernel
theorem dX4_answerRead_65 : decode cX4_answerRead 65 = .ok (.iload 6, 2) := by decide +kernel
theorem dX4_answerRead_67 : decode cX4_answerRead 67 = .ok (.iload 8, 2) := by decide +kernel
theorem dX4_answerRead_69 : decode cX4_answerRead 69 = .ok (.iload_n 2, 1) := by decide +kernel
theorem dX4_answerRead_70 : decode cX4_answerRead 70 = .ok (.invokevirtual 106, 3) := by decide +kernel
theorem dX4_answerRead_73 : decode cX4_answerRead 73 = .ok (.iload 6, 2) := by decide +kernel
theorem dX4_answerRead_75 : decode cX4_answerRead 75 = .ok (.iload 8, 2) := by decide +kernel
theorem dX4_answerRead_77 : decode cX4_answerRead 77 = .ok (.iadd, 1) := by decide +kernel
theorem dX4_answerRead_78 : decode cX4_answerRead 78 = .ok (.istore 6, 2) := by decide +kernel
theorem dX4_answerRead_80 : decode cX4_answerRead 80 = .ok (.iinc 7 1, 3) := by decide +kernel
theorem dX4_answerRead_83 : decode cX4_answerRead 83 = .ok (.goto (-57), 3) := by decide +kernel
theorem dX4_answerRead_86 : decode cX4_answerRead 86 = .ok (.aload_n 0, 1) := by decide +kernel
theorem dX4_answerRead_87 : decode cX4_answerRead 87 = .ok (.getfield 18, 3) := by decide +kernel
theorem dX4_answerRead_90 : decode cX4_answerRead 90 = .ok (.iload_n 1, 1) := by decide +kernel
theorem dX4_answerRead_91 : decode cX4_answerRead 91 = .ok (.bipush 6, 2) := by decide +kernel
theorem dX4_answerRead_93 : decode cX4_answerRead 93 = .ok (.iload 6, 2) := by decide +kernel
theorem dX4_answerRead_95 : decode cX4_answerRead 95 = .ok (.invokevirtual 110, 3) := by decide +kernel
theorem dX4_answerRead_98 : decode cX4_answerRead 98 = .ok (.iload 6, 2) := by decide +kernel
theorem dX4_answerRead_100 : decode cX4_answerRead 100 = .ok (.iload 5, 2) := by decide +kernel
theorem dX4_answerRead_102 : decode cX4_answerRead 102 = .ok (.if_icmp .lt 7, 3) := by decide +kernel
theorem dX4_answerRead_105 : decode cX4_answerRead 105 = .ok (.iconst 1, 1) := by decide +kernel
theorem dX4_answerRead_106 : decode cX4_answerRead 106 = .ok (.goto 4, 3) := by decide +kernel
theorem dX4_answerRead_109 : decode cX4_answerRead 109 = .ok (.iconst 0, 1) := by decide +kernel
theorem dX4_answerRead_110 : decode cX4_answerRead 110 = .ok (.ireturn, 1) := by decide +kernel
theorem dX4_addCompletion_0 : decode cX4_addCompletion 0 = .ok (.aload_n 0, 1) := by decide +kernel
theorem dX4_addCompletion_1 : decode cX4_addCompletion 1 = .ok (.getfield 18, 3) := by decide +kernel
theorem dX4_addCompletion_4 : decode cX4_addCompletion 4 = .ok (.iload_n 1, 1) := by decide +kernel
theorem dX4_addCompletion_5 : decode cX4_addCompletion 5 = .ok (.iconst 3, 1) := by decide +kernel
theorem dX4_addCompletion_6 : decode cX4_addCompletion 6 = .ok (.invokevirtual 71, 3) := by decide +kernel
theorem dX4_addCompletion_9 : decode cX4_addCompletion 9 = .ok (.iload_n 2, 1) := by decide +kernel
theorem dX4_addCompletion_10 : decode cX4_addCompletion 10 = .ok (.iadd, 1) := by decide +kernel
theorem dX4_addCompletion_11 : decode cX4_addCompletion 11 = .ok (.istore 5, 2) := by decide +kernel
theorem dX4_addCompletion_13 : decode cX4_addCompletion 13 = .ok (.aload_n 0, 1) := by decide +kernel
theorem dX4_addCompletion_14 : decode cX4_addCompletion 14 = .ok (.getfield 18, 3) := by decide +kernel
theorem dX4_addCompletion_17 : decode cX4_addCompletion 17 = .ok (.iload_n 1, 1) := by decide +kernel
theorem dX4_addCompletion_18 : decode cX4_addCompletion 18 = .ok (.iconst 1, 1) := by decide +kernel
theorem dX4_addCompletion_19 : decode cX4_addCompletion 19 = .ok (.invokevirtual 71, 3) := by decide +kernel
theorem dX4_addCompletion_22 : decode cX4_addCompletion 22 = .ok (.istore 6, 2) := by decide +kernel
theorem dX4_addCompletion_24 : decode cX4_addCompletion 24 = .ok (.aload_n 0, 1) := by decide +kernel
theorem dX4_addCompletion_25 : decode cX4_addCompletion 25 = .ok (.getfield 18, 3) := by decide +kernel
theorem dX4_addCompletion_28 : decode cX4_addCompletion 28 = .ok (.iload_n 1, 1) := by decide +kernel
theorem dX4_addCompletion_29 : decode cX4_addCompletion 29 = .ok (.iconst 2, 1) := by decide +kernel
theorem dX4_addCompletion_30 : decode cX4_addCompletion 30 = .ok (.invokevirtual 71, 3) := by decide +kernel
theorem dX4_addCompletion_33 : decode cX4_addCompletion 33 = .ok (.iconst 1, 1) := by decide +kernel
theorem dX4_addCompletion_34 : decode cX4_addCompletion 34 = .ok (.if_icmp .ne 7, 3) := by decide +kernel
theorem dX4_addCompletion_37 : decode cX4_addCompletion 37 = .ok (.iconst 1, 1) := by decide +kernel
theorem dX4_addCompletion_38 : decode cX4_addCompletion 38 = .ok (.goto 4, 3) := by decide +kernel
theorem dX4_addCompletion_41 : decode cX4_addCompletion 41 = .ok (.iconst 0, 1) := by decide +kernel
theorem dX4_addCompletion_42 : decode cX4_addCompletion 42 = .ok (.istore 7, 2) := by decide +kernel
theorem dX4_addCompletion_44 : decode cX4_addCompletion 44 = .ok (.aload_n 0, 1) := by decide +kernel
theorem dX4_addCompletion_45 : decode cX4_addCompletion 45 = .ok (.getfield 12, 3) := by decide +kernel
theorem dX4_addCompletion_48 : decode cX4_addCompletion 48 = .ok (.iconst 3, 1) := by decide +kernel
theorem dX4_addCompletion_49 : decode cX4_addCompletion 49 = .ok (.iload 6, 2) := by decide +kernel
theorem dX4_addCompletion_51 : decode cX4_addCompletion 51 = .ok (.iload 7, 2) := by decide +kernel
theorem dX4_addCompletion_53 : decode cX4_addCompletion 53 = .ok (.iload 5, 2) := by decide +kernel
theorem dX4_addCompletion_55 : decode cX4_addCompletion 55 = .ok (.iload_n 3, 1) := by decide +kernel
theorem dX4_addCompletion_56 : decode cX4_addCompletion 56 = .ok (.iload 4, 2) := by decide +kernel
theorem dX4_addCompletion_58 : decode cX4_addCompletion 58 = .ok (.invokevirtual 114, 3) := by decide +kernel
theorem dX4_addCompletion_61 : decode cX4_addCompletion 61 = .ok (.istore 8, 2) := by decide +kernel
theorem dX4_addCompletion_63 : decode cX4_addCompletion 63 = .ok (.aload_n 0, 1) := by decide +kernel
theorem dX4_addCompletion_64 : decode cX4_addCompletion 64 = .ok (.getfield 12, 3) := by decide +kernel
theorem dX4_addCompletion_67 : decode cX4_addCompletion 67 = .ok (.iload 8, 2) := by decide +kernel
theorem dX4_addCompletion_69 : decode cX4_addCompletion 69 = .ok (.bipush 6, 2) := by decide +kernel
theorem dX4_addCompletion_71 : decode cX4_addCompletion 71 = .ok (.iload_n 2, 1) := by decide +kernel
theorem dX4_addCompletion_72 : decode cX4_addCompletion 72 = .ok (.invokevirtual 110, 3) := by decide +kernel
theorem dX4_addCompletion_75 : decode cX4_addCompletion 75 = .ok (.iconst 0, 1) := by decide +kernel
theorem dX4_addCompletion_76 : decode cX4_addCompletion 76 = .ok (.istore 9, 2) := by decide +kernel
theorem dX4_addCompletion_78 : decode cX4_addCompletion 78 = .ok (.iload 9, 2) := by decide +kernel
theorem dX4_addCompletion_80 : decode cX4_addCompletion 80 = .ok (.iload_n 3, 1) := by decide +kernel
theorem dX4_addCompletion_81 : decode cX4_addCompletion 81 = .ok (.if_icmp .ge 41, 3) := by decide +kernel
theorem dX4_addCompletion_84 : decode cX4_addCompletion 84 = .ok (.iload 9, 2) := by decide +kernel
theorem dX4_addCompletion_86 : decode cX4_addCompletion 86 = .ok (.iconst 4, 1) := by decide +kernel
theorem dX4_addCompletion_87 : decode cX4_addCompletion 87 = .ok (.if_icmp .ge 35, 3) := by decide +kernel
theorem dX4_addCompletion_90 : decode cX4_addCompletion 90 = .ok (.aload_n 0, 1) := by decide +kernel
theorem dX4_addCompletion_91 : decode cX4_addCompletion 91 = .ok (.getfield 12, 3) := by decide +kernel
theorem dX4_addCompletion_94 : decode cX4_addCompletion 94 = .ok (.iload 8, 2) := by decide +kernel
theorem dX4_addCompletion_96 : decode cX4_addCompletion 96 = .ok (.bipush 7, 2) := by decide +kernel
theorem dX4_addCompletion_98 : decode cX4_addCompletion 98 = .ok (.iload 9, 2) := by decide +kernel
theorem dX4_addCompletion_100 : decode cX4_addCompletion 100 = .ok (.iadd, 1) := by decide +kernel
theorem dX4_addCompletion_101 : decode cX4_addCompletion 101 = .ok (.aload_n 0, 1) := by decide +kernel
theorem dX4_addCompletion_102 : decode cX4_addCompletion 102 = .ok (.getfield 28, 3) := by decide +kernel
theorem dX4_addCompletion_105 : decode cX4_addCompletion 105 = .ok (.iload 5, 2) := by decide +kernel
theorem dX4_addCompletion_107 : decode cX4_addCompletion 107 = .ok (.iload 9, 2) := by decide +kernel
theorem dX4_addCompletion_109 : decode cX4_addCompletion 109 = .ok (.iadd, 1) := by decide +kernel
theorem dX4_addCompletion_110 : decode cX4_addCompletion 110 = .ok (.invokestatic 41, 3) := by decide +kernel
theorem dX4_addCompletion_113 : decode cX4_addCompletion 113 = .ok (.invokevirtual 110, 3) := by decide +kernel
theorem dX4_addCompletion_116 : decode cX4_addCompletion 116 = .ok (.iinc 9 1, 3) := by decide +kernel
theorem dX4_addCompletion_119 : decode cX4_addCompletion 119 = .ok (.goto (-41), 3) := by decide +kernel
theorem dX4_addCompletion_122 : decode cX4_addCompletion 122 = .ok (.return_, 1) := by decide +kernel
theorem dX4_storeCompletion_0 : decode cX4_storeCompletion 0 = .ok (.aload_n 0, 1) := by decide +kernel
theorem dX4_storeCompletion_1 : decode cX4_storeCompletion 1 = .ok (.getfield 18, 3) := by decide +kernel
theorem dX4_storeCompletion_4 : decode cX4_storeCompletion 4 = .ok (.iload_n 1, 1) := by decide +kernel
theorem dX4_storeCompletion_5 : decode cX4_storeCompletion 5 = .ok (.iconst 1, 1) := by decide +kernel
theorem dX4_storeCompletion_6 : decode cX4_storeCompletion 6 = .ok (.invokevirtual 71, 3) := by decide +kernel
theorem dX4_storeCompletion_9 : decode cX4_storeCompletion 9 = .ok (.istore_n 2, 1) := by decide +kernel
theorem dX4_storeCompletion_10 : decode cX4_storeCompletion 10 = .ok (.aload_n 0, 1) := by decide +kernel
theorem dX4_storeCompletion_11 : decode cX4_storeCompletion 11 = .ok (.getfield 18, 3) := by decide +kernel
theorem dX4_storeCompletion_14 : decode cX4_storeCompletion 14 = .ok (.iload_n 1, 1) := by decide +kernel
theorem dX4_storeCompletion_15 : decode cX4_storeCompletion 15 = .ok (.bipush 6, 2) := by decide +kernel
theorem dX4_storeCompletion_17 : decode cX4_storeCompletion 17 = .ok (.invokevirtual 71, 3) := by decide +kernel
theorem dX4_storeCompletion_20 : decode cX4_storeCompletion 20 = .ok (.istore_n 3, 1) := by decide +kernel
theorem dX4_storeCompletion_21 : decode cX4_storeCompletion 21 = .ok (.aload_n 0, 1) := by decide +kernel
theorem dX4_storeCompletion_22 : decode cX4_storeCompletion 22 = .ok (.getfield 18, 3) := by decide +kernel
theorem dX4_storeCompletion_25 : decode cX4_storeCompletion 25 = .ok (.iload_n 1, 1) := by decide +kernel
theorem dX4_storeCompletion_26 : decode cX4_storeCompletion 26 = .ok (.iconst 4, 1) := by decide +kernel
theorem dX4_storeCompletion_27 : decode cX4_storeCompletion 27 = .ok (.invokevirtual 71, 3) := by decide +kernel
theorem dX4_storeCompletion_30 : decode cX4_storeCompletion 30 = .ok (.istore 4, 2) := by decide +kernel
theorem dX4_storeCompletion_32 : decode cX4_storeCompletion 32 = .ok (.iconst 0, 1) := by decide +kernel
theorem dX4_storeCompletion_33 : decode cX4_storeCompletion 33 = .ok (.istore 5, 2) := by decide +kernel
theorem dX4_storeCompletion_35 : decode cX4_storeCompletion 35 = .ok (.iload 5, 2) := by decide +kernel
theorem dX4_storeCompletion_37 : decode cX4_storeCompletion 37 = .ok (.iload 4, 2) := by decide +kernel
theorem dX4_storeCompletion_39 : decode cX4_storeCompletion 39 = .ok (.if_icmp .ge 40, 3) := by decide +kernel
theorem dX4_storeCompletion_42 : decode cX4_storeCompletion 42 = .ok (.iload 5, 2) := by decide +kernel
theorem dX4_storeCompletion_44 : decode cX4_storeCompletion 44 = .ok (.iconst 4, 1) := by decide +kernel
theorem dX4_storeCompletion_45 : decode cX4_storeCompletion 45 = .ok (.if_icmp .ge 34, 3) := by decide +kernel
theorem dX4_storeCompletion_48 : decode cX4_storeCompletion 48 = .ok (.aload_n 0, 1) := by decide +kernel
theorem dX4_storeCompletion_49 : decode cX4_storeCompletion 49 = .ok (.getfield 24, 3) := by decide +kernel
theorem dX4_storeCompletion_52 : decode cX4_storeCompletion 52 = .ok (.iload_n 2, 1) := by decide +kernel
theorem dX4_storeCompletion_53 : decode cX4_storeCompletion 53 = .ok (.iload_n 3, 1) := by decide +kernel
theorem dX4_storeCompletion_54 : decode cX4_storeCompletion 54 = .ok (.iload 5, 2) := by decide +kernel
theorem dX4_storeCompletion_56 : decode cX4_storeCompletion 56 = .ok (.iadd, 1) := by decide +kernel
theorem dX4_storeCompletion_57 : decode cX4_storeCompletion 57 = .ok (.aload_n 0, 1) := by decide +kernel
theorem dX4_storeCompletion_58 : decode cX4_storeCompletion 58 = .ok (.getfield 18, 3) := by decide +kernel
theorem dX4_storeCompletion_61 : decode cX4_storeCompletion 61 = .ok (.iload_n 1, 1) := by decide +kernel
theorem dX4_storeCompletion_62 : decode cX4_storeCompletion 62 = .ok (.bipush 7, 2) := by decide +kernel
theorem dX4_storeCompletion_64 : decode cX4_storeCompletion 64 = .ok (.iload 5, 2) := by decide +kernel
theorem dX4_storeCompletion_66 : decode cX4_storeCompletion 66 = .ok (.iadd, 1) := by decide +kernel
theorem dX4_storeCompletion_67 : decode cX4_storeCompletion 67 = .ok (.invokevirtual 71, 3) := by decide +kernel
theorem dX4_storeCompletion_70 : decode cX4_storeCompletion 70 = .ok (.invokevirtual 118, 3) := by decide +kernel
theorem dX4_storeCompletion_73 : decode cX4_storeCompletion 73 = .ok (.iinc 5 1, 3) := by decide +kernel
theorem dX4_storeCompletion_76 : decode cX4_storeCompletion 76 = .ok (.goto (-41), 3) := by decide +kernel
theorem dX4_storeCompletion_79 : decode cX4_storeCompletion 79 = .ok (.aload_n 0, 1) := by decide +kernel
theorem dX4_storeCompletion_80 : decode cX4_storeCompletion 80 = .ok (.getfield 24, 3) := by decide +kernel
theorem dX4_storeCompletion_83 : decode cX4_storeCompletion 83 = .ok (.iload_n 2, 1) := by decide +kernel
theorem dX4_storeCompletion_84 : decode cX4_storeCompletion 84 = .ok (.invokevirtual 121, 3) := by decide +kernel
theorem dX4_storeCompletion_87 : decode cX4_storeCompletion 87 = .ok (.return_, 1) := by decide +kernel
theorem dX4_forwardTo_0 : decode cX4_forwardTo 0 = .ok (.aload_n 0, 1) := by decide +kernel
theorem dX4_forwardTo_1 : decode cX4_forwardTo 1 = .ok (.dup, 1) := by decide +kernel
theorem dX4_forwardTo_2 : decode cX4_forwardTo 2 = .ok (.getfield 45, 3) := by decide +kernel
theorem dX4_forwardTo_5 : decode cX4_forwardTo 5 = .ok (.iconst 1, 1) := by decide +kernel
theorem dX4_forwardTo_6 : decode cX4_forwardTo 6 = .ok (.iadd, 1) := by decide +kernel
theorem dX4_forwardTo_7 : decode cX4_forwardTo 7 = .ok (.putfield 45, 3) := by decide +kernel
theorem dX4_forwardTo_10 : decode cX4_forwardTo 10 = .ok (.aload_n 0, 1) := by decide +kernel
theorem dX4_forwardTo_11 : decode cX4_forwardTo 11 = .ok (.dup, 1) := by decide +kernel
theorem dX4_forwardTo_12 : decode cX4_forwardTo 12 = .ok (.getfield 49, 3) := by decide +kernel
theorem dX4_forwardTo_15 : decode cX4_forwardTo 15 = .ok (.iload_n 2, 1) := by decide +kernel
theorem dX4_forwardTo_16 : decode cX4_forwardTo 16 = .ok (.iadd, 1) := by decide +kernel
theorem dX4_forwardTo_17 : decode cX4_forwardTo 17 = .ok (.putfield 49, 3) := by decide +kernel
theorem dX4_forwardTo_20 : decode cX4_forwardTo 20 = .ok (.aload_n 0, 1) := by decide +kernel
theorem dX4_forwardTo_21 : decode cX4_forwardTo 21 = .ok (.dup, 1) := by decide +kernel
theorem dX4_forwardTo_22 : decode cX4_forwardTo 22 = .ok (.getfield 52, 3) := by decide +kernel
theorem dX4_forwardTo_25 : decode cX4_forwardTo 25 = .ok (.iload_n 3, 1) := by decide +kernel
theorem dX4_forwardTo_26 : decode cX4_forwardTo 26 = .ok (.aload_n 0, 1) := by decide +kernel
theorem dX4_forwardTo_27 : decode cX4_forwardTo 27 = .ok (.getfield 12, 3) := by decide +kernel
theorem dX4_forwardTo_30 : decode cX4_forwardTo 30 = .ok (.iload_n 2, 1) := by decide +kernel
theorem dX4_forwardTo_31 : decode cX4_forwardTo 31 = .ok (.iconst 5, 1) := by decide +kernel
theorem dX4_forwardTo_32 : decode cX4_forwardTo 32 = .ok (.invokevirtual 71, 3) := by decide +kernel
theorem dX4_forwardTo_35 : decode cX4_forwardTo 35 = .ok (.isub, 1) := by decide +kernel
theorem dX4_forwardTo_36 : decode cX4_forwardTo 36 = .ok (.iadd, 1) := by decide +kernel
theorem dX4_forwardTo_37 : decode cX4_forwardTo 37 = .ok (.putfield 52, 3) := by decide +kernel
theorem dX4_forwardTo_40 : decode cX4_forwardTo 40 = .ok (.aload_n 0, 1) := by decide +kernel
theorem dX4_forwardTo_41 : decode cX4_forwardTo 41 = .ok (.getfield 12, 3) := by decide +kernel
theorem dX4_forwardTo_44 : decode cX4_forwardTo 44 = .ok (.iload_n 2, 1) := by decide +kernel
theorem dX4_forwardTo_45 : decode cX4_forwardTo 45 = .ok (.iconst 0, 1) := by decide +kernel
theorem dX4_forwardTo_46 : decode cX4_forwardTo 46 = .ok (.invokevirtual 71, 3) := by decide +kernel
theorem dX4_forwardTo_49 : decode cX4_forwardTo 49 = .ok (.istore 5, 2) := by decide +kernel
theorem dX4_forwardTo_51 : decode cX4_forwardTo 51 = .ok (.aload_n 0, 1) := by decide +kernel
theorem dX4_forwardTo_52 : decode cX4_forwardTo 52 = .ok (.getfield 12, 3) := by decide +kernel
theorem dX4_forwardTo_55 : decode cX4_forwardTo 55 = .ok (.iload_n 2, 1) := by decide +kernel
theorem dX4_forwardTo_56 : decode cX4_forwardTo 56 = .ok (.iconst 3, 1) := by decide +kernel
theorem dX4_forwardTo_57 : decode cX4_forwardTo 57 = .ok (.invokevirtual 71, 3) := by decide +kernel
theorem dX4_forwardTo_60 : decode cX4_forwardTo 60 = .ok (.istore 6, 2) := by decide +kernel
theorem dX4_forwardTo_62 : decode cX4_forwardTo 62 = .ok (.aload_n 0, 1) := by decide +kernel
theorem dX4_forwardTo_63 : decode cX4_forwardTo 63 = .ok (.getfield 12, 3) := by decide +kernel
theorem dX4_forwardTo_66 : decode cX4_forwardTo 66 = .ok (.iload_n 2, 1) := by decide +kernel
theorem dX4_forwardTo_67 : decode cX4_forwardTo 67 = .ok (.iconst 4, 1) := by decide +kernel
theorem dX4_forwardTo_68 : decode cX4_forwardTo 68 = .ok (.invokevirtual 71, 3) := by decide +kernel
theorem dX4_forwardTo_71 : decode cX4_forwardTo 71 = .ok (.istore 7, 2) := by decide +kernel
theorem dX4_forwardTo_73 : decode cX4_forwardTo 73 = .ok (.iconst 0, 1) := by decide +kernel
theorem dX4_forwardTo_74 : decode cX4_forwardTo 74 = .ok (.bipush 50, 2) := by decide +kernel
theorem dX4_forwardTo_76 : decode cX4_forwardTo 76 = .ok (.aload 4, 2) := by decide +kernel
theorem dX4_forwardTo_78 : decode cX4_forwardTo 78 = .ok (.iload 5, 2) := by decide +kernel
theorem dX4_forwardTo_80 : decode cX4_forwardTo 80 = .ok (.iload 6, 2) := by decide +kernel
theorem dX4_forwardTo_82 : decode cX4_forwardTo 82 = .ok (.iload 7, 2) := by decide +kernel
theorem dX4_forwardTo_84 : decode cX4_forwardTo 84 = .ok (.iload_n 3, 1) := by decide +kernel
theorem dX4_forwardTo_85 : decode cX4_forwardTo 85 = .ok (.invokevirtual 124, 3) := by decide +kernel
theorem dX4_forwardTo_88 : decode cX4_forwardTo 88 = .ok (.invokestatic 84, 3) := by decide +kernel
theorem dX4_forwardTo_91 : decode cX4_forwardTo 91 = .ok (.invokestatic 130, 3) := by decide +kernel
theorem dX4_forwardTo_94 : decode cX4_forwardTo 94 = .ok (.istore 8, 2) := by decide +kernel
theorem dX4_forwardTo_96 : decode cX4_forwardTo 96 = .ok (.aload_n 1, 1) := by decide +kernel
theorem dX4_forwardTo_97 : decode cX4_forwardTo 97 = .ok (.getfield 18, 3) := by decide +kernel
theorem dX4_forwardTo_100 : decode cX4_forwardTo 100 = .ok (.aload_n 0, 1) := by decide +kernel
theorem dX4_forwardTo_101 : decode cX4_forwardTo 101 = .ok (.getfield 12, 3) := by decide +kernel
theorem dX4_forwardTo_104 : decode cX4_forwardTo 104 = .ok (.iload_n 2, 1) := by decide +kernel
theorem dX4_forwardTo_105 : decode cX4_forwardTo 105 = .ok (.invokevirtual 133, 3) := by decide +kernel
theorem dX4_forwardTo_108 : decode cX4_forwardTo 108 = .ok (.istore 9, 2) := by decide +kernel
theorem dX4_forwardTo_110 : decode cX4_forwardTo 110 = .ok (.aload_n 1, 1) := by decide +kernel
theorem dX4_forwardTo_111 : decode cX4_forwardTo 111 = .ok (.getfield 18, 3) := by decide +kernel
theorem dX4_forwardTo_114 : decode cX4_forwardTo 114 = .ok (.iload 9, 2) := by decide +kernel
theorem dX4_forwardTo_116 : decode cX4_forwardTo 116 = .ok (.iconst 5, 1) := by decide +kernel
theorem dX4_forwardTo_117 : decode cX4_forwardTo 117 = .ok (.iload_n 3, 1) := by decide +kernel
theorem dX4_forwardTo_118 : decode cX4_forwardTo 118 = .ok (.iload 8, 2) := by decide +kernel
theorem dX4_forwardTo_120 : decode cX4_forwardTo 120 = .ok (.iadd, 1) := by decide +kernel
theorem dX4_forwardTo_121 : decode cX4_forwardTo 121 = .ok (.iconst 1, 1) := by decide +kernel
theorem dX4_forwardTo_122 : decode cX4_forwardTo 122 = .ok (.iadd, 1) := by decide +kernel
theorem dX4_forwardTo_123 : decode cX4_forwardTo 123 = .ok (.invokevirtual 110, 3) := by decide +kernel
theorem dX4_forwardTo_126 : decode cX4_forwardTo 126 = .ok (.return_, 1) := by decide +kernel
theorem dX5_init_0 : decode cX5_init 0 = .ok (.aload_n 0, 1) := by decide +kernel
theorem dX5_init_1 : decode cX5_init 1 = .ok (.invokespecial 3, 3) := by decide +kernel
theorem dX5_init_4 : decode cX5_init 4 = .ok (.aload_n 0, 1) := by decide +kernel
theorem dX5_init_5 : decode cX5_init 5 = .ok (.new 9, 3) := by decide +kernel
theorem dX5_init_8 : decode cX5_init 8 = .ok (.dup, 1) := by decide +kernel
theorem dX5_init_9 : decode cX5_init 9 = .ok (.invokespecial 11, 3) := by decide +kernel
theorem dX5_init_12 : decode cX5_init 12 = .ok (.putfield 12, 3) := by decide +kernel
theorem dX5_init_15 : decode cX5_init 15 = .ok (.aload_n 0, 1) := by decide +kernel
theorem dX5_init_16 : decode cX5_init 16 = .ok (.new 9, 3) := by decide +kernel
theorem dX5_init_19 : decode cX5_init 19 = .ok (.dup, 1) := by decide +kernel
theorem dX5_init_20 : decode cX5_init 20 = .ok (.invokespecial 11, 3) := by decide +kernel
theorem dX5_init_23 : decode cX5_init 23 = .ok (.putfield 18, 3) := by decide +kernel
theorem dX5_init_26 : decode cX5_init 26 = .ok (.return_, 1) := by decide +kernel
theorem dX5_start_0 : decode cX5_start 0 = .ok (.aload_n 0, 1) := by decide +kernel
theorem dX5_start_1 : decode cX5_start 1 = .ok (.iconst 0, 1) := by decide +kernel
theorem dX5_start_2 : decode cX5_start 2 = .ok (.putfield 21, 3) := by decide +kernel
theorem dX5_start_5 : decode cX5_start 5 = .ok (.aload_n 0, 1) := by decide +kernel
theorem dX5_start_6 : decode cX5_start 6 = .ok (.getfield 12, 3) := by decide +kernel
theorem dX5_start_9 : decode cX5_start 9 = .ok (.aload_n 1, 1) := by decide +kernel
theorem dX5_start_10 : decode cX5_start 10 = .ok (.iconst 0, 1) := by decide +kernel
theorem dX5_start_11 : decode cX5_start 11 = .ok (.invokevirtual 25, 3) := by decide +kernel
theorem dX5_start_14 : decode cX5_start 14 = .ok (.aload_n 0, 1) := by decide +kernel
theorem dX5_start_15 : decode cX5_start 15 = .ok (.getfield 18, 3) := by decide +kernel
theorem dX5_start_18 : decode cX5_start 18 = .ok (.aload_n 1, 1) := by decide +kernel
theorem dX5_start_19 : decode cX5_start 19 = .ok (.iconst 1, 1) := by decide +kernel
theorem dX5_start_20 : decode cX5_start 20 = .ok (.invokevirtual 25, 3) := by decide +kernel
theorem dX5_start_23 : decode cX5_start 23 = .ok (.return_, 1) := by decide +kernel
theorem dX5_copyFrom_0 : decode cX5_copyFrom 0 = .ok (.aload_n 0, 1) := by decide +kernel
theorem dX5_copyFrom_1 : decode cX5_copyFrom 1 = .ok (.aload_n 1, 1) := by decide +kernel
theorem dX5_copyFrom_2 : decode cX5_copyFrom 2 = .ok (.getfield 21, 3) := by decide +kernel
theorem dX5_copyFrom_5 : decode cX5_copyFrom 5 = .ok (.putfield 21, 3) := by decide +kernel
theorem dX5_copyFrom_8 : decode cX5_copyFrom 8 = .ok (.aload_n 0, 1) := by decide +kernel
theorem dX5_copyFrom_9 : decode cX5_copyFrom 9 = .ok (.getfield 12, 3) := by decide +kernel
theorem dX5_copyFrom_12 : decode cX5_copyFrom 12 = .ok (.aload_n 1, 1) := by decide +kernel
theorem dX5_copyFrom_13 : decode cX5_copyFrom 13 = .ok (.getfield 12, 3) := by decide +kernel
theorem dX5_copyFrom_16 : decode cX5_copyFrom 16 = .ok (.invokevirtual 29, 3) := by decide +kernel
theorem dX5_copyFrom_19 : decode cX5_copyFrom 19 = .ok (.aload_n 0, 1) := by decide +kernel
theorem dX5_copyFrom_20 : decode cX5_copyFrom 20 = .ok (.getfield 18, 3) := by decide +kernel
theorem dX5_copyFrom_23 : decode cX5_copyFrom 23 = .ok (.aload_n 1, 1) := by decide +kernel
theorem dX5_copyFrom_24 : decode cX5_copyFrom 24 = .ok (.getfield 18, 3) := by decide +kernel
theorem dX5_copyFrom_27 : decode cX5_copyFrom 27 = .ok (.invokevirtual 29, 3) := by decide +kernel
theorem dX5_copyFrom_30 : decode cX5_copyFrom 30 = .ok (.return_, 1) := by decide +kernel
theorem dX5_portOf_0 : decode cX5_portOf 0 = .ok (.iload_n 1, 1) := by decide +kernel
theorem dX5_portOf_1 : decode cX5_portOf 1 = .ok (.ifCond .ne 10, 3) := by decide +kernel
theorem dX5_portOf_4 : decode cX5_portOf 4 = .ok (.aload_n 0, 1) := by decide +kernel
theorem dX5_portOf_5 : decode cX5_portOf 5 = .ok (.getfield 12, 3) := by decide +kernel
theorem dX5_portOf_8 : decode cX5_portOf 8 = .ok (.goto 7, 3) := by decide +kernel
theorem dX5_portOf_11 : decode cX5_portOf 11 = .ok (.aload_n 0, 1) := by decide +kernel
theorem dX5_portOf_12 : decode cX5_portOf 12 = .ok (.getfield 18, 3) := by decide +kernel
theorem dX5_portOf_15 : decode cX5_portOf 15 = .ok (.areturn, 1) := by decide +kernel
theorem dX5_isEmpty_0 : decode cX5_isEmpty 0 = .ok (.aload_n 0, 1) := by decide +kernel
theorem dX5_isEmpty_1 : decode cX5_isEmpty 1 = .ok (.getfield 12, 3) := by decide +kernel
theorem dX5_isEmpty_4 : decode cX5_isEmpty 4 = .ok (.getfield 33, 3) := by decide +kernel
theorem dX5_isEmpty_7 : decode cX5_isEmpty 7 = .ok (.getfield 37, 3) := by decide +kernel
theorem dX5_isEmpty_10 : decode cX5_isEmpty 10 = .ok (.aload_n 0, 1) := by decide +kernel
theorem dX5_isEmpty_11 : decode cX5_isEmpty 11 = .ok (.getfield 12, 3) := by decide +kernel
theorem dX5_isEmpty_14 : decode cX5_isEmpty 14 = .ok (.getfield 42, 3) := by decide +kernel
theorem dX5_isEmpty_17 : decode cX5_isEmpty 17 = .ok (.getfield 37, 3) := by decide +kernel
theorem dX5_isEmpty_20 : decode cX5_isEmpty 20 = .ok (.iadd, 1) := by decide +kernel
theorem dX5_isEmpty_21 : decode cX5_isEmpty 21 = .ok (.aload_n 0, 1) := by decide +kernel
theorem dX5_isEmpty_22 : decode cX5_isEmpty 22 = .ok (.getfield 18, 3) := by decide +kernel
theorem dX5_isEmpty_25 : decode cX5_isEmpty 25 = .ok (.getfield 33, 3) := by decide +kernel
theorem dX5_isEmpty_28 : decode cX5_isEmpty 28 = .ok (.getfield 37, 3) := by decide +kernel
theorem dX5_isEmpty_31 : decode cX5_isEmpty 31 = .ok (.iadd, 1) := by decide +kernel
theorem dX5_isEmpty_32 : decode cX5_isEmpty 32 = .ok (.aload_n 0, 1) := by decide +kernel
theorem dX5_isEmpty_33 : decode cX5_isEmpty 33 = .ok (.getfield 18, 3) := by decide +kernel
theorem dX5_isEmpty_36 : decode cX5_isEmpty 36 = .ok (.getfield 42, 3) := by decide +kernel
theorem dX5_isEmpty_39 : decode cX5_isEmpty 39 = .ok (.getfield 37, 3) := by decide +kernel
theorem dX5_isEmpty_42 : decode cX5_isEmpty 42 = .ok (.iadd, 1) := by decide +kernel
theorem dX5_isEmpty_43 : decode cX5_isEmpty 43 = .ok (.ifCond .ne 7, 3) := by decide +kernel
theorem dX5_isEmpty_46 : decode cX5_isEmpty 46 = .ok (.iconst 1, 1) := by decide +kernel
theorem dX5_isEmpty_47 : decode cX5_isEmpty 47 = .ok (.goto 4, 3) := by decide +kernel
theorem dX5_isEmpty_50 : decode cX5_isEmpty 50 = .ok (.iconst 0, 1) := by decide +kernel
theorem dX5_isEmpty_51 : decode cX5_isEmpty 51 = .ok (.ireturn, 1) := by decide +kernel
theorem dX5_forwardedInAll_0 : decode cX5_forwardedInAll 0 = .ok (.aload_n 0, 1) := by decide +kernel
theorem dX5_forwardedInAll_1 : decode cX5_forwardedInAll 1 = .ok (.getfield 12, 3) := by decide +kernel
theorem dX5_forwardedInAll_4 : decode cX5_forwardedInAll 4 = .ok (.getfield 45, 3) := by decide +kernel
theorem dX5_forwardedInAll_7 : decode cX5_forwardedInAll 7 = .ok (.aload_n 0, 1) := by decide +kernel
theorem dX5_forwardedInAll_8 : decode cX5_forwardedInAll 8 = .ok (.getfield 18, 3) := by decide +kernel
theorem dX5_forwardedInAll_11 : decode cX5_forwardedInAll 11 = .ok (.getfield 45, 3) := by decide +kernel
theorem dX5_forwardedInAll_14 : decode cX5_forwardedInAll 14 = .ok (.iadd, 1) := by decide +kernel
theorem dX5_forwardedInAll_15 : decode cX5_forwardedInAll 15 = .ok (.ireturn, 1) := by decide +kernel
theorem dX5_advance_0 : decode cX5_advance 0 = .ok (.aload_n 0, 1) := by decide +kernel
theorem dX5_advance_1 : decode cX5_advance 1 = .ok (.dup, 1) := by decide +kernel
theorem dX5_advance_2 : decode cX5_advance 2 = .ok (.getfield 21, 3) := by decide +kernel
theorem dX5_advance_5 : decode cX5_advance 5 = .ok (.iconst 1, 1) := by decide +kernel
theorem dX5_advance_6 : decode cX5_advance 6 = .ok (.iadd, 1) := by decide +kernel
theorem dX5_advance_7 : decode cX5_advance 7 = .ok (.putfield 21, 3) := by decide +kernel
theorem dX5_advance_10 : decode cX5_advance 10 = .ok (.aload_n 0, 1) := by decide +kernel
theorem dX5_advance_11 : decode cX5_advance 11 = .ok (.getfield 12, 3) := by decide +kernel
theorem dX5_advance_14 : decode cX5_advance 14 = .ok (.aload_n 0, 1) := by decide +kernel
theorem dX5_advance_15 : decode cX5_advance 15 = .ok (.getfield 21, 3) := by decide +kernel
theorem dX5_advance_18 : decode cX5_advance 18 = .ok (.aload_n 1, 1) := by decide +kernel
theorem dX5_advance_19 : decode cX5_advance 19 = .ok (.iconst 0, 1) := by decide +kernel
theorem dX5_advance_20 : decode cX5_advance 20 = .ok (.iconst 3, 1) := by decide +kernel
theorem dX5_advance_21 : decode cX5_advance 21 = .ok (.invokevirtual 48, 3) := by decide +kernel
theorem dX5_advance_24 : decode cX5_advance 24 = .ok (.aload_n 1, 1) := by decide +kernel
theorem dX5_advance_25 : decode cX5_advance 25 = .ok (.getfield 54, 3) := by decide +kernel
theorem dX5_advance_28 : decode cX5_advance 28 = .ok (.invokevirtual 57, 3) := by decide +kernel
theorem dX5_advance_31 : decode cX5_advance 31 = .ok (.istore_n 3, 1) := by decide +kernel
theorem dX5_advance_32 : decode cX5_advance 32 = .ok (.aload_n 0, 1) := by decide +kernel
theorem dX5_advance_33 : decode cX5_advance 33 = .ok (.getfield 18, 3) := by decide +kernel
theorem dX5_advance_36 : decode cX5_advance 36 = .ok (.aload_n 0, 1) := by decide +kernel
theorem dX5_advance_37 : decode cX5_advance 37 = .ok (.getfield 21, 3) := by decide +kernel
theorem dX5_advance_40 : decode cX5_advance 40 = .ok (.aload_n 1, 1) := by decide +kernel
theorem dX5_advance_41 : decode cX5_advance 41 = .ok (.iconst 1, 1) := by decide +kernel
theorem dX5_advance_42 : decode cX5_advance 42 = .ok (.iconst 3, 1) := by decide +kernel
theorem dX5_advance_43 : decode cX5_advance 43 = .ok (.invokevirtual 48, 3) := by decide +kernel
theorem dX5_advance_46 : decode cX5_advance 46 = .ok (.aload_n 1, 1) := by decide +kernel
theorem dX5_advance_47 : decode cX5_advance 47 = .ok (.getfield 54, 3) := by decide +kernel
theorem dX5_advance_50 : decode cX5_advance 50 = .ok (.invokevirtual 57, 3) := by decide +kernel
theorem dX5_advance_53 : decode cX5_advance 53 = .ok (.istore 4, 2) := by decide +kernel
theorem dX5_advance_55 : decode cX5_advance 55 = .ok (.aload_n 0, 1) := by decide +kernel
theorem dX5_advance_56 : decode cX5_advance 56 = .ok (.aload_n 1, 1) := by decide +kernel
theorem dX5_advance_57 : decode cX5_advance 57 = .ok (.iconst 0, 1) := by decide +kernel
theorem dX5_advance_58 : decode cX5_advance 58 = .ok (.invokevirtual 61, 3) := by decide +kernel
theorem dX5_advance_61 : decode cX5_advance 61 = .ok (.istore 5, 2) := by decide +kernel
theorem dX5_advance_63 : decode cX5_advance 63 = .ok (.aload_n 0, 1) := by decide +kernel
theorem dX5_advance_64 : decode cX5_advance 64 = .ok (.aload_n 1, 1) := by decide +kernel
theorem dX5_advance_65 : decode cX5_advance 65 = .ok (.iconst 1, 1) := by decide +kernel
theorem dX5_advance_66 : decode cX5_advance 66 = .ok (.invokevirtual 61, 3) := by decide +kernel
theorem dX5_advance_69 : decode cX5_advance 69 = .ok (.istore 6, 2) := by decide +kernel
theorem dX5_advance_71 : decode cX5_advance 71 = .ok (.aload_n 0, 1) := by decide +kernel
theorem dX5_advance_72 : decode cX5_advance 72 = .ok (.iload_n 3, 1) := by decide +kernel
theorem dX5_advance_73 : decode cX5_advance 73 = .ok (.ifCond .ne 18, 3) := by decide +kernel
theorem dX5_advance_76 : decode cX5_advance 76 = .ok (.iload 4, 2) := by decide +kernel
theorem dX5_advance_78 : decode cX5_advance 78 = .ok (.ifCond .ne 13, 3) := by decide +kernel
theorem dX5_advance_81 : decode cX5_advance 81 = .ok (.iload 5, 2) := by decide +kernel
theorem dX5_advance_83 : decode cX5_advance 83 = .ok (.ifCond .ne 8, 3) := by decide +kernel
theorem dX5_advance_86 : decode cX5_advance 86 = .ok (.iload 6, 2) := by decide +kernel
theorem dX5_advance_88 : decode cX5_advance 88 = .ok (.ifCond .eq 7, 3) := by decide +kernel
theorem dX5_advance_91 : decode cX5_advance 91 = .ok (.iconst 1, 1) := by decide +kernel
theorem dX5_advance_92 : decode cX5_advance 92 = .ok (.goto 4, 3) := by decide +kernel
theorem dX5_advance_95 : decode cX5_advance 95 = .ok (.iconst 0, 1) := by decide +kernel
theorem dX5_advance_96 : decode cX5_advance 96 = .ok (.putfield 65, 3) := by decide +kernel
theorem dX5_advance_99 : decode cX5_advance 99 = .ok (.aload_n 0, 1) := by decide +kernel
theorem dX5_advance_100 : decode cX5_advance 100 = .ok (.getfield 65, 3) := by decide +kernel
theorem dX5_advance_103 : decode cX5_advance 103 = .ok (.ifCond .eq 7, 3) := by decide +kernel
theorem dX5_advance_106 : decode cX5_advance 106 = .ok (.iconst 0, 1) := by decide +kernel
theorem dX5_advance_107 : decode cX5_advance 107 = .ok (.goto 24, 3) := by decide +kernel
theorem dX5_advance_110 : decode cX5_advance 110 = .ok (.iconst 0, 1) := by decide +kernel
theorem dX5_advance_111 : decode cX5_advance 111 = .ok (.iload_n 2, 1) := by decide +kernel
theorem dX5_advance_112 : decode cX5_advance 112 = .ok (.iconst 1, 1) := by decide +kernel
theorem dX5_advance_113 : decode cX5_advance 113 = .ok (.isub, 1) := by decide +kernel
theorem dX5_advance_114 : decode cX5_advance 114 = .ok (.aload_n 0, 1) := by decide +kernel
theorem dX5_advance_115 : decode cX5_advance 115 = .ok (.invokevirtual 69, 3) := by decide +kernel
theorem dX5_advance_118 : decode cX5_advance 118 = .ok (.iconst 1, 1) := by decide +kernel
theorem dX5_advance_119 : decode cX5_advance 119 = .ok (.isub, 1) := by decide +kernel
theorem dX5_advance_120 : decode cX5_advance 120 = .ok (.aload_n 0, 1) := by decide +kernel
theorem dX5_advance_121 : decode cX5_advance 121 = .ok (.getfield 21, 3) := by decide +kernel
theorem dX5_advance_124 : decode cX5_advance 124 = .ok (.isub, 1) := by decide +kernel
theorem dX5_advance_125 : decode cX5_advance 125 = .ok (.invokestatic 73, 3) := by decide +kernel
theorem dX5_advance_128 : decode cX5_advance 128 = .ok (.invokestatic 78, 3) := by decide +kernel
theorem dX5_advance_131 : decode cX5_advance 131 = .ok (.istore 7, 2) := by decide +kernel
theorem dX5_advance_133 : decode cX5_advance 133 = .ok (.aload_n 0, 1) := by decide +kernel
theorem dX5_advance_134 : decode cX5_advance 134 = .ok (.dup, 1) := by decide +kernel
theorem dX5_advance_135 : decode cX5_advance 135 = .ok (.getfield 21, 3) := by decide +kernel
theorem dX5_advance_138 : decode cX5_advance 138 = .ok (.iload 7, 2) := by decide +kernel
theorem dX5_advance_140 : decode cX5_advance 140 = .ok (.iadd, 1) := by decide +kernel
theorem dX5_advance_141 : decode cX5_advance 141 = .ok (.putfield 21, 3) := by decide +kernel
theorem dX5_advance_144 : decode cX5_advance 144 = .ok (.iconst 1, 1) := by decide +kernel
theorem dX5_advance_145 : decode cX5_advance 145 = .ok (.iload 7, 2) := by decide +kernel
theorem dX5_advance_147 : decode cX5_advance 147 = .ok (.iadd, 1) := by decide +kernel
theorem dX5_advance_148 : decode cX5_advance 148 = .ok (.ireturn, 1) := by decide +kernel
theorem dX5_firstDue_0 : decode cX5_firstDue 0 = .ok (.aload_n 0, 1) := by decide +kernel
theorem dX5_firstDue_1 : decode cX5_firstDue 1 = .ok (.getfield 12, 3) := by decide +kernel
theorem dX5_firstDue_4 : decode cX5_firstDue 4 = .ok (.aload_n 0, 1) := by decide +kernel
theorem dX5_firstDue_5 : decode cX5_firstDue 5 = .ok (.getfield 21, 3) := by decide +kernel
theorem dX5_firstDue_8 : decode cX5_firstDue 8 = .ok (.invokevirtual 81, 3) := by decide +kernel
theorem dX5_firstDue_11 : decode cX5_firstDue 11 = .ok (.aload_n 0, 1) := by decide +kernel
theorem dX5_firstDue_12 : decode cX5_firstDue 12 = .ok (.getfield 18, 3) := by decide +kernel
theorem dX5_firstDue_15 : decode cX5_firstDue 15 = .ok (.aload_n 0, 1) := by decide +kernel
theorem dX5_firstDue_16 : decode cX5_firstDue 16 = .ok (.getfield 21, 3) := by decide +kernel
theorem dX5_firstDue_19 : decode cX5_firstDue 19 = .ok (.invokevirtual 81, 3) := by decide +kernel
theorem dX5_firstDue_22 : decode cX5_firstDue 22 = .ok (.invokestatic 73, 3) := by decide +kernel
theorem dX5_firstDue_25 : decode cX5_firstDue 25 = .ok (.ireturn, 1) := by decide +kernel
theorem dX5_forwardFrom_0 : decode cX5_forwardFrom 0 = .ok (.aload_n 0, 1) := by decide +kernel
theorem dX5_forwardFrom_1 : decode cX5_forwardFrom 1 = .ok (.aload_n 1, 1) := by decide +kernel
theorem dX5_forwardFrom_2 : decode cX5_forwardFrom 2 = .ok (.iload_n 2, 1) := by decide +kernel
theorem dX5_forwardFrom_3 : decode cX5_forwardFrom 3 = .ok (.invokevirtual 85, 3) := by decide +kernel
theorem dX5_forwardFrom_6 : decode cX5_forwardFrom 6 = .ok (.istore_n 3, 1) := by decide +kernel
theorem dX5_forwardFrom_7 : decode cX5_forwardFrom 7 = .ok (.iload_n 3, 1) := by decide +kernel
theorem dX5_forwardFrom_8 : decode cX5_forwardFrom 8 = .ok (.iconst (-1), 1) := by decide +kernel
theorem dX5_forwardFrom_9 : decode cX5_forwardFrom 9 = .ok (.if_icmp .ne 5, 3) := by decide +kernel
theorem dX5_forwardFrom_12 : decode cX5_forwardFrom 12 = .ok (.iconst 0, 1) := by decide +kernel
theorem dX5_forwardFrom_13 : decode cX5_forwardFrom 13 = .ok (.ireturn, 1) := by decide +kernel
theorem dX5_forwardFrom_14 : decode cX5_forwardFrom 14 = .ok (.iconst 1, 1) := by decide +kernel
theorem dX5_forwardFrom_15 : decode cX5_forwardFrom 15 = .ok (.iload_n 2, 1) := by decide +kernel
theorem dX5_forwardFrom_16 : decode cX5_forwardFrom 16 = .ok (.isub, 1) := by decide +kernel
theorem dX5_forwardFrom_17 : decode cX5_forwardFrom 17 = .ok (.istore 4, 2) := by decide +kernel
theorem dX5_forwardFrom_19 : decode cX5_forwardFrom 19 = .ok (.aload_n 0, 1) := by decide +kernel
theorem dX5_forwardFrom_20 : decode cX5_forwardFrom 20 = .ok (.iload_n 2, 1) := by decide +kernel
theorem dX5_forwardFrom_21 : decode cX5_forwardFrom 21 = .ok (.invokevirtual 89, 3) := by decide +kernel
theorem dX5_forwardFrom_24 : decode cX5_forwardFrom 24 = .ok (.aload_n 0, 1) := by decide +kernel
theorem dX5_forwardFrom_25 : decode cX5_forwardFrom 25 = .ok (.iload 4, 2) := by decide +kernel
theorem dX5_forwardFrom_27 : decode cX5_forwardFrom 27 = .ok (.invokevirtual 89, 3) := by decide +kernel
theorem dX5_forwardFrom_30 : decode cX5_forwardFrom 30 = .ok (.iload_n 3, 1) := by decide +kernel
theorem dX5_forwardFrom_31 : decode cX5_forwardFrom 31 = .ok (.aload_n 0, 1) := by decide +kernel
theorem dX5_forwardFrom_32 : decode cX5_forwardFrom 32 = .ok (.getfield 21, 3) := by decide +kernel
theorem dX5_forwardFrom_35 : decode cX5_forwardFrom 35 = .ok (.aload_n 1, 1) := by decide +kernel
theorem dX5_forwardFrom_36 : decode cX5_forwardFrom 36 = .ok (.iload 4, 2) := by decide +kernel
theorem dX5_forwardFrom_38 : decode cX5_forwardFrom 38 = .ok (.invokevirtual 93, 3) := by decide +kernel
theorem dX5_forwardFrom_41 : decode cX5_forwardFrom 41 = .ok (.invokevirtual 97, 3) := by decide +kernel
theorem dX5_forwardFrom_44 : decode cX5_forwardFrom 44 = .ok (.iconst 1, 1) := by decide +kernel
theorem dX5_forwardFrom_45 : decode cX5_forwardFrom 45 = .ok (.ireturn, 1) := by decide +kernel
theorem dX5_firstReady_0 : decode cX5_firstReady 0 = .ok (.aload_n 0, 1) := by decide +kernel
theorem dX5_firstReady_1 : decode cX5_firstReady 1 = .ok (.iload_n 2, 1) := by decide +kernel
theorem dX5_firstReady_2 : decode cX5_firstReady 2 = .ok (.invokevirtual 89, 3) := by decide +kernel
theorem dX5_firstReady_5 : decode cX5_firstReady 5 = .ok (.getfield 33, 3) := by decide +kernel
theorem dX5_firstReady_8 : decode cX5_firstReady 8 = .ok (.astore_n 3, 1) := by decide +kernel
theorem dX5_firstReady_9 : decode cX5_firstReady 9 = .ok (.aload_n 0, 1) := by decide +kernel
theorem dX5_firstReady_10 : decode cX5_firstReady 10 = .ok (.iconst 1, 1) := by decide +kernel
theorem dX5_firstReady_11 : decode cX5_firstReady 11 = .ok (.iload_n 2, 1) := by decide +kernel
theorem dX5_firstReady_12 : decode cX5_firstReady 12 = .ok (.isub, 1) := by decide +kernel
theorem dX5_firstReady_13 : decode cX5_firstReady 13 = .ok (.invokevirtual 89, 3) := by decide +kernel
theorem dX5_firstReady_16 : decode cX5_firstReady 16 = .ok (.getfield 42, 3) := by decide +kernel
theorem dX5_firstReady_19 : decode cX5_firstReady 19 = .ok (.astore 4, 2) := by decide +kernel
theorem dX5_firstReady_21 : decode cX5_firstReady 21 = .ok (.iconst 0, 1) := by decide +kernel
theorem dX5_firstReady_22 : decode cX5_firstReady 22 = .ok (.istore 5, 2) := by decide +kernel
theorem dX5_firstReady_24 : decode cX5_firstReady 24 = .ok (.iconst 0, 1) := by decide +kernel
theorem dX5_firstReady_25 : decode cX5_firstReady 25 = .ok (.istore 6, 2) := by decide +kernel
theorem dX5_firstReady_27 : decode cX5_firstReady 27 = .ok (.iload 6, 2) := by decide +kernel
theorem dX5_firstReady_29 : decode cX5_firstReady 29 = .ok (.aload_n 3, 1) := by decide +kernel
theorem dX5_firstReady_30 : decode cX5_firstReady 30 = .ok (.getfield 37, 3) := by decide +kernel
theorem dX5_firstReady_33 : decode cX5_firstReady 33 = .ok (.if_icmp .ge 83, 3) := by decide +kernel
theorem dX5_firstReady_36 : decode cX5_firstReady 36 = .ok (.aload_n 3, 1) := by decide +kernel
theorem dX5_firstReady_37 : decode cX5_firstReady 37 = .ok (.iload 6, 2) := by decide +kernel
theorem dX5_firstReady_39 : decode cX5_firstReady 39 = .ok (.iconst 0, 1) := by decide +kernel
theorem dX5_firstReady_40 : decode cX5_firstReady 40 = .ok (.invokevirtual 101, 3) := by decide +kernel
theorem dX5_firstReady_43 : decode cX5_firstReady 43 = .ok (.istore 7, 2) := by decide +kernel
theorem dX5_firstReady_45 : decode cX5_firstReady 45 = .ok (.aload_n 1, 1) := by decide +kernel
theorem dX5_firstReady_46 : decode cX5_firstReady 46 = .ok (.iload 7, 2) := by decide +kernel
theorem dX5_firstReady_48 : decode cX5_firstReady 48 = .ok (.aload_n 3, 1) := by decide +kernel
theorem dX5_firstReady_49 : decode cX5_firstReady 49 = .ok (.iload 6, 2) := by decide +kernel
theorem dX5_firstReady_51 : decode cX5_firstReady 51 = .ok (.invokevirtual 104, 3) := by decide +kernel
theorem dX5_firstReady_54 : decode cX5_firstReady 54 = .ok (.invokevirtual 108, 3) := by decide +kernel
theorem dX5_firstReady_57 : decode cX5_firstReady 57 = .ok (.istore 8, 2) := by decide +kernel
theorem dX5_firstReady_59 : decode cX5_firstReady 59 = .ok (.aload 4, 2) := by decide +kernel
theorem dX5_firstReady_61 : decode cX5_firstReady 61 = .ok (.iload 7, 2) := by decide +kernel
theorem dX5_firstReady_63 : decode cX5_firstReady 63 = .ok (.invokevirtual 112, 3) := by decide +kernel
theorem dX5_firstReady_66 : decode cX5_firstReady 66 = .ok (.aload_n 1, 1) := by decide +kernel
theorem dX5_firstReady_67 : decode cX5_firstReady 67 = .ok (.iconst 1, 1) := by decide +kernel
theorem dX5_firstReady_68 : decode cX5_firstReady 68 = .ok (.iload_n 2, 1) := by decide +kernel
theorem dX5_firstReady_69 : decode cX5_firstReady 69 = .ok (.isub, 1) := by decide +kernel
theorem dX5_firstReady_70 : decode cX5_firstReady 70 = .ok (.iload 7, 2) := by decide +kernel
theorem dX5_firstReady_72 : decode cX5_firstReady 72 = .ok (.invokevirtual 115, 3) := by decide +kernel
theorem dX5_firstReady_75 : decode cX5_firstReady 75 = .ok (.if_icmp .ge 7, 3) := by decide +kernel
theorem dX5_firstReady_78 : decode cX5_firstReady 78 = .ok (.iconst 1, 1) := by decide +kernel
theorem dX5_firstReady_79 : decode cX5_firstReady 79 = .ok (.goto 4, 3) := by decide +kernel
theorem dX5_firstReady_82 : decode cX5_firstReady 82 = .ok (.iconst 0, 1) := by decide +kernel
theorem dX5_firstReady_83 : decode cX5_firstReady 83 = .ok (.istore 9, 2) := by decide +kernel
theorem dX5_firstReady_85 : decode cX5_firstReady 85 = .ok (.iload 8, 2) := by decide +kernel
theorem dX5_firstReady_87 : decode cX5_firstReady 87 = .ok (.iload 5, 2) := by decide +kernel
theorem dX5_firstReady_89 : decode cX5_firstReady 89 = .ok (.iand, 1) := by decide +kernel
theorem dX5_firstReady_90 : decode cX5_firstReady 90 = .ok (.ifCond .ne 11, 3) := by decide +kernel
theorem dX5_firstReady_93 : decode cX5_firstReady 93 = .ok (.iload 9, 2) := by decide +kernel
theorem dX5_firstReady_95 : decode cX5_firstReady 95 = .ok (.ifCond .eq 6, 3) := by decide +kernel
theorem dX5_firstReady_98 : decode cX5_firstReady 98 = .ok (.iload 6, 2) := by decide +kernel
theorem dX5_firstReady_100 : decode cX5_firstReady 100 = .ok (.ireturn, 1) := by decide +kernel
theorem dX5_firstReady_101 : decode cX5_firstReady 101 = .ok (.iload 5, 2) := by decide +kernel
theorem dX5_firstReady_103 : decode cX5_firstReady 103 = .ok (.iconst 1, 1) := by decide +kernel
theorem dX5_firstReady_104 : decode cX5_firstReady 104 = .ok (.iload 7, 2) := by decide +kernel
theorem dX5_firstReady_106 : decode cX5_firstReady 106 = .ok (.ishl, 1) := by decide +kernel
theorem dX5_firstReady_107 : decode cX5_firstReady 107 = .ok (.ior, 1) := by decide +kernel
theorem dX5_firstReady_108 : decode cX5_firstReady 108 = .ok (.istore 5, 2) := by decide +kernel
theorem dX5_firstReady_110 : decode cX5_firstReady 110 = .ok (.iinc 6 1, 3) := by decide +kernel
theorem dX5_firstReady_113 : decode cX5_firstReady 113 = .ok (.goto (-86), 3) := by decide +kernel
theorem dX5_firstReady_116 : decode cX5_firstReady 116 = .ok (.iconst (-1), 1) := by decide +kernel
theorem dX5_firstReady_117 : decode cX5_firstReady 117 = .ok (.ireturn, 1) := by decide +kernel
theorem dX6_init_0 : decode cX6_init 0 = .ok (.aload_n 0, 1) := by decide +kernel
theorem dX6_init_1 : decode cX6_init 1 = .ok (.invokespecial 3, 3) := by decide +kernel
theorem dX6_init_4 : decode cX6_init 4 = .ok (.aload_n 0, 1) := by decide +kernel
theorem dX6_init_5 : decode cX6_init 5 = .ok (.bipush 16, 2) := by decide +kernel
theorem dX6_init_7 : decode cX6_init 7 = .ok (.newarray .int, 2) := by decide +kernel
theorem dX6_init_9 : decode cX6_init 9 = .ok (.putfield 9, 3) := by decide +kernel
theorem dX6_init_12 : decode cX6_init 12 = .ok (.aload_n 0, 1) := by decide +kernel
theorem dX6_init_13 : decode cX6_init 13 = .ok (.sipush 600, 3) := by decide +kernel
theorem dX6_init_16 : decode cX6_init 16 = .ok (.newarray .int, 2) := by decide +kernel
theorem dX6_init_18 : decode cX6_init 18 = .ok (.putfield 15, 3) := by decide +kernel
theorem dX6_init_21 : decode cX6_init 21 = .ok (.return_, 1) := by decide +kernel
theorem dX6_clear_0 : decode cX6_clear 0 = .ok (.aload_n 0, 1) := by decide +kernel
theorem dX6_clear_1 : decode cX6_clear 1 = .ok (.iconst 0, 1) := by decide +kernel
theorem dX6_clear_2 : decode cX6_clear 2 = .ok (.putfield 18, 3) := by decide +kernel
theorem dX6_clear_5 : decode cX6_clear 5 = .ok (.return_, 1) := by decide +kernel
theorem dX6_add_0 : decode cX6_add 0 = .ok (.aload_n 0, 1) := by decide +kernel
theorem dX6_add_1 : decode cX6_add 1 = .ok (.getfield 18, 3) := by decide +kernel
theorem dX6_add_4 : decode cX6_add 4 = .ok (.ifCond .lt 35, 3) := by decide +kernel
theorem dX6_add_7 : decode cX6_add 7 = .ok (.aload_n 0, 1) := by decide +kernel
theorem dX6_add_8 : decode cX6_add 8 = .ok (.getfield 18, 3) := by decide +kernel
theorem dX6_add_11 : decode cX6_add 11 = .ok (.aload_n 0, 1) := by decide +kernel
theorem dX6_add_12 : decode cX6_add 12 = .ok (.getfield 15, 3) := by decide +kernel
theorem dX6_add_15 : decode cX6_add 15 = .ok (.arraylength, 1) := by decide +kernel
theorem dX6_add_16 : decode cX6_add 16 = .ok (.if_icmp .ge 23, 3) := by decide +kernel
theorem dX6_add_19 : decode cX6_add 19 = .ok (.aload_n 0, 1) := by decide +kernel
theorem dX6_add_20 : decode cX6_add 20 = .ok (.getfield 15, 3) := by decide +kernel
theorem dX6_add_23 : decode cX6_add 23 = .ok (.aload_n 0, 1) := by decide +kernel
theorem dX6_add_24 : decode cX6_add 24 = .ok (.getfield 18, 3) := by decide +kernel
theorem dX6_add_27 : decode cX6_add 27 = .ok (.iload_n 1, 1) := by decide +kernel
theorem dX6_add_28 : decode cX6_add 28 = .ok (.iastore, 1) := by decide +kernel
theorem dX6_add_29 : decode cX6_add 29 = .ok (.aload_n 0, 1) := by decide +kernel
theorem dX6_add_30 : decode cX6_add 30 = .ok (.dup, 1) := by decide +kernel
theorem dX6_add_31 : decode cX6_add 31 = .ok (.getfield 18, 3) := by decide +kernel
theorem dX6_add_34 : decode cX6_add 34 = .ok (.iconst 1, 1) := by decide +kernel
theorem dX6_add_35 : decode cX6_add 35 = .ok (.iadd, 1) := by decide +kernel
theorem dX6_add_36 : decode cX6_add 36 = .ok (.putfield 18, 3) := by decide +kernel
theorem dX6_add_39 : decode cX6_add 39 = .ok (.return_, 1) := by decide +kernel
theorem dX6_setNumber_0 : decode cX6_setNumber 0 = .ok (.aload_n 0, 1) := by decide +kernel
theorem dX6_setNumber_1 : decode cX6_setNumber 1 = .ok (.invokevirtual 22, 3) := by decide +kernel
theorem dX6_setNumber_4 : decode cX6_setNumber 4 = .ok (.aload_n 0, 1) := by decide +kernel
theorem dX6_setNumber_5 : decode cX6_setNumber 5 = .ok (.iload_n 1, 1) := by decide +kernel
theorem dX6_setNumber_6 : decode cX6_setNumber 6 = .ok (.invokevirtual 25, 3) := by decide +kernel
theorem dX6_setNumber_9 : decode cX6_setNumber 9 = .ok (.return_, 1) := by decide +kernel
theorem dX6_valueFor_0 : decode cX6_valueFor 0 = .ok (.iconst 0, 1) := by decide +kernel
theorem dX6_valueFor_1 : decode cX6_valueFor 1 = .ok (.istore 5, 2) := by decide +kernel
theorem dX6_valueFor_3 : decode cX6_valueFor 3 = .ok (.iconst 0, 1) := by decide +kernel
theorem dX6_valueFor_4 : decode cX6_valueFor 4 = .ok (.istore 6, 2) := by decide +kernel
theorem dX6_valueFor_6 : decode cX6_valueFor 6 = .ok (.iload 6, 2) := by decide +kernel
theorem dX6_valueFor_8 : decode cX6_valueFor 8 = .ok (.aload_n 0, 1) := by decide +kernel
theorem dX6_valueFor_9 : decode cX6_valueFor 9 = .ok (.getfield 18, 3) := by decide +kernel
theorem dX6_valueFor_12 : decode cX6_valueFor 12 = .ok (.if_icmp .ge 130, 3) := by decide +kernel
theorem dX6_valueFor_15 : decode cX6_valueFor 15 = .ok (.iload 6, 2) := by decide +kernel
theorem dX6_valueFor_17 : decode cX6_valueFor 17 = .ok (.aload_n 0, 1) := by decide +kernel
theorem dX6_valueFor_18 : decode cX6_valueFor 18 = .ok (.getfield 15, 3) := by decide +kernel
theorem dX6_valueFor_21 : decode cX6_valueFor 21 = .ok (.arraylength, 1) := by decide +kernel
theorem dX6_valueFor_22 : decode cX6_valueFor 22 = .ok (.if_icmp .ge 120, 3) := by decide +kernel
theorem dX6_valueFor_25 : decode cX6_valueFor 25 = .ok (.aload_n 0, 1) := by decide +kernel
theorem dX6_valueFor_26 : decode cX6_valueFor 26 = .ok (.getfield 15, 3) := by decide +kernel
theorem dX6_valueFor_29 : decode cX6_valueFor 29 = .ok (.iload 6, 2) := by decide +kernel
theorem dX6_valueFor_31 : decode cX6_valueFor 31 = .ok (.iaload, 1) := by decide +kernel
theorem dX6_valueFor_32 : decode cX6_valueFor 32 = .ok (.istore 7, 2) := by decide +kernel
theorem dX6_valueFor_34 : decode cX6_valueFor 34 = .ok (.iload 7, 2) := by decide +kernel
theorem dX6_valueFor_36 : decode cX6_valueFor 36 = .ok (.bipush (-37), 2) := by decide +kernel
theorem dX6_valueFor_38 : decode cX6_valueFor 38 = .ok (.if_icmp .gt 58, 3) := by decide +kernel
theorem dX6_valueFor_41 : decode cX6_valueFor 41 = .ok (.iload 5, 2) := by decide +kernel
theorem dX6_valueFor_43 : decode cX6_valueFor 43 = .ok (.iconst 2, 1) := by decide +kernel
theorem dX6_valueFor_44 : decode cX6_valueFor 44 = .ok (.if_icmp .lt 92, 3) := by decide +kernel
theorem dX6_valueFor_47 : decode cX6_valueFor 47 = .ok (.iload 5, 2) := by decide +kernel
theorem dX6_valueFor_49 : decode cX6_valueFor 49 = .ok (.aload_n 0, 1) := by decide +kernel
theorem dX6_valueFor_50 : decode cX6_valueFor 50 = .ok (.getfield 9, 3) := by decide +kernel
theorem dX6_valueFor_53 : decode cX6_valueFor 53 = .ok (.arraylength, 1) := by decide +kernel
theorem dX6_valueFor_54 : decode cX6_valueFor 54 = .ok (.if_icmp .gt 82, 3) := by decide +kernel
theorem dX6_valueFor_57 : decode cX6_valueFor 57 = .ok (.aload_n 0, 1) := by decide +kernel
theorem dX6_valueFor_58 : decode cX6_valueFor 58 = .ok (.getfield 9, 3) := by decide +kernel
theorem dX6_valueFor_61 : decode cX6_valueFor 61 = .ok (.iload 5, 2) := by decide +kernel
theorem dX6_valueFor_63 : decode cX6_valueFor 63 = .ok (.iconst 2, 1) := by decide +kernel
theorem dX6_valueFor_64 : decode cX6_valueFor 64 = .ok (.isub, 1) := by decide +kernel
theorem dX6_valueFor_65 : decode cX6_valueFor 65 = .ok (.iload 7, 2) := by decide +kernel
theorem dX6_valueFor_67 : decode cX6_valueFor 67 = .ok (.ineg, 1) := by decide +kernel
theorem dX6_valueFor_68 : decode cX6_valueFor 68 = .ok (.aload_n 0, 1) := by decide +kernel
theorem dX6_valueFor_69 : decode cX6_valueFor 69 = .ok (.getfield 9, 3) := by decide +kernel
theorem dX6_valueFor_72 : decode cX6_valueFor 72 = .ok (.iload 5, 2) := by decide +kernel
theorem dX6_valueFor_74 : decode cX6_valueFor 74 = .ok (.iconst 2, 1) := by decide +kernel
theorem dX6_valueFor_75 : decode cX6_valueFor 75 = .ok (.isub, 1) := by decide +kernel
theorem dX6_valueFor_76 : decode cX6_valueFor 76 = .ok (.iaload, 1) := by decide +kernel
theorem dX6_valueFor_77 : decode cX6_valueFor 77 = .ok (.aload_n 0, 1) := by decide +kernel
theorem dX6_valueFor_78 : decode cX6_valueFor 78 = .ok (.getfield 9, 3) := by decide +kernel
theorem dX6_valueFor_81 : decode cX6_valueFor 81 = .ok (.iload 5, 2) := by decide +kernel
theorem dX6_valueFor_83 : decode cX6_valueFor 83 = .ok (.iconst 1, 1) := by decide +kernel
theorem dX6_valueFor_84 : decode cX6_valueFor 84 = .ok (.isub, 1) := by decide +kernel
theorem dX6_valueFor_85 : decode cX6_valueFor 85 = .ok (.iaload, 1) := by decide +kernel
theorem dX6_valueFor_86 : decode cX6_valueFor 86 = .ok (.invokestatic 29, 3) := by decide +kernel
theorem dX6_valueFor_89 : decode cX6_valueFor 89 = .ok (.iastore, 1) := by decide +kernel
theorem dX6_valueFor_90 : decode cX6_valueFor 90 = .ok (.iinc 5 (-1), 3) := by decide +kernel
theorem dX6_valueFor_93 : decode cX6_valueFor 93 = .ok (.goto 43, 3) := by decide +kernel
theorem dX6_valueFor_96 : decode cX6_valueFor 96 = .ok (.iload 5, 2) := by decide +kernel
theorem dX6_valueFor_98 : decode cX6_valueFor 98 = .ok (.aload_n 0, 1) := by decide +kernel
theorem dX6_valueFor_99 : decode cX6_valueFor 99 = .ok (.getfield 9, 3) := by decide +kernel
theorem dX6_valueFor_102 : decode cX6_valueFor 102 = .ok (.arraylength, 1) := by decide +kernel
theorem dX6_valueFor_103 : decode cX6_valueFor 103 = .ok (.if_icmp .ge 33, 3) := by decide +kernel
theorem dX6_valueFor_106 : decode cX6_valueFor 106 = .ok (.aload_n 0, 1) := by decide +kernel
theorem dX6_valueFor_107 : decode cX6_valueFor 107 = .ok (.getfield 9, 3) := by decide +kernel
theorem dX6_valueFor_110 : decode cX6_valueFor 110 = .ok (.iload 5, 2) := by decide +kernel
theorem dX6_valueFor_112 : decode cX6_valueFor 112 = .ok (.iload 7, 2) := by decide +kernel
theorem dX6_valueFor_114 : decode cX6_valueFor 114 = .ok (.ifCond .lt 8, 3) := by decide +kernel
theorem dX6_valueFor_117 : decode cX6_valueFor 117 = .ok (.iload 7, 2) := by decide +kernel
theorem dX6_valueFor_119 : decode cX6_valueFor 119 = .ok (.goto 13, 3) := by decide +kernel
theorem dX6_valueFor_122 : decode cX6_valueFor 122 = .ok (.iload 7, 2) := by decide +kernel
theorem dX6_valueFor_124 : decode cX6_valueFor 124 = .ok (.iload_n 1, 1) := by decide +kernel
theorem dX6_valueFor_125 : decode cX6_valueFor 125 = .ok (.iload_n 2, 1) := by decide +kernel
theorem dX6_valueFor_126 : decode cX6_valueFor 126 = .ok (.iload_n 3, 1) := by decide +kernel
theorem dX6_valueFor_127 : decode cX6_valueFor 127 = .ok (.iload 4, 2) := by decide +kernel
theorem dX6_valueFor_129 : decode cX6_valueFor 129 = .ok (.invokestatic 33, 3) := by decide +kernel
theorem dX6_valueFor_132 : decode cX6_valueFor 132 = .ok (.iastore, 1) := by decide +kernel
theorem dX6_valueFor_133 : decode cX6_valueFor 133 = .ok (.iinc 5 1, 3) := by decide +kernel
theorem dX6_valueFor_136 : decode cX6_valueFor 136 = .ok (.iinc 6 1, 3) := by decide +kernel
theorem dX6_valueFor_139 : decode cX6_valueFor 139 = .ok (.goto (-133), 3) := by decide +kernel
theorem dX6_valueFor_142 : decode cX6_valueFor 142 = .ok (.aload_n 0, 1) := by decide +kernel
theorem dX6_valueFor_143 : decode cX6_valueFor 143 = .ok (.getfield 9, 3) := by decide +kernel
theorem dX6_valueFor_146 : decode cX6_valueFor 146 = .ok (.iconst 0, 1) := by decide +kernel
theorem dX6_valueFor_147 : decode cX6_valueFor 147 = .ok (.iaload, 1) := by decide +kernel
theorem dX6_valueFor_148 : decode cX6_valueFor 148 = .ok (.ireturn, 1) := by decide +kernel
theorem dX6_named_0 : decode cX6_named 0 = .ok (.iload_n 0, 1) := by decide +kernel
theorem dX6_named_1 : decode cX6_named 1 = .ok (.tableswitch 33 (-3) (-1) #[31, 29, 27], 27) := by decide +kernel
theorem dX6_named_28 : decode cX6_named 28 = .ok (.iload_n 1, 1) := by decide +kernel
theorem dX6_named_29 : decode cX6_named 29 = .ok (.ireturn, 1) := by decide +kernel
theorem dX6_named_30 : decode cX6_named 30 = .ok (.iload_n 2, 1) := by decide +kernel
theorem dX6_named_31 : decode cX6_named 31 = .ok (.ireturn, 1) := by decide +kernel
theorem dX6_named_32 : decode cX6_named 32 = .ok (.iload_n 3, 1) := by decide +kernel
theorem dX6_named_33 : decode cX6_named 33 = .ok (.ireturn, 1) := by decide +kernel
theorem dX6_named_34 : decode cX6_named 34 = .ok (.iload 4, 2) := by decide +kernel
theorem dX6_named_36 : decode cX6_named 36 = .ok (.ireturn, 1) := by decide +kernel
theorem dX6_combine_0 : decode cX6_combine 0 = .ok (.iload_n 0, 1) := by decide +kernel
theorem dX6_combine_1 : decode cX6_combine 1 = .ok (.tableswitch 63 42 47 #[47, 39, 63, 43, 63, 51], 39) := by decide +kernel
theorem dX6_combine_40 : decode cX6_combine 40 = .ok (.iload_n 1, 1) := by decide +kernel
theorem dX6_combine_41 : decode cX6_combine 41 = .ok (.iload_n 2, 1) := by decide +kernel
theorem dX6_combine_42 : decode cX6_combine 42 = .ok (.iadd, 1) := by decide +kernel
theorem dX6_combine_43 : decode cX6_combine 43 = .ok (.ireturn, 1) := by decide +kernel
theorem dX6_combine_44 : decode cX6_combine 44 = .ok (.iload_n 1, 1) := by decide +kernel
theorem dX6_combine_45 : decode cX6_combine 45 = .ok (.iload_n 2, 1) := by decide +kernel
theorem dX6_combine_46 : decode cX6_combine 46 = .ok (.isub, 1) := by decide +kernel
theorem dX6_combine_47 : decode cX6_combine 47 = .ok (.ireturn, 1) := by decide +kernel
theorem dX6_combine_48 : decode cX6_combine 48 = .ok (.iload_n 1, 1) := by decide +kernel
theorem dX6_combine_49 : decode cX6_combine 49 = .ok (.iload_n 2, 1) := by decide +kernel
theorem dX6_combine_50 : decode cX6_combine 50 = .ok (.imul, 1) := by decide +kernel
theorem dX6_combine_51 : decode cX6_combine 51 = .ok (.ireturn, 1) := by decide +kernel
theorem dX6_combine_52 : decode cX6_combine 52 = .ok (.iload_n 2, 1) := by decide +kernel
theorem dX6_combine_53 : decode cX6_combine 53 = .ok (.ifCond .ne 7, 3) := by decide +kernel
theorem dX6_combine_56 : decode cX6_combine 56 = .ok (.iconst 0, 1) := by decide +kernel
theorem dX6_combine_57 : decode cX6_combine 57 = .ok (.goto 6, 3) := by decide +kernel
theorem dX6_combine_60 : decode cX6_combine 60 = .ok (.iload_n 1, 1) := by decide +kernel
theorem dX6_combine_61 : decode cX6_combine 61 = .ok (.iload_n 2, 1) := by decide +kernel
theorem dX6_combine_62 : decode cX6_combine 62 = .ok (.idiv, 1) := by decide +kernel
theorem dX6_combine_63 : decode cX6_combine 63 = .ok (.ireturn, 1) := by decide +kernel
theorem dX6_combine_64 : decode cX6_combine 64 = .ok (.iload_n 2, 1) := by decide +kernel
theorem dX6_combine_65 : decode cX6_combine 65 = .ok (.ifCond .ne 7, 3) := by decide +kernel
theorem dX6_combine_68 : decode cX6_combine 68 = .ok (.iconst 0, 1) := by decide +kernel
theorem dX6_combine_69 : decode cX6_combine 69 = .ok (.goto 6, 3) := by decide +kernel
theorem dX6_combine_72 : decode cX6_combine 72 = .ok (.iload_n 1, 1) := by decide +kernel
theorem dX6_combine_73 : decode cX6_combine 73 = .ok (.iload_n 2, 1) := by decide +kernel
theorem dX6_combine_74 : decode cX6_combine 74 = .ok (.irem, 1) := by decide +kernel
theorem dX6_combine_75 : decode cX6_combine 75 = .ok (.ireturn, 1) := by decide +kernel
theorem dX7_init_0 : decode cX7_init 0 = .ok (.aload_n 0, 1) := by decide +kernel
theorem dX7_init_1 : decode cX7_init 1 = .ok (.invokespecial 3, 3) := by decide +kernel
theorem dX7_init_4 : decode cX7_init 4 = .ok (.aload_n 0, 1) := by decide +kernel
theorem dX7_init_5 : decode cX7_init 5 = .ok (.bipush 8, 2) := by decide +kernel
theorem dX7_init_7 : decode cX7_init 7 = .ok (.newarray .int, 2) := by decide +kernel
theorem dX7_init_9 : decode cX7_init 9 = .ok (.putfield 9, 3) := by decide +kernel
theorem dX7_init_12 : decode cX7_init 12 = .ok (.aload_n 0, 1) := by decide +kernel
theorem dX7_init_13 : decode cX7_init 13 = .ok (.bipush 8, 2) := by decide +kernel
theorem dX7_init_15 : decode cX7_init 15 = .ok (.newarray .int, 2) := by decide +kernel
theorem dX7_init_17 : decode cX7_init 17 = .ok (.putfield 15, 3) := by decide +kernel
theorem dX7_init_20 : decode cX7_init 20 = .ok (.aload_n 0, 1) := by decide +kernel
theorem dX7_init_21 : decode cX7_init 21 = .ok (.bipush 8, 2) := by decide +kernel
theorem dX7_init_23 : decode cX7_init 23 = .ok (.newarray .int, 2) := by decide +kernel
theorem dX7_init_25 : decode cX7_init 25 = .ok (.putfield 18, 3) := by decide +kernel
theorem dX7_init_28 : decode cX7_init 28 = .ok (.aload_n 0, 1) := by decide +kernel
theorem dX7_init_29 : decode cX7_init 29 = .ok (.bipush 32, 2) := by decide +kernel
theorem dX7_init_31 : decode cX7_init 31 = .ok (.newarray .int, 2) := by decide +kernel
theorem dX7_init_33 : decode cX7_init 33 = .ok (.putfield 21, 3) := by decide +kernel
theorem dX7_init_36 : decode cX7_init 36 = .ok (.return_, 1) := by decide +kernel
theorem dX7_clear_0 : decode cX7_clear 0 = .ok (.aload_n 0, 1) := by decide +kernel
theorem dX7_clear_1 : decode cX7_clear 1 = .ok (.getfield 9, 3) := by decide +kernel
theorem dX7_clear_4 : decode cX7_clear 4 = .ok (.iconst 0, 1) := by decide +kernel
theorem dX7_clear_5 : decode cX7_clear 5 = .ok (.invokestatic 24, 3) := by decide +kernel
theorem dX7_clear_8 : decode cX7_clear 8 = .ok (.aload_n 0, 1) := by decide +kernel
theorem dX7_clear_9 : decode cX7_clear 9 = .ok (.getfield 15, 3) := by decide +kernel
theorem dX7_clear_12 : decode cX7_clear 12 = .ok (.iconst 0, 1) := by decide +kernel
theorem dX7_clear_13 : decode cX7_clear 13 = .ok (.invokestatic 24, 3) := by decide +kernel
theorem dX7_clear_16 : decode cX7_clear 16 = .ok (.aload_n 0, 1) := by decide +kernel
theorem dX7_clear_17 : decode cX7_clear 17 = .ok (.getfield 18, 3) := by decide +kernel
theorem dX7_clear_20 : decode cX7_clear 20 = .ok (.iconst 0, 1) := by decide +kernel
theorem dX7_clear_21 : decode cX7_clear 21 = .ok (.invokestatic 24, 3) := by decide +kernel
theorem dX7_clear_24 : decode cX7_clear 24 = .ok (.aload_n 0, 1) := by decide +kernel
theorem dX7_clear_25 : decode cX7_clear 25 = .ok (.getfield 21, 3) := by decide +kernel
theorem dX7_clear_28 : decode cX7_clear 28 = .ok (.iconst 0, 1) := by decide +kernel
theorem dX7_clear_29 : decode cX7_clear 29 = .ok (.invokestatic 24, 3) := by decide +kernel
theorem dX7_clear_32 : decode cX7_clear 32 = .ok (.return_, 1) := by decide +kernel
theorem dX7_copyFrom_0 : decode cX7_copyFrom 0 = .ok (.aload_n 1, 1) := by decide +kernel
theorem dX7_copyFrom_1 : decode cX7_copyFrom 1 = .ok (.getfield 9, 3) := by decide +kernel
theorem dX7_copyFrom_4 : decode cX7_copyFrom 4 = .ok (.iconst 0, 1) := by decide +kernel
theorem dX7_copyFrom_5 : decode cX7_copyFrom 5 = .ok (.aload_n 0, 1) := by decide +kernel
theorem dX7_copyFrom_6 : decode cX7_copyFrom 6 = .ok (.getfield 9, 3) := by decide +kernel
theorem dX7_copyFrom_9 : decode cX7_copyFrom 9 = .ok (.iconst 0, 1) := by decide +kernel
theorem dX7_copyFrom_10 : decode cX7_copyFrom 10 = .ok (.bipush 8, 2) := by decide +kernel
theorem dX7_copyFrom_12 : decode cX7_copyFrom 12 = .ok (.invokestatic 30, 3) := by decide +kernel
theorem dX7_copyFrom_15 : decode cX7_copyFrom 15 = .ok (.aload_n 1, 1) := by decide +kernel
theorem dX7_copyFrom_16 : decode cX7_copyFrom 16 = .ok (.getfield 15, 3) := by decide +kernel
theorem dX7_copyFrom_19 : decode cX7_copyFrom 19 = .ok (.iconst 0, 1) := by decide +kernel
theorem dX7_copyFrom_20 : decode cX7_copyFrom 20 = .ok (.aload_n 0, 1) := by decide +kernel
theorem dX7_copyFrom_21 : decode cX7_copyFrom 21 = .ok (.getfield 15, 3) := by decide +kernel
theorem dX7_copyFrom_24 : decode cX7_copyFrom 24 = .ok (.iconst 0, 1) := by decide +kernel
theorem dX7_copyFrom_25 : decode cX7_copyFrom 25 = .ok (.bipush 8, 2) := by decide +kernel
theorem dX7_copyFrom_27 : decode cX7_copyFrom 27 = .ok (.invokestatic 30, 3) := by decide +kernel
theorem dX7_copyFrom_30 : decode cX7_copyFrom 30 = .ok (.aload_n 1, 1) := by decide +kernel
theorem dX7_copyFrom_31 : decode cX7_copyFrom 31 = .ok (.getfield 18, 3) := by decide +kernel
theorem dX7_copyFrom_34 : decode cX7_copyFrom 34 = .ok (.iconst 0, 1) := by decide +kernel
theorem dX7_copyFrom_35 : decode cX7_copyFrom 35 = .ok (.aload_n 0, 1) := by decide +kernel
theorem dX7_copyFrom_36 : decode cX7_copyFrom 36 = .ok (.getfield 18, 3) := by decide +kernel
theorem dX7_copyFrom_39 : decode cX7_copyFrom 39 = .ok (.iconst 0, 1) := by decide +kernel
theorem dX7_copyFrom_40 : decode cX7_copyFrom 40 = .ok (.bipush 8, 2) := by decide +kernel
theorem dX7_copyFrom_42 : decode cX7_copyFrom 42 = .ok (.invokestatic 30, 3) := by decide +kernel
theorem dX7_copyFrom_45 : decode cX7_copyFrom 45 = .ok (.aload_n 1, 1) := by decide +kernel
theorem dX7_copyFrom_46 : decode cX7_copyFrom 46 = .ok (.getfield 21, 3) := by decide +kernel
theorem dX7_copyFrom_49 : decode cX7_copyFrom 49 = .ok (.iconst 0, 1) := by decide +kernel
theorem dX7_copyFrom_50 : decode cX7_copyFrom 50 = .ok (.aload_n 0, 1) := by decide +kernel
theorem dX7_copyFrom_51 : decode cX7_copyFrom 51 = .ok (.getfield 21, 3) := by decide +kernel
theorem dX7_copyFrom_54 : decode cX7_copyFrom 54 = .ok (.iconst 0, 1) := by decide +kernel
theorem dX7_copyFrom_55 : decode cX7_copyFrom 55 = .ok (.bipush 32, 2) := by decide +kernel
theorem dX7_copyFrom_57 : decode cX7_copyFrom 57 = .ok (.invokestatic 30, 3) := by decide +kernel
theorem dX7_copyFrom_60 : decode cX7_copyFrom 60 = .ok (.return_, 1) := by decide +kernel
theorem dX7_stateOf_0 : decode cX7_stateOf 0 = .ok (.aload_n 0, 1) := by decide +kernel
theorem dX7_stateOf_1 : decode cX7_stateOf 1 = .ok (.getfield 9, 3) := by decide +kernel
theorem dX7_stateOf_4 : decode cX7_stateOf 4 = .ok (.iload_n 1, 1) := by decide +kernel
theorem dX7_stateOf_5 : decode cX7_stateOf 5 = .ok (.invokestatic 36, 3) := by decide +kernel
theorem dX7_stateOf_8 : decode cX7_stateOf 8 = .ok (.ireturn, 1) := by decide +kernel
theorem dX7_storedWords_0 : decode cX7_storedWords 0 = .ok (.aload_n 0, 1) := by decide +kernel
theorem dX7_storedWords_1 : decode cX7_storedWords 1 = .ok (.getfield 18, 3) := by decide +kernel
theorem dX7_storedWords_4 : decode cX7_storedWords 4 = .ok (.iload_n 1, 1) := by decide +kernel
theorem dX7_storedWords_5 : decode cX7_storedWords 5 = .ok (.invokestatic 36, 3) := by decide +kernel
theorem dX7_storedWords_8 : decode cX7_storedWords 8 = .ok (.invokestatic 40, 3) := by decide +kernel
theorem dX7_storedWords_11 : decode cX7_storedWords 11 = .ok (.ireturn, 1) := by decide +kernel
theorem dX7_hasWord_0 : decode cX7_hasWord 0 = .ok (.iload_n 2, 1) := by decide +kernel
theorem dX7_hasWord_1 : decode cX7_hasWord 1 = .ok (.ifCond .lt 27, 3) := by decide +kernel
theorem dX7_hasWord_4 : decode cX7_hasWord 4 = .ok (.iload_n 2, 1) := by decide +kernel
theorem dX7_hasWord_5 : decode cX7_hasWord 5 = .ok (.iconst 4, 1) := by decide +kernel
theorem dX7_hasWord_6 : decode cX7_hasWord 6 = .ok (.if_icmp .ge 22, 3) := by decide +kernel
theorem dX7_hasWord_9 : decode cX7_hasWord 9 = .ok (.aload_n 0, 1) := by decide +kernel
theorem dX7_hasWord_10 : decode cX7_hasWord 10 = .ok (.getfield 18, 3) := by decide +kernel
theorem dX7_hasWord_13 : decode cX7_hasWord 13 = .ok (.iload_n 1, 1) := by decide +kernel
theorem dX7_hasWord_14 : decode cX7_hasWord 14 = .ok (.invokestatic 36, 3) := by decide +kernel
theorem dX7_hasWord_17 : decode cX7_hasWord 17 = .ok (.iload_n 2, 1) := by decide +kernel
theorem dX7_hasWord_18 : decode cX7_hasWord 18 = .ok (.invokestatic 46, 3) := by decide +kernel
theorem dX7_hasWord_21 : decode cX7_hasWord 21 = .ok (.ifCond .eq 7, 3) := by decide +kernel
theorem dX7_hasWord_24 : decode cX7_hasWord 24 = .ok (.iconst 1, 1) := by decide +kernel
theorem dX7_hasWord_25 : decode cX7_hasWord 25 = .ok (.goto 4, 3) := by decide +kernel
theorem dX7_hasWord_28 : decode cX7_hasWord 28 = .ok (.iconst 0, 1) := by decide +kernel
theorem dX7_hasWord_29 : decode cX7_hasWord 29 = .ok (.ireturn, 1) := by decide +kernel
theorem dX7_wordOf_0 : decode cX7_wordOf 0 = .ok (.aload_n 0, 1) := by decide +kernel
theorem dX7_wordOf_1 : decode cX7_wordOf 1 = .ok (.getfield 21, 3) := by decide +kernel
theorem dX7_wordOf_4 : decode cX7_wordOf 4 = .ok (.iload_n 1, 1) := by decide +kernel
theorem dX7_wordOf_5 : decode cX7_wordOf 5 = .ok (.iconst 4, 1) := by decide +kernel
theorem dX7_wordOf_6 : decode cX7_wordOf 6 = .ok (.imul, 1) := by decide +kernel
theorem dX7_wordOf_7 : decode cX7_wordOf 7 = .ok (.iload_n 2, 1) := by decide +kernel
theorem dX7_wordOf_8 : decode cX7_wordOf 8 = .ok (.iadd, 1) := by decide +kernel
theorem dX7_wordOf_9 : decode cX7_wordOf 9 = .ok (.invokestatic 36, 3) := by decide +kernel
theorem dX7_wordOf_12 : decode cX7_wordOf 12 = .ok (.ireturn, 1) := by decide +kernel
theorem dX7_lowestFree_0 : decode cX7_lowestFree 0 = .ok (.iconst 0, 1) := by decide +kernel
theorem dX7_lowestFree_1 : decode cX7_lowestFree 1 = .ok (.istore_n 2, 1) := by decide +kernel
theorem dX7_lowestFree_2 : decode cX7_lowestFree 2 = .ok (.iload_n 2, 1) := by decide +kernel
theorem dX7_lowestFree_3 : decode cX7_lowestFree 3 = .ok (.iload_n 1, 1) := by decide +kernel
theorem dX7_lowestFree_4 : decode cX7_lowestFree 4 = .ok (.if_icmp .ge 19, 3) := by decide +kernel
theorem dX7_lowestFree_7 : decode cX7_lowestFree 7 = .ok (.aload_n 0, 1) := by decide +kernel
theorem dX7_lowestFree_8 : decode cX7_lowestFree 8 = .ok (.iload_n 2, 1) := by decide +kernel
theorem dX7_lowestFree_9 : decode cX7_lowestFree 9 = .ok (.invokevirtual 50, 3) := by decide +kernel
theorem dX7_lowestFree_12 : decode cX7_lowestFree 12 = .ok (.ifCond .ne 5, 3) := by decide +kernel
theorem dX7_lowestFree_15 : decode cX7_lowestFree 15 = .ok (.iload_n 2, 1) := by decide +kernel
theorem dX7_lowestFree_16 : decode cX7_lowestFree 16 = .ok (.ireturn, 1) := by decide +kernel
theorem dX7_lowestFree_17 : decode cX7_lowestFree 17 = .ok (.iinc 2 1, 3) := by decide +kernel
theorem dX7_lowestFree_20 : decode cX7_lowestFree 20 = .ok (.goto (-18), 3) := by decide +kernel
theorem dX7_lowestFree_23 : decode cX7_lowestFree 23 = .ok (.iconst (-1), 1) := by decide +kernel
theorem dX7_lowestFree_24 : decode cX7_lowestFree 24 = .ok (.ireturn, 1) := by decide +kernel
theorem dX7_begin_0 : decode cX7_begin 0 = .ok (.aload_n 0, 1) := by decide +kernel
theorem dX7_begin_1 : decode cX7_begin 1 = .ok (.iload_n 1, 1) := by decide +kernel
theorem dX7_begin_2 : decode cX7_begin 2 = .ok (.iconst 1, 1) := by decide +kernel
theorem dX7_begin_3 : decode cX7_begin 3 = .ok (.iload_n 2, 1) := by decide +kernel
theorem dX7_begin_4 : decode cX7_begin 4 = .ok (.invokevirtual 53, 3) := by decide +kernel
theorem dX7_begin_7 : decode cX7_begin 7 = .ok (.return_, 1) := by decide +kernel
theorem dX7_free_0 : decode cX7_free 0 = .ok (.aload_n 0, 1) := by decide +kernel
theorem dX7_free_1 : decode cX7_free 1 = .ok (.iload_n 1, 1) := by decide +kernel
theorem dX7_free_2 : decode cX7_free 2 = .ok (.iconst 0, 1) := by decide +kernel
theorem dX7_free_3 : decode cX7_free 3 = .ok (.iconst 0, 1) := by decide +kernel
theorem dX7_free_4 : decode cX7_free 4 = .ok (.invokevirtual 53, 3) := by decide +kernel
theorem dX7_free_7 : decode cX7_free 7 = .ok (.return_, 1) := by decide +kernel
theorem dX7_put_0 : decode cX7_put 0 = .ok (.iload_n 1, 1) := by decide +kernel
theorem dX7_put_1 : decode cX7_put 1 = .ok (.ifCond .lt 30, 3) := by decide +kernel
theorem dX7_put_4 : decode cX7_put 4 = .ok (.iload_n 1, 1) := by decide +kernel
theorem dX7_put_5 : decode cX7_put 5 = .ok (.bipush 8, 2) := by decide +kernel
theorem dX7_put_7 : decode cX7_put 7 = .ok (.if_icmp .ge 24, 3) := by decide +kernel
theorem dX7_put_10 : decode cX7_put 10 = .ok (.aload_n 0, 1) := by decide +kernel
theorem dX7_put_11 : decode cX7_put 11 = .ok (.getfield 9, 3) := by decide +kernel
theorem dX7_put_14 : decode cX7_put 14 = .ok (.iload_n 1, 1) := by decide +kernel
theorem dX7_put_15 : decode cX7_put 15 = .ok (.iload_n 2, 1) := by decide +kernel
theorem dX7_put_16 : decode cX7_put 16 = .ok (.iastore, 1) := by decide +kernel
theorem dX7_put_17 : decode cX7_put 17 = .ok (.aload_n 0, 1) := by decide +kernel
theorem dX7_put_18 : decode cX7_put 18 = .ok (.getfield 15, 3) := by decide +kernel
theorem dX7_put_21 : decode cX7_put 21 = .ok (.iload_n 1, 1) := by decide +kernel
theorem dX7_put_22 : decode cX7_put 22 = .ok (.iload_n 3, 1) := by decide +kernel
theorem dX7_put_23 : decode cX7_put 23 = .ok (.iastore, 1) := by decide +kernel
theorem dX7_put_24 : decode cX7_put 24 = .ok (.aload_n 0, 1) := by decide +kernel
theorem dX7_put_25 : decode cX7_put 25 = .ok (.getfield 18, 3) := by decide +kernel
theorem dX7_put_28 : decode cX7_put 28 = .ok (.iload_n 1, 1) := by decide +kernel
theorem dX7_put_29 : decode cX7_put 29 = .ok (.iconst 0, 1) := by decide +kernel
theorem dX7_put_30 : decode cX7_put 30 = .ok (.iastore, 1) := by decide +kernel
theorem dX7_put_31 : decode cX7_put 31 = .ok (.return_, 1) := by decide +kernel
theorem dX7_store_0 : decode cX7_store 0 = .ok (.iload_n 1, 1) := by decide +kernel
theorem dX7_store_1 : decode cX7_store 1 = .ok (.iconst 4, 1) := by decide +kernel
theorem dX7_store_2 : decode cX7_store 2 = .ok (.imul, 1) := by decide +kernel
theorem dX7_store_3 : decode cX7_store 3 = .ok (.iload_n 2, 1) := by decide +kernel
theorem dX7_store_4 : decode cX7_store 4 = .ok (.iadd, 1) := by decide +kernel
theorem dX7_store_5 : decode cX7_store 5 = .ok (.istore 4, 2) := by decide +kernel
theorem dX7_store_7 : decode cX7_store 7 = .ok (.iload_n 1, 1) := by decide +kernel
theorem dX7_store_8 : decode cX7_store 8 = .ok (.ifCond .lt 48, 3) := by decide +kernel
theorem dX7_store_11 : decode cX7_store 11 = .ok (.iload_n 1, 1) := by decide +kernel
theorem dX7_store_12 : decode cX7_store 12 = .ok (.bipush 8, 2) := by decide +kernel
theorem dX7_store_14 : decode cX7_store 14 = .ok (.if_icmp .ge 42, 3) := by decide +kernel
theorem dX7_store_17 : decode cX7_store 17 = .ok (.iload_n 2, 1) := by decide +kernel
theorem dX7_store_18 : decode cX7_store 18 = .ok (.ifCond .lt 38, 3) := by decide +kernel
theorem dX7_store_21 : decode cX7_store 21 = .ok (.iload_n 2, 1) := by decide +kernel
theorem dX7_store_22 : decode cX7_store 22 = .ok (.iconst 4, 1) := by decide +kernel
theorem dX7_store_23 : decode cX7_store 23 = .ok (.if_icmp .ge 33, 3) := by decide +kernel
theorem dX7_store_26 : decode cX7_store 26 = .ok (.iload 4, 2) := by decide +kernel
theorem dX7_store_28 : decode cX7_store 28 = .ok (.aload_n 0, 1) := by decide +kernel
theorem dX7_store_29 : decode cX7_store 29 = .ok (.getfield 21, 3) := by decide +kernel
theorem dX7_store_32 : decode cX7_store 32 = .ok (.arraylength, 1) := by decide +kernel
theorem dX7_store_33 : decode cX7_store 33 = .ok (.if_icmp .ge 23, 3) := by decide +kernel
theorem dX7_store_36 : decode cX7_store 36 = .ok (.aload_n 0, 1) := by decide +kernel
theorem dX7_store_37 : decode cX7_store 37 = .ok (.getfield 21, 3) := by decide +kernel
theorem dX7_store_40 : decode cX7_store 40 = .ok (.iload 4, 2) := by decide +kernel
theorem dX7_store_42 : decode cX7_store 42 = .ok (.iload_n 3, 1) := by decide +kernel
theorem dX7_store_43 : decode cX7_store 43 = .ok (.iastore, 1) := by decide +kernel
theorem dX7_store_44 : decode cX7_store 44 = .ok (.aload_n 0, 1) := by decide +kernel
theorem dX7_store_45 : decode cX7_store 45 = .ok (.getfield 18, 3) := by decide +kernel
theorem dX7_store_48 : decode cX7_store 48 = .ok (.iload_n 1, 1) := by decide +kernel
theorem dX7_store_49 : decode cX7_store 49 = .ok (.dup2, 1) := by decide +kernel
theorem dX7_store_50 : decode cX7_store 50 = .ok (.iaload, 1) := by decide +kernel
theorem dX7_store_51 : decode cX7_store 51 = .ok (.iconst 1, 1) := by decide +kernel
theorem dX7_store_52 : decode cX7_store 52 = .ok (.iload_n 2, 1) := by decide +kernel
theorem dX7_store_53 : decode cX7_store 53 = .ok (.ishl, 1) := by decide +kernel
theorem dX7_store_54 : decode cX7_store 54 = .ok (.ior, 1) := by decide +kernel
theorem dX7_store_55 : decode cX7_store 55 = .ok (.iastore, 1) := by decide +kernel
theorem dX7_store_56 : decode cX7_store 56 = .ok (.return_, 1) := by decide +kernel
theorem dX7_completeIfAllCame_0 : decode cX7_completeIfAllCame 0 = .ok (.iload_n 1, 1) := by decide +kernel
theorem dX7_completeIfAllCame_1 : decode cX7_completeIfAllCame 1 = .ok (.ifCond .lt 34, 3) := by decide +kernel
theorem dX7_completeIfAllCame_4 : decode cX7_completeIfAllCame 4 = .ok (.iload_n 1, 1) := by decide +kernel
theorem dX7_completeIfAllCame_5 : decode cX7_completeIfAllCame 5 = .ok (.bipush 8, 2) := by decide +kernel
theorem dX7_completeIfAllCame_7 : decode cX7_completeIfAllCame 7 = .ok (.if_icmp .ge 28, 3) := by decide +kernel
theorem dX7_completeIfAllCame_10 : decode cX7_completeIfAllCame 10 = .ok (.aload_n 0, 1) := by decide +kernel
theorem dX7_completeIfAllCame_11 : decode cX7_completeIfAllCame 11 = .ok (.getfield 18, 3) := by decide +kernel
theorem dX7_completeIfAllCame_14 : decode cX7_completeIfAllCame 14 = .ok (.iload_n 1, 1) := by decide +kernel
theorem dX7_completeIfAllCame_15 : decode cX7_completeIfAllCame 15 = .ok (.iaload, 1) := by decide +kernel
theorem dX7_completeIfAllCame_16 : decode cX7_completeIfAllCame 16 = .ok (.invokestatic 40, 3) := by decide +kernel
theorem dX7_completeIfAllCame_19 : decode cX7_completeIfAllCame 19 = .ok (.aload_n 0, 1) := by decide +kernel
theorem dX7_completeIfAllCame_20 : decode cX7_completeIfAllCame 20 = .ok (.getfield 15, 3) := by decide +kernel
theorem dX7_completeIfAllCame_23 : decode cX7_completeIfAllCame 23 = .ok (.iload_n 1, 1) := by decide +kernel
theorem dX7_completeIfAllCame_24 : decode cX7_completeIfAllCame 24 = .ok (.iaload, 1) := by decide +kernel
theorem dX7_completeIfAllCame_25 : decode cX7_completeIfAllCame 25 = .ok (.if_icmp .lt 10, 3) := by decide +kernel
theorem dX7_completeIfAllCame_28 : decode cX7_completeIfAllCame 28 = .ok (.aload_n 0, 1) := by decide +kernel
theorem dX7_completeIfAllCame_29 : decode cX7_completeIfAllCame 29 = .ok (.getfield 9, 3) := by decide +kernel
theorem dX7_completeIfAllCame_32 : decode cX7_completeIfAllCame 32 = .ok (.iload_n 1, 1) := by decide +kernel
theorem dX7_completeIfAllCame_33 : decode cX7_completeIfAllCame 33 = .ok (.iconst 2, 1) := by decide +kernel
theorem dX7_completeIfAllCame_34 : decode cX7_completeIfAllCame 34 = .ok (.iastore, 1) := by decide +kernel
theorem dX7_completeIfAllCame_35 : decode cX7_completeIfAllCame 35 = .ok (.return_, 1) := by decide +kernel
