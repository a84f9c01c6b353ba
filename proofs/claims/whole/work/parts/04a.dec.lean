theorem dJ9_abs_0f7a4_0 : decode cJ9_abs_0f7a4 0 = .ok (.iload_n 0, 1) := by decide +kernel
theorem dJ9_abs_0f7a4_1 : decode cJ9_abs_0f7a4 1 = .ok (.ifCond .ge 8, 3) := by decide +kernel
theorem dJ9_abs_0f7a4_4 : decode cJ9_abs_0f7a4 4 = .ok (.iload_n 0, 1) := by decide +kernel
theorem dJ9_abs_0f7a4_5 : decode cJ9_abs_0f7a4 5 = .ok (.ineg, 1) := by decide +kernel
theorem dJ9_abs_0f7a4_6 : decode cJ9_abs_0f7a4 6 = .ok (.goto 4, 3) := by decide +kernel
theorem dJ9_abs_0f7a4_9 : decode cJ9_abs_0f7a4 9 = .ok (.iload_n 0, 1) := by decide +kernel
theorem dJ9_abs_0f7a4_10 : decode cJ9_abs_0f7a4 10 = .ok (.ireturn, 1) := by decide +kernel
theorem dJ9_max_7cf53_0 : decode cJ9_max_7cf53 0 = .ok (.iload_n 0, 1) := by decide +kernel
theorem dJ9_max_7cf53_1 : decode cJ9_max_7cf53 1 = .ok (.iload_n 1, 1) := by decide +kernel
theorem dJ9_max_7cf53_2 : decode cJ9_max_7cf53 2 = .ok (.if_icmp .lt 7, 3) := by decide +kernel
theorem dJ9_max_7cf53_5 : decode cJ9_max_7cf53 5 = .ok (.iload_n 0, 1) := by decide +kernel
theorem dJ9_max_7cf53_6 : decode cJ9_max_7cf53 6 = .ok (.goto 4, 3) := by decide +kernel
theorem dJ9_max_7cf53_9 : decode cJ9_max_7cf53 9 = .ok (.iload_n 1, 1) := by decide +kernel
theorem dJ9_max_7cf53_10 : decode cJ9_max_7cf53 10 = .ok (.ireturn, 1) := by decide +kernel
theorem dJ9_max_f86c9_0 : decode cJ9_max_f86c9 0 = .ok (.lload_n 0, 1) := by decide +kernel
theorem dJ9_max_f86c9_1 : decode cJ9_max_f86c9 1 = .ok (.lload_n 2, 1) := by decide +kernel
theorem dJ9_max_f86c9_2 : decode cJ9_max_f86c9 2 = .ok (.lcmp, 1) := by decide +kernel
theorem dJ9_max_f86c9_3 : decode cJ9_max_f86c9 3 = .ok (.ifCond .lt 7, 3) := by decide +kernel
theorem dJ9_max_f86c9_6 : decode cJ9_max_f86c9 6 = .ok (.lload_n 0, 1) := by decide +kernel
theorem dJ9_max_f86c9_7 : decode cJ9_max_f86c9 7 = .ok (.goto 4, 3) := by decide +kernel
theorem dJ9_max_f86c9_10 : decode cJ9_max_f86c9 10 = .ok (.lload_n 2, 1) := by decide +kernel
theorem dJ9_max_f86c9_11 : decode cJ9_max_f86c9 11 = .ok (.lreturn, 1) := by decide +kernel
theorem dJ9_min_7cf53_0 : decode cJ9_min_7cf53 0 = .ok (.iload_n 0, 1) := by decide +kernel
theorem dJ9_min_7cf53_1 : decode cJ9_min_7cf53 1 = .ok (.iload_n 1, 1) := by decide +kernel
theorem dJ9_min_7cf53_2 : decode cJ9_min_7cf53 2 = .ok (.if_icmp .gt 7, 3) := by decide +kernel
theorem dJ9_min_7cf53_5 : decode cJ9_min_7cf53 5 = .ok (.iload_n 0, 1) := by decide +kernel
theorem dJ9_min_7cf53_6 : decode cJ9_min_7cf53 6 = .ok (.goto 4, 3) := by decide +kernel
theorem dJ9_min_7cf53_9 : decode cJ9_min_7cf53 9 = .ok (.iload_n 1, 1) := by decide +kernel
theorem dJ9_min_7cf53_10 : decode cJ9_min_7cf53 10 = .ok (.ireturn, 1) := by decide +kernel
theorem dJ0_length_8abf5_0 : decode cJ0_length_8abf5 0 = .ok (.aload_n 0, 1) := by decide +kernel
theorem dJ0_length_8abf5_1 : decode cJ0_length_8abf5 1 = .ok (.getfield 9, 3) := by decide +kernel
theorem dJ0_length_8abf5_4 : decode cJ0_length_8abf5 4 = .ok (.arraylength, 1) := by decide +kernel
theorem dJ0_length_8abf5_5 : decode cJ0_length_8abf5 5 = .ok (.aload_n 0, 1) := by decide +kernel
theorem dJ0_length_8abf5_6 : decode cJ0_length_8abf5 6 = .ok (.invokevirtual 335, 3) := by decide +kernel
theorem dJ0_length_8abf5_9 : decode cJ0_length_8abf5 9 = .ok (.ishr, 1) := by decide +kernel
theorem dJ0_length_8abf5_10 : decode cJ0_length_8abf5 10 = .ok (.ireturn, 1) := by decide +kernel
theorem dJ0_charAt_5068e_0 : decode cJ0_charAt_5068e 0 = .ok (.aload_n 0, 1) := by decide +kernel
theorem dJ0_charAt_5068e_1 : decode cJ0_charAt_5068e 1 = .ok (.invokevirtual 492, 3) := by decide +kernel
theorem dJ0_charAt_5068e_4 : decode cJ0_charAt_5068e 4 = .ok (.ifCond .eq 12, 3) := by decide +kernel
theorem dJ0_charAt_5068e_7 : decode cJ0_charAt_5068e 7 = .ok (.aload_n 0, 1) := by decide +kernel
theorem dJ0_charAt_5068e_8 : decode cJ0_charAt_5068e 8 = .ok (.getfield 9, 3) := by decide +kernel
theorem dJ0_charAt_5068e_11 : decode cJ0_charAt_5068e 11 = .ok (.iload_n 1, 1) := by decide +kernel
theorem dJ0_charAt_5068e_12 : decode cJ0_charAt_5068e 12 = .ok (.invokestatic 495, 3) := by decide +kernel
theorem dJ0_charAt_5068e_15 : decode cJ0_charAt_5068e 15 = .ok (.ireturn, 1) := by decide +kernel
theorem dJ0_charAt_5068e_16 : decode cJ0_charAt_5068e 16 = .ok (.aload_n 0, 1) := by decide +kernel
theorem dJ0_charAt_5068e_17 : decode cJ0_charAt_5068e 17 = .ok (.getfield 9, 3) := by decide +kernel
theorem dJ0_charAt_5068e_20 : decode cJ0_charAt_5068e 20 = .ok (.iload_n 1, 1) := by decide +kernel
theorem dJ0_charAt_5068e_21 : decode cJ0_charAt_5068e 21 = .ok (.invokestatic 498, 3) := by decide +kernel
theorem dJ0_charAt_5068e_24 : decode cJ0_charAt_5068e 24 = .ok (.ireturn, 1) := by decide +kernel
theorem dJ0_coder_7d493_0 : decode cJ0_coder_7d493 0 = .ok (.getstatic 38, 3) := by decide +kernel
theorem dJ0_coder_7d493_3 : decode cJ0_coder_7d493 3 = .ok (.ifCond .eq 10, 3) := by decide +kernel
theorem dJ0_coder_7d493_6 : decode cJ0_coder_7d493 6 = .ok (.aload_n 0, 1) := by decide +kernel
theorem dJ0_coder_7d493_7 : decode cJ0_coder_7d493 7 = .ok (.getfield 15, 3) := by decide +kernel
theorem dJ0_coder_7d493_10 : decode cJ0_coder_7d493 10 = .ok (.goto 4, 3) := by decide +kernel
theorem dJ0_coder_7d493_13 : decode cJ0_coder_7d493 13 = .ok (.iconst 1, 1) := by decide +kernel
theorem dJ0_coder_7d493_14 : decode cJ0_coder_7d493 14 = .ok (.ireturn, 1) := by decide +kernel
theorem dJ0_isLatin1_aae02_0 : decode cJ0_isLatin1_aae02 0 = .ok (.getstatic 38, 3) := by decide +kernel
theorem dJ0_isLatin1_aae02_3 : decode cJ0_isLatin1_aae02 3 = .ok (.ifCond .eq 14, 3) := by decide +kernel
theorem dJ0_isLatin1_aae02_6 : decode cJ0_isLatin1_aae02 6 = .ok (.aload_n 0, 1) := by decide +kernel
theorem dJ0_isLatin1_aae02_7 : decode cJ0_isLatin1_aae02 7 = .ok (.getfield 15, 3) := by decide +kernel
theorem dJ0_isLatin1_aae02_10 : decode cJ0_isLatin1_aae02 10 = .ok (.ifCond .ne 7, 3) := by decide +kernel
theorem dJ0_isLatin1_aae02_13 : decode cJ0_isLatin1_aae02 13 = .ok (.iconst 1, 1) := by decide +kernel
theorem dJ0_isLatin1_aae02_14 : decode cJ0_isLatin1_aae02 14 = .ok (.goto 4, 3) := by decide +kernel
theorem dJ0_isLatin1_aae02_17 : decode cJ0_isLatin1_aae02 17 = .ok (.iconst 0, 1) := by decide +kernel
theorem dJ0_isLatin1_aae02_18 : decode cJ0_isLatin1_aae02 18 = .ok (.ireturn, 1) := by decide +kernel
theorem dJ0_checkIndex_df160_0 : decode cJ0_checkIndex_df160 0 = .ok (.iload_n 0, 1) := by decide +kernel
theorem dJ0_checkIndex_df160_1 : decode cJ0_checkIndex_df160 1 = .ok (.iload_n 1, 1) := by decide +kernel
theorem dJ0_checkIndex_df160_2 : decode cJ0_checkIndex_df160 2 = .ok (.getstatic 1053, 3) := by decide +kernel
theorem dJ0_checkIndex_df160_5 : decode cJ0_checkIndex_df160 5 = .ok (.invokestatic 1059, 3) := by decide +kernel
theorem dJ0_checkIndex_df160_8 : decode cJ0_checkIndex_df160 8 = .ok (.pop, 1) := by decide +kernel
theorem dJ0_checkIndex_df160_9 : decode cJ0_checkIndex_df160 9 = .ok (.return_, 1) := by decide +kernel
theorem dJ1_charAt_3b067_0 : decode cJ1_charAt_3b067 0 = .ok (.iload_n 1, 1) := by decide +kernel
theorem dJ1_charAt_3b067_1 : decode cJ1_charAt_3b067 1 = .ok (.aload_n 0, 1) := by decide +kernel
theorem dJ1_charAt_3b067_2 : decode cJ1_charAt_3b067 2 = .ok (.arraylength, 1) := by decide +kernel
theorem dJ1_charAt_3b067_3 : decode cJ1_charAt_3b067 3 = .ok (.invokestatic 9, 3) := by decide +kernel
theorem dJ1_charAt_3b067_6 : decode cJ1_charAt_3b067 6 = .ok (.aload_n 0, 1) := by decide +kernel
theorem dJ1_charAt_3b067_7 : decode cJ1_charAt_3b067 7 = .ok (.iload_n 1, 1) := by decide +kernel
theorem dJ1_charAt_3b067_8 : decode cJ1_charAt_3b067 8 = .ok (.baload, 1) := by decide +kernel
theorem dJ1_charAt_3b067_9 : decode cJ1_charAt_3b067 9 = .ok (.sipush 255, 3) := by decide +kernel
theorem dJ1_charAt_3b067_12 : decode cJ1_charAt_3b067 12 = .ok (.iand, 1) := by decide +kernel
theorem dJ1_charAt_3b067_13 : decode cJ1_charAt_3b067 13 = .ok (.i2c, 1) := by decide +kernel
theorem dJ1_charAt_3b067_14 : decode cJ1_charAt_3b067 14 = .ok (.ireturn, 1) := by decide +kernel
theorem dJ2_getChar_3b067_0 : decode cJ2_getChar_3b067 0 = .ok (.getstatic 44, 3) := by decide +kernel
theorem dJ2_getChar_3b067_3 : decode cJ2_getChar_3b067 3 = .ok (.ifCond .ne 25, 3) := by decide +kernel
theorem dJ2_getChar_3b067_6 : decode cJ2_getChar_3b067 6 = .ok (.iload_n 1, 1) := by decide +kernel
theorem dJ2_getChar_3b067_7 : decode cJ2_getChar_3b067 7 = .ok (.ifCond .lt 11, 3) := by decide +kernel
theorem dJ2_getChar_3b067_10 : decode cJ2_getChar_3b067 10 = .ok (.iload_n 1, 1) := by decide +kernel
theorem dJ2_getChar_3b067_11 : decode cJ2_getChar_3b067 11 = .ok (.aload_n 0, 1) := by decide +kernel
theorem dJ2_getChar_3b067_12 : decode cJ2_getChar_3b067 12 = .ok (.invokestatic 48, 3) := by decide +kernel
theorem dJ2_getChar_3b067_15 : decode cJ2_getChar_3b067 15 = .ok (.if_icmp .lt 13, 3) := by decide +kernel
theorem dJ2_getChar_3b067_18 : decode cJ2_getChar_3b067 18 = .ok (.new 52, 3) := by decide +kernel
theorem dJ2_getChar_3b067_21 : decode cJ2_getChar_3b067 21 = .ok (.dup, 1) := by decide +kernel
theorem dJ2_getChar_3b067_22 : decode cJ2_getChar_3b067 22 = .ok (.ldc 54, 2) := by decide +kernel
theorem dJ2_getChar_3b067_24 : decode cJ2_getChar_3b067 24 = .ok (.invokespecial 56, 3) := by decide +kernel
theorem dJ2_getChar_3b067_27 : decode cJ2_getChar_3b067 27 = .ok (.athrow, 1) := by decide +kernel
theorem dJ2_getChar_3b067_28 : decode cJ2_getChar_3b067 28 = .ok (.iload_n 1, 1) := by decide +kernel
theorem dJ2_getChar_3b067_29 : decode cJ2_getChar_3b067 29 = .ok (.iconst 1, 1) := by decide +kernel
theorem dJ2_getChar_3b067_30 : decode cJ2_getChar_3b067 30 = .ok (.ishl, 1) := by decide +kernel
theorem dJ2_getChar_3b067_31 : decode cJ2_getChar_3b067 31 = .ok (.istore_n 1, 1) := by decide +kernel
theorem dJ2_getChar_3b067_32 : decode cJ2_getChar_3b067 32 = .ok (.aload_n 0, 1) := by decide +kernel
theorem dJ2_getChar_3b067_33 : decode cJ2_getChar_3b067 33 = .ok (.iload_n 1, 1) := by decide +kernel
theorem dJ2_getChar_3b067_34 : decode cJ2_getChar_3b067 34 = .ok (.iinc 1 1, 3) := by decide +kernel
theorem dJ2_getChar_3b067_37 : decode cJ2_getChar_3b067 37 = .ok (.baload, 1) := by decide +kernel
theorem dJ2_getChar_3b067_38 : decode cJ2_getChar_3b067 38 = .ok (.sipush 255, 3) := by decide +kernel
theorem dJ2_getChar_3b067_41 : decode cJ2_getChar_3b067 41 = .ok (.iand, 1) := by decide +kernel
theorem dJ2_getChar_3b067_42 : decode cJ2_getChar_3b067 42 = .ok (.getstatic 59, 3) := by decide +kernel
theorem dJ2_getChar_3b067_45 : decode cJ2_getChar_3b067 45 = .ok (.ishl, 1) := by decide +kernel
theorem dJ2_getChar_3b067_46 : decode cJ2_getChar_3b067 46 = .ok (.aload_n 0, 1) := by decide +kernel
theorem dJ2_getChar_3b067_47 : decode cJ2_getChar_3b067 47 = .ok (.iload_n 1, 1) := by decide +kernel
theorem dJ2_getChar_3b067_48 : decode cJ2_getChar_3b067 48 = .ok (.baload, 1) := by decide +kernel
theorem dJ2_getChar_3b067_49 : decode cJ2_getChar_3b067 49 = .ok (.sipush 255, 3) := by decide +kernel
theorem dJ2_getChar_3b067_52 : decode cJ2_getChar_3b067 52 = .ok (.iand, 1) := by decide +kernel
theorem dJ2_getChar_3b067_53 : decode cJ2_getChar_3b067 53 = .ok (.getstatic 63, 3) := by decide +kernel
theorem dJ2_getChar_3b067_56 : decode cJ2_getChar_3b067 56 = .ok (.ishl, 1) := by decide +kernel
theorem dJ2_getChar_3b067_57 : decode cJ2_getChar_3b067 57 = .ok (.ior, 1) := by decide +kernel
theorem dJ2_getChar_3b067_58 : decode cJ2_getChar_3b067 58 = .ok (.i2c, 1) := by decide +kernel
theorem dJ2_getChar_3b067_59 : decode cJ2_getChar_3b067 59 = .ok (.ireturn, 1) := by decide +kernel
theorem dJ2_length_9d52b_0 : decode cJ2_length_9d52b 0 = .ok (.aload_n 0, 1) := by decide +kernel
theorem dJ2_length_9d52b_1 : decode cJ2_length_9d52b 1 = .ok (.arraylength, 1) := by decide +kernel
theorem dJ2_length_9d52b_2 : decode cJ2_length_9d52b 2 = .ok (.iconst 1, 1) := by decide +kernel
theorem dJ2_length_9d52b_3 : decode cJ2_length_9d52b 3 = .ok (.ishr, 1) := by decide +kernel
theorem dJ2_length_9d52b_4 : decode cJ2_length_9d52b 4 = .ok (.ireturn, 1) := by decide +kernel
theorem dJ2_charAt_3b067_0 : decode cJ2_charAt_3b067 0 = .ok (.iload_n 1, 1) := by decide +kernel
theorem dJ2_charAt_3b067_1 : decode cJ2_charAt_3b067 1 = .ok (.aload_n 0, 1) := by decide +kernel
theorem dJ2_charAt_3b067_2 : decode cJ2_charAt_3b067 2 = .ok (.invokestatic 67, 3) := by decide +kernel
theorem dJ2_charAt_3b067_5 : decode cJ2_charAt_3b067 5 = .ok (.aload_n 0, 1) := by decide +kernel
theorem dJ2_charAt_3b067_6 : decode cJ2_charAt_3b067 6 = .ok (.iload_n 1, 1) := by decide +kernel
theorem dJ2_charAt_3b067_7 : decode cJ2_charAt_3b067 7 = .ok (.invokestatic 71, 3) := by decide +kernel
theorem dJ2_charAt_3b067_10 : decode cJ2_charAt_3b067 10 = .ok (.ireturn, 1) := by decide +kernel
theorem dJ2_checkIndex_2214a_0 : decode cJ2_checkIndex_2214a 0 = .ok (.iload_n 0, 1) := by decide +kernel
theorem dJ2_checkIndex_2214a_1 : decode cJ2_checkIndex_2214a 1 = .ok (.aload_n 1, 1) := by decide +kernel
theorem dJ2_checkIndex_2214a_2 : decode cJ2_checkIndex_2214a 2 = .ok (.invokestatic 48, 3) := by decide +kernel
theorem dJ2_checkIndex_2214a_5 : decode cJ2_checkIndex_2214a 5 = .ok (.invokestatic 414, 3) := by decide +kernel
theorem dJ2_checkIndex_2214a_8 : decode cJ2_checkIndex_2214a 8 = .ok (.return_, 1) := by decide +kernel
theorem dJ3_checkIndex_8e157_0 : decode cJ3_checkIndex_8e157 0 = .ok (.iload_n 0, 1) := by decide +kernel
theorem dJ3_checkIndex_8e157_1 : decode cJ3_checkIndex_8e157 1 = .ok (.ifCond .lt 8, 3) := by decide +kernel
theorem dJ3_checkIndex_8e157_4 : decode cJ3_checkIndex_8e157 4 = .ok (.iload_n 0, 1) := by decide +kernel
theorem dJ3_checkIndex_8e157_5 : decode cJ3_checkIndex_8e157 5 = .ok (.iload_n 1, 1) := by decide +kernel
theorem dJ3_checkIndex_8e157_6 : decode cJ3_checkIndex_8e157 6 = .ok (.if_icmp .lt 10, 3) := by decide +kernel
theorem dJ3_checkIndex_8e157_9 : decode cJ3_checkIndex_8e157 9 = .ok (.aload_n 2, 1) := by decide +kernel
theorem dJ3_checkIndex_8e157_10 : decode cJ3_checkIndex_8e157 10 = .ok (.iload_n 0, 1) := by decide +kernel
theorem dJ3_checkIndex_8e157_11 : decode cJ3_checkIndex_8e157 11 = .ok (.iload_n 1, 1) := by decide +kernel
theorem dJ3_checkIndex_8e157_12 : decode cJ3_checkIndex_8e157 12 = .ok (.invokestatic 95, 3) := by decide +kernel
theorem dJ3_checkIndex_8e157_15 : decode cJ3_checkIndex_8e157 15 = .ok (.athrow, 1) := by decide +kernel
theorem dJ3_checkIndex_8e157_16 : decode cJ3_checkIndex_8e157 16 = .ok (.iload_n 0, 1) := by decide +kernel
theorem dJ3_checkIndex_8e157_17 : decode cJ3_checkIndex_8e157 17 = .ok (.ireturn, 1) := by decide +kernel
theorem dX0_init_0 : decode cX0_init 0 = .ok (.aload_n 0, 1) := by decide +kernel
theorem dX0_init_1 : decode cX0_init 1 = .ok (.invokespecial 5, 3) := by decide +kernel
theorem dX0_init_4 : decode cX0_init 4 = .ok (.aload_n 0, 1) := by decide +kernel
theorem dX0_init_5 : decode cX0_init 5 = .ok (.iconst 0, 1) := by decide +kernel
theorem dX0_init_6 : decode cX0_init 6 = .ok (.putfield 11, 3) := by decide +kernel
theorem dX0_init_9 : decode cX0_init 9 = .ok (.aload_n 0, 1) := by decide +kernel
theorem dX0_init_10 : decode cX0_init 10 = .ok (.iconst 0, 1) := by decide +kernel
theorem dX0_init_11 : decode cX0_init 11 = .ok (.putfield 15, 3) := by decide +kernel
theorem dX0_init_14 : decode cX0_init 14 = .ok (.aload_n 0, 1) := by decide +kernel
theorem dX0_init_15 : decode cX0_init 15 = .ok (.bipush 12, 2) := by decide +kernel
theorem dX0_init_17 : decode cX0_init 17 = .ok (.newarray .int, 2) := by decide +kernel
theorem dX0_init_19 : decode cX0_init 19 = .ok (.putfield 18, 3) := by decide +kernel
theorem dX0_init_22 : decode cX0_init 22 = .ok (.aload_n 0, 1) := by decide +kernel
theorem dX0_init_23 : decode cX0_init 23 = .ok (.bipush 12, 2) := by decide +kernel
theorem dX0_init_25 : decode cX0_init 25 = .ok (.newarray .int, 2) := by decide +kernel
theorem dX0_init_27 : decode cX0_init 27 = .ok (.putfield 22, 3) := by decide +kernel
theorem dX0_init_30 : decode cX0_init 30 = .ok (.aload_n 0, 1) := by decide +kernel
theorem dX0_init_31 : decode cX0_init 31 = .ok (.bipush 12, 2) := by decide +kernel
theorem dX0_init_33 : decode cX0_init 33 = .ok (.newarray .int, 2) := by decide +kernel
theorem dX0_init_35 : decode cX0_init 35 = .ok (.putfield 25, 3) := by decide +kernel
theorem dX0_init_38 : decode cX0_init 38 = .ok (.aload_n 0, 1) := by decide +kernel
theorem dX0_init_39 : decode cX0_init 39 = .ok (.bipush 12, 2) := by decide +kernel
theorem dX0_init_41 : decode cX0_init 41 = .ok (.newarray .int, 2) := by decide +kernel
theorem dX0_init_43 : decode cX0_init 43 = .ok (.putfield 28, 3) := by decide +kernel
theorem dX0_init_46 : decode cX0_init 46 = .ok (.aload_n 0, 1) := by decide +kernel
theorem dX0_init_47 : decode cX0_init 47 = .ok (.bipush 12, 2) := by decide +kernel
theorem dX0_init_49 : decode cX0_init 49 = .ok (.newarray .int, 2) := by decide +kernel
theorem dX0_init_51 : decode cX0_init 51 = .ok (.putfield 31, 3) := by decide +kernel
theorem dX0_init_54 : decode cX0_init 54 = .ok (.aload_n 0, 1) := by decide +kernel
theorem dX0_init_55 : decode cX0_init 55 = .ok (.sipush 2028, 3) := by decide +kernel
theorem dX0_init_58 : decode cX0_init 58 = .ok (.newarray .int, 2) := by decide +kernel
theorem dX0_init_60 : decode cX0_init 60 = .ok (.putfield 34, 3) := by decide +kernel
theorem dX0_init_63 : decode cX0_init 63 = .ok (.aload_n 0, 1) := by decide +kernel
theorem dX0_init_64 : decode cX0_init 64 = .ok (.sipush 169, 3) := by decide +kernel
theorem dX0_init_67 : decode cX0_init 67 = .ok (.newarray .int, 2) := by decide +kernel
theorem dX0_init_69 : decode cX0_init 69 = .ok (.putfield 37, 3) := by decide +kernel
theorem dX0_init_72 : decode cX0_init 72 = .ok (.aload_n 0, 1) := by decide +kernel
theorem dX0_init_73 : decode cX0_init 73 = .ok (.aload_n 1, 1) := by decide +kernel
theorem dX0_init_74 : decode cX0_init 74 = .ok (.putfield 40, 3) := by decide +kernel
theorem dX0_init_77 : decode cX0_init 77 = .ok (.aload_n 0, 1) := by decide +kernel
theorem dX0_init_78 : decode cX0_init 78 = .ok (.aload_n 2, 1) := by decide +kernel
theorem dX0_init_79 : decode cX0_init 79 = .ok (.putfield 44, 3) := by decide +kernel
theorem dX0_init_82 : decode cX0_init 82 = .ok (.return_, 1) := by decide +kernel
theorem dX0_append_0 : decode cX0_append 0 = .ok (.aload_n 0, 1) := by decide +kernel
theorem dX0_append_1 : decode cX0_append 1 = .ok (.getfield 11, 3) := by decide +kernel
theorem dX0_append_4 : decode cX0_append 4 = .ok (.bipush 12, 2) := by decide +kernel
theorem dX0_append_6 : decode cX0_append 6 = .ok (.if_icmp .ge 25, 3) := by decide +kernel
theorem dX0_append_9 : decode cX0_append 9 = .ok (.aload_n 0, 1) := by decide +kernel
theorem dX0_append_10 : decode cX0_append 10 = .ok (.getfield 11, 3) := by decide +kernel
theorem dX0_append_13 : decode cX0_append 13 = .ok (.ifCond .le 20, 3) := by decide +kernel
theorem dX0_append_16 : decode cX0_append 16 = .ok (.aload_n 0, 1) := by decide +kernel
theorem dX0_append_17 : decode cX0_append 17 = .ok (.getfield 25, 3) := by decide +kernel
theorem dX0_append_20 : decode cX0_append 20 = .ok (.aload_n 0, 1) := by decide +kernel
theorem dX0_append_21 : decode cX0_append 21 = .ok (.getfield 11, 3) := by decide +kernel
theorem dX0_append_24 : decode cX0_append 24 = .ok (.iconst 1, 1) := by decide +kernel
theorem dX0_append_25 : decode cX0_append 25 = .ok (.isub, 1) := by decide +kernel
theorem dX0_append_26 : decode cX0_append 26 = .ok (.iaload, 1) := by decide +kernel
theorem dX0_append_27 : decode cX0_append 27 = .ok (.iload_n 1, 1) := by decide +kernel
theorem dX0_append_28 : decode cX0_append 28 = .ok (.if_icmp .lt 5, 3) := by decide +kernel
theorem dX0_append_31 : decode cX0_append 31 = .ok (.iconst (-1), 1) := by decide +kernel
theorem dX0_append_32 : decode cX0_append 32 = .ok (.ireturn, 1) := by decide +kernel
theorem dX0_append_33 : decode cX0_append 33 = .ok (.aload_n 0, 1) := by decide +kernel
theorem dX0_append_34 : decode cX0_append 34 = .ok (.getfield 25, 3) := by decide +kernel
theorem dX0_append_37 : decode cX0_append 37 = .ok (.aload_n 0, 1) := by decide +kernel
theorem dX0_append_38 : decode cX0_append 38 = .ok (.getfield 11, 3) := by decide +kernel
theorem dX0_append_41 : decode cX0_append 41 = .ok (.iload_n 1, 1) := by decide +kernel
theorem dX0_append_42 : decode cX0_append 42 = .ok (.iastore, 1) := by decide +kernel
theorem dX0_append_43 : decode cX0_append 43 = .ok (.aload_n 0, 1) := by decide +kernel
theorem dX0_append_44 : decode cX0_append 44 = .ok (.getfield 28, 3) := by decide +kernel
theorem dX0_append_47 : decode cX0_append 47 = .ok (.aload_n 0, 1) := by decide +kernel
theorem dX0_append_48 : decode cX0_append 48 = .ok (.getfield 11, 3) := by decide +kernel
theorem dX0_append_51 : decode cX0_append 51 = .ok (.iload_n 2, 1) := by decide +kernel
theorem dX0_append_52 : decode cX0_append 52 = .ok (.iastore, 1) := by decide +kernel
theorem dX0_append_53 : decode cX0_append 53 = .ok (.aload_n 0, 1) := by decide +kernel
theorem dX0_append_54 : decode cX0_append 54 = .ok (.getfield 31, 3) := by decide +kernel
theorem dX0_append_57 : decode cX0_append 57 = .ok (.aload_n 0, 1) := by decide +kernel
theorem dX0_append_58 : decode cX0_append 58 = .ok (.getfield 11, 3) := by decide +kernel
theorem dX0_append_61 : decode cX0_append 61 = .ok (.iload_n 3, 1) := by decide +kernel
theorem dX0_append_62 : decode cX0_append 62 = .ok (.iastore, 1) := by decide +kernel
theorem dX0_append_63 : decode cX0_append 63 = .ok (.aload_n 0, 1) := by decide +kernel
theorem dX0_append_64 : decode cX0_append 64 = .ok (.dup, 1) := by decide +kernel
theorem dX0_append_65 : decode cX0_append 65 = .ok (.getfield 11, 3) := by decide +kernel
theorem dX0_append_68 : decode cX0_append 68 = .ok (.iconst 1, 1) := by decide +kernel
theorem dX0_append_69 : decode cX0_append 69 = .ok (.iadd, 1) := by decide +kernel
theorem dX0_append_70 : decode cX0_append 70 = .ok (.putfield 11, 3) := by decide +kernel
theorem dX0_append_73 : decode cX0_append 73 = .ok (.aload_n 0, 1) := by decide +kernel
theorem dX0_append_74 : decode cX0_append 74 = .ok (.getfield 11, 3) := by decide +kernel
theorem dX0_append_77 : decode cX0_append 77 = .ok (.ireturn, 1) := by decide +kernel
theorem dX0_removeAll_0 : decode cX0_removeAll 0 = .ok (.aload_n 0, 1) := by decide +kernel
theorem dX0_removeAll_1 : decode cX0_removeAll 1 = .ok (.getfield 11, 3) := by decide +kernel
theorem dX0_removeAll_4 : decode cX0_removeAll 4 = .ok (.istore_n 1, 1) := by decide +kernel
theorem dX0_removeAll_5 : decode cX0_removeAll 5 = .ok (.aload_n 0, 1) := by decide +kernel
theorem dX0_removeAll_6 : decode cX0_removeAll 6 = .ok (.iconst 0, 1) := by decide +kernel
theorem dX0_removeAll_7 : decode cX0_removeAll 7 = .ok (.putfield 11, 3) := by decide +kernel
theorem dX0_removeAll_10 : decode cX0_removeAll 10 = .ok (.iload_n 1, 1) := by decide +kernel
theorem dX0_removeAll_11 : decode cX0_removeAll 11 = .ok (.ireturn, 1) := by decide +kernel
theorem dX0_latestAhead_0 : decode cX0_latestAhead 0 = .ok (.iconst (-1), 1) := by decide +kernel
theorem dX0_latestAhead_1 : decode cX0_latestAhead 1 = .ok (.istore_n 2, 1) := by decide +kernel
theorem dX0_latestAhead_2 : decode cX0_latestAhead 2 = .ok (.iconst 0, 1) := by decide +kernel
theorem dX0_latestAhead_3 : decode cX0_latestAhead 3 = .ok (.istore_n 3, 1) := by decide +kernel
theorem dX0_latestAhead_4 : decode cX0_latestAhead 4 = .ok (.iload_n 3, 1) := by decide +kernel
theorem dX0_latestAhead_5 : decode cX0_latestAhead 5 = .ok (.aload_n 0, 1) := by decide +kernel
theorem dX0_latestAhead_6 : decode cX0_latestAhead 6 = .ok (.getfield 11, 3) := by decide +kernel
theorem dX0_latestAhead_9 : decode cX0_latestAhead 9 = .ok (.if_icmp .ge 21, 3) := by decide +kernel
theorem dX0_latestAhead_12 : decode cX0_latestAhead 12 = .ok (.aload_n 0, 1) := by decide +kernel
theorem dX0_latestAhead_13 : decode cX0_latestAhead 13 = .ok (.getfield 25, 3) := by decide +kernel
theorem dX0_latestAhead_16 : decode cX0_latestAhead 16 = .ok (.iload_n 3, 1) := by decide +kernel
theorem dX0_latestAhead_17 : decode cX0_latestAhead 17 = .ok (.iaload, 1) := by decide +kernel
theorem dX0_latestAhead_18 : decode cX0_latestAhead 18 = .ok (.iload_n 1, 1) := by decide +kernel
theorem dX0_latestAhead_19 : decode cX0_latestAhead 19 = .ok (.if_icmp .ge 11, 3) := by decide +kernel
theorem dX0_latestAhead_22 : decode cX0_latestAhead 22 = .ok (.iload_n 3, 1) := by decide +kernel
theorem dX0_latestAhead_23 : decode cX0_latestAhead 23 = .ok (.istore_n 2, 1) := by decide +kernel
theorem dX0_latestAhead_24 : decode cX0_latestAhead 24 = .ok (.iinc 3 1, 3) := by decide +kernel
theorem dX0_latestAhead_27 : decode cX0_latestAhead 27 = .ok (.goto (-23), 3) := by decide +kernel
theorem dX0_latestAhead_30 : decode cX0_latestAhead 30 = .ok (.iload_n 2, 1) := by decide +kernel
theorem dX0_latestAhead_31 : decode cX0_latestAhead 31 = .ok (.ireturn, 1) := by decide +kernel
theorem dX0_solve_0 : decode cX0_solve 0 = .ok (.iconst 0, 1) := by decide +kernel
theorem dX0_solve_1 : decode cX0_solve 1 = .ok (.istore_n 2, 1) := by decide +kernel
theorem dX0_solve_2 : decode cX0_solve 2 = .ok (.iload_n 2, 1) := by decide +kernel
theorem dX0_solve_3 : decode cX0_solve 3 = .ok (.sipush 169, 3) := by decide +kernel
theorem dX0_solve_6 : decode cX0_solve 6 = .ok (.if_icmp .ge 16, 3) := by decide +kernel
theorem dX0_solve_9 : decode cX0_solve 9 = .ok (.aload_n 0, 1) := by decide +kernel
theorem dX0_solve_10 : decode cX0_solve 10 = .ok (.getfield 37, 3) := by decide +kernel
theorem dX0_solve_13 : decode cX0_solve 13 = .ok (.iload_n 2, 1) := by decide +kernel
theorem dX0_solve_14 : decode cX0_solve 14 = .ok (.iconst 0, 1) := by decide +kernel
theorem dX0_solve_15 : decode cX0_solve 15 = .ok (.iastore, 1) := by decide +kernel
theorem dX0_solve_16 : decode cX0_solve 16 = .ok (.iinc 2 1, 3) := by decide +kernel
theorem dX0_solve_19 : decode cX0_solve 19 = .ok (.goto (-17), 3) := by decide +kernel
theorem dX0_solve_22 : decode cX0_solve 22 = .ok (.aload_n 0, 1) := by decide +kernel
theorem dX0_solve_23 : decode cX0_solve 23 = .ok (.getfield 11, 3) := by decide +kernel
theorem dX0_solve_26 : decode cX0_solve 26 = .ok (.iconst 1, 1) := by decide +kernel
theorem dX0_solve_27 : decode cX0_solve 27 = .ok (.isub, 1) := by decide +kernel
theorem dX0_solve_28 : decode cX0_solve 28 = .ok (.istore_n 2, 1) := by decide +kernel
theorem dX0_solve_29 : decode cX0_solve 29 = .ok (.iload_n 2, 1) := by decide +kernel
theorem dX0_solve_30 : decode cX0_solve 30 = .ok (.ifCond .lt 19, 3) := by decide +kernel
theorem dX0_solve_33 : decode cX0_solve 33 = .ok (.aload_n 0, 1) := by decide +kernel
theorem dX0_solve_34 : decode cX0_solve 34 = .ok (.iload_n 2, 1) := by decide +kernel
theorem dX0_solve_35 : decode cX0_solve 35 = .ok (.iload_n 1, 1) := by decide +kernel
theorem dX0_solve_36 : decode cX0_solve 36 = .ok (.invokevirtual 48, 3) := by decide +kernel
theorem dX0_solve_39 : decode cX0_solve 39 = .ok (.aload_n 0, 1) := by decide +kernel
theorem dX0_solve_40 : decode cX0_solve 40 = .ok (.invokevirtual 52, 3) := by decide +kernel
theorem dX0_solve_43 : decode cX0_solve 43 = .ok (.iinc 2 (-1), 3) := by decide +kernel
theorem dX0_solve_46 : decode cX0_solve 46 = .ok (.goto (-17), 3) := by decide +kernel
theorem dX0_solve_49 : decode cX0_solve 49 = .ok (.aload_n 0, 1) := by decide +kernel
theorem dX0_solve_50 : decode cX0_solve 50 = .ok (.aload_n 0, 1) := by decide +kernel
theorem dX0_solve_51 : decode cX0_solve 51 = .ok (.getfield 11, 3) := by decide +kernel
theorem dX0_solve_54 : decode cX0_solve 54 = .ok (.ifCond .ne 7, 3) := by decide +kernel
theorem dX0_solve_57 : decode cX0_solve 57 = .ok (.iconst 0, 1) := by decide +kernel
theorem dX0_solve_58 : decode cX0_solve 58 = .ok (.goto 10, 3) := by decide +kernel
theorem dX0_solve_61 : decode cX0_solve 61 = .ok (.aload_n 0, 1) := by decide +kernel
theorem dX0_solve_62 : decode cX0_solve 62 = .ok (.getfield 37, 3) := by decide +kernel
theorem dX0_solve_65 : decode cX0_solve 65 = .ok (.bipush 84, 2) := by decide +kernel
theorem dX0_solve_67 : decode cX0_solve 67 = .ok (.iaload, 1) := by decide +kernel
theorem dX0_solve_68 : decode cX0_solve 68 = .ok (.putfield 15, 3) := by decide +kernel
theorem dX0_solve_71 : decode cX0_solve 71 = .ok (.aload_n 0, 1) := by decide +kernel
theorem dX0_solve_72 : decode cX0_solve 72 = .ok (.getfield 15, 3) := by decide +kernel
theorem dX0_solve_75 : decode cX0_solve 75 = .ok (.ldc 55, 2) := by decide +kernel
theorem dX0_solve_77 : decode cX0_solve 77 = .ok (.if_icmp .lt 5, 3) := by decide +kernel
theorem dX0_solve_80 : decode cX0_solve 80 = .ok (.iconst 0, 1) := by decide +kernel
theorem dX0_solve_81 : decode cX0_solve 81 = .ok (.ireturn, 1) := by decide +kernel
theorem dX0_solve_82 : decode cX0_solve 82 = .ok (.aload_n 0, 1) := by decide +kernel
theorem dX0_solve_83 : decode cX0_solve 83 = .ok (.invokevirtual 56, 3) := by decide +kernel
theorem dX0_solve_86 : decode cX0_solve 86 = .ok (.iconst 1, 1) := by decide +kernel
theorem dX0_solve_87 : decode cX0_solve 87 = .ok (.ireturn, 1) := by decide +kernel
theorem dX0_weigh_0 : decode cX0_weigh 0 = .ok (.iconst 0, 1) := by decide +kernel
theorem dX0_weigh_1 : decode cX0_weigh 1 = .ok (.istore_n 3, 1) := by decide +kernel
theorem dX0_weigh_2 : decode cX0_weigh 2 = .ok (.iload_n 3, 1) := by decide +kernel
theorem dX0_weigh_3 : decode cX0_weigh 3 = .ok (.sipush 169, 3) := by decide +kernel
theorem dX0_weigh_6 : decode cX0_weigh 6 = .ok (.if_icmp .ge 67, 3) := by decide +kernel
theorem dX0_weigh_9 : decode cX0_weigh 9 = .ok (.aload_n 0, 1) := by decide +kernel
theorem dX0_weigh_10 : decode cX0_weigh 10 = .ok (.iload_n 1, 1) := by decide +kernel
theorem dX0_weigh_11 : decode cX0_weigh 11 = .ok (.iload_n 3, 1) := by decide +kernel
theorem dX0_weigh_12 : decode cX0_weigh 12 = .ok (.bipush 13, 2) := by decide +kernel
theorem dX0_weigh_14 : decode cX0_weigh 14 = .ok (.idiv, 1) := by decide +kernel
theorem dX0_weigh_15 : decode cX0_weigh 15 = .ok (.bipush 6, 2) := by decide +kernel
theorem dX0_weigh_17 : decode cX0_weigh 17 = .ok (.isub, 1) := by decide +kernel
theorem dX0_weigh_18 : decode cX0_weigh 18 = .ok (.iload_n 3, 1) := by decide +kernel
theorem dX0_weigh_19 : decode cX0_weigh 19 = .ok (.bipush 13, 2) := by decide +kernel
theorem dX0_weigh_21 : decode cX0_weigh 21 = .ok (.irem, 1) := by decide +kernel
theorem dX0_weigh_22 : decode cX0_weigh 22 = .ok (.bipush 6, 2) := by decide +kernel
theorem dX0_weigh_24 : decode cX0_weigh 24 = .ok (.isub, 1) := by decide +kernel
theorem dX0_weigh_25 : decode cX0_weigh 25 = .ok (.iload_n 2, 1) := by decide +kernel
theorem dX0_weigh_26 : decode cX0_weigh 26 = .ok (.invokevirtual 59, 3) := by decide +kernel
theorem dX0_weigh_29 : decode cX0_weigh 29 = .ok (.ifCond .eq 12, 3) := by decide +kernel
theorem dX0_weigh_32 : decode cX0_weigh 32 = .ok (.aload_n 0, 1) := by decide +kernel
theorem dX0_weigh_33 : decode cX0_weigh 33 = .ok (.getfield 37, 3) := by decide +kernel
theorem dX0_weigh_36 : decode cX0_weigh 36 = .ok (.iload_n 3, 1) := by decide +kernel
theorem dX0_weigh_37 : decode cX0_weigh 37 = .ok (.iaload, 1) := by decide +kernel
theorem dX0_weigh_38 : decode cX0_weigh 38 = .ok (.goto 5, 3) := by decide +kernel
theorem dX0_weigh_41 : decode cX0_weigh 41 = .ok (.ldc 55, 2) := by decide +kernel
theorem dX0_weigh_43 : decode cX0_weigh 43 = .ok (.istore 4, 2) := by decide +kernel
theorem dX0_weigh_45 : decode cX0_weigh 45 = .ok (.aload_n 0, 1) := by decide +kernel
theorem dX0_weigh_46 : decode cX0_weigh 46 = .ok (.getfield 34, 3) := by decide +kernel
theorem dX0_weigh_49 : decode cX0_weigh 49 = .ok (.iload_n 1, 1) := by decide +kernel
theorem dX0_weigh_50 : decode cX0_weigh 50 = .ok (.sipush 169, 3) := by decide +kernel
theorem dX0_weigh_53 : decode cX0_weigh 53 = .ok (.imul, 1) := by decide +kernel
theorem dX0_weigh_54 : decode cX0_weigh 54 = .ok (.iload_n 3, 1) := by decide +kernel
theorem dX0_weigh_55 : decode cX0_weigh 55 = .ok (.iadd, 1) := by decide +kernel
theorem dX0_weigh_56 : decode cX0_weigh 56 = .ok (.iload 4, 2) := by decide +kernel
theorem dX0_weigh_58 : decode cX0_weigh 58 = .ok (.iastore, 1) := by decide +kernel
theorem dX0_weigh_59 : decode cX0_weigh 59 = .ok (.aload_n 0, 1) := by decide +kernel
theorem dX0_weigh_60 : decode cX0_weigh 60 = .ok (.getfield 37, 3) := by decide +kernel
theorem dX0_weigh_63 : decode cX0_weigh 63 = .ok (.iload_n 3, 1) := by decide +kernel
theorem dX0_weigh_64 : decode cX0_weigh 64 = .ok (.iload 4, 2) := by decide +kernel
theorem dX0_weigh_66 : decode cX0_weigh 66 = .ok (.iastore, 1) := by decide +kernel
theorem dX0_weigh_67 : decode cX0_weigh 67 = .ok (.iinc 3 1, 3) := by decide +kernel
theorem dX0_weigh_70 : decode cX0_weigh 70 = .ok (.goto (-68), 3) := by decide +kernel
theorem dX0_weigh_73 : decode cX0_weigh 73 = .ok (.return_, 1) := by decide +kernel
theorem dX0_fits_0 : decode cX0_fits 0 = .ok (.aload_n 0, 1) := by decide +kernel
theorem dX0_fits_1 : decode cX0_fits 1 = .ok (.getfield 25, 3) := by decide +kernel
theorem dX0_fits_4 : decode cX0_fits 4 = .ok (.iload_n 1, 1) := by decide +kernel
theorem dX0_fits_5 : decode cX0_fits 5 = .ok (.iaload, 1) := by decide +kernel
theorem dX0_fits_6 : decode cX0_fits 6 = .ok (.istore 5, 2) := by decide +kernel
theorem dX0_fits_8 : decode cX0_fits 8 = .ok (.aload_n 0, 1) := by decide +kernel
theorem dX0_fits_9 : decode cX0_fits 9 = .ok (.getfield 44, 3) := by decide +kernel
theorem dX0_fits_12 : decode cX0_fits 12 = .ok (.iload 5, 2) := by decide +kernel
theorem dX0_fits_14 : decode cX0_fits 14 = .ok (.invokevirtual 63, 3) := by decide +kernel
theorem dX0_fits_17 : decode cX0_fits 17 = .ok (.ifCond .ne 5, 3) := by decide +kernel
theorem dX0_fits_20 : decode cX0_fits 20 = .ok (.iconst 0, 1) := by decide +kernel
theorem dX0_fits_21 : decode cX0_fits 21 = .ok (.ireturn, 1) := by decide +kernel
theorem dX0_fits_22 : decode cX0_fits 22 = .ok (.aload_n 0, 1) := by decide +kernel
theorem dX0_fits_23 : decode cX0_fits 23 = .ok (.getfield 40, 3) := by decide +kernel
theorem dX0_fits_26 : decode cX0_fits 26 = .ok (.aload_n 0, 1) := by decide +kernel
theorem dX0_fits_27 : decode cX0_fits 27 = .ok (.getfield 44, 3) := by decide +kernel
theorem dX0_fits_30 : decode cX0_fits 30 = .ok (.getfield 69, 3) := by decide +kernel
theorem dX0_fits_33 : decode cX0_fits 33 = .ok (.iload 5, 2) := by decide +kernel
theorem dX0_fits_35 : decode cX0_fits 35 = .ok (.iconst 1, 1) := by decide +kernel
theorem dX0_fits_36 : decode cX0_fits 36 = .ok (.iadd, 1) := by decide +kernel
theorem dX0_fits_37 : decode cX0_fits 37 = .ok (.iaload, 1) := by decide +kernel
theorem dX0_fits_38 : decode cX0_fits 38 = .ok (.iload_n 2, 1) := by decide +kernel
theorem dX0_fits_39 : decode cX0_fits 39 = .ok (.iadd, 1) := by decide +kernel
theorem dX0_fits_40 : decode cX0_fits 40 = .ok (.i2l, 1) := by decide +kernel
theorem dX0_fits_41 : decode cX0_fits 41 = .ok (.aload_n 0, 1) := by decide +kernel
theorem dX0_fits_42 : decode cX0_fits 42 = .ok (.getfield 44, 3) := by decide +kernel
theorem dX0_fits_45 : decode cX0_fits 45 = .ok (.getfield 72, 3) := by decide +kernel
theorem dX0_fits_48 : decode cX0_fits 48 = .ok (.iload 5, 2) := by decide +kernel
theorem dX0_fits_50 : decode cX0_fits 50 = .ok (.iconst 1, 1) := by decide +kernel
theorem dX0_fits_51 : decode cX0_fits 51 = .ok (.iadd, 1) := by decide +kernel
theorem dX0_fits_52 : decode cX0_fits 52 = .ok (.iaload, 1) := by decide +kernel
theorem dX0_fits_53 : decode cX0_fits 53 = .ok (.iload_n 3, 1) := by decide +kernel
theorem dX0_fits_54 : decode cX0_fits 54 = .ok (.iadd, 1) := by decide +kernel
theorem dX0_fits_55 : decode cX0_fits 55 = .ok (.i2l, 1) := by decide +kernel
theorem dX0_fits_56 : decode cX0_fits 56 = .ok (.invokevirtual 75, 3) := by decide +kernel
theorem dX0_fits_59 : decode cX0_fits 59 = .ok (.aload_n 0, 1) := by decide +kernel
theorem dX0_fits_60 : decode cX0_fits 60 = .ok (.getfield 40, 3) := by decide +kernel
theorem dX0_fits_63 : decode cX0_fits 63 = .ok (.getfield 81, 3) := by decide +kernel
theorem dX0_fits_66 : decode cX0_fits 66 = .ok (.aload_n 0, 1) := by decide +kernel
theorem dX0_fits_67 : decode cX0_fits 67 = .ok (.getfield 28, 3) := by decide +kernel
theorem dX0_fits_70 : decode cX0_fits 70 = .ok (.iload_n 1, 1) := by decide +kernel
theorem dX0_fits_71 : decode cX0_fits 71 = .ok (.iaload, 1) := by decide +kernel
theorem dX0_fits_72 : decode cX0_fits 72 = .ok (.i2l, 1) := by decide +kernel
theorem dX0_fits_73 : decode cX0_fits 73 = .ok (.lsub, 1) := by decide +kernel
theorem dX0_fits_74 : decode cX0_fits 74 = .ok (.invokestatic 85, 3) := by decide +kernel
theorem dX0_fits_77 : decode cX0_fits 77 = .ok (.iload 4, 2) := by decide +kernel
theorem dX0_fits_79 : decode cX0_fits 79 = .ok (.i2l, 1) := by decide +kernel
theorem dX0_fits_80 : decode cX0_fits 80 = .ok (.lcmp, 1) := by decide +kernel
theorem dX0_fits_81 : decode cX0_fits 81 = .ok (.ifCond .gt 32, 3) := by decide +kernel
theorem dX0_fits_84 : decode cX0_fits 84 = .ok (.aload_n 0, 1) := by decide +kernel
theorem dX0_fits_85 : decode cX0_fits 85 = .ok (.getfield 40, 3) := by decide +kernel
theorem dX0_fits_88 : decode cX0_fits 88 = .ok (.getfield 89, 3) := by decide +kernel
theorem dX0_fits_91 : decode cX0_fits 91 = .ok (.aload_n 0, 1) := by decide +kernel
theorem dX0_fits_92 : decode cX0_fits 92 = .ok (.getfield 31, 3) := by decide +kernel
theorem dX0_fits_95 : decode cX0_fits 95 = .ok (.iload_n 1, 1) := by decide +kernel
theorem dX0_fits_96 : decode cX0_fits 96 = .ok (.iaload, 1) := by decide +kernel
theorem dX0_fits_97 : decode cX0_fits 97 = .ok (.i2l, 1) := by decide +kernel
theorem dX0_fits_98 : decode cX0_fits 98 = .ok (.lsub, 1) := by decide +kernel
theorem dX0_fits_99 : decode cX0_fits 99 = .ok (.invokestatic 85, 3) := by decide +kernel
theorem dX0_fits_102 : decode cX0_fits 102 = .ok (.iload 4, 2) := by decide +kernel
theorem dX0_fits_104 : decode cX0_fits 104 = .ok (.i2l, 1) := by decide +kernel
theorem dX0_fits_105 : decode cX0_fits 105 = .ok (.lcmp, 1) := by decide +kernel
theorem dX0_fits_106 : decode cX0_fits 106 = .ok (.ifCond .gt 7, 3) := by decide +kernel
theorem dX0_fits_109 : decode cX0_fits 109 = .ok (.iconst 1, 1) := by decide +kernel
theorem dX0_fits_110 : decode cX0_fits 110 = .ok (.goto 4, 3) := by decide +kernel
theorem dX0_fits_113 : decode cX0_fits 113 = .ok (.iconst 0, 1) := by decide +kernel
theorem dX0_fits_114 : decode cX0_fits 114 = .ok (.ireturn, 1) := by decide +kernel
theorem dX0_spread_0 : decode cX0_spread 0 = .ok (.iconst 0, 1) := by decide +kernel
theorem dX0_spread_1 : decode cX0_spread 1 = .ok (.istore_n 1, 1) := by decide +kernel
theorem dX0_spread_2 : decode cX0_spread 2 = .ok (.iload_n 1, 1) := by decide +kernel
theorem dX0_spread_3 : decode cX0_spread 3 = .ok (.sipush 169, 3) := by decide +kernel
theorem dX0_spread_6 : decode cX0_spread 6 = .ok (.if_icmp .ge 73, 3) := by decide +kernel
theorem dX0_spread_9 : decode cX0_spread 9 = .ok (.iload_n 1, 1) := by decide +kernel
theorem dX0_spread_10 : decode cX0_spread 10 = .ok (.bipush 13, 2) := by decide +kernel
theorem dX0_spread_12 : decode cX0_spread 12 = .ok (.if_icmp .lt 29, 3) := by decide +kernel
theorem dX0_spread_15 : decode cX0_spread 15 = .ok (.aload_n 0, 1) := by decide +kernel
theorem dX0_spread_16 : decode cX0_spread 16 = .ok (.getfield 37, 3) := by decide +kernel
theorem dX0_spread_19 : decode cX0_spread 19 = .ok (.iload_n 1, 1) := by decide +kernel
theorem dX0_spread_20 : decode cX0_spread 20 = .ok (.aload_n 0, 1) := by decide +kernel
theorem dX0_spread_21 : decode cX0_spread 21 = .ok (.getfield 37, 3) := by decide +kernel
theorem dX0_spread_24 : decode cX0_spread 24 = .ok (.iload_n 1, 1) := by decide +kernel
theorem dX0_spread_25 : decode cX0_spread 25 = .ok (.iaload, 1) := by decide +kernel
theorem dX0_spread_26 : decode cX0_spread 26 = .ok (.aload_n 0, 1) := by decide +kernel
theorem dX0_spread_27 : decode cX0_spread 27 = .ok (.getfield 37, 3) := by decide +kernel
theorem dX0_spread_30 : decode cX0_spread 30 = .ok (.iload_n 1, 1) := by decide +kernel
theorem dX0_spread_31 : decode cX0_spread 31 = .ok (.bipush 13, 2) := by decide +kernel
theorem dX0_spread_33 : decode cX0_spread 33 = .ok (.isub, 1) := by decide +kernel
theorem dX0_spread_34 : decode cX0_spread 34 = .ok (.iaload, 1) := by decide +kernel
theorem dX0_spread_35 : decode cX0_spread 35 = .ok (.iconst 1, 1) := by decide +kernel
theorem dX0_spread_36 : decode cX0_spread 36 = .ok (.iadd, 1) := by decide +kernel
theorem dX0_spread_37 : decode cX0_spread 37 = .ok (.invokestatic 92, 3) := by decide +kernel
theorem dX0_spread_40 : decode cX0_spread 40 = .ok (.iastore, 1) := by decide +kernel
theorem dX0_spread_41 : decode cX0_spread 41 = .ok (.iload_n 1, 1) := by decide +kernel
theorem dX0_spread_42 : decode cX0_spread 42 = .ok (.bipush 13, 2) := by decide +kernel
theorem dX0_spread_44 : decode cX0_spread 44 = .ok (.irem, 1) := by decide +kernel
theorem dX0_spread_45 : decode cX0_spread 45 = .ok (.ifCond .le 28, 3) := by decide +kernel
theorem dX0_spread_48 : decode cX0_spread 48 = .ok (.aload_n 0, 1) := by decide +kernel
theorem dX0_spread_49 : decode cX0_spread 49 = .ok (.getfield 37, 3) := by decide +kernel
theorem dX0_spread_52 : decode cX0_spread 52 = .ok (.iload_n 1, 1) := by decide +kernel
theorem dX0_spread_53 : decode cX0_spread 53 = .ok (.aload_n 0, 1) := by decide +kernel
theorem dX0_spread_54 : decode cX0_spread 54 = .ok (.getfield 37, 3) := by decide +kernel
theorem dX0_spread_57 : decode cX0_spread 57 = .ok (.iload_n 1, 1) := by decide +kernel
theorem dX0_spread_58 : decode cX0_spread 58 = .ok (.iaload, 1) := by decide +kernel
theorem dX0_spread_59 : decode cX0_spread 59 = .ok (.aload_n 0, 1) := by decide +kernel
theorem dX0_spread_60 : decode cX0_spread 60 = .ok (.getfield 37, 3) := by decide +kernel
theorem dX0_spread_63 : decode cX0_spread 63 = .ok (.iload_n 1, 1) := by decide +kernel
theorem dX0_spread_64 : decode cX0_spread 64 = .ok (.iconst 1, 1) := by decide +kernel
theorem dX0_spread_65 : decode cX0_spread 65 = .ok (.isub, 1) := by decide +kernel
theorem dX0_spread_66 : decode cX0_spread 66 = .ok (.iaload, 1) := by decide +kernel
theorem dX0_spread_67 : decode cX0_spread 67 = .ok (.iconst 1, 1) := by decide +kernel
theorem dX0_spread_68 : decode cX0_spread 68 = .ok (.iadd, 1) := by decide +kernel
theorem dX0_spread_69 : decode cX0_spread 69 = .ok (.invokestatic 92, 3) := by decide +kernel
theorem dX0_spread_72 : decode cX0_spread 72 = .ok (.iastore, 1) := by decide +kernel
theorem dX0_spread_73 : decode cX0_spread 73 = .ok (.iinc 1 1, 3) := by decide +kernel
theorem dX0_spread_76 : decode cX0_spread 76 = .ok (.goto (-74), 3) := by decide +kernel
theorem dX0_spread_79 : decode cX0_spread 79 = .ok (.sipush 168, 3) := by decide +kernel
theorem dX0_spread_82 : decode cX0_spread 82 = .ok (.istore_n 1, 1) := by decide +kernel
theorem dX0_spread_83 : decode cX0_spread 83 = .ok (.iload_n 1, 1) := by decide +kernel
theorem dX0_spread_84 : decode cX0_spread 84 = .ok (.ifCond .lt 79, 3) := by decide +kernel
theorem dX0_spread_87 : decode cX0_spread 87 = .ok (.iload_n 1, 1) := by decide +kernel
theorem dX0_spread_88 : decode cX0_spread 88 = .ok (.bipush 13, 2) := by decide +kernel
theorem dX0_spread_90 : decode cX0_spread 90 = .ok (.iadd, 1) := by decide +kernel
theorem dX0_spread_91 : decode cX0_spread 91 = .ok (.sipush 169, 3) := by decide +kernel
theorem dX0_spread_94 : decode cX0_spread 94 = .ok (.if_icmp .ge 29, 3) := by decide +kernel
theorem dX0_spread_97 : decode cX0_spread 97 = .ok (.aload_n 0, 1) := by decide +kernel
theorem dX0_spread_98 : decode cX0_spread 98 = .ok (.getfield 37, 3) := by decide +kernel
theorem dX0_spread_101 : decode cX0_spread 101 = .ok (.iload_n 1, 1) := by decide +kernel
theorem dX0_spread_102 : decode cX0_spread 102 = .ok (.aload_n 0, 1) := by decide +kernel
theorem dX0_spread_103 : decode cX0_spread 103 = .ok (.getfield 37, 3) := by decide +kernel
theorem dX0_spread_106 : decode cX0_spread 106 = .ok (.iload_n 1, 1) := by decide +kernel
theorem dX0_spread_107 : decode cX0_spread 107 = .ok (.iaload, 1) := by decide +kernel
theorem dX0_spread_108 : decode cX0_spread 108 = .ok (.aload_n 0, 1) := by decide +kernel
theorem dX0_spread_109 : decode cX0_spread 109 = .ok (.getfield 37, 3) := by decide +kernel
theorem dX0_spread_112 : decode cX0_spread 112 = .ok (.iload_n 1, 1) := by decide +kernel
theorem dX0_spread_113 : decode cX0_spread 113 = .ok (.bipush 13, 2) := by decide +kernel
theorem dX0_spread_115 : decode cX0_spread 115 = .ok (.iadd, 1) := by decide +kernel
theorem dX0_spread_116 : decode cX0_spread 116 = .ok (.iaload, 1) := by decide +kernel
theorem dX0_spread_117 : decode cX0_spread 117 = .ok (.iconst 1, 1) := by decide +kernel
theorem dX0_spread_118 : decode cX0_spread 118 = .ok (.iadd, 1) := by decide +kernel
theorem dX0_spread_119 : decode cX0_spread 119 = .ok (.invokestatic 92, 3) := by decide +kernel
theorem dX0_spread_122 : decode cX0_spread 122 = .ok (.iastore, 1) := by decide +kernel
theorem dX0_spread_123 : decode cX0_spread 123 = .ok (.iload_n 1, 1) := by decide +kernel
theorem dX0_spread_124 : decode cX0_spread 124 = .ok (.bipush 13, 2) := by decide +kernel
theorem dX0_spread_126 : decode cX0_spread 126 = .ok (.irem, 1) := by decide +kernel
theorem dX0_spread_127 : decode cX0_spread 127 = .ok (.bipush 12, 2) := by decide +kernel
theorem dX0_spread_129 : decode cX0_spread 129 = .ok (.if_icmp .ge 28, 3) := by decide +kernel
theorem dX0_spread_132 : decode cX0_spread 132 = .ok (.aload_n 0, 1) := by decide +kernel
theorem dX0_spread_133 : decode cX0_spread 133 = .ok (.getfield 37, 3) := by decide +kernel
theorem dX0_spread_136 : decode cX0_spread 136 = .ok (.iload_n 1, 1) := by decide +kernel
theorem dX0_spread_137 : decode cX0_spread 137 = .ok (.aload_n 0, 1) := by decide +kernel
theorem dX0_spread_138 : decode cX0_spread 138 = .ok (.getfield 37, 3) := by decide +kernel
theorem dX0_spread_141 : decode cX0_spread 141 = .ok (.iload_n 1, 1) := by decide +kernel
theorem dX0_spread_142 : decode cX0_spread 142 = .ok (.iaload, 1) := by decide +kernel
theorem dX0_spread_143 : decode cX0_spread 143 = .ok (.aload_n 0, 1) := by decide +kernel
theorem dX0_spread_144 : decode cX0_spread 144 = .ok (.getfield 37, 3) := by decide +kernel
theorem dX0_spread_147 : decode cX0_spread 147 = .ok (.iload_n 1, 1) := by decide +kernel
theorem dX0_spread_148 : decode cX0_spread 148 = .ok (.iconst 1, 1) := by decide +kernel
theorem dX0_spread_149 : decode cX0_spread 149 = .ok (.iadd, 1) := by decide +kernel
theorem dX0_spread_150 : decode cX0_spread 150 = .ok (.iaload, 1) := by decide +kernel
theorem dX0_spread_151 : decode cX0_spread 151 = .ok (.iconst 1, 1) := by decide +kernel
theorem dX0_spread_152 : decode cX0_spread 152 = .ok (.iadd, 1) := by decide +kernel
theorem dX0_spread_153 : decode cX0_spread 153 = .ok (.invokestatic 92, 3) := by decide +kernel
theorem dX0_spread_156 : decode cX0_spread 156 = .ok (.iastore, 1) := by decide +kernel
theorem dX0_spread_157 : decode cX0_spread 157 = .ok (.iinc 1 (-1), 3) := by decide +kernel
theorem dX0_spread_160 : decode cX0_spread 160 = .ok (.goto (-77), 3) := by decide +kernel
theorem dX0_spread_163 : decode cX0_spread 163 = .ok (.return_, 1) := by decide +kernel
theorem dX0_chooseLeast_0 : decode cX0_chooseLeast 0 = .ok (.iconst 0, 1) := by decide +kernel
theorem dX0_chooseLeast_1 : decode cX0_chooseLeast 1 = .ok (.istore_n 1, 1) := by decide +kernel
theorem dX0_chooseLeast_2 : decode cX0_chooseLeast 2 = .ok (.iconst 0, 1) := by decide +kernel
theorem dX0_chooseLeast_3 : decode cX0_chooseLeast 3 = .ok (.istore_n 2, 1) := by decide +kernel
theorem dX0_chooseLeast_4 : decode cX0_chooseLeast 4 = .ok (.aload_n 0, 1) := by decide +kernel
theorem dX0_chooseLeast_5 : decode cX0_chooseLeast 5 = .ok (.getfield 15, 3) := by decide +kernel
theorem dX0_chooseLeast_8 : decode cX0_chooseLeast 8 = .ok (.istore_n 3, 1) := by decide +kernel
theorem dX0_chooseLeast_9 : decode cX0_chooseLeast 9 = .ok (.iconst 0, 1) := by decide +kernel
theorem dX0_chooseLeast_10 : decode cX0_chooseLeast 10 = .ok (.istore 4, 2) := by decide +kernel
theorem dX0_chooseLeast_12 : decode cX0_chooseLeast 12 = .ok (.iload 4, 2) := by decide +kernel
theorem dX0_chooseLeast_14 : decode cX0_chooseLeast 14 = .ok (.aload_n 0, 1) := by decide +kernel
theorem dX0_chooseLeast_15 : decode cX0_chooseLeast 15 = .ok (.getfield 11, 3) := by decide +kernel
theorem dX0_chooseLeast_18 : decode cX0_chooseLeast 18 = .ok (.if_icmp .ge 69, 3) := by decide +kernel
theorem dX0_chooseLeast_21 : decode cX0_chooseLeast 21 = .ok (.aload_n 0, 1) := by decide +kernel
theorem dX0_chooseLeast_22 : decode cX0_chooseLeast 22 = .ok (.iload 4, 2) := by decide +kernel
theorem dX0_chooseLeast_24 : decode cX0_chooseLeast 24 = .ok (.iload_n 1, 1) := by decide +kernel
theorem dX0_chooseLeast_25 : decode cX0_chooseLeast 25 = .ok (.iload_n 2, 1) := by decide +kernel
theorem dX0_chooseLeast_26 : decode cX0_chooseLeast 26 = .ok (.iload_n 3, 1) := by decide +kernel
theorem dX0_chooseLeast_27 : decode cX0_chooseLeast 27 = .ok (.invokevirtual 98, 3) := by decide +kernel
theorem dX0_chooseLeast_30 : decode cX0_chooseLeast 30 = .ok (.istore 5, 2) := by decide +kernel
theorem dX0_chooseLeast_32 : decode cX0_chooseLeast 32 = .ok (.iload 5, 2) := by decide +kernel
theorem dX0_chooseLeast_34 : decode cX0_chooseLeast 34 = .ok (.bipush 13, 2) := by decide +kernel
theorem dX0_chooseLeast_36 : decode cX0_chooseLeast 36 = .ok (.idiv, 1) := by decide +kernel
theorem dX0_chooseLeast_37 : decode cX0_chooseLeast 37 = .ok (.bipush 6, 2) := by decide +kernel
theorem dX0_chooseLeast_39 : decode cX0_chooseLeast 39 = .ok (.isub, 1) := by decide +kernel
theorem dX0_chooseLeast_40 : decode cX0_chooseLeast 40 = .ok (.istore_n 1, 1) := by decide +kernel
theorem dX0_chooseLeast_41 : decode cX0_chooseLeast 41 = .ok (.iload 5, 2) := by decide +kernel
theorem dX0_chooseLeast_43 : decode cX0_chooseLeast 43 = .ok (.bipush 13, 2) := by decide +kernel
theorem dX0_chooseLeast_45 : decode cX0_chooseLeast 45 = .ok (.irem, 1) := by decide +kernel
theorem dX0_chooseLeast_46 : decode cX0_chooseLeast 46 = .ok (.bipush 6, 2) := by decide +kernel
theorem dX0_chooseLeast_48 : decode cX0_chooseLeast 48 = .ok (.isub, 1) := by decide +kernel
theorem dX0_chooseLeast_49 : decode cX0_chooseLeast 49 = .ok (.istore_n 2, 1) := by decide +kernel
theorem dX0_chooseLeast_50 : decode cX0_chooseLeast 50 = .ok (.aload_n 0, 1) := by decide +kernel
theorem dX0_chooseLeast_51 : decode cX0_chooseLeast 51 = .ok (.getfield 18, 3) := by decide +kernel
theorem dX0_chooseLeast_54 : decode cX0_chooseLeast 54 = .ok (.iload 4, 2) := by decide +kernel
theorem dX0_chooseLeast_56 : decode cX0_chooseLeast 56 = .ok (.iload_n 1, 1) := by decide +kernel
theorem dX0_chooseLeast_57 : decode cX0_chooseLeast 57 = .ok (.iastore, 1) := by decide +kernel
theorem dX0_chooseLeast_58 : decode cX0_chooseLeast 58 = .ok (.aload_n 0, 1) := by decide +kernel
theorem dX0_chooseLeast_59 : decode cX0_chooseLeast 59 = .ok (.getfield 22, 3) := by decide +kernel
theorem dX0_chooseLeast_62 : decode cX0_chooseLeast 62 = .ok (.iload 4, 2) := by decide +kernel
theorem dX0_chooseLeast_64 : decode cX0_chooseLeast 64 = .ok (.iload_n 2, 1) := by decide +kernel
theorem dX0_chooseLeast_65 : decode cX0_chooseLeast 65 = .ok (.iastore, 1) := by decide +kernel
theorem dX0_chooseLeast_66 : decode cX0_chooseLeast 66 = .ok (.aload_n 0, 1) := by decide +kernel
theorem dX0_chooseLeast_67 : decode cX0_chooseLeast 67 = .ok (.getfield 34, 3) := by decide +kernel
theorem dX0_chooseLeast_70 : decode cX0_chooseLeast 70 = .ok (.iload 4, 2) := by decide +kernel
theorem dX0_chooseLeast_72 : decode cX0_chooseLeast 72 = .ok (.sipush 169, 3) := by decide +kernel
theorem dX0_chooseLeast_75 : decode cX0_chooseLeast 75 = .ok (.imul, 1) := by decide +kernel
theorem dX0_chooseLeast_76 : decode cX0_chooseLeast 76 = .ok (.iload 5, 2) := by decide +kernel
theorem dX0_chooseLeast_78 : decode cX0_chooseLeast 78 = .ok (.iadd, 1) := by decide +kernel
theorem dX0_chooseLeast_79 : decode cX0_chooseLeast 79 = .ok (.iaload, 1) := by decide +kernel
theorem dX0_chooseLeast_80 : decode cX0_chooseLeast 80 = .ok (.istore_n 3, 1) := by decide +kernel
theorem dX0_chooseLeast_81 : decode cX0_chooseLeast 81 = .ok (.iinc 4 1, 3) := by decide +kernel
theorem dX0_chooseLeast_84 : decode cX0_chooseLeast 84 = .ok (.goto (-72), 3) := by decide +kernel
theorem dX0_chooseLeast_87 : decode cX0_chooseLeast 87 = .ok (.return_, 1) := by decide +kernel
theorem dX0_firstField_0 : decode cX0_firstField 0 = .ok (.iconst 0, 1) := by decide +kernel
theorem dX0_firstField_1 : decode cX0_firstField 1 = .ok (.istore 5, 2) := by decide +kernel
theorem dX0_firstField_3 : decode cX0_firstField 3 = .ok (.iload 5, 2) := by decide +kernel
theorem dX0_firstField_5 : decode cX0_firstField 5 = .ok (.sipush 169, 3) := by decide +kernel
theorem dX0_firstField_8 : decode cX0_firstField 8 = .ok (.if_icmp .ge 62, 3) := by decide +kernel
theorem dX0_firstField_11 : decode cX0_firstField 11 = .ok (.iload 5, 2) := by decide +kernel
theorem dX0_firstField_13 : decode cX0_firstField 13 = .ok (.bipush 13, 2) := by decide +kernel
theorem dX0_firstField_15 : decode cX0_firstField 15 = .ok (.idiv, 1) := by decide +kernel
theorem dX0_firstField_16 : decode cX0_firstField 16 = .ok (.bipush 6, 2) := by decide +kernel
theorem dX0_firstField_18 : decode cX0_firstField 18 = .ok (.isub, 1) := by decide +kernel
theorem dX0_firstField_19 : decode cX0_firstField 19 = .ok (.iload_n 2, 1) := by decide +kernel
theorem dX0_firstField_20 : decode cX0_firstField 20 = .ok (.isub, 1) := by decide +kernel
theorem dX0_firstField_21 : decode cX0_firstField 21 = .ok (.invokestatic 102, 3) := by decide +kernel
theorem dX0_firstField_24 : decode cX0_firstField 24 = .ok (.iload 5, 2) := by decide +kernel
theorem dX0_firstField_26 : decode cX0_firstField 26 = .ok (.bipush 13, 2) := by decide +kernel
theorem dX0_firstField_28 : decode cX0_firstField 28 = .ok (.irem, 1) := by decide +kernel
theorem dX0_firstField_29 : decode cX0_firstField 29 = .ok (.bipush 6, 2) := by decide +kernel
theorem dX0_firstField_31 : decode cX0_firstField 31 = .ok (.isub, 1) := by decide +kernel
theorem dX0_firstField_32 : decode cX0_firstField 32 = .ok (.iload_n 3, 1) := by decide +kernel
theorem dX0_firstField_33 : decode cX0_firstField 33 = .ok (.isub, 1) := by decide +kernel
theorem dX0_firstField_34 : decode cX0_firstField 34 = .ok (.invokestatic 102, 3) := by decide +kernel
theorem dX0_firstField_37 : decode cX0_firstField 37 = .ok (.iadd, 1) := by decide +kernel
theorem dX0_firstField_38 : decode cX0_firstField 38 = .ok (.istore 6, 2) := by decide +kernel
theorem dX0_firstField_40 : decode cX0_firstField 40 = .ok (.iload 6, 2) := by decide +kernel
theorem dX0_firstField_42 : decode cX0_firstField 42 = .ok (.aload_n 0, 1) := by decide +kernel
theorem dX0_firstField_43 : decode cX0_firstField 43 = .ok (.getfield 34, 3) := by decide +kernel
theorem dX0_firstField_46 : decode cX0_firstField 46 = .ok (.iload_n 1, 1) := by decide +kernel
theorem dX0_firstField_47 : decode cX0_firstField 47 = .ok (.sipush 169, 3) := by decide +kernel
theorem dX0_firstField_50 : decode cX0_firstField 50 = .ok (.imul, 1) := by decide +kernel
theorem dX0_firstField_51 : decode cX0_firstField 51 = .ok (.iload 5, 2) := by decide +kernel
theorem dX0_firstField_53 : decode cX0_firstField 53 = .ok (.iadd, 1) := by decide +kernel
theorem dX0_firstField_54 : decode cX0_firstField 54 = .ok (.iaload, 1) := by decide +kernel
theorem dX0_firstField_55 : decode cX0_firstField 55 = .ok (.iadd, 1) := by decide +kernel
theorem dX0_firstField_56 : decode cX0_firstField 56 = .ok (.iload 4, 2) := by decide +kernel
theorem dX0_firstField_58 : decode cX0_firstField 58 = .ok (.if_icmp .ne 6, 3) := by decide +kernel
theorem dX0_firstField_61 : decode cX0_firstField 61 = .ok (.iload 5, 2) := by decide +kernel
theorem dX0_firstField_63 : decode cX0_firstField 63 = .ok (.ireturn, 1) := by decide +kernel
theorem dX0_firstField_64 : decode cX0_firstField 64 = .ok (.iinc 5 1, 3) := by decide +kernel
theorem dX0_firstField_67 : decode cX0_firstField 67 = .ok (.goto (-64), 3) := by decide +kernel
theorem dX0_firstField_70 : decode cX0_firstField 70 = .ok (.iconst 0, 1) := by decide +kernel
theorem dX0_firstField_71 : decode cX0_firstField 71 = .ok (.ireturn, 1) := by decide +kernel
theorem dX1_init_0 : decode cX1_init 0 = .ok (.aload_n 0, 1) := by decide +kernel
theorem dX1_init_1 : decode cX1_init 1 = .ok (.invokespecial 3, 3) := by decide +kernel
theorem dX1_init_4 : decode cX1_init 4 = .ok (.aload_n 0, 1) := by decide +kernel
theorem dX1_init_5 : decode cX1_init 5 = .ok (.iconst 0, 1) := by decide +kernel
theorem dX1_init_6 : decode cX1_init 6 = .ok (.putfield 9, 3) := by decide +kernel
theorem dX1_init_9 : decode cX1_init 9 = .ok (.aload_n 0, 1) := by decide +kernel
theorem dX1_init_10 : decode cX1_init 10 = .ok (.iconst 0, 1) := by decide +kernel
theorem dX1_init_11 : decode cX1_init 11 = .ok (.putfield 15, 3) := by decide +kernel
theorem dX1_init_14 : decode cX1_init 14 = .ok (.aload_n 0, 1) := by decide +kernel
theorem dX1_init_15 : decode cX1_init 15 = .ok (.iconst 0, 1) := by decide +kernel
theorem dX1_init_16 : decode cX1_init 16 = .ok (.putfield 18, 3) := by decide +kernel
theorem dX1_init_19 : decode cX1_init 19 = .ok (.aload_n 0, 1) := by decide +kernel
theorem dX1_init_20 : decode cX1_init 20 = .ok (.iconst 0, 1) := by decide +kernel
theorem dX1_init_21 : decode cX1_init 21 = .ok (.putfield 21, 3) := by decide +kernel
theorem dX1_init_24 : decode cX1_init 24 = .ok (.aload_n 0, 1) := by decide +kernel
theorem dX1_init_25 : decode cX1_init 25 = .ok (.sipush 151, 3) := by decide +kernel
theorem dX1_init_28 : decode cX1_init 28 = .ok (.newarray .int, 2) := by decide +kernel
theorem dX1_init_30 : decode cX1_init 30 = .ok (.putfield 24, 3) := by decide +kernel
theorem dX1_init_33 : decode cX1_init 33 = .ok (.aload_n 0, 1) := by decide +kernel
theorem dX1_init_34 : decode cX1_init 34 = .ok (.sipush 300, 3) := by decide +kernel
theorem dX1_init_37 : decode cX1_init 37 = .ok (.newarray .int, 2) := by decide +kernel
theorem dX1_init_39 : decode cX1_init 39 = .ok (.putfield 28, 3) := by decide +kernel
theorem dX1_init_42 : decode cX1_init 42 = .ok (.aload_n 0, 1) := by decide +kernel
theorem dX1_init_43 : decode cX1_init 43 = .ok (.sipush 300, 3) := by decide +kernel
theorem dX1_init_46 : decode cX1_init 46 = .ok (.newarray .int, 2) := by decide +kernel
theorem dX1_init_48 : decode cX1_init 48 = .ok (.putfield 31, 3) := by decide +kernel
theorem dX1_init_51 : decode cX1_init 51 = .ok (.aload_n 0, 1) := by decide +kernel
theorem dX1_init_52 : decode cX1_init 52 = .ok (.aload_n 1, 1) := by decide +kernel
theorem dX1_init_53 : decode cX1_init 53 = .ok (.putfield 34, 3) := by decide +kernel
theorem dX1_init_56 : decode cX1_init 56 = .ok (.aload_n 0, 1) := by decide +kernel
theorem dX1_init_57 : decode cX1_init 57 = .ok (.aload_n 2, 1) := by decide +kernel
theorem dX1_init_58 : decode cX1_init 58 = .ok (.putfield 38, 3) := by decide +kernel
theorem dX1_init_61 : decode cX1_init 61 = .ok (.aload_n 0, 1) := by decide +kernel
theorem dX1_init_62 : decode cX1_init 62 = .ok (.aload_n 3, 1) := by decide +kernel
theorem dX1_init_63 : decode cX1_init 63 = .ok (.putfield 42, 3) := by decide +kernel
theorem dX1_init_66 : decode cX1_init 66 = .ok (.return_, 1) := by decide +kernel
theorem dX1_isClear_0 : decode cX1_isClear 0 = .ok (.aload_n 0, 1) := by decide +kernel
theorem dX1_isClear_1 : decode cX1_isClear 1 = .ok (.getfield 42, 3) := by decide +kernel
theorem dX1_isClear_4 : decode cX1_isClear 4 = .ok (.getfield 45, 3) := by decide +kernel
theorem dX1_isClear_7 : decode cX1_isClear 7 = .ok (.iload 4, 2) := by decide +kernel
theorem dX1_isClear_9 : decode cX1_isClear 9 = .ok (.iaload, 1) := by decide +kernel
theorem dX1_isClear_10 : decode cX1_isClear 10 = .ok (.iload_n 1, 1) := by decide +kernel
theorem dX1_isClear_11 : decode cX1_isClear 11 = .ok (.iadd, 1) := by decide +kernel
theorem dX1_isClear_12 : decode cX1_isClear 12 = .ok (.istore 5, 2) := by decide +kernel
theorem dX1_isClear_14 : decode cX1_isClear 14 = .ok (.aload_n 0, 1) := by decide +kernel
theorem dX1_isClear_15 : decode cX1_isClear 15 = .ok (.getfield 38, 3) := by decide +kernel
theorem dX1_isClear_18 : decode cX1_isClear 18 = .ok (.getfield 45, 3) := by decide +kernel
theorem dX1_isClear_21 : decode cX1_isClear 21 = .ok (.iload_n 3, 1) := by decide +kernel
theorem dX1_isClear_22 : decode cX1_isClear 22 = .ok (.iaload, 1) := by decide +kernel
theorem dX1_isClear_23 : decode cX1_isClear 23 = .ok (.aload_n 0, 1) := by decide +kernel
theorem dX1_isClear_24 : decode cX1_isClear 24 = .ok (.getfield 38, 3) := by decide +kernel
theorem dX1_isClear_27 : decode cX1_isClear 27 = .ok (.getfield 50, 3) := by decide +kernel
theorem dX1_isClear_30 : decode cX1_isClear 30 = .ok (.iload_n 3, 1) := by decide +kernel
theorem dX1_isClear_31 : decode cX1_isClear 31 = .ok (.iaload, 1) := by decide +kernel
theorem dX1_isClear_32 : decode cX1_isClear 32 = .ok (.iload_n 1, 1) := by decide +kernel
theorem dX1_isClear_33 : decode cX1_isClear 33 = .ok (.iload 5, 2) := by decide +kernel
theorem dX1_isClear_35 : decode cX1_isClear 35 = .ok (.aload_n 0, 1) := by decide +kernel
theorem dX1_isClear_36 : decode cX1_isClear 36 = .ok (.getfield 42, 3) := by decide +kernel
theorem dX1_isClear_39 : decode cX1_isClear 39 = .ok (.getfield 50, 3) := by decide +kernel
theorem dX1_isClear_42 : decode cX1_isClear 42 = .ok (.iload 4, 2) := by decide +kernel
theorem dX1_isClear_44 : decode cX1_isClear 44 = .ok (.iaload, 1) := by decide +kernel
theorem dX1_isClear_45 : decode cX1_isClear 45 = .ok (.iload_n 2, 1) := by decide +kernel
theorem dX1_isClear_46 : decode cX1_isClear 46 = .ok (.invokestatic 53, 3) := by decide +kernel
theorem dX1_isClear_49 : decode cX1_isClear 49 = .ok (.ifCond .eq 51, 3) := by decide +kernel
theorem dX1_isClear_52 : decode cX1_isClear 52 = .ok (.iload 5, 2) := by decide +kernel
theorem dX1_isClear_54 : decode cX1_isClear 54 = .ok (.aload_n 0, 1) := by decide +kernel
theorem dX1_isClear_55 : decode cX1_isClear 55 = .ok (.getfield 42, 3) := by decide +kernel
theorem dX1_isClear_58 : decode cX1_isClear 58 = .ok (.getfield 50, 3) := by decide +kernel
theorem dX1_isClear_61 : decode cX1_isClear 61 = .ok (.iload 4, 2) := by decide +kernel
theorem dX1_isClear_63 : decode cX1_isClear 63 = .ok (.iaload, 1) := by decide +kernel
theorem dX1_isClear_64 : decode cX1_isClear 64 = .ok (.aload_n 0, 1) := by decide +kernel
theorem dX1_isClear_65 : decode cX1_isClear 65 = .ok (.getfield 34, 3) := by decide +kernel
theorem dX1_isClear_68 : decode cX1_isClear 68 = .ok (.getfield 57, 3) := by decide +kernel
theorem dX1_isClear_71 : decode cX1_isClear 71 = .ok (.aload_n 0, 1) := by decide +kernel
theorem dX1_isClear_72 : decode cX1_isClear 72 = .ok (.getfield 38, 3) := by decide +kernel
theorem dX1_isClear_75 : decode cX1_isClear 75 = .ok (.getfield 45, 3) := by decide +kernel
theorem dX1_isClear_78 : decode cX1_isClear 78 = .ok (.iload_n 3, 1) := by decide +kernel
theorem dX1_isClear_79 : decode cX1_isClear 79 = .ok (.iaload, 1) := by decide +kernel
theorem dX1_isClear_80 : decode cX1_isClear 80 = .ok (.aload_n 0, 1) := by decide +kernel
theorem dX1_isClear_81 : decode cX1_isClear 81 = .ok (.getfield 38, 3) := by decide +kernel
theorem dX1_isClear_84 : decode cX1_isClear 84 = .ok (.getfield 50, 3) := by decide +kernel
theorem dX1_isClear_87 : decode cX1_isClear 87 = .ok (.iload_n 3, 1) := by decide +kernel
theorem dX1_isClear_88 : decode cX1_isClear 88 = .ok (.iaload, 1) := by decide +kernel
theorem dX1_isClear_89 : decode cX1_isClear 89 = .ok (.iload_n 2, 1) := by decide +kernel
theorem dX1_isClear_90 : decode cX1_isClear 90 = .ok (.invokestatic 53, 3) := by decide +kernel
theorem dX1_isClear_93 : decode cX1_isClear 93 = .ok (.ifCond .eq 7, 3) := by decide +kernel
theorem dX1_isClear_96 : decode cX1_isClear 96 = .ok (.iconst 1, 1) := by decide +kernel
theorem dX1_isClear_97 : decode cX1_isClear 97 = .ok (.goto 4, 3) := by decide +kernel
theorem dX1_isClear_100 : decode cX1_isClear 100 = .ok (.iconst 0, 1) := by decide +kernel
theorem dX1_isClear_101 : decode cX1_isClear 101 = .ok (.ireturn, 1) := by decide +kernel
theorem dX1_isAway_0 : decode cX1_isAway 0 = .ok (.iload_n 3, 1) := by decide +kernel
theorem dX1_isAway_1 : decode cX1_isAway 1 = .ok (.iload_n 2, 1) := by decide +kernel
theorem dX1_isAway_2 : decode cX1_isAway 2 = .ok (.isub, 1) := by decide +kernel
theorem dX1_isAway_3 : decode cX1_isAway 3 = .ok (.i2l, 1) := by decide +kernel
theorem dX1_isAway_4 : decode cX1_isAway 4 = .ok (.lstore 6, 2) := by decide +kernel
theorem dX1_isAway_6 : decode cX1_isAway 6 = .ok (.iload 4, 2) := by decide +kernel
theorem dX1_isAway_8 : decode cX1_isAway 8 = .ok (.i2l, 1) := by decide +kernel
theorem dX1_isAway_9 : decode cX1_isAway 9 = .ok (.lstore 8, 2) := by decide +kernel
theorem dX1_isAway_11 : decode cX1_isAway 11 = .ok (.iload_n 0, 1) := by decide +kernel
theorem dX1_isAway_12 : decode cX1_isAway 12 = .ok (.iload_n 2, 1) := by decide +kernel
theorem dX1_isAway_13 : decode cX1_isAway 13 = .ok (.isub, 1) := by decide +kernel
theorem dX1_isAway_14 : decode cX1_isAway 14 = .ok (.i2l, 1) := by decide +kernel
theorem dX1_isAway_15 : decode cX1_isAway 15 = .ok (.lstore 10, 2) := by decide +kernel
theorem dX1_isAway_17 : decode cX1_isAway 17 = .ok (.iload_n 1, 1) := by decide +kernel
theorem dX1_isAway_18 : decode cX1_isAway 18 = .ok (.i2l, 1) := by decide +kernel
theorem dX1_isAway_19 : decode cX1_isAway 19 = .ok (.lstore 12, 2) := by decide +kernel
theorem dX1_isAway_21 : decode cX1_isAway 21 = .ok (.iload 5, 2) := by decide +kernel
theorem dX1_isAway_23 : decode cX1_isAway 23 = .ok (.i2l, 1) := by decide +kernel
theorem dX1_isAway_24 : decode cX1_isAway 24 = .ok (.iload 5, 2) := by decide +kernel
theorem dX1_isAway_26 : decode cX1_isAway 26 = .ok (.i2l, 1) := by decide +kernel
theorem dX1_isAway_27 : decode cX1_isAway 27 = .ok (.lmul, 1) := by decide +kernel
theorem dX1_isAway_28 : decode cX1_isAway 28 = .ok (.lstore 14, 2) := by decide +kernel
theorem dX1_isAway_30 : decode cX1_isAway 30 = .ok (.lload 6, 2) := by decide +kernel
theorem dX1_isAway_32 : decode cX1_isAway 32 = .ok (.lload 6, 2) := by decide +kernel
theorem dX1_isAway_34 : decode cX1_isAway 34 = .ok (.lmul, 1) := by decide +kernel
theorem dX1_isAway_35 : decode cX1_isAway 35 = .ok (.lload 8, 2) := by decide +kernel
theorem dX1_isAway_37 : decode cX1_isAway 37 = .ok (.lload 8, 2) := by decide +kernel
theorem dX1_isAway_39 : decode cX1_isAway 39 = .ok (.lmul, 1) := by decide +kernel
theorem dX1_isAway_40 : decode cX1_isAway 40 = .ok (.ladd, 1) := by decide +kernel
theorem dX1_isAway_41 : decode cX1_isAway 41 = .ok (.lstore 16, 2) := by decide +kernel
theorem dX1_isAway_43 : decode cX1_isAway 43 = .ok (.lload 10, 2) := by decide +kernel
theorem dX1_isAway_45 : decode cX1_isAway 45 = .ok (.lload 6, 2) := by decide +kernel
theorem dX1_isAway_47 : decode cX1_isAway 47 = .ok (.lmul, 1) := by decide +kernel
theorem dX1_isAway_48 : decode cX1_isAway 48 = .ok (.lload 12, 2) := by decide +kernel
theorem dX1_isAway_50 : decode cX1_isAway 50 = .ok (.lload 8, 2) := by decide +kernel
theorem dX1_isAway_52 : decode cX1_isAway 52 = .ok (.lmul, 1) := by decide +kernel
theorem dX1_isAway_53 : decode cX1_isAway 53 = .ok (.ladd, 1) := by decide +kernel
theorem dX1_isAway_54 : decode cX1_isAway 54 = .ok (.lstore 18, 2) := by decide +kernel
theorem dX1_isAway_56 : decode cX1_isAway 56 = .ok (.lload 18, 2) := by decide +kernel
theorem dX1_isAway_58 : decode cX1_isAway 58 = .ok (.lconst 0, 1) := by decide +kernel
theorem dX1_isAway_59 : decode cX1_isAway 59 = .ok (.lcmp, 1) := by decide +kernel
theorem dX1_isAway_60 : decode cX1_isAway 60 = .ok (.ifCond .gt 26, 3) := by decide +kernel
theorem dX1_isAway_63 : decode cX1_isAway 63 = .ok (.lload 10, 2) := by decide +kernel
theorem dX1_isAway_65 : decode cX1_isAway 65 = .ok (.lload 10, 2) := by decide +kernel
theorem dX1_isAway_67 : decode cX1_isAway 67 = .ok (.lmul, 1) := by decide +kernel
theorem dX1_isAway_68 : decode cX1_isAway 68 = .ok (.lload 12, 2) := by decide +kernel
theorem dX1_isAway_70 : decode cX1_isAway 70 = .ok (.lload 12, 2) := by decide +kernel
theorem dX1_isAway_72 : decode cX1_isAway 72 = .ok (.lmul, 1) := by decide +kernel
theorem dX1_isAway_73 : decode cX1_isAway 73 = .ok (.ladd, 1) := by decide +kernel
theorem dX1_isAway_74 : decode cX1_isAway 74 = .ok (.lload 14, 2) := by decide +kernel
theorem dX1_isAway_76 : decode cX1_isAway 76 = .ok (.lcmp, 1) := by decide +kernel
theorem dX1_isAway_77 : decode cX1_isAway 77 = .ok (.ifCond .lt 7, 3) := by decide +kernel
theorem dX1_isAway_80 : decode cX1_isAway 80 = .ok (.iconst 1, 1) := by decide +kernel
theorem dX1_isAway_81 : decode cX1_isAway 81 = .ok (.goto 4, 3) := by decide +kernel
theorem dX1_isAway_84 : decode cX1_isAway 84 = .ok (.iconst 0, 1) := by decide +kernel
theorem dX1_isAway_85 : decode cX1_isAway 85 = .ok (.ireturn, 1) := by decide +kernel
theorem dX1_isAway_86 : decode cX1_isAway 86 = .ok (.lload 18, 2) := by decide +kernel
theorem dX1_isAway_88 : decode cX1_isAway 88 = .ok (.lload 16, 2) := by decide +kernel
theorem dX1_isAway_90 : decode cX1_isAway 90 = .ok (.lcmp, 1) := by decide +kernel
theorem dX1_isAway_91 : decode cX1_isAway 91 = .ok (.ifCond .lt 38, 3) := by decide +kernel
theorem dX1_isAway_94 : decode cX1_isAway 94 = .ok (.lload 10, 2) := by decide +kernel
theorem dX1_isAway_96 : decode cX1_isAway 96 = .ok (.lload 6, 2) := by decide +kernel
theorem dX1_isAway_98 : decode cX1_isAway 98 = .ok (.lsub, 1) := by decide +kernel
theorem dX1_isAway_99 : decode cX1_isAway 99 = .ok (.lload 10, 2) := by decide +kernel
theorem dX1_isAway_101 : decode cX1_isAway 101 = .ok (.lload 6, 2) := by decide +kernel
theorem dX1_isAway_103 : decode cX1_isAway 103 = .ok (.lsub, 1) := by decide +kernel
theorem dX1_isAway_104 : decode cX1_isAway 104 = .ok (.lmul, 1) := by decide +kernel
theorem dX1_isAway_105 : decode cX1_isAway 105 = .ok (.lload 12, 2) := by decide +kernel
theorem dX1_isAway_107 : decode cX1_isAway 107 = .ok (.lload 8, 2) := by decide +kernel
theorem dX1_isAway_109 : decode cX1_isAway 109 = .ok (.lsub, 1) := by decide +kernel
theorem dX1_isAway_110 : decode cX1_isAway 110 = .ok (.lload 12, 2) := by decide +kernel
theorem dX1_isAway_112 : decode cX1_isAway 112 = .ok (.lload 8, 2) := by decide +kernel
theorem dX1_isAway_114 : decode cX1_isAway 114 = .ok (.lsub, 1) := by decide +kernel
theorem dX1_isAway_115 : decode cX1_isAway 115 = .ok (.lmul, 1) := by decide +kernel
theorem dX1_isAway_116 : decode cX1_isAway 116 = .ok (.ladd, 1) := by decide +kernel
theorem dX1_isAway_117 : decode cX1_isAway 117 = .ok (.lload 14, 2) := by decide +kernel
theorem dX1_isAway_119 : decode cX1_isAway 119 = .ok (.lcmp, 1) := by decide +kernel
theorem dX1_isAway_120 : decode cX1_isAway 120 = .ok (.ifCond .lt 7, 3) := by decide +kernel
theorem dX1_isAway_123 : decode cX1_isAway 123 = .ok (.iconst 1, 1) := by decide +kernel
theorem dX1_isAway_124 : decode cX1_isAway 124 = .ok (.goto 4, 3) := by decide +kernel
theorem dX1_isAway_127 : decode cX1_isAway 127 = .ok (.iconst 0, 1) := by decide +kernel
theorem dX1_isAway_128 : decode cX1_isAway 128 = .ok (.ireturn, 1) := by decide +kernel
theorem dX1_isAway_129 : decode cX1_isAway 129 = .ok (.lload 10, 2) := by decide +kernel
theorem dX1_isAway_131 : decode cX1_isAway 131 = .ok (.lload 8, 2) := by decide +kernel
theorem dX1_isAway_133 : decode cX1_isAway 133 = .ok (.lmul, 1) := by decide +kernel
theorem dX1_isAway_134 : decode cX1_isAway 134 = .ok (.lload 12, 2) := by decide +kernel
theorem dX1_isAway_136 : decode cX1_isAway 136 = .ok (.lload 6, 2) := by decide +kernel
theorem dX1_isAway_138 : decode cX1_isAway 138 = .ok (.lmul, 1) := by decide +kernel
theorem dX1_isAway_139 : decode cX1_isAway 139 = .ok (.lsub, 1) := by decide +kernel
theorem dX1_isAway_140 : decode cX1_isAway 140 = .ok (.lstore 20, 2) := by decide +kernel
theorem dX1_isAway_142 : decode cX1_isAway 142 = .ok (.lload 20, 2) := by decide +kernel
theorem dX1_isAway_144 : decode cX1_isAway 144 = .ok (.lload 20, 2) := by decide +kernel
theorem dX1_isAway_146 : decode cX1_isAway 146 = .ok (.lmul, 1) := by decide +kernel
theorem dX1_isAway_147 : decode cX1_isAway 147 = .ok (.lload 14, 2) := by decide +kernel
theorem dX1_isAway_149 : decode cX1_isAway 149 = .ok (.lload 16, 2) := by decide +kernel
theorem dX1_isAway_151 : decode cX1_isAway 151 = .ok (.lmul, 1) := by decide +kernel
theorem dX1_isAway_152 : decode cX1_isAway 152 = .ok (.lcmp, 1) := by decide +kernel
theorem dX1_isAway_153 : decode cX1_isAway 153 = .ok (.ifCond .lt 7, 3) := by decide +kernel
theorem dX1_isAway_156 : decode cX1_isAway 156 = .ok (.iconst 1, 1) := by decide +kernel
theorem dX1_isAway_157 : decode cX1_isAway 157 = .ok (.goto 4, 3) := by decide +kernel
theorem dX1_isAway_160 : decode cX1_isAway 160 = .ok (.iconst 0, 1) := by decide +kernel
theorem dX1_isAway_161 : decode cX1_isAway 161 = .ok (.ireturn, 1) := by decide +kernel
theorem dX1_fewestTicks_0 : decode cX1_fewestTicks 0 = .ok (.iconst 0, 1) := by decide +kernel
theorem dX1_fewestTicks_1 : decode cX1_fewestTicks 1 = .ok (.istore_n 3, 1) := by decide +kernel
theorem dX1_fewestTicks_2 : decode cX1_fewestTicks 2 = .ok (.iload_n 3, 1) := by decide +kernel
theorem dX1_fewestTicks_3 : decode cX1_fewestTicks 3 = .ok (.aload_n 0, 1) := by decide +kernel
theorem dX1_fewestTicks_4 : decode cX1_fewestTicks 4 = .ok (.getfield 38, 3) := by decide +kernel
theorem dX1_fewestTicks_7 : decode cX1_fewestTicks 7 = .ok (.getfield 62, 3) := by decide +kernel
theorem dX1_fewestTicks_10 : decode cX1_fewestTicks 10 = .ok (.if_icmp .gt 206, 3) := by decide +kernel
theorem dX1_fewestTicks_13 : decode cX1_fewestTicks 13 = .ok (.ldc 65, 2) := by decide +kernel
theorem dX1_fewestTicks_15 : decode cX1_fewestTicks 15 = .ok (.istore 4, 2) := by decide +kernel
theorem dX1_fewestTicks_17 : decode cX1_fewestTicks 17 = .ok (.iconst 0, 1) := by decide +kernel
theorem dX1_fewestTicks_18 : decode cX1_fewestTicks 18 = .ok (.istore 5, 2) := by decide +kernel
theorem dX1_fewestTicks_20 : decode cX1_fewestTicks 20 = .ok (.iload 5, 2) := by decide +kernel
theorem dX1_fewestTicks_22 : decode cX1_fewestTicks 22 = .ok (.aload_n 0, 1) := by decide +kernel
theorem dX1_fewestTicks_23 : decode cX1_fewestTicks 23 = .ok (.getfield 42, 3) := by decide +kernel
theorem dX1_fewestTicks_26 : decode cX1_fewestTicks 26 = .ok (.getfield 62, 3) := by decide +kernel
theorem dX1_fewestTicks_29 : decode cX1_fewestTicks 29 = .ok (.if_icmp .gt 181, 3) := by decide +kernel
theorem dX1_fewestTicks_32 : decode cX1_fewestTicks 32 = .ok (.iload_n 3, 1) := by decide +kernel
theorem dX1_fewestTicks_33 : decode cX1_fewestTicks 33 = .ok (.ifCond .le 13, 3) := by decide +kernel
theorem dX1_fewestTicks_36 : decode cX1_fewestTicks 36 = .ok (.aload_n 0, 1) := by decide +kernel
theorem dX1_fewestTicks_37 : decode cX1_fewestTicks 37 = .ok (.getfield 24, 3) := by decide +kernel
theorem dX1_fewestTicks_40 : decode cX1_fewestTicks 40 = .ok (.iload 5, 2) := by decide +kernel
theorem dX1_fewestTicks_42 : decode cX1_fewestTicks 42 = .ok (.iaload, 1) := by decide +kernel
theorem dX1_fewestTicks_43 : decode cX1_fewestTicks 43 = .ok (.goto 5, 3) := by decide +kernel
theorem dX1_fewestTicks_46 : decode cX1_fewestTicks 46 = .ok (.ldc 65, 2) := by decide +kernel
theorem dX1_fewestTicks_48 : decode cX1_fewestTicks 48 = .ok (.istore 6, 2) := by decide +kernel
theorem dX1_fewestTicks_50 : decode cX1_fewestTicks 50 = .ok (.iload_n 3, 1) := by decide +kernel
theorem dX1_fewestTicks_51 : decode cX1_fewestTicks 51 = .ok (.ifCond .ne 12, 3) := by decide +kernel
theorem dX1_fewestTicks_54 : decode cX1_fewestTicks 54 = .ok (.iload 5, 2) := by decide +kernel
theorem dX1_fewestTicks_56 : decode cX1_fewestTicks 56 = .ok (.ifCond .ne 7, 3) := by decide +kernel
theorem dX1_fewestTicks_59 : decode cX1_fewestTicks 59 = .ok (.iconst 0, 1) := by decide +kernel
theorem dX1_fewestTicks_60 : decode cX1_fewestTicks 60 = .ok (.goto 5, 3) := by decide +kernel
theorem dX1_fewestTicks_63 : decode cX1_fewestTicks 63 = .ok (.ldc 65, 2) := by decide +kernel
theorem dX1_fewestTicks_65 : decode cX1_fewestTicks 65 = .ok (.istore 7, 2) := by decide +kernel
theorem dX1_fewestTicks_67 : decode cX1_fewestTicks 67 = .ok (.iload_n 3, 1) := by decide +kernel
theorem dX1_fewestTicks_68 : decode cX1_fewestTicks 68 = .ok (.ifCond .le 23, 3) := by decide +kernel
theorem dX1_fewestTicks_71 : decode cX1_fewestTicks 71 = .ok (.iload 7, 2) := by decide +kernel
theorem dX1_fewestTicks_73 : decode cX1_fewestTicks 73 = .ok (.iload 6, 2) := by decide +kernel
theorem dX1_fewestTicks_75 : decode cX1_fewestTicks 75 = .ok (.aload_n 0, 1) := by decide +kernel
theorem dX1_fewestTicks_76 : decode cX1_fewestTicks 76 = .ok (.getfield 38, 3) := by decide +kernel
theorem dX1_fewestTicks_79 : decode cX1_fewestTicks 79 = .ok (.iload_n 3, 1) := by decide +kernel
theorem dX1_fewestTicks_80 : decode cX1_fewestTicks 80 = .ok (.iconst 1, 1) := by decide +kernel
theorem dX1_fewestTicks_81 : decode cX1_fewestTicks 81 = .ok (.isub, 1) := by decide +kernel
theorem dX1_fewestTicks_82 : decode cX1_fewestTicks 82 = .ok (.invokevirtual 66, 3) := by decide +kernel
theorem dX1_fewestTicks_85 : decode cX1_fewestTicks 85 = .ok (.iadd, 1) := by decide +kernel
theorem dX1_fewestTicks_86 : decode cX1_fewestTicks 86 = .ok (.invokestatic 70, 3) := by decide +kernel
theorem dX1_fewestTicks_89 : decode cX1_fewestTicks 89 = .ok (.istore 7, 2) := by decide +kernel
theorem dX1_fewestTicks_91 : decode cX1_fewestTicks 91 = .ok (.iload 5, 2) := by decide +kernel
theorem dX1_fewestTicks_93 : decode cX1_fewestTicks 93 = .ok (.ifCond .le 31, 3) := by decide +kernel
theorem dX1_fewestTicks_96 : decode cX1_fewestTicks 96 = .ok (.iload 7, 2) := by decide +kernel
theorem dX1_fewestTicks_98 : decode cX1_fewestTicks 98 = .ok (.aload_n 0, 1) := by decide +kernel
theorem dX1_fewestTicks_99 : decode cX1_fewestTicks 99 = .ok (.getfield 24, 3) := by decide +kernel
theorem dX1_fewestTicks_102 : decode cX1_fewestTicks 102 = .ok (.iload 5, 2) := by decide +kernel
theorem dX1_fewestTicks_104 : decode cX1_fewestTicks 104 = .ok (.iconst 1, 1) := by decide +kernel
theorem dX1_fewestTicks_105 : decode cX1_fewestTicks 105 = .ok (.isub, 1) := by decide +kernel
theorem dX1_fewestTicks_106 : decode cX1_fewestTicks 106 = .ok (.iaload, 1) := by decide +kernel
theorem dX1_fewestTicks_107 : decode cX1_fewestTicks 107 = .ok (.aload_n 0, 1) := by decide +kernel
theorem dX1_fewestTicks_108 : decode cX1_fewestTicks 108 = .ok (.getfield 42, 3) := by decide +kernel
theorem dX1_fewestTicks_111 : decode cX1_fewestTicks 111 = .ok (.iload 5, 2) := by decide +kernel
theorem dX1_fewestTicks_113 : decode cX1_fewestTicks 113 = .ok (.iconst 1, 1) := by decide +kernel
theorem dX1_fewestTicks_114 : decode cX1_fewestTicks 114 = .ok (.isub, 1) := by decide +kernel
theorem dX1_fewestTicks_115 : decode cX1_fewestTicks 115 = .ok (.invokevirtual 66, 3) := by decide +kernel
theorem dX1_fewestTicks_118 : decode cX1_fewestTicks 118 = .ok (.iadd, 1) := by decide +kernel
theorem dX1_fewestTicks_119 : decode cX1_fewestTicks 119 = .ok (.invokestatic 70, 3) := by decide +kernel
theorem dX1_fewestTicks_122 : decode cX1_fewestTicks 122 = .ok (.istore 7, 2) := by decide +kernel
theorem dX1_fewestTicks_124 : decode cX1_fewestTicks 124 = .ok (.iload_n 3, 1) := by decide +kernel
theorem dX1_fewestTicks_125 : decode cX1_fewestTicks 125 = .ok (.ifCond .le 42, 3) := by decide +kernel
theorem dX1_fewestTicks_128 : decode cX1_fewestTicks 128 = .ok (.iload 5, 2) := by decide +kernel
theorem dX1_fewestTicks_130 : decode cX1_fewestTicks 130 = .ok (.ifCond .le 37, 3) := by decide +kernel
theorem dX1_fewestTicks_133 : decode cX1_fewestTicks 133 = .ok (.iload 7, 2) := by decide +kernel
theorem dX1_fewestTicks_135 : decode cX1_fewestTicks 135 = .ok (.iload 4, 2) := by decide +kernel
theorem dX1_fewestTicks_137 : decode cX1_fewestTicks 137 = .ok (.aload_n 0, 1) := by decide +kernel
theorem dX1_fewestTicks_138 : decode cX1_fewestTicks 138 = .ok (.getfield 38, 3) := by decide +kernel
theorem dX1_fewestTicks_141 : decode cX1_fewestTicks 141 = .ok (.iload_n 3, 1) := by decide +kernel
theorem dX1_fewestTicks_142 : decode cX1_fewestTicks 142 = .ok (.iconst 1, 1) := by decide +kernel
theorem dX1_fewestTicks_143 : decode cX1_fewestTicks 143 = .ok (.isub, 1) := by decide +kernel
theorem dX1_fewestTicks_144 : decode cX1_fewestTicks 144 = .ok (.invokevirtual 66, 3) := by decide +kernel
theorem dX1_fewestTicks_147 : decode cX1_fewestTicks 147 = .ok (.aload_n 0, 1) := by decide +kernel
theorem dX1_fewestTicks_148 : decode cX1_fewestTicks 148 = .ok (.getfield 42, 3) := by decide +kernel
theorem dX1_fewestTicks_151 : decode cX1_fewestTicks 151 = .ok (.iload 5, 2) := by decide +kernel
theorem dX1_fewestTicks_153 : decode cX1_fewestTicks 153 = .ok (.iconst 1, 1) := by decide +kernel
theorem dX1_fewestTicks_154 : decode cX1_fewestTicks 154 = .ok (.isub, 1) := by decide +kernel
theorem dX1_fewestTicks_155 : decode cX1_fewestTicks 155 = .ok (.invokevirtual 66, 3) := by decide +kernel
theorem dX1_fewestTicks_158 : decode cX1_fewestTicks 158 = .ok (.invokestatic 76, 3) := by decide +kernel
theorem dX1_fewestTicks_161 : decode cX1_fewestTicks 161 = .ok (.iadd, 1) := by decide +kernel
theorem dX1_fewestTicks_162 : decode cX1_fewestTicks 162 = .ok (.invokestatic 70, 3) := by decide +kernel
theorem dX1_fewestTicks_165 : decode cX1_fewestTicks 165 = .ok (.istore 7, 2) := by decide +kernel
theorem dX1_fewestTicks_167 : decode cX1_fewestTicks 167 = .ok (.aload_n 0, 1) := by decide +kernel
theorem dX1_fewestTicks_168 : decode cX1_fewestTicks 168 = .ok (.getfield 24, 3) := by decide +kernel
theorem dX1_fewestTicks_171 : decode cX1_fewestTicks 171 = .ok (.iload 5, 2) := by decide +kernel
theorem dX1_fewestTicks_173 : decode cX1_fewestTicks 173 = .ok (.iload 7, 2) := by decide +kernel
theorem dX1_fewestTicks_175 : decode cX1_fewestTicks 175 = .ok (.ldc 65, 2) := by decide +kernel
theorem dX1_fewestTicks_177 : decode cX1_fewestTicks 177 = .ok (.if_icmp .ge 20, 3) := by decide +kernel
theorem dX1_fewestTicks_180 : decode cX1_fewestTicks 180 = .ok (.aload_n 0, 1) := by decide +kernel
theorem dX1_fewestTicks_181 : decode cX1_fewestTicks 181 = .ok (.iload_n 1, 1) := by decide +kernel
theorem dX1_fewestTicks_182 : decode cX1_fewestTicks 182 = .ok (.iload_n 2, 1) := by decide +kernel
theorem dX1_fewestTicks_183 : decode cX1_fewestTicks 183 = .ok (.iload_n 3, 1) := by decide +kernel
theorem dX1_fewestTicks_184 : decode cX1_fewestTicks 184 = .ok (.iload 5, 2) := by decide +kernel
theorem dX1_fewestTicks_186 : decode cX1_fewestTicks 186 = .ok (.invokevirtual 79, 3) := by decide +kernel
theorem dX1_fewestTicks_189 : decode cX1_fewestTicks 189 = .ok (.ifCond .eq 8, 3) := by decide +kernel
theorem dX1_fewestTicks_192 : decode cX1_fewestTicks 192 = .ok (.iload 7, 2) := by decide +kernel
theorem dX1_fewestTicks_194 : decode cX1_fewestTicks 194 = .ok (.goto 5, 3) := by decide +kernel
theorem dX1_fewestTicks_197 : decode cX1_fewestTicks 197 = .ok (.ldc 65, 2) := by decide +kernel
theorem dX1_fewestTicks_199 : decode cX1_fewestTicks 199 = .ok (.iastore, 1) := by decide +kernel
theorem dX1_fewestTicks_200 : decode cX1_fewestTicks 200 = .ok (.iload 6, 2) := by decide +kernel
theorem dX1_fewestTicks_202 : decode cX1_fewestTicks 202 = .ok (.istore 4, 2) := by decide +kernel
theorem dX1_fewestTicks_204 : decode cX1_fewestTicks 204 = .ok (.iinc 5 1, 3) := by decide +kernel
theorem dX1_fewestTicks_207 : decode cX1_fewestTicks 207 = .ok (.goto (-187), 3) := by decide +kernel
theorem dX1_fewestTicks_210 : decode cX1_fewestTicks 210 = .ok (.iinc 3 1, 3) := by decide +kernel
theorem dX1_fewestTicks_213 : decode cX1_fewestTicks 213 = .ok (.goto (-211), 3) := by decide +kernel
theorem dX1_fewestTicks_216 : decode cX1_fewestTicks 216 = .ok (.aload_n 0, 1) := by decide +kernel
theorem dX1_fewestTicks_217 : decode cX1_fewestTicks 217 = .ok (.getfield 24, 3) := by decide +kernel
theorem dX1_fewestTicks_220 : decode cX1_fewestTicks 220 = .ok (.aload_n 0, 1) := by decide +kernel
theorem dX1_fewestTicks_221 : decode cX1_fewestTicks 221 = .ok (.getfield 42, 3) := by decide +kernel
theorem dX1_fewestTicks_224 : decode cX1_fewestTicks 224 = .ok (.getfield 62, 3) := by decide +kernel
theorem dX1_fewestTicks_227 : decode cX1_fewestTicks 227 = .ok (.iaload, 1) := by decide +kernel
theorem dX1_fewestTicks_228 : decode cX1_fewestTicks 228 = .ok (.ldc 65, 2) := by decide +kernel
theorem dX1_fewestTicks_230 : decode cX1_fewestTicks 230 = .ok (.if_icmp .ge 18, 3) := by decide +kernel
theorem dX1_fewestTicks_233 : decode cX1_fewestTicks 233 = .ok (.aload_n 0, 1) := by decide +kernel
theorem dX1_fewestTicks_234 : decode cX1_fewestTicks 234 = .ok (.getfield 24, 3) := by decide +kernel
theorem dX1_fewestTicks_237 : decode cX1_fewestTicks 237 = .ok (.aload_n 0, 1) := by decide +kernel
theorem dX1_fewestTicks_238 : decode cX1_fewestTicks 238 = .ok (.getfield 42, 3) := by decide +kernel
theorem dX1_fewestTicks_241 : decode cX1_fewestTicks 241 = .ok (.getfield 62, 3) := by decide +kernel
theorem dX1_fewestTicks_244 : decode cX1_fewestTicks 244 = .ok (.iaload, 1) := by decide +kernel
theorem dX1_fewestTicks_245 : decode cX1_fewestTicks 245 = .ok (.goto 5, 3) := by decide +kernel
theorem dX1_fewestTicks_248 : decode cX1_fewestTicks 248 = .ok (.bipush (-2), 2) := by decide +kernel
theorem dX1_fewestTicks_250 : decode cX1_fewestTicks 250 = .ok (.ireturn, 1) := by decide +kernel
theorem dX1_join_0 : decode cX1_join 0 = .ok (.aload_n 0, 1) := by decide +kernel
theorem dX1_join_1 : decode cX1_join 1 = .ok (.getfield 38, 3) := by decide +kernel
theorem dX1_join_4 : decode cX1_join 4 = .ok (.iload_n 2, 1) := by decide +kernel
theorem dX1_join_5 : decode cX1_join 5 = .ok (.i2l, 1) := by decide +kernel
theorem dX1_join_6 : decode cX1_join 6 = .ok (.aload_n 0, 1) := by decide +kernel
theorem dX1_join_7 : decode cX1_join 7 = .ok (.getfield 28, 3) := by decide +kernel
theorem dX1_join_10 : decode cX1_join 10 = .ok (.invokestatic 83, 3) := by decide +kernel
theorem dX1_join_13 : decode cX1_join 13 = .ok (.istore_n 3, 1) := by decide +kernel
theorem dX1_join_14 : decode cX1_join 14 = .ok (.aload_n 0, 1) := by decide +kernel
theorem dX1_join_15 : decode cX1_join 15 = .ok (.getfield 42, 3) := by decide +kernel
theorem dX1_join_18 : decode cX1_join 18 = .ok (.iload_n 2, 1) := by decide +kernel
theorem dX1_join_19 : decode cX1_join 19 = .ok (.i2l, 1) := by decide +kernel
theorem dX1_join_20 : decode cX1_join 20 = .ok (.iload_n 1, 1) := by decide +kernel
theorem dX1_join_21 : decode cX1_join 21 = .ok (.i2l, 1) := by decide +kernel
theorem dX1_join_22 : decode cX1_join 22 = .ok (.lsub, 1) := by decide +kernel
theorem dX1_join_23 : decode cX1_join 23 = .ok (.aload_n 0, 1) := by decide +kernel
theorem dX1_join_24 : decode cX1_join 24 = .ok (.getfield 31, 3) := by decide +kernel
theorem dX1_join_27 : decode cX1_join 27 = .ok (.invokestatic 83, 3) := by decide +kernel
theorem dX1_join_30 : decode cX1_join 30 = .ok (.istore 4, 2) := by decide +kernel
theorem dX1_join_32 : decode cX1_join 32 = .ok (.aload_n 0, 1) := by decide +kernel
theorem dX1_join_33 : decode cX1_join 33 = .ok (.iload_n 3, 1) := by decide +kernel
theorem dX1_join_34 : decode cX1_join 34 = .ok (.iload 4, 2) := by decide +kernel
theorem dX1_join_36 : decode cX1_join 36 = .ok (.invokestatic 70, 3) := by decide +kernel
theorem dX1_join_39 : decode cX1_join 39 = .ok (.putfield 9, 3) := by decide +kernel
theorem dX1_join_42 : decode cX1_join 42 = .ok (.aload_n 0, 1) := by decide +kernel
theorem dX1_join_43 : decode cX1_join 43 = .ok (.iload_n 3, 1) := by decide +kernel
theorem dX1_join_44 : decode cX1_join 44 = .ok (.iload 4, 2) := by decide +kernel
theorem dX1_join_46 : decode cX1_join 46 = .ok (.isub, 1) := by decide +kernel
theorem dX1_join_47 : decode cX1_join 47 = .ok (.invokestatic 87, 3) := by decide +kernel
theorem dX1_join_50 : decode cX1_join 50 = .ok (.putfield 21, 3) := by decide +kernel
theorem dX1_join_53 : decode cX1_join 53 = .ok (.aload_n 0, 1) := by decide +kernel
theorem dX1_join_54 : decode cX1_join 54 = .ok (.iconst 0, 1) := by decide +kernel
theorem dX1_join_55 : decode cX1_join 55 = .ok (.putfield 15, 3) := by decide +kernel
theorem dX1_join_58 : decode cX1_join 58 = .ok (.aload_n 0, 1) := by decide +kernel
theorem dX1_join_59 : decode cX1_join 59 = .ok (.iconst 0, 1) := by decide +kernel
theorem dX1_join_60 : decode cX1_join 60 = .ok (.putfield 18, 3) := by decide +kernel
theorem dX1_join_63 : decode cX1_join 63 = .ok (.iconst 0, 1) := by decide +kernel
theorem dX1_join_64 : decode cX1_join 64 = .ok (.istore 5, 2) := by decide +kernel
theorem dX1_join_66 : decode cX1_join 66 = .ok (.iload 5, 2) := by decide +kernel
theorem dX1_join_68 : decode cX1_join 68 = .ok (.aload_n 0, 1) := by decide +kernel
theorem dX1_join_69 : decode cX1_join 69 = .ok (.getfield 9, 3) := by decide +kernel
theorem dX1_join_72 : decode cX1_join 72 = .ok (.if_icmp .ge 53, 3) := by decide +kernel
theorem dX1_join_75 : decode cX1_join 75 = .ok (.aload_n 0, 1) := by decide +kernel
theorem dX1_join_76 : decode cX1_join 76 = .ok (.getfield 28, 3) := by decide +kernel
theorem dX1_join_79 : decode cX1_join 79 = .ok (.iload 5, 2) := by decide +kernel
theorem dX1_join_81 : decode cX1_join 81 = .ok (.iaload, 1) := by decide +kernel
theorem dX1_join_82 : decode cX1_join 82 = .ok (.aload_n 0, 1) := by decide +kernel
theorem dX1_join_83 : decode cX1_join 83 = .ok (.getfield 31, 3) := by decide +kernel
theorem dX1_join_86 : decode cX1_join 86 = .ok (.iload 5, 2) := by decide +kernel
theorem dX1_join_88 : decode cX1_join 88 = .ok (.iaload, 1) := by decide +kernel
theorem dX1_join_89 : decode cX1_join 89 = .ok (.isub, 1) := by decide +kernel
theorem dX1_join_90 : decode cX1_join 90 = .ok (.invokestatic 87, 3) := by decide +kernel
theorem dX1_join_93 : decode cX1_join 93 = .ok (.istore 6, 2) := by decide +kernel
theorem dX1_join_95 : decode cX1_join 95 = .ok (.aload_n 0, 1) := by decide +kernel
theorem dX1_join_96 : decode cX1_join 96 = .ok (.dup, 1) := by decide +kernel
theorem dX1_join_97 : decode cX1_join 97 = .ok (.getfield 15, 3) := by decide +kernel
theorem dX1_join_100 : decode cX1_join 100 = .ok (.iload 6, 2) := by decide +kernel
theorem dX1_join_102 : decode cX1_join 102 = .ok (.iadd, 1) := by decide +kernel
theorem dX1_join_103 : decode cX1_join 103 = .ok (.putfield 15, 3) := by decide +kernel
theorem dX1_join_106 : decode cX1_join 106 = .ok (.aload_n 0, 1) := by decide +kernel
theorem dX1_join_107 : decode cX1_join 107 = .ok (.aload_n 0, 1) := by decide +kernel
theorem dX1_join_108 : decode cX1_join 108 = .ok (.getfield 18, 3) := by decide +kernel
theorem dX1_join_111 : decode cX1_join 111 = .ok (.iload 6, 2) := by decide +kernel
theorem dX1_join_113 : decode cX1_join 113 = .ok (.invokestatic 76, 3) := by decide +kernel
theorem dX1_join_116 : decode cX1_join 116 = .ok (.putfield 18, 3) := by decide +kernel
theorem dX1_join_119 : decode cX1_join 119 = .ok (.iinc 5 1, 3) := by decide +kernel
theorem dX1_join_122 : decode cX1_join 122 = .ok (.goto (-56), 3) := by decide +kernel
theorem dX1_join_125 : decode cX1_join 125 = .ok (.return_, 1) := by decide +kernel
theorem dX1_gather_0 : decode cX1_gather 0 = .ok (.iconst 0, 1) := by decide +kernel
theorem dX1_gather_1 : decode cX1_gather 1 = .ok (.istore 4, 2) := by decide +kernel
theorem dX1_gather_3 : decode cX1_gather 3 = .ok (.iconst 0, 1) := by decide +kernel
theorem dX1_gather_4 : decode cX1_gather 4 = .ok (.istore 5, 2) := by decide +kernel
theorem dX1_gather_6 : decode cX1_gather 6 = .ok (.iload 5, 2) := by decide +kernel
theorem dX1_gather_8 : decode cX1_gather 8 = .ok (.aload_n 0, 1) := by decide +kernel
theorem dX1_gather_9 : decode cX1_gather 9 = .ok (.getfield 62, 3) := by decide +kernel
theorem dX1_gather_12 : decode cX1_gather 12 = .ok (.if_icmp .ge 86, 3) := by decide +kernel
theorem dX1_gather_15 : decode cX1_gather 15 = .ok (.aload_n 0, 1) := by decide +kernel
theorem dX1_gather_16 : decode cX1_gather 16 = .ok (.getfield 90, 3) := by decide +kernel
theorem dX1_gather_19 : decode cX1_gather 19 = .ok (.iload 5, 2) := by decide +kernel
theorem dX1_gather_21 : decode cX1_gather 21 = .ok (.iconst 1, 1) := by decide +kernel
theorem dX1_gather_22 : decode cX1_gather 22 = .ok (.iadd, 1) := by decide +kernel
theorem dX1_gather_23 : decode cX1_gather 23 = .ok (.baload, 1) := by decide +kernel
theorem dX1_gather_24 : decode cX1_gather 24 = .ok (.ifCond .ne 6, 3) := by decide +kernel
theorem dX1_gather_27 : decode cX1_gather 27 = .ok (.goto 65, 3) := by decide +kernel
theorem dX1_gather_30 : decode cX1_gather 30 = .ok (.aload_n 0, 1) := by decide +kernel
theorem dX1_gather_31 : decode cX1_gather 31 = .ok (.getfield 45, 3) := by decide +kernel
theorem dX1_gather_34 : decode cX1_gather 34 = .ok (.iload 5, 2) := by decide +kernel
theorem dX1_gather_36 : decode cX1_gather 36 = .ok (.iaload, 1) := by decide +kernel
theorem dX1_gather_37 : decode cX1_gather 37 = .ok (.i2l, 1) := by decide +kernel
theorem dX1_gather_38 : decode cX1_gather 38 = .ok (.lload_n 1, 1) := by decide +kernel
theorem dX1_gather_39 : decode cX1_gather 39 = .ok (.lcmp, 1) := by decide +kernel
theorem dX1_gather_40 : decode cX1_gather 40 = .ok (.ifCond .ne 19, 3) := by decide +kernel
theorem dX1_gather_43 : decode cX1_gather 43 = .ok (.aload_n 3, 1) := by decide +kernel
theorem dX1_gather_44 : decode cX1_gather 44 = .ok (.iload 4, 2) := by decide +kernel
theorem dX1_gather_46 : decode cX1_gather 46 = .ok (.aload_n 0, 1) := by decide +kernel
theorem dX1_gather_47 : decode cX1_gather 47 = .ok (.getfield 50, 3) := by decide +kernel
theorem dX1_gather_50 : decode cX1_gather 50 = .ok (.iload 5, 2) := by decide +kernel
theorem dX1_gather_52 : decode cX1_gather 52 = .ok (.iaload, 1) := by decide +kernel
theorem dX1_gather_53 : decode cX1_gather 53 = .ok (.invokestatic 94, 3) := by decide +kernel
theorem dX1_gather_56 : decode cX1_gather 56 = .ok (.iinc 4 1, 3) := by decide +kernel
theorem dX1_gather_59 : decode cX1_gather 59 = .ok (.aload_n 0, 1) := by decide +kernel
theorem dX1_gather_60 : decode cX1_gather 60 = .ok (.getfield 45, 3) := by decide +kernel
theorem dX1_gather_63 : decode cX1_gather 63 = .ok (.iload 5, 2) := by decide +kernel
theorem dX1_gather_65 : decode cX1_gather 65 = .ok (.iconst 1, 1) := by decide +kernel
theorem dX1_gather_66 : decode cX1_gather 66 = .ok (.iadd, 1) := by decide +kernel
theorem dX1_gather_67 : decode cX1_gather 67 = .ok (.iaload, 1) := by decide +kernel
theorem dX1_gather_68 : decode cX1_gather 68 = .ok (.i2l, 1) := by decide +kernel
theorem dX1_gather_69 : decode cX1_gather 69 = .ok (.lload_n 1, 1) := by decide +kernel
theorem dX1_gather_70 : decode cX1_gather 70 = .ok (.lcmp, 1) := by decide +kernel
theorem dX1_gather_71 : decode cX1_gather 71 = .ok (.ifCond .ne 21, 3) := by decide +kernel
theorem dX1_gather_74 : decode cX1_gather 74 = .ok (.aload_n 3, 1) := by decide +kernel
theorem dX1_gather_75 : decode cX1_gather 75 = .ok (.iload 4, 2) := by decide +kernel
theorem dX1_gather_77 : decode cX1_gather 77 = .ok (.aload_n 0, 1) := by decide +kernel
theorem dX1_gather_78 : decode cX1_gather 78 = .ok (.getfield 50, 3) := by decide +kernel
theorem dX1_gather_81 : decode cX1_gather 81 = .ok (.iload 5, 2) := by decide +kernel
theorem dX1_gather_83 : decode cX1_gather 83 = .ok (.iconst 1, 1) := by decide +kernel
theorem dX1_gather_84 : decode cX1_gather 84 = .ok (.iadd, 1) := by decide +kernel
theorem dX1_gather_85 : decode cX1_gather 85 = .ok (.iaload, 1) := by decide +kernel
theorem dX1_gather_86 : decode cX1_gather 86 = .ok (.invokestatic 94, 3) := by decide +kernel
theorem dX1_gather_89 : decode cX1_gather 89 = .ok (.iinc 4 1, 3) := by decide +kernel
theorem dX1_gather_92 : decode cX1_gather 92 = .ok (.iinc 5 1, 3) := by decide +kernel
theorem dX1_gather_95 : decode cX1_gather 95 = .ok (.goto (-89), 3) := by decide +kernel
theorem dX1_gather_98 : decode cX1_gather 98 = .ok (.iload 4, 2) := by decide +kernel
theorem dX1_gather_100 : decode cX1_gather 100 = .ok (.ireturn, 1) := by decide +kernel
theorem dX1_sortIn_0 : decode cX1_sortIn 0 = .ok (.iload_n 1, 1) := by decide +kernel
theorem dX1_sortIn_1 : decode cX1_sortIn 1 = .ok (.istore_n 3, 1) := by decide +kernel
theorem dX1_sortIn_2 : decode cX1_sortIn 2 = .ok (.iload_n 3, 1) := by decide +kernel
theorem dX1_sortIn_3 : decode cX1_sortIn 3 = .ok (.ifCond .le 26, 3) := by decide +kernel
theorem dX1_sortIn_6 : decode cX1_sortIn 6 = .ok (.aload_n 0, 1) := by decide +kernel
theorem dX1_sortIn_7 : decode cX1_sortIn 7 = .ok (.iload_n 3, 1) := by decide +kernel
theorem dX1_sortIn_8 : decode cX1_sortIn 8 = .ok (.iconst 1, 1) := by decide +kernel
theorem dX1_sortIn_9 : decode cX1_sortIn 9 = .ok (.isub, 1) := by decide +kernel
theorem dX1_sortIn_10 : decode cX1_sortIn 10 = .ok (.iaload, 1) := by decide +kernel
theorem dX1_sortIn_11 : decode cX1_sortIn 11 = .ok (.iload_n 2, 1) := by decide +kernel
theorem dX1_sortIn_12 : decode cX1_sortIn 12 = .ok (.if_icmp .le 17, 3) := by decide +kernel
theorem dX1_sortIn_15 : decode cX1_sortIn 15 = .ok (.aload_n 0, 1) := by decide +kernel
theorem dX1_sortIn_16 : decode cX1_sortIn 16 = .ok (.iload_n 3, 1) := by decide +kernel
theorem dX1_sortIn_17 : decode cX1_sortIn 17 = .ok (.aload_n 0, 1) := by decide +kernel
theorem dX1_sortIn_18 : decode cX1_sortIn 18 = .ok (.iload_n 3, 1) := by decide +kernel
theorem dX1_sortIn_19 : decode cX1_sortIn 19 = .ok (.iconst 1, 1) := by decide +kernel
theorem dX1_sortIn_20 : decode cX1_sortIn 20 = .ok (.isub, 1) := by decide +kernel
theorem dX1_sortIn_21 : decode cX1_sortIn 21 = .ok (.iaload, 1) := by decide +kernel
theorem dX1_sortIn_22 : decode cX1_sortIn 22 = .ok (.iastore, 1) := by decide +kernel
theorem dX1_sortIn_23 : decode cX1_sortIn 23 = .ok (.iinc 3 (-1), 3) := by decide +kernel
theorem dX1_sortIn_26 : decode cX1_sortIn 26 = .ok (.goto (-24), 3) := by decide +kernel
theorem dX1_sortIn_29 : decode cX1_sortIn 29 = .ok (.aload_n 0, 1) := by decide +kernel
theorem dX1_sortIn_30 : decode cX1_sortIn 30 = .ok (.iload_n 3, 1) := by decide +kernel
theorem dX1_sortIn_31 : decode cX1_sortIn 31 = .ok (.iload_n 2, 1) := by decide +kernel
theorem dX1_sortIn_32 : decode cX1_sortIn 32 = .ok (.iastore, 1) := by decide +kernel
theorem dX1_sortIn_33 : decode cX1_sortIn 33 = .ok (.return_, 1) := by decide +kernel
theorem dX2_init_0 : decode cX2_init 0 = .ok (.aload_n 0, 1) := by decide +kernel
theorem dX2_init_1 : decode cX2_init 1 = .ok (.invokespecial 3, 3) := by decide +kernel
theorem dX2_init_4 : decode cX2_init 4 = .ok (.aload_n 0, 1) := by decide +kernel
theorem dX2_init_5 : decode cX2_init 5 = .ok (.iconst 0, 1) := by decide +kernel
theorem dX2_init_6 : decode cX2_init 6 = .ok (.putfield 9, 3) := by decide +kernel
theorem dX2_init_9 : decode cX2_init 9 = .ok (.aload_n 0, 1) := by decide +kernel
theorem dX2_init_10 : decode cX2_init 10 = .ok (.sipush 151, 3) := by decide +kernel
theorem dX2_init_13 : decode cX2_init 13 = .ok (.newarray .int, 2) := by decide +kernel
theorem dX2_init_15 : decode cX2_init 15 = .ok (.putfield 15, 3) := by decide +kernel
theorem dX2_init_18 : decode cX2_init 18 = .ok (.aload_n 0, 1) := by decide +kernel
theorem dX2_init_19 : decode cX2_init 19 = .ok (.sipush 151, 3) := by decide +kernel
theorem dX2_init_22 : decode cX2_init 22 = .ok (.newarray .int, 2) := by decide +kernel
theorem dX2_init_24 : decode cX2_init 24 = .ok (.putfield 19, 3) := by decide +kernel
theorem dX2_init_27 : decode cX2_init 27 = .ok (.aload_n 0, 1) := by decide +kernel
theorem dX2_init_28 : decode cX2_init 28 = .ok (.sipush 151, 3) := by decide +kernel
theorem dX2_init_31 : decode cX2_init 31 = .ok (.newarray .boolean, 2) := by decide +kernel
theorem dX2_init_33 : decode cX2_init 33 = .ok (.putfield 22, 3) := by decide +kernel
theorem dX2_init_36 : decode cX2_init 36 = .ok (.aload_n 0, 1) := by decide +kernel
theorem dX2_init_37 : decode cX2_init 37 = .ok (.sipush 151, 3) := by decide +kernel
theorem dX2_init_40 : decode cX2_init 40 = .ok (.newarray .int, 2) := by decide +kernel
theorem dX2_init_42 : decode cX2_init 42 = .ok (.putfield 26, 3) := by decide +kernel
theorem dX2_init_45 : decode cX2_init 45 = .ok (.aload_n 0, 1) := by decide +kernel
theorem dX2_init_46 : decode cX2_init 46 = .ok (.sipush 151, 3) := by decide +kernel
theorem dX2_init_49 : decode cX2_init 49 = .ok (.newarray .int, 2) := by decide +kernel
theorem dX2_init_51 : decode cX2_init 51 = .ok (.putfield 29, 3) := by decide +kernel
theorem dX2_init_54 : decode cX2_init 54 = .ok (.aload_n 0, 1) := by decide +kernel
theorem dX2_init_55 : decode cX2_init 55 = .ok (.sipush 300, 3) := by decide +kernel
theorem dX2_init_58 : decode cX2_init 58 = .ok (.newarray .int, 2) := by decide +kernel
theorem dX2_init_60 : decode cX2_init 60 = .ok (.putfield 32, 3) := by decide +kernel
theorem dX2_init_63 : decode cX2_init 63 = .ok (.aload_n 0, 1) := by decide +kernel
theorem dX2_init_64 : decode cX2_init 64 = .ok (.aload_n 1, 1) := by decide +kernel
theorem dX2_init_65 : decode cX2_init 65 = .ok (.putfield 35, 3) := by decide +kernel
theorem dX2_init_68 : decode cX2_init 68 = .ok (.return_, 1) := by decide +kernel
theorem dX2_has_0 : decode cX2_has 0 = .ok (.iload_n 1, 1) := by decide +kernel
theorem dX2_has_1 : decode cX2_has 1 = .ok (.ifCond .lt 15, 3) := by decide +kernel
theorem dX2_has_4 : decode cX2_has 4 = .ok (.iload_n 1, 1) := by decide +kernel
theorem dX2_has_5 : decode cX2_has 5 = .ok (.aload_n 0, 1) := by decide +kernel
theorem dX2_has_6 : decode cX2_has 6 = .ok (.getfield 9, 3) := by decide +kernel
theorem dX2_has_9 : decode cX2_has 9 = .ok (.if_icmp .ge 7, 3) := by decide +kernel
theorem dX2_has_12 : decode cX2_has 12 = .ok (.iconst 1, 1) := by decide +kernel
theorem dX2_has_13 : decode cX2_has 13 = .ok (.goto 4, 3) := by decide +kernel
theorem dX2_has_16 : decode cX2_has 16 = .ok (.iconst 0, 1) := by decide +kernel
theorem dX2_has_17 : decode cX2_has 17 = .ok (.ireturn, 1) := by decide +kernel
theorem dX2_goHome_0 : decode cX2_goHome 0 = .ok (.aload_n 0, 1) := by decide +kernel
theorem dX2_goHome_1 : decode cX2_goHome 1 = .ok (.iconst 0, 1) := by decide +kernel
theorem dX2_goHome_2 : decode cX2_goHome 2 = .ok (.putfield 9, 3) := by decide +kernel
theorem dX2_goHome_5 : decode cX2_goHome 5 = .ok (.aload_n 0, 1) := by decide +kernel
theorem dX2_goHome_6 : decode cX2_goHome 6 = .ok (.getfield 15, 3) := by decide +kernel
theorem dX2_goHome_9 : decode cX2_goHome 9 = .ok (.iconst 0, 1) := by decide +kernel
theorem dX2_goHome_10 : decode cX2_goHome 10 = .ok (.aload_n 0, 1) := by decide +kernel
theorem dX2_goHome_11 : decode cX2_goHome 11 = .ok (.getfield 35, 3) := by decide +kernel
theorem dX2_goHome_14 : decode cX2_goHome 14 = .ok (.getfield 39, 3) := by decide +kernel
theorem dX2_goHome_17 : decode cX2_goHome 17 = .ok (.iconst 2, 1) := by decide +kernel
theorem dX2_goHome_18 : decode cX2_goHome 18 = .ok (.idiv, 1) := by decide +kernel
theorem dX2_goHome_19 : decode cX2_goHome 19 = .ok (.iastore, 1) := by decide +kernel
theorem dX2_goHome_20 : decode cX2_goHome 20 = .ok (.aload_n 0, 1) := by decide +kernel
theorem dX2_goHome_21 : decode cX2_goHome 21 = .ok (.getfield 19, 3) := by decide +kernel
theorem dX2_goHome_24 : decode cX2_goHome 24 = .ok (.iconst 0, 1) := by decide +kernel
theorem dX2_goHome_25 : decode cX2_goHome 25 = .ok (.aload_n 0, 1) := by decide +kernel
theorem dX2_goHome_26 : decode cX2_goHome 26 = .ok (.getfield 35, 3) := by decide +kernel
theorem dX2_goHome_29 : decode cX2_goHome 29 = .ok (.getfield 44, 3) := by decide +kernel
theorem dX2_goHome_32 : decode cX2_goHome 32 = .ok (.iastore, 1) := by decide +kernel
theorem dX2_goHome_33 : decode cX2_goHome 33 = .ok (.aload_n 0, 1) := by decide +kernel
theorem dX2_goHome_34 : decode cX2_goHome 34 = .ok (.getfield 22, 3) := by decide +kernel
theorem dX2_goHome_37 : decode cX2_goHome 37 = .ok (.iconst 0, 1) := by decide +kernel
theorem dX2_goHome_38 : decode cX2_goHome 38 = .ok (.iconst 0, 1) := by decide +kernel
theorem dX2_goHome_39 : decode cX2_goHome 39 = .ok (.bastore, 1) := by decide +kernel
theorem dX2_goHome_40 : decode cX2_goHome 40 = .ok (.aload_n 0, 1) := by decide +kernel
theorem dX2_goHome_41 : decode cX2_goHome 41 = .ok (.iconst 0, 1) := by decide +kernel
theorem dX2_goHome_42 : decode cX2_goHome 42 = .ok (.invokevirtual 47, 3) := by decide +kernel
theorem dX2_goHome_45 : decode cX2_goHome 45 = .ok (.return_, 1) := by decide +kernel
theorem dX2_append_0 : decode cX2_append 0 = .ok (.aload_n 0, 1) := by decide +kernel
theorem dX2_append_1 : decode cX2_append 1 = .ok (.getfield 9, 3) := by decide +kernel
theorem dX2_append_4 : decode cX2_append 4 = .ok (.sipush 150, 3) := by decide +kernel
theorem dX2_append_7 : decode cX2_append 7 = .ok (.if_icmp .lt 5, 3) := by decide +kernel
theorem dX2_append_10 : decode cX2_append 10 = .ok (.iconst 0, 1) := by decide +kernel
theorem dX2_append_11 : decode cX2_append 11 = .ok (.ireturn, 1) := by decide +kernel
theorem dX2_append_12 : decode cX2_append 12 = .ok (.aload_n 0, 1) := by decide +kernel
theorem dX2_append_13 : decode cX2_append 13 = .ok (.dup, 1) := by decide +kernel
theorem dX2_append_14 : decode cX2_append 14 = .ok (.getfield 9, 3) := by decide +kernel
theorem dX2_append_17 : decode cX2_append 17 = .ok (.iconst 1, 1) := by decide +kernel
theorem dX2_append_18 : decode cX2_append 18 = .ok (.iadd, 1) := by decide +kernel
theorem dX2_append_19 : decode cX2_append 19 = .ok (.putfield 9, 3) := by decide +kernel
theorem dX2_append_22 : decode cX2_append 22 = .ok (.aload_n 0, 1) := by decide +kernel
theorem dX2_append_23 : decode cX2_append 23 = .ok (.getfield 15, 3) := by decide +kernel
theorem dX2_append_26 : decode cX2_append 26 = .ok (.aload_n 0, 1) := by decide +kernel
theorem dX2_append_27 : decode cX2_append 27 = .ok (.getfield 9, 3) := by decide +kernel
theorem dX2_append_30 : decode cX2_append 30 = .ok (.iload_n 1, 1) := by decide +kernel
theorem dX2_append_31 : decode cX2_append 31 = .ok (.iastore, 1) := by decide +kernel
theorem dX2_append_32 : decode cX2_append 32 = .ok (.aload_n 0, 1) := by decide +kernel
theorem dX2_append_33 : decode cX2_append 33 = .ok (.getfield 19, 3) := by decide +kernel
theorem dX2_append_36 : decode cX2_append 36 = .ok (.aload_n 0, 1) := by decide +kernel
theorem dX2_append_37 : decode cX2_append 37 = .ok (.getfield 9, 3) := by decide +kernel
theorem dX2_append_40 : decode cX2_append 40 = .ok (.iload_n 2, 1) := by decide +kernel
theorem dX2_append_41 : decode cX2_append 41 = .ok (.iastore, 1) := by decide +kernel
theorem dX2_append_42 : decode cX2_append 42 = .ok (.aload_n 0, 1) := by decide +kernel
theorem dX2_append_43 : decode cX2_append 43 = .ok (.getfield 22, 3) := by decide +kernel
theorem dX2_append_46 : decode cX2_append 46 = .ok (.aload_n 0, 1) := by decide +kernel
theorem dX2_append_47 : decode cX2_append 47 = .ok (.getfield 9, 3) := by decide +kernel
theorem dX2_append_50 : decode cX2_append 50 = .ok (.iload_n 3, 1) := by decide +kernel
theorem dX2_append_51 : decode cX2_append 51 = .ok (.bastore, 1) := by decide +kernel
theorem dX2_append_52 : decode cX2_append 52 = .ok (.iconst 1, 1) := by decide +kernel
theorem dX2_append_53 : decode cX2_append 53 = .ok (.ireturn, 1) := by decide +kernel
theorem dX2_penIsAt_0 : decode cX2_penIsAt 0 = .ok (.aload_n 0, 1) := by decide +kernel
theorem dX2_penIsAt_1 : decode cX2_penIsAt 1 = .ok (.getfield 15, 3) := by decide +kernel
theorem dX2_penIsAt_4 : decode cX2_penIsAt 4 = .ok (.aload_n 0, 1) := by decide +kernel
theorem dX2_penIsAt_5 : decode cX2_penIsAt 5 = .ok (.getfield 9, 3) := by decide +kernel
theorem dX2_penIsAt_8 : decode cX2_penIsAt 8 = .ok (.iaload, 1) := by decide +kernel
theorem dX2_penIsAt_9 : decode cX2_penIsAt 9 = .ok (.iload_n 1, 1) := by decide +kernel
theorem dX2_penIsAt_10 : decode cX2_penIsAt 10 = .ok (.if_icmp .ne 20, 3) := by decide +kernel
theorem dX2_penIsAt_13 : decode cX2_penIsAt 13 = .ok (.aload_n 0, 1) := by decide +kernel
theorem dX2_penIsAt_14 : decode cX2_penIsAt 14 = .ok (.getfield 19, 3) := by decide +kernel
theorem dX2_penIsAt_17 : decode cX2_penIsAt 17 = .ok (.aload_n 0, 1) := by decide +kernel
theorem dX2_penIsAt_18 : decode cX2_penIsAt 18 = .ok (.getfield 9, 3) := by decide +kernel
theorem dX2_penIsAt_21 : decode cX2_penIsAt 21 = .ok (.iaload, 1) := by decide +kernel
theorem dX2_penIsAt_22 : decode cX2_penIsAt 22 = .ok (.iload_n 2, 1) := by decide +kernel
theorem dX2_penIsAt_23 : decode cX2_penIsAt 23 = .ok (.if_icmp .ne 7, 3) := by decide +kernel
theorem dX2_penIsAt_26 : decode cX2_penIsAt 26 = .ok (.iconst 1, 1) := by decide +kernel
theorem dX2_penIsAt_27 : decode cX2_penIsAt 27 = .ok (.goto 4, 3) := by decide +kernel
theorem dX2_penIsAt_30 : decode cX2_penIsAt 30 = .ok (.iconst 0, 1) := by decide +kernel
theorem dX2_penIsAt_31 : decode cX2_penIsAt 31 = .ok (.ireturn, 1) := by decide +kernel
theorem dX2_measure_0 : decode cX2_measure 0 = .ok (.iconst 0, 1) := by decide +kernel
theorem dX2_measure_1 : decode cX2_measure 1 = .ok (.istore_n 1, 1) := by decide +kernel
theorem dX2_measure_2 : decode cX2_measure 2 = .ok (.iload_n 1, 1) := by decide +kernel
theorem dX2_measure_3 : decode cX2_measure 3 = .ok (.aload_n 0, 1) := by decide +kernel
theorem dX2_measure_4 : decode cX2_measure 4 = .ok (.getfield 9, 3) := by decide +kernel
theorem dX2_measure_7 : decode cX2_measure 7 = .ok (.if_icmp .gt 14, 3) := by decide +kernel
theorem dX2_measure_10 : decode cX2_measure 10 = .ok (.aload_n 0, 1) := by decide +kernel
theorem dX2_measure_11 : decode cX2_measure 11 = .ok (.iload_n 1, 1) := by decide +kernel
theorem dX2_measure_12 : decode cX2_measure 12 = .ok (.invokevirtual 47, 3) := by decide +kernel
theorem dX2_measure_15 : decode cX2_measure 15 = .ok (.iinc 1 1, 3) := by decide +kernel
theorem dX2_measure_18 : decode cX2_measure 18 = .ok (.goto (-16), 3) := by decide +kernel
theorem dX2_measure_21 : decode cX2_measure 21 = .ok (.return_, 1) := by decide +kernel
theorem dX2_measureOne_0 : decode cX2_measureOne 0 = .ok (.aload_n 0, 1) := by decide +kernel
theorem dX2_measureOne_1 : decode cX2_measureOne 1 = .ok (.getfield 26, 3) := by decide +kernel
theorem dX2_measureOne_4 : decode cX2_measureOne 4 = .ok (.iload_n 1, 1) := by decide +kernel
theorem dX2_measureOne_5 : decode cX2_measureOne 5 = .ok (.aload_n 0, 1) := by decide +kernel
theorem dX2_measureOne_6 : decode cX2_measureOne 6 = .ok (.getfield 35, 3) := by decide +kernel
theorem dX2_measureOne_9 : decode cX2_measureOne 9 = .ok (.ldc2_w 51, 3) := by decide +kernel
theorem dX2_measureOne_12 : decode cX2_measureOne 12 = .ok (.aload_n 0, 1) := by decide +kernel
theorem dX2_measureOne_13 : decode cX2_measureOne 13 = .ok (.getfield 15, 3) := by decide +kernel
theorem dX2_measureOne_16 : decode cX2_measureOne 16 = .ok (.iload_n 1, 1) := by decide +kernel
theorem dX2_measureOne_17 : decode cX2_measureOne 17 = .ok (.iaload, 1) := by decide +kernel
theorem dX2_measureOne_18 : decode cX2_measureOne 18 = .ok (.i2l, 1) := by decide +kernel
theorem dX2_measureOne_19 : decode cX2_measureOne 19 = .ok (.lmul, 1) := by decide +kernel
theorem dX2_measureOne_20 : decode cX2_measureOne 20 = .ok (.ldc2_w 51, 3) := by decide +kernel
theorem dX2_measureOne_23 : decode cX2_measureOne 23 = .ok (.aload_n 0, 1) := by decide +kernel
theorem dX2_measureOne_24 : decode cX2_measureOne 24 = .ok (.getfield 19, 3) := by decide +kernel
theorem dX2_measureOne_27 : decode cX2_measureOne 27 = .ok (.iload_n 1, 1) := by decide +kernel
theorem dX2_measureOne_28 : decode cX2_measureOne 28 = .ok (.iaload, 1) := by decide +kernel
theorem dX2_measureOne_29 : decode cX2_measureOne 29 = .ok (.i2l, 1) := by decide +kernel
theorem dX2_measureOne_30 : decode cX2_measureOne 30 = .ok (.lmul, 1) := by decide +kernel
theorem dX2_measureOne_31 : decode cX2_measureOne 31 = .ok (.invokevirtual 53, 3) := by decide +kernel
theorem dX2_measureOne_34 : decode cX2_measureOne 34 = .ok (.iastore, 1) := by decide +kernel
theorem dX2_measureOne_35 : decode cX2_measureOne 35 = .ok (.aload_n 0, 1) := by decide +kernel
theorem dX2_measureOne_36 : decode cX2_measureOne 36 = .ok (.getfield 29, 3) := by decide +kernel
theorem dX2_measureOne_39 : decode cX2_measureOne 39 = .ok (.iload_n 1, 1) := by decide +kernel
theorem dX2_measureOne_40 : decode cX2_measureOne 40 = .ok (.aload_n 0, 1) := by decide +kernel
theorem dX2_measureOne_41 : decode cX2_measureOne 41 = .ok (.getfield 35, 3) := by decide +kernel
theorem dX2_measureOne_44 : decode cX2_measureOne 44 = .ok (.ldc2_w 51, 3) := by decide +kernel
theorem dX2_measureOne_47 : decode cX2_measureOne 47 = .ok (.aload_n 0, 1) := by decide +kernel
theorem dX2_measureOne_48 : decode cX2_measureOne 48 = .ok (.getfield 15, 3) := by decide +kernel
theorem dX2_measureOne_51 : decode cX2_measureOne 51 = .ok (.iload_n 1, 1) := by decide +kernel
theorem dX2_measureOne_52 : decode cX2_measureOne 52 = .ok (.iaload, 1) := by decide +kernel
theorem dX2_measureOne_53 : decode cX2_measureOne 53 = .ok (.i2l, 1) := by decide +kernel
theorem dX2_measureOne_54 : decode cX2_measureOne 54 = .ok (.lmul, 1) := by decide +kernel
theorem dX2_measureOne_55 : decode cX2_measureOne 55 = .ok (.ldc2_w 51, 3) := by decide +kernel
theorem dX2_measureOne_58 : decode cX2_measureOne 58 = .ok (.aload_n 0, 1) := by decide +kernel
theorem dX2_measureOne_59 : decode cX2_measureOne 59 = .ok (.getfield 19, 3) := by decide +kernel
theorem dX2_measureOne_62 : decode cX2_measureOne 62 = .ok (.iload_n 1, 1) := by decide +kernel
theorem dX2_measureOne_63 : decode cX2_measureOne 63 = .ok (.iaload, 1) := by decide +kernel
theorem dX2_measureOne_64 : decode cX2_measureOne 64 = .ok (.i2l, 1) := by decide +kernel
theorem dX2_measureOne_65 : decode cX2_measureOne 65 = .ok (.lmul, 1) := by decide +kernel
theorem dX2_measureOne_66 : decode cX2_measureOne 66 = .ok (.invokevirtual 57, 3) := by decide +kernel
theorem dX2_measureOne_69 : decode cX2_measureOne 69 = .ok (.iastore, 1) := by decide +kernel
theorem dX2_measureOne_70 : decode cX2_measureOne 70 = .ok (.return_, 1) := by decide +kernel
theorem dX2_copy_0 : decode cX2_copy 0 = .ok (.aload_n 0, 1) := by decide +kernel
theorem dX2_copy_1 : decode cX2_copy 1 = .ok (.aload_n 1, 1) := by decide +kernel
theorem dX2_copy_2 : decode cX2_copy 2 = .ok (.getfield 9, 3) := by decide +kernel
theorem dX2_copy_5 : decode cX2_copy 5 = .ok (.putfield 9, 3) := by decide +kernel
theorem dX2_copy_8 : decode cX2_copy 8 = .ok (.iconst 0, 1) := by decide +kernel
theorem dX2_copy_9 : decode cX2_copy 9 = .ok (.istore_n 2, 1) := by decide +kernel
theorem dX2_copy_10 : decode cX2_copy 10 = .ok (.iload_n 2, 1) := by decide +kernel
theorem dX2_copy_11 : decode cX2_copy 11 = .ok (.aload_n 0, 1) := by decide +kernel
theorem dX2_copy_12 : decode cX2_copy 12 = .ok (.getfield 9, 3) := by decide +kernel
theorem dX2_copy_15 : decode cX2_copy 15 = .ok (.if_icmp .gt 69, 3) := by decide +kernel
theorem dX2_copy_18 : decode cX2_copy 18 = .ok (.aload_n 0, 1) := by decide +kernel
theorem dX2_copy_19 : decode cX2_copy 19 = .ok (.getfield 15, 3) := by decide +kernel
theorem dX2_copy_22 : decode cX2_copy 22 = .ok (.iload_n 2, 1) := by decide +kernel
theorem dX2_copy_23 : decode cX2_copy 23 = .ok (.aload_n 1, 1) := by decide +kernel
theorem dX2_copy_24 : decode cX2_copy 24 = .ok (.getfield 15, 3) := by decide +kernel
theorem dX2_copy_27 : decode cX2_copy 27 = .ok (.iload_n 2, 1) := by decide +kernel
theorem dX2_copy_28 : decode cX2_copy 28 = .ok (.iaload, 1) := by decide +kernel
theorem dX2_copy_29 : decode cX2_copy 29 = .ok (.iastore, 1) := by decide +kernel
theorem dX2_copy_30 : decode cX2_copy 30 = .ok (.aload_n 0, 1) := by decide +kernel
theorem dX2_copy_31 : decode cX2_copy 31 = .ok (.getfield 19, 3) := by decide +kernel
theorem dX2_copy_34 : decode cX2_copy 34 = .ok (.iload_n 2, 1) := by decide +kernel
theorem dX2_copy_35 : decode cX2_copy 35 = .ok (.aload_n 1, 1) := by decide +kernel
theorem dX2_copy_36 : decode cX2_copy 36 = .ok (.getfield 19, 3) := by decide +kernel
theorem dX2_copy_39 : decode cX2_copy 39 = .ok (.iload_n 2, 1) := by decide +kernel
theorem dX2_copy_40 : decode cX2_copy 40 = .ok (.iaload, 1) := by decide +kernel
theorem dX2_copy_41 : decode cX2_copy 41 = .ok (.iastore, 1) := by decide +kernel
theorem dX2_copy_42 : decode cX2_copy 42 = .ok (.aload_n 0, 1) := by decide +kernel
theorem dX2_copy_43 : decode cX2_copy 43 = .ok (.getfield 22, 3) := by decide +kernel
theorem dX2_copy_46 : decode cX2_copy 46 = .ok (.iload_n 2, 1) := by decide +kernel
theorem dX2_copy_47 : decode cX2_copy 47 = .ok (.aload_n 1, 1) := by decide +kernel
theorem dX2_copy_48 : decode cX2_copy 48 = .ok (.getfield 22, 3) := by decide +kernel
theorem dX2_copy_51 : decode cX2_copy 51 = .ok (.iload_n 2, 1) := by decide +kernel
theorem dX2_copy_52 : decode cX2_copy 52 = .ok (.baload, 1) := by decide +kernel
theorem dX2_copy_53 : decode cX2_copy 53 = .ok (.bastore, 1) := by decide +kernel
theorem dX2_copy_54 : decode cX2_copy 54 = .ok (.aload_n 0, 1) := by decide +kernel
theorem dX2_copy_55 : decode cX2_copy 55 = .ok (.getfield 26, 3) := by decide +kernel
theorem dX2_copy_58 : decode cX2_copy 58 = .ok (.iload_n 2, 1) := by decide +kernel
theorem dX2_copy_59 : decode cX2_copy 59 = .ok (.aload_n 1, 1) := by decide +kernel
theorem dX2_copy_60 : decode cX2_copy 60 = .ok (.getfield 26, 3) := by decide +kernel
theorem dX2_copy_63 : decode cX2_copy 63 = .ok (.iload_n 2, 1) := by decide +kernel
theorem dX2_copy_64 : decode cX2_copy 64 = .ok (.iaload, 1) := by decide +kernel
theorem dX2_copy_65 : decode cX2_copy 65 = .ok (.iastore, 1) := by decide +kernel
theorem dX2_copy_66 : decode cX2_copy 66 = .ok (.aload_n 0, 1) := by decide +kernel
theorem dX2_copy_67 : decode cX2_copy 67 = .ok (.getfield 29, 3) := by decide +kernel
theorem dX2_copy_70 : decode cX2_copy 70 = .ok (.iload_n 2, 1) := by decide +kernel
theorem dX2_copy_71 : decode cX2_copy 71 = .ok (.aload_n 1, 1) := by decide +kernel
theorem dX2_copy_72 : decode cX2_copy 72 = .ok (.getfield 29, 3) := by decide +kernel
theorem dX2_copy_75 : decode cX2_copy 75 = .ok (.iload_n 2, 1) := by decide +kernel
theorem dX2_copy_76 : decode cX2_copy 76 = .ok (.iaload, 1) := by decide +kernel
theorem dX2_copy_77 : decode cX2_copy 77 = .ok (.iastore, 1) := by decide +kernel
theorem dX2_copy_78 : decode cX2_copy 78 = .ok (.iinc 2 1, 3) := by decide +kernel
theorem dX2_copy_81 : decode cX2_copy 81 = .ok (.goto (-71), 3) := by decide +kernel
theorem dX2_copy_84 : decode cX2_copy 84 = .ok (.return_, 1) := by decide +kernel
theorem dX2_ticksOf_0 : decode cX2_ticksOf 0 = .ok (.aload_n 0, 1) := by decide +kernel
theorem dX2_ticksOf_1 : decode cX2_ticksOf 1 = .ok (.getfield 26, 3) := by decide +kernel
theorem dX2_ticksOf_4 : decode cX2_ticksOf 4 = .ok (.iload_n 1, 1) := by decide +kernel
theorem dX2_ticksOf_5 : decode cX2_ticksOf 5 = .ok (.iconst 1, 1) := by decide +kernel
theorem dX2_ticksOf_6 : decode cX2_ticksOf 6 = .ok (.iadd, 1) := by decide +kernel
theorem dX2_ticksOf_7 : decode cX2_ticksOf 7 = .ok (.iaload, 1) := by decide +kernel
theorem dX2_ticksOf_8 : decode cX2_ticksOf 8 = .ok (.aload_n 0, 1) := by decide +kernel
theorem dX2_ticksOf_9 : decode cX2_ticksOf 9 = .ok (.getfield 26, 3) := by decide +kernel
theorem dX2_ticksOf_12 : decode cX2_ticksOf 12 = .ok (.iload_n 1, 1) := by decide +kernel
theorem dX2_ticksOf_13 : decode cX2_ticksOf 13 = .ok (.iaload, 1) := by decide +kernel
theorem dX2_ticksOf_14 : decode cX2_ticksOf 14 = .ok (.isub, 1) := by decide +kernel
theorem dX2_ticksOf_15 : decode cX2_ticksOf 15 = .ok (.invokestatic 60, 3) := by decide +kernel
theorem dX2_ticksOf_18 : decode cX2_ticksOf 18 = .ok (.aload_n 0, 1) := by decide +kernel
theorem dX2_ticksOf_19 : decode cX2_ticksOf 19 = .ok (.getfield 29, 3) := by decide +kernel
theorem dX2_ticksOf_22 : decode cX2_ticksOf 22 = .ok (.iload_n 1, 1) := by decide +kernel
theorem dX2_ticksOf_23 : decode cX2_ticksOf 23 = .ok (.iconst 1, 1) := by decide +kernel
theorem dX2_ticksOf_24 : decode cX2_ticksOf 24 = .ok (.iadd, 1) := by decide +kernel
theorem dX2_ticksOf_25 : decode cX2_ticksOf 25 = .ok (.iaload, 1) := by decide +kernel
theorem dX2_ticksOf_26 : decode cX2_ticksOf 26 = .ok (.aload_n 0, 1) := by decide +kernel
theorem dX2_ticksOf_27 : decode cX2_ticksOf 27 = .ok (.getfield 29, 3) := by decide +kernel
theorem dX2_ticksOf_30 : decode cX2_ticksOf 30 = .ok (.iload_n 1, 1) := by decide +kernel
theorem dX2_ticksOf_31 : decode cX2_ticksOf 31 = .ok (.iaload, 1) := by decide +kernel
theorem dX2_ticksOf_32 : decode cX2_ticksOf 32 = .ok (.isub, 1) := by decide +kernel
theorem dX2_ticksOf_33 : decode cX2_ticksOf 33 = .ok (.invokestatic 60, 3) := by decide +kernel
theorem dX2_ticksOf_36 : decode cX2_ticksOf 36 = .ok (.invokestatic 66, 3) := by decide +kernel
theorem dX2_ticksOf_39 : decode cX2_ticksOf 39 = .ok (.ireturn, 1) := by decide +kernel
theorem dX2_dropMissed_0 : decode cX2_dropMissed 0 = .ok (.iconst 0, 1) := by decide +kernel
theorem dX2_dropMissed_1 : decode cX2_dropMissed 1 = .ok (.istore_n 1, 1) := by decide +kernel
theorem dX2_dropMissed_2 : decode cX2_dropMissed 2 = .ok (.iload_n 1, 1) := by decide +kernel
theorem dX2_dropMissed_3 : decode cX2_dropMissed 3 = .ok (.sipush 300, 3) := by decide +kernel
theorem dX2_dropMissed_6 : decode cX2_dropMissed 6 = .ok (.if_icmp .ge 16, 3) := by decide +kernel
theorem dX2_dropMissed_9 : decode cX2_dropMissed 9 = .ok (.aload_n 0, 1) := by decide +kernel
theorem dX2_dropMissed_10 : decode cX2_dropMissed 10 = .ok (.getfield 32, 3) := by decide +kernel
theorem dX2_dropMissed_13 : decode cX2_dropMissed 13 = .ok (.iload_n 1, 1) := by decide +kernel
theorem dX2_dropMissed_14 : decode cX2_dropMissed 14 = .ok (.iconst 0, 1) := by decide +kernel
theorem dX2_dropMissed_15 : decode cX2_dropMissed 15 = .ok (.iastore, 1) := by decide +kernel
theorem dX2_dropMissed_16 : decode cX2_dropMissed 16 = .ok (.iinc 1 1, 3) := by decide +kernel
theorem dX2_dropMissed_19 : decode cX2_dropMissed 19 = .ok (.goto (-17), 3) := by decide +kernel
theorem dX2_dropMissed_22 : decode cX2_dropMissed 22 = .ok (.return_, 1) := by decide +kernel
theorem dX2_missedBy_0 : decode cX2_missedBy 0 = .ok (.iconst 0, 1) := by decide +kernel
theorem dX2_missedBy_1 : decode cX2_missedBy 1 = .ok (.istore_n 3, 1) := by decide +kernel
theorem dX2_missedBy_2 : decode cX2_missedBy 2 = .ok (.iconst 0, 1) := by decide +kernel
theorem dX2_missedBy_3 : decode cX2_missedBy 3 = .ok (.istore 4, 2) := by decide +kernel
theorem dX2_missedBy_5 : decode cX2_missedBy 5 = .ok (.iload 4, 2) := by decide +kernel
theorem dX2_missedBy_7 : decode cX2_missedBy 7 = .ok (.iload_n 1, 1) := by decide +kernel
theorem dX2_missedBy_8 : decode cX2_missedBy 8 = .ok (.if_icmp .gt 32, 3) := by decide +kernel
theorem dX2_missedBy_11 : decode cX2_missedBy 11 = .ok (.iload 4, 2) := by decide +kernel
theorem dX2_missedBy_13 : decode cX2_missedBy 13 = .ok (.aload_n 0, 1) := by decide +kernel
theorem dX2_missedBy_14 : decode cX2_missedBy 14 = .ok (.getfield 9, 3) := by decide +kernel
theorem dX2_missedBy_17 : decode cX2_missedBy 17 = .ok (.if_icmp .ge 23, 3) := by decide +kernel
theorem dX2_missedBy_20 : decode cX2_missedBy 20 = .ok (.iload_n 3, 1) := by decide +kernel
theorem dX2_missedBy_21 : decode cX2_missedBy 21 = .ok (.aload_n 0, 1) := by decide +kernel
theorem dX2_missedBy_22 : decode cX2_missedBy 22 = .ok (.getfield 32, 3) := by decide +kernel
theorem dX2_missedBy_25 : decode cX2_missedBy 25 = .ok (.iconst 2, 1) := by decide +kernel
theorem dX2_missedBy_26 : decode cX2_missedBy 26 = .ok (.iload 4, 2) := by decide +kernel
theorem dX2_missedBy_28 : decode cX2_missedBy 28 = .ok (.imul, 1) := by decide +kernel
theorem dX2_missedBy_29 : decode cX2_missedBy 29 = .ok (.iload_n 2, 1) := by decide +kernel
theorem dX2_missedBy_30 : decode cX2_missedBy 30 = .ok (.iadd, 1) := by decide +kernel
theorem dX2_missedBy_31 : decode cX2_missedBy 31 = .ok (.iaload, 1) := by decide +kernel
theorem dX2_missedBy_32 : decode cX2_missedBy 32 = .ok (.iadd, 1) := by decide +kernel
theorem dX2_missedBy_33 : decode cX2_missedBy 33 = .ok (.istore_n 3, 1) := by decide +kernel
theorem dX2_missedBy_34 : decode cX2_missedBy 34 = .ok (.iinc 4 1, 3) := by decide +kernel
theorem dX2_missedBy_37 : decode cX2_missedBy 37 = .ok (.goto (-32), 3) := by decide +kernel
theorem dX2_missedBy_40 : decode cX2_missedBy 40 = .ok (.iload_n 3, 1) := by decide +kernel
theorem dX2_missedBy_41 : decode cX2_missedBy 41 = .ok (.ireturn, 1) := by decide +kernel
theorem dX2_between_0 : decode cX2_between 0 = .ok (.iload_n 3, 1) := by decide +kernel
theorem dX2_between_1 : decode cX2_between 1 = .ok (.ifCond .le 15, 3) := by decide +kernel
theorem dX2_between_4 : decode cX2_between 4 = .ok (.iload_n 0, 1) := by decide +kernel
theorem dX2_between_5 : decode cX2_between 5 = .ok (.iload_n 2, 1) := by decide +kernel
theorem dX2_between_6 : decode cX2_between 6 = .ok (.iload_n 1, 1) := by decide +kernel
theorem dX2_between_7 : decode cX2_between 7 = .ok (.iload_n 0, 1) := by decide +kernel
theorem dX2_between_8 : decode cX2_between 8 = .ok (.isub, 1) := by decide +kernel
theorem dX2_between_9 : decode cX2_between 9 = .ok (.imul, 1) := by decide +kernel
theorem dX2_between_10 : decode cX2_between 10 = .ok (.iload_n 3, 1) := by decide +kernel
theorem dX2_between_11 : decode cX2_between 11 = .ok (.idiv, 1) := by decide +kernel
theorem dX2_between_12 : decode cX2_between 12 = .ok (.iadd, 1) := by decide +kernel
theorem dX2_between_13 : decode cX2_between 13 = .ok (.goto 4, 3) := by decide +kernel
theorem dX2_between_16 : decode cX2_between 16 = .ok (.iload_n 0, 1) := by decide +kernel
theorem dX2_between_17 : decode cX2_between 17 = .ok (.ireturn, 1) := by decide +kernel
theorem dX3_init_0 : decode cX3_init 0 = .ok (.aload_n 0, 1) := by decide +kernel
theorem dX3_init_1 : decode cX3_init 1 = .ok (.invokespecial 3, 3) := by decide +kernel
theorem dX3_init_4 : decode cX3_init 4 = .ok (.aload_n 0, 1) := by decide +kernel
theorem dX3_init_5 : decode cX3_init 5 = .ok (.iconst 0, 1) := by decide +kernel
theorem dX3_init_6 : decode cX3_init 6 = .ok (.putfield 9, 3) := by decide +kernel
theorem dX3_init_9 : decode cX3_init 9 = .ok (.aload_n 0, 1) := by decide +kernel
theorem dX3_init_10 : decode cX3_init 10 = .ok (.iconst (-1), 1) := by decide +kernel
theorem dX3_init_11 : decode cX3_init 11 = .ok (.putfield 15, 3) := by decide +kernel
theorem dX3_init_14 : decode cX3_init 14 = .ok (.aload_n 0, 1) := by decide +kernel
theorem dX3_init_15 : decode cX3_init 15 = .ok (.iconst 0, 1) := by decide +kernel
theorem dX3_init_16 : decode cX3_init 16 = .ok (.putfield 18, 3) := by decide +kernel
theorem dX3_init_19 : decode cX3_init 19 = .ok (.aload_n 0, 1) := by decide +kernel
theorem dX3_init_20 : decode cX3_init 20 = .ok (.iconst 5, 1) := by decide +kernel
theorem dX3_init_21 : decode cX3_init 21 = .ok (.newarray .int, 2) := by decide +kernel
theorem dX3_init_23 : decode cX3_init 23 = .ok (.putfield 21, 3) := by decide +kernel
theorem dX3_init_26 : decode cX3_init 26 = .ok (.aload_n 0, 1) := by decide +kernel
theorem dX3_init_27 : decode cX3_init 27 = .ok (.aload_n 1, 1) := by decide +kernel
theorem dX3_init_28 : decode cX3_init 28 = .ok (.putfield 25, 3) := by decide +kernel
theorem dX3_init_31 : decode cX3_init 31 = .ok (.aload_n 0, 1) := by decide +kernel
theorem dX3_init_32 : decode cX3_init 32 = .ok (.aload_n 2, 1) := by decide +kernel
theorem dX3_init_33 : decode cX3_init 33 = .ok (.putfield 29, 3) := by decide +kernel
theorem dX3_init_36 : decode cX3_init 36 = .ok (.return_, 1) := by decide +kernel
theorem dX3_read_0 : decode cX3_read 0 = .ok (.aload_n 0, 1) := by decide +kernel
theorem dX3_read_1 : decode cX3_read 1 = .ok (.iconst 0, 1) := by decide +kernel
theorem dX3_read_2 : decode cX3_read 2 = .ok (.putfield 9, 3) := by decide +kernel
theorem dX3_read_5 : decode cX3_read 5 = .ok (.aload_n 0, 1) := by decide +kernel
theorem dX3_read_6 : decode cX3_read 6 = .ok (.iconst (-1), 1) := by decide +kernel
theorem dX3_read_7 : decode cX3_read 7 = .ok (.putfield 15, 3) := by decide +kernel
theorem dX3_read_10 : decode cX3_read 10 = .ok (.aload_n 0, 1) := by decide +kernel
theorem dX3_read_11 : decode cX3_read 11 = .ok (.iconst 0, 1) := by decide +kernel
theorem dX3_read_12 : decode cX3_read 12 = .ok (.putfield 18, 3) := by decide +kernel
theorem dX3_read_15 : decode cX3_read 15 = .ok (.aload_n 0, 1) := by decide +kernel
theorem dX3_read_16 : decode cX3_read 16 = .ok (.getfield 29, 3) := by decide +kernel
theorem dX3_read_19 : decode cX3_read 19 = .ok (.iconst 0, 1) := by decide +kernel
theorem dX3_read_20 : decode cX3_read 20 = .ok (.putfield 33, 3) := by decide +kernel
theorem dX3_read_23 : decode cX3_read 23 = .ok (.aload_n 0, 1) := by decide +kernel
theorem dX3_read_24 : decode cX3_read 24 = .ok (.getfield 29, 3) := by decide +kernel
theorem dX3_read_27 : decode cX3_read 27 = .ok (.iconst 0, 1) := by decide +kernel
theorem dX3_read_28 : decode cX3_read 28 = .ok (.putfield 38, 3) := by decide +kernel
theorem dX3_read_31 : decode cX3_read 31 = .ok (.aload_n 0, 1) := by decide +kernel
theorem dX3_read_32 : decode cX3_read 32 = .ok (.getfield 25, 3) := by decide +kernel
theorem dX3_read_35 : decode cX3_read 35 = .ok (.iload_n 1, 1) := by decide +kernel
theorem dX3_read_36 : decode cX3_read 36 = .ok (.invokevirtual 41, 3) := by decide +kernel
theorem dX3_read_39 : decode cX3_read 39 = .ok (.iconst 0, 1) := by decide +kernel
theorem dX3_read_40 : decode cX3_read 40 = .ok (.istore_n 2, 1) := by decide +kernel
theorem dX3_read_41 : decode cX3_read 41 = .ok (.iload_n 2, 1) := by decide +kernel
theorem dX3_read_42 : decode cX3_read 42 = .ok (.sipush 500, 3) := by decide +kernel
theorem dX3_read_45 : decode cX3_read 45 = .ok (.if_icmp .gt 98, 3) := by decide +kernel
theorem dX3_read_48 : decode cX3_read 48 = .ok (.aload_n 0, 1) := by decide +kernel
theorem dX3_read_49 : decode cX3_read 49 = .ok (.getfield 9, 3) := by decide +kernel
theorem dX3_read_52 : decode cX3_read 52 = .ok (.ifCond .ne 91, 3) := by decide +kernel
theorem dX3_read_55 : decode cX3_read 55 = .ok (.aload_n 0, 1) := by decide +kernel
theorem dX3_read_56 : decode cX3_read 56 = .ok (.getfield 25, 3) := by decide +kernel
theorem dX3_read_59 : decode cX3_read 59 = .ok (.getfield 46, 3) := by decide +kernel
theorem dX3_read_62 : decode cX3_read 62 = .ok (.ifCond .ne 6, 3) := by decide +kernel
theorem dX3_read_65 : decode cX3_read 65 = .ok (.goto 78, 3) := by decide +kernel
theorem dX3_read_68 : decode cX3_read 68 = .ok (.aload_n 0, 1) := by decide +kernel
theorem dX3_read_69 : decode cX3_read 69 = .ok (.getfield 25, 3) := by decide +kernel
theorem dX3_read_72 : decode cX3_read 72 = .ok (.getfield 46, 3) := by decide +kernel
theorem dX3_read_75 : decode cX3_read 75 = .ok (.bipush 41, 2) := by decide +kernel
theorem dX3_read_77 : decode cX3_read 77 = .ok (.if_icmp .ne 56, 3) := by decide +kernel
theorem dX3_read_80 : decode cX3_read 80 = .ok (.aload_n 0, 1) := by decide +kernel
theorem dX3_read_81 : decode cX3_read 81 = .ok (.getfield 18, 3) := by decide +kernel
theorem dX3_read_84 : decode cX3_read 84 = .ok (.ifCond .le 49, 3) := by decide +kernel
theorem dX3_read_87 : decode cX3_read 87 = .ok (.aload_n 0, 1) := by decide +kernel
theorem dX3_read_88 : decode cX3_read 88 = .ok (.dup, 1) := by decide +kernel
theorem dX3_read_89 : decode cX3_read 89 = .ok (.getfield 18, 3) := by decide +kernel
theorem dX3_read_92 : decode cX3_read 92 = .ok (.iconst 1, 1) := by decide +kernel
theorem dX3_read_93 : decode cX3_read 93 = .ok (.isub, 1) := by decide +kernel
theorem dX3_read_94 : decode cX3_read 94 = .ok (.putfield 18, 3) := by decide +kernel
theorem dX3_read_97 : decode cX3_read 97 = .ok (.aload_n 0, 1) := by decide +kernel
theorem dX3_read_98 : decode cX3_read 98 = .ok (.getfield 29, 3) := by decide +kernel
theorem dX3_read_101 : decode cX3_read 101 = .ok (.getfield 49, 3) := by decide +kernel
theorem dX3_read_104 : decode cX3_read 104 = .ok (.aload_n 0, 1) := by decide +kernel
theorem dX3_read_105 : decode cX3_read 105 = .ok (.getfield 21, 3) := by decide +kernel
theorem dX3_read_108 : decode cX3_read 108 = .ok (.aload_n 0, 1) := by decide +kernel
theorem dX3_read_109 : decode cX3_read 109 = .ok (.getfield 18, 3) := by decide +kernel
theorem dX3_read_112 : decode cX3_read 112 = .ok (.iaload, 1) := by decide +kernel
theorem dX3_read_113 : decode cX3_read 113 = .ok (.aload_n 0, 1) := by decide +kernel
theorem dX3_read_114 : decode cX3_read 114 = .ok (.getfield 29, 3) := by decide +kernel
theorem dX3_read_117 : decode cX3_read 117 = .ok (.getfield 33, 3) := by decide +kernel
theorem dX3_read_120 : decode cX3_read 120 = .ok (.iconst 1, 1) := by decide +kernel
theorem dX3_read_121 : decode cX3_read 121 = .ok (.isub, 1) := by decide +kernel
theorem dX3_read_122 : decode cX3_read 122 = .ok (.iastore, 1) := by decide +kernel
theorem dX3_read_123 : decode cX3_read 123 = .ok (.aload_n 0, 1) := by decide +kernel
theorem dX3_read_124 : decode cX3_read 124 = .ok (.getfield 25, 3) := by decide +kernel
theorem dX3_read_127 : decode cX3_read 127 = .ok (.invokevirtual 52, 3) := by decide +kernel
theorem dX3_read_130 : decode cX3_read 130 = .ok (.goto 7, 3) := by decide +kernel
theorem dX3_read_133 : decode cX3_read 133 = .ok (.aload_n 0, 1) := by decide +kernel
theorem dX3_read_134 : decode cX3_read 134 = .ok (.invokevirtual 55, 3) := by decide +kernel
theorem dX3_read_137 : decode cX3_read 137 = .ok (.iinc 2 1, 3) := by decide +kernel
theorem dX3_read_140 : decode cX3_read 140 = .ok (.goto (-99), 3) := by decide +kernel
theorem dX3_read_143 : decode cX3_read 143 = .ok (.aload_n 0, 1) := by decide +kernel
theorem dX3_read_144 : decode cX3_read 144 = .ok (.getfield 18, 3) := by decide +kernel
theorem dX3_read_147 : decode cX3_read 147 = .ok (.ifCond .le 8, 3) := by decide +kernel
theorem dX3_read_150 : decode cX3_read 150 = .ok (.aload_n 0, 1) := by decide +kernel
theorem dX3_read_151 : decode cX3_read 151 = .ok (.iconst 1, 1) := by decide +kernel
theorem dX3_read_152 : decode cX3_read 152 = .ok (.invokevirtual 58, 3) := by decide +kernel
theorem dX3_read_155 : decode cX3_read 155 = .ok (.aload_n 0, 1) := by decide +kernel
theorem dX3_read_156 : decode cX3_read 156 = .ok (.getfield 9, 3) := by decide +kernel
theorem dX3_read_159 : decode cX3_read 159 = .ok (.ifCond .ne 7, 3) := by decide +kernel
theorem dX3_read_162 : decode cX3_read 162 = .ok (.iconst 1, 1) := by decide +kernel
theorem dX3_read_163 : decode cX3_read 163 = .ok (.goto 4, 3) := by decide +kernel
theorem dX3_read_166 : decode cX3_read 166 = .ok (.iconst 0, 1) := by decide +kernel
theorem dX3_read_167 : decode cX3_read 167 = .ok (.ireturn, 1) := by decide +kernel
theorem dX3_readStatement_0 : decode cX3_readStatement 0 = .ok (.aload_n 0, 1) := by decide +kernel
theorem dX3_readStatement_1 : decode cX3_readStatement 1 = .ok (.invokevirtual 61, 3) := by decide +kernel
theorem dX3_readStatement_4 : decode cX3_readStatement 4 = .ok (.istore_n 1, 1) := by decide +kernel
theorem dX3_readStatement_5 : decode cX3_readStatement 5 = .ok (.iload_n 1, 1) := by decide +kernel
theorem dX3_readStatement_6 : decode cX3_readStatement 6 = .ok (.iconst (-1), 1) := by decide +kernel
theorem dX3_readStatement_7 : decode cX3_readStatement 7 = .ok (.if_icmp .ne 9, 3) := by decide +kernel
theorem dX3_readStatement_10 : decode cX3_readStatement 10 = .ok (.aload_n 0, 1) := by decide +kernel
theorem dX3_readStatement_11 : decode cX3_readStatement 11 = .ok (.iconst 1, 1) := by decide +kernel
theorem dX3_readStatement_12 : decode cX3_readStatement 12 = .ok (.invokevirtual 58, 3) := by decide +kernel
theorem dX3_readStatement_15 : decode cX3_readStatement 15 = .ok (.return_, 1) := by decide +kernel
theorem dX3_readStatement_16 : decode cX3_readStatement 16 = .ok (.iload_n 1, 1) := by decide +kernel
theorem dX3_readStatement_17 : decode cX3_readStatement 17 = .ok (.ifCond .ne 19, 3) := by decide +kernel
theorem dX3_readStatement_20 : decode cX3_readStatement 20 = .ok (.aload_n 0, 1) := by decide +kernel
theorem dX3_readStatement_21 : decode cX3_readStatement 21 = .ok (.getfield 29, 3) := by decide +kernel
theorem dX3_readStatement_24 : decode cX3_readStatement 24 = .ok (.getfield 38, 3) := by decide +kernel
theorem dX3_readStatement_27 : decode cX3_readStatement 27 = .ok (.bipush 8, 2) := by decide +kernel
theorem dX3_readStatement_29 : decode cX3_readStatement 29 = .ok (.if_icmp .lt 7, 3) := by decide +kernel
theorem dX3_readStatement_32 : decode cX3_readStatement 32 = .ok (.iconst 1, 1) := by decide +kernel
theorem dX3_readStatement_33 : decode cX3_readStatement 33 = .ok (.goto 4, 3) := by decide +kernel
theorem dX3_readStatement_36 : decode cX3_readStatement 36 = .ok (.iconst 0, 1) := by decide +kernel
theorem dX3_readStatement_37 : decode cX3_readStatement 37 = .ok (.istore_n 2, 1) := by decide +kernel
theorem dX3_readStatement_38 : decode cX3_readStatement 38 = .ok (.aload_n 0, 1) := by decide +kernel
theorem dX3_readStatement_39 : decode cX3_readStatement 39 = .ok (.getfield 29, 3) := by decide +kernel
theorem dX3_readStatement_42 : decode cX3_readStatement 42 = .ok (.getfield 33, 3) := by decide +kernel
theorem dX3_readStatement_45 : decode cX3_readStatement 45 = .ok (.bipush 60, 2) := by decide +kernel
theorem dX3_readStatement_47 : decode cX3_readStatement 47 = .ok (.if_icmp .ge 7, 3) := by decide +kernel
theorem dX3_readStatement_50 : decode cX3_readStatement 50 = .ok (.iload_n 2, 1) := by decide +kernel
theorem dX3_readStatement_51 : decode cX3_readStatement 51 = .ok (.ifCond .eq 9, 3) := by decide +kernel
theorem dX3_readStatement_54 : decode cX3_readStatement 54 = .ok (.aload_n 0, 1) := by decide +kernel
theorem dX3_readStatement_55 : decode cX3_readStatement 55 = .ok (.iconst 2, 1) := by decide +kernel
theorem dX3_readStatement_56 : decode cX3_readStatement 56 = .ok (.invokevirtual 58, 3) := by decide +kernel
theorem dX3_readStatement_59 : decode cX3_readStatement 59 = .ok (.return_, 1) := by decide +kernel
theorem dX3_readStatement_60 : decode cX3_readStatement 60 = .ok (.aload_n 0, 1) := by decide +kernel
theorem dX3_readStatement_61 : decode cX3_readStatement 61 = .ok (.getfield 25, 3) := by decide +kernel
theorem dX3_readStatement_64 : decode cX3_readStatement 64 = .ok (.invokevirtual 52, 3) := by decide +kernel
theorem dX3_readStatement_67 : decode cX3_readStatement 67 = .ok (.aload_n 0, 1) := by decide +kernel
theorem dX3_readStatement_68 : decode cX3_readStatement 68 = .ok (.getfield 29, 3) := by decide +kernel
theorem dX3_readStatement_71 : decode cX3_readStatement 71 = .ok (.iload_n 1, 1) := by decide +kernel
theorem dX3_readStatement_72 : decode cX3_readStatement 72 = .ok (.invokevirtual 65, 3) := by decide +kernel
theorem dX3_readStatement_75 : decode cX3_readStatement 75 = .ok (.istore_n 3, 1) := by decide +kernel
theorem dX3_readStatement_76 : decode cX3_readStatement 76 = .ok (.iload_n 1, 1) := by decide +kernel
theorem dX3_readStatement_77 : decode cX3_readStatement 77 = .ok (.bipush 6, 2) := by decide +kernel
theorem dX3_readStatement_79 : decode cX3_readStatement 79 = .ok (.if_icmp .ne 11, 3) := by decide +kernel
theorem dX3_readStatement_82 : decode cX3_readStatement 82 = .ok (.aload_n 0, 1) := by decide +kernel
theorem dX3_readStatement_83 : decode cX3_readStatement 83 = .ok (.iload_n 3, 1) := by decide +kernel
theorem dX3_readStatement_84 : decode cX3_readStatement 84 = .ok (.invokevirtual 69, 3) := by decide +kernel
theorem dX3_readStatement_87 : decode cX3_readStatement 87 = .ok (.goto 15, 3) := by decide +kernel
theorem dX3_readStatement_90 : decode cX3_readStatement 90 = .ok (.aload_n 0, 1) := by decide +kernel
theorem dX3_readStatement_91 : decode cX3_readStatement 91 = .ok (.iload_n 3, 1) := by decide +kernel
theorem dX3_readStatement_92 : decode cX3_readStatement 92 = .ok (.iload_n 1, 1) := by decide +kernel
theorem dX3_readStatement_93 : decode cX3_readStatement 93 = .ok (.invokevirtual 72, 3) := by decide +kernel
theorem dX3_readStatement_96 : decode cX3_readStatement 96 = .ok (.aload_n 0, 1) := by decide +kernel
theorem dX3_readStatement_97 : decode cX3_readStatement 97 = .ok (.bipush 59, 2) := by decide +kernel
theorem dX3_readStatement_99 : decode cX3_readStatement 99 = .ok (.invokevirtual 76, 3) := by decide +kernel
theorem dX3_readStatement_102 : decode cX3_readStatement 102 = .ok (.return_, 1) := by decide +kernel
theorem dX3_verbAtHand_0 : decode cX3_verbAtHand 0 = .ok (.aload_n 0, 1) := by decide +kernel
theorem dX3_verbAtHand_1 : decode cX3_verbAtHand 1 = .ok (.getfield 25, 3) := by decide +kernel
theorem dX3_verbAtHand_4 : decode cX3_verbAtHand 4 = .ok (.ldc 79, 2) := by decide +kernel
theorem dX3_verbAtHand_6 : decode cX3_verbAtHand 6 = .ok (.invokevirtual 81, 3) := by decide +kernel
theorem dX3_verbAtHand_9 : decode cX3_verbAtHand 9 = .ok (.ifCond .eq 5, 3) := by decide +kernel
theorem dX3_verbAtHand_12 : decode cX3_verbAtHand 12 = .ok (.iconst 0, 1) := by decide +kernel
theorem dX3_verbAtHand_13 : decode cX3_verbAtHand 13 = .ok (.ireturn, 1) := by decide +kernel
theorem dX3_verbAtHand_14 : decode cX3_verbAtHand 14 = .ok (.aload_n 0, 1) := by decide +kernel
theorem dX3_verbAtHand_15 : decode cX3_verbAtHand 15 = .ok (.getfield 25, 3) := by decide +kernel
theorem dX3_verbAtHand_18 : decode cX3_verbAtHand 18 = .ok (.ldc 85, 2) := by decide +kernel
theorem dX3_verbAtHand_20 : decode cX3_verbAtHand 20 = .ok (.invokevirtual 81, 3) := by decide +kernel
theorem dX3_verbAtHand_23 : decode cX3_verbAtHand 23 = .ok (.ifCond .eq 5, 3) := by decide +kernel
theorem dX3_verbAtHand_26 : decode cX3_verbAtHand 26 = .ok (.iconst 1, 1) := by decide +kernel
theorem dX3_verbAtHand_27 : decode cX3_verbAtHand 27 = .ok (.ireturn, 1) := by decide +kernel
theorem dX3_verbAtHand_28 : decode cX3_verbAtHand 28 = .ok (.aload_n 0, 1) := by decide +kernel
theorem dX3_verbAtHand_29 : decode cX3_verbAtHand 29 = .ok (.getfield 25, 3) := by decide +kernel
theorem dX3_verbAtHand_32 : decode cX3_verbAtHand 32 = .ok (.ldc 87, 2) := by decide +kernel
theorem dX3_verbAtHand_34 : decode cX3_verbAtHand 34 = .ok (.invokevirtual 81, 3) := by decide +kernel
theorem dX3_verbAtHand_37 : decode cX3_verbAtHand 37 = .ok (.ifCond .eq 5, 3) := by decide +kernel
theorem dX3_verbAtHand_40 : decode cX3_verbAtHand 40 = .ok (.iconst 2, 1) := by decide +kernel
theorem dX3_verbAtHand_41 : decode cX3_verbAtHand 41 = .ok (.ireturn, 1) := by decide +kernel
theorem dX3_verbAtHand_42 : decode cX3_verbAtHand 42 = .ok (.aload_n 0, 1) := by decide +kernel
theorem dX3_verbAtHand_43 : decode cX3_verbAtHand 43 = .ok (.getfield 25, 3) := by decide +kernel
theorem dX3_verbAtHand_46 : decode cX3_verbAtHand 46 = .ok (.ldc 89, 2) := by decide +kernel
theorem dX3_verbAtHand_48 : decode cX3_verbAtHand 48 = .ok (.invokevirtual 81, 3) := by decide +kernel
theorem dX3_verbAtHand_51 : decode cX3_verbAtHand 51 = .ok (.ifCond .eq 5, 3) := by decide +kernel
theorem dX3_verbAtHand_54 : decode cX3_verbAtHand 54 = .ok (.iconst 3, 1) := by decide +kernel
theorem dX3_verbAtHand_55 : decode cX3_verbAtHand 55 = .ok (.ireturn, 1) := by decide +kernel
theorem dX3_verbAtHand_56 : decode cX3_verbAtHand 56 = .ok (.aload_n 0, 1) := by decide +kernel
theorem dX3_verbAtHand_57 : decode cX3_verbAtHand 57 = .ok (.getfield 25, 3) := by decide +kernel
theorem dX3_verbAtHand_60 : decode cX3_verbAtHand 60 = .ok (.ldc 91, 2) := by decide +kernel
theorem dX3_verbAtHand_62 : decode cX3_verbAtHand 62 = .ok (.invokevirtual 81, 3) := by decide +kernel
theorem dX3_verbAtHand_65 : decode cX3_verbAtHand 65 = .ok (.ifCond .eq 5, 3) := by decide +kernel
theorem dX3_verbAtHand_68 : decode cX3_verbAtHand 68 = .ok (.iconst 4, 1) := by decide +kernel
theorem dX3_verbAtHand_69 : decode cX3_verbAtHand 69 = .ok (.ireturn, 1) := by decide +kernel
theorem dX3_verbAtHand_70 : decode cX3_verbAtHand 70 = .ok (.aload_n 0, 1) := by decide +kernel
theorem dX3_verbAtHand_71 : decode cX3_verbAtHand 71 = .ok (.getfield 25, 3) := by decide +kernel
theorem dX3_verbAtHand_74 : decode cX3_verbAtHand 74 = .ok (.ldc 93, 2) := by decide +kernel
theorem dX3_verbAtHand_76 : decode cX3_verbAtHand 76 = .ok (.invokevirtual 81, 3) := by decide +kernel
theorem dX3_verbAtHand_79 : decode cX3_verbAtHand 79 = .ok (.ifCond .eq 5, 3) := by decide +kernel
theorem dX3_verbAtHand_82 : decode cX3_verbAtHand 82 = .ok (.iconst 5, 1) := by decide +kernel
theorem dX3_verbAtHand_83 : decode cX3_verbAtHand 83 = .ok (.ireturn, 1) := by decide +kernel
theorem dX3_verbAtHand_84 : decode cX3_verbAtHand 84 = .ok (.aload_n 0, 1) := by decide +kernel
theorem dX3_verbAtHand_85 : decode cX3_verbAtHand 85 = .ok (.getfield 25, 3) := by decide +kernel
theorem dX3_verbAtHand_88 : decode cX3_verbAtHand 88 = .ok (.ldc 95, 2) := by decide +kernel
theorem dX3_verbAtHand_90 : decode cX3_verbAtHand 90 = .ok (.invokevirtual 81, 3) := by decide +kernel
theorem dX3_verbAtHand_93 : decode cX3_verbAtHand 93 = .ok (.ifCond .eq 6, 3) := by decide +kernel
theorem dX3_verbAtHand_96 : decode cX3_verbAtHand 96 = .ok (.bipush 6, 2) := by decide +kernel
theorem dX3_verbAtHand_98 : decode cX3_verbAtHand 98 = .ok (.ireturn, 1) := by decide +kernel
theorem dX3_verbAtHand_99 : decode cX3_verbAtHand 99 = .ok (.iconst (-1), 1) := by decide +kernel
theorem dX3_verbAtHand_100 : decode cX3_verbAtHand 100 = .ok (.ireturn, 1) := by decide +kernel
theorem dX3_readNumbers_0 : decode cX3_readNumbers 0 = .ok (.iload_n 2, 1) := by decide +kernel
theorem dX3_readNumbers_1 : decode cX3_readNumbers 1 = .ok (.lookupswitch 197 #[(0, 35), (1, 42), (5, 100)], 35) := by decide +kernel
theorem dX3_readNumbers_36 : decode cX3_readNumbers 36 = .ok (.aload_n 0, 1) := by decide +kernel
theorem dX3_readNumbers_37 : decode cX3_readNumbers 37 = .ok (.invokevirtual 97, 3) := by decide +kernel
theorem dX3_readNumbers_40 : decode cX3_readNumbers 40 = .ok (.goto 223, 3) := by decide +kernel
theorem dX3_readNumbers_43 : decode cX3_readNumbers 43 = .ok (.aload_n 0, 1) := by decide +kernel
theorem dX3_readNumbers_44 : decode cX3_readNumbers 44 = .ok (.iload_n 1, 1) := by decide +kernel
theorem dX3_readNumbers_45 : decode cX3_readNumbers 45 = .ok (.invokevirtual 100, 3) := by decide +kernel
theorem dX3_readNumbers_48 : decode cX3_readNumbers 48 = .ok (.aload_n 0, 1) := by decide +kernel
theorem dX3_readNumbers_49 : decode cX3_readNumbers 49 = .ok (.getfield 29, 3) := by decide +kernel
theorem dX3_readNumbers_52 : decode cX3_readNumbers 52 = .ok (.iload_n 1, 1) := by decide +kernel
theorem dX3_readNumbers_53 : decode cX3_readNumbers 53 = .ok (.iconst 0, 1) := by decide +kernel
theorem dX3_readNumbers_54 : decode cX3_readNumbers 54 = .ok (.aload_n 0, 1) := by decide +kernel
theorem dX3_readNumbers_55 : decode cX3_readNumbers 55 = .ok (.iconst 0, 1) := by decide +kernel
theorem dX3_readNumbers_56 : decode cX3_readNumbers 56 = .ok (.sipush 999, 3) := by decide +kernel
theorem dX3_readNumbers_59 : decode cX3_readNumbers 59 = .ok (.invokevirtual 103, 3) := by decide +kernel
theorem dX3_readNumbers_62 : decode cX3_readNumbers 62 = .ok (.invokevirtual 107, 3) := by decide +kernel
theorem dX3_readNumbers_65 : decode cX3_readNumbers 65 = .ok (.aload_n 0, 1) := by decide +kernel
theorem dX3_readNumbers_66 : decode cX3_readNumbers 66 = .ok (.getfield 29, 3) := by decide +kernel
theorem dX3_readNumbers_69 : decode cX3_readNumbers 69 = .ok (.iload_n 1, 1) := by decide +kernel
theorem dX3_readNumbers_70 : decode cX3_readNumbers 70 = .ok (.iconst 1, 1) := by decide +kernel
theorem dX3_readNumbers_71 : decode cX3_readNumbers 71 = .ok (.aload_n 0, 1) := by decide +kernel
theorem dX3_readNumbers_72 : decode cX3_readNumbers 72 = .ok (.iconst 0, 1) := by decide +kernel
theorem dX3_readNumbers_73 : decode cX3_readNumbers 73 = .ok (.sipush 999, 3) := by decide +kernel
theorem dX3_readNumbers_76 : decode cX3_readNumbers 76 = .ok (.invokevirtual 103, 3) := by decide +kernel
theorem dX3_readNumbers_79 : decode cX3_readNumbers 79 = .ok (.invokevirtual 107, 3) := by decide +kernel
theorem dX3_readNumbers_82 : decode cX3_readNumbers 82 = .ok (.aload_n 0, 1) := by decide +kernel
theorem dX3_readNumbers_83 : decode cX3_readNumbers 83 = .ok (.getfield 29, 3) := by decide +kernel
theorem dX3_readNumbers_86 : decode cX3_readNumbers 86 = .ok (.iload_n 1, 1) := by decide +kernel
theorem dX3_readNumbers_87 : decode cX3_readNumbers 87 = .ok (.iconst 2, 1) := by decide +kernel
theorem dX3_readNumbers_88 : decode cX3_readNumbers 88 = .ok (.aload_n 0, 1) := by decide +kernel
theorem dX3_readNumbers_89 : decode cX3_readNumbers 89 = .ok (.iconst 0, 1) := by decide +kernel
theorem dX3_readNumbers_90 : decode cX3_readNumbers 90 = .ok (.bipush 99, 2) := by decide +kernel
theorem dX3_readNumbers_92 : decode cX3_readNumbers 92 = .ok (.invokevirtual 103, 3) := by decide +kernel
theorem dX3_readNumbers_95 : decode cX3_readNumbers 95 = .ok (.invokevirtual 107, 3) := by decide +kernel
theorem dX3_readNumbers_98 : decode cX3_readNumbers 98 = .ok (.goto 165, 3) := by decide +kernel
theorem dX3_readNumbers_101 : decode cX3_readNumbers 101 = .ok (.aload_n 0, 1) := by decide +kernel
theorem dX3_readNumbers_102 : decode cX3_readNumbers 102 = .ok (.getfield 29, 3) := by decide +kernel
theorem dX3_readNumbers_105 : decode cX3_readNumbers 105 = .ok (.iload_n 1, 1) := by decide +kernel
theorem dX3_readNumbers_106 : decode cX3_readNumbers 106 = .ok (.iconst 0, 1) := by decide +kernel
theorem dX3_readNumbers_107 : decode cX3_readNumbers 107 = .ok (.aload_n 0, 1) := by decide +kernel
theorem dX3_readNumbers_108 : decode cX3_readNumbers 108 = .ok (.iconst 0, 1) := by decide +kernel
theorem dX3_readNumbers_109 : decode cX3_readNumbers 109 = .ok (.sipush 999, 3) := by decide +kernel
theorem dX3_readNumbers_112 : decode cX3_readNumbers 112 = .ok (.invokevirtual 103, 3) := by decide +kernel
theorem dX3_readNumbers_115 : decode cX3_readNumbers 115 = .ok (.invokevirtual 107, 3) := by decide +kernel
theorem dX3_readNumbers_118 : decode cX3_readNumbers 118 = .ok (.aload_n 0, 1) := by decide +kernel
theorem dX3_readNumbers_119 : decode cX3_readNumbers 119 = .ok (.getfield 29, 3) := by decide +kernel
theorem dX3_readNumbers_122 : decode cX3_readNumbers 122 = .ok (.iload_n 1, 1) := by decide +kernel
theorem dX3_readNumbers_123 : decode cX3_readNumbers 123 = .ok (.iconst 1, 1) := by decide +kernel
theorem dX3_readNumbers_124 : decode cX3_readNumbers 124 = .ok (.aload_n 0, 1) := by decide +kernel
theorem dX3_readNumbers_125 : decode cX3_readNumbers 125 = .ok (.iconst 0, 1) := by decide +kernel
theorem dX3_readNumbers_126 : decode cX3_readNumbers 126 = .ok (.sipush 999, 3) := by decide +kernel
theorem dX3_readNumbers_129 : decode cX3_readNumbers 129 = .ok (.invokevirtual 103, 3) := by decide +kernel
theorem dX3_readNumbers_132 : decode cX3_readNumbers 132 = .ok (.invokevirtual 107, 3) := by decide +kernel
theorem dX3_readNumbers_135 : decode cX3_readNumbers 135 = .ok (.aload_n 0, 1) := by decide +kernel
theorem dX3_readNumbers_136 : decode cX3_readNumbers 136 = .ok (.aload_n 0, 1) := by decide +kernel
theorem dX3_readNumbers_137 : decode cX3_readNumbers 137 = .ok (.getfield 29, 3) := by decide +kernel
theorem dX3_readNumbers_140 : decode cX3_readNumbers 140 = .ok (.iload_n 1, 1) := by decide +kernel
theorem dX3_readNumbers_141 : decode cX3_readNumbers 141 = .ok (.iconst 0, 1) := by decide +kernel
theorem dX3_readNumbers_142 : decode cX3_readNumbers 142 = .ok (.invokevirtual 110, 3) := by decide +kernel
theorem dX3_readNumbers_145 : decode cX3_readNumbers 145 = .ok (.invokevirtual 113, 3) := by decide +kernel
theorem dX3_readNumbers_148 : decode cX3_readNumbers 148 = .ok (.aload_n 0, 1) := by decide +kernel
theorem dX3_readNumbers_149 : decode cX3_readNumbers 149 = .ok (.getfield 29, 3) := by decide +kernel
theorem dX3_readNumbers_152 : decode cX3_readNumbers 152 = .ok (.iload_n 1, 1) := by decide +kernel
theorem dX3_readNumbers_153 : decode cX3_readNumbers 153 = .ok (.iconst 2, 1) := by decide +kernel
theorem dX3_readNumbers_154 : decode cX3_readNumbers 154 = .ok (.aload_n 0, 1) := by decide +kernel
theorem dX3_readNumbers_155 : decode cX3_readNumbers 155 = .ok (.iconst 0, 1) := by decide +kernel
theorem dX3_readNumbers_156 : decode cX3_readNumbers 156 = .ok (.sipush 999, 3) := by decide +kernel
theorem dX3_readNumbers_159 : decode cX3_readNumbers 159 = .ok (.invokevirtual 103, 3) := by decide +kernel
theorem dX3_readNumbers_162 : decode cX3_readNumbers 162 = .ok (.invokevirtual 107, 3) := by decide +kernel
theorem dX3_readNumbers_165 : decode cX3_readNumbers 165 = .ok (.aload_n 0, 1) := by decide +kernel
theorem dX3_readNumbers_166 : decode cX3_readNumbers 166 = .ok (.aload_n 0, 1) := by decide +kernel
theorem dX3_readNumbers_167 : decode cX3_readNumbers 167 = .ok (.getfield 29, 3) := by decide +kernel
theorem dX3_readNumbers_170 : decode cX3_readNumbers 170 = .ok (.iload_n 1, 1) := by decide +kernel
theorem dX3_readNumbers_171 : decode cX3_readNumbers 171 = .ok (.iconst 1, 1) := by decide +kernel
theorem dX3_readNumbers_172 : decode cX3_readNumbers 172 = .ok (.invokevirtual 110, 3) := by decide +kernel
theorem dX3_readNumbers_175 : decode cX3_readNumbers 175 = .ok (.invokevirtual 113, 3) := by decide +kernel
theorem dX3_readNumbers_178 : decode cX3_readNumbers 178 = .ok (.aload_n 0, 1) := by decide +kernel
theorem dX3_readNumbers_179 : decode cX3_readNumbers 179 = .ok (.getfield 29, 3) := by decide +kernel
theorem dX3_readNumbers_182 : decode cX3_readNumbers 182 = .ok (.iload_n 1, 1) := by decide +kernel
theorem dX3_readNumbers_183 : decode cX3_readNumbers 183 = .ok (.iconst 3, 1) := by decide +kernel
theorem dX3_readNumbers_184 : decode cX3_readNumbers 184 = .ok (.aload_n 0, 1) := by decide +kernel
theorem dX3_readNumbers_185 : decode cX3_readNumbers 185 = .ok (.iconst 0, 1) := by decide +kernel
theorem dX3_readNumbers_186 : decode cX3_readNumbers 186 = .ok (.sipush 999, 3) := by decide +kernel
theorem dX3_readNumbers_189 : decode cX3_readNumbers 189 = .ok (.invokevirtual 103, 3) := by decide +kernel
theorem dX3_readNumbers_192 : decode cX3_readNumbers 192 = .ok (.invokevirtual 107, 3) := by decide +kernel
theorem dX3_readNumbers_195 : decode cX3_readNumbers 195 = .ok (.goto 68, 3) := by decide +kernel
theorem dX3_readNumbers_198 : decode cX3_readNumbers 198 = .ok (.iload_n 2, 1) := by decide +kernel
theorem dX3_readNumbers_199 : decode cX3_readNumbers 199 = .ok (.iconst 3, 1) := by decide +kernel
theorem dX3_readNumbers_200 : decode cX3_readNumbers 200 = .ok (.if_icmp .ne 7, 3) := by decide +kernel
theorem dX3_readNumbers_203 : decode cX3_readNumbers 203 = .ok (.iconst 2, 1) := by decide +kernel
theorem dX3_readNumbers_204 : decode cX3_readNumbers 204 = .ok (.goto 4, 3) := by decide +kernel
theorem dX3_readNumbers_207 : decode cX3_readNumbers 207 = .ok (.iconst 4, 1) := by decide +kernel
theorem dX3_readNumbers_208 : decode cX3_readNumbers 208 = .ok (.istore_n 3, 1) := by decide +kernel
theorem dX3_readNumbers_209 : decode cX3_readNumbers 209 = .ok (.iconst 0, 1) := by decide +kernel
theorem dX3_readNumbers_210 : decode cX3_readNumbers 210 = .ok (.istore 4, 2) := by decide +kernel
theorem dX3_readNumbers_212 : decode cX3_readNumbers 212 = .ok (.iload 4, 2) := by decide +kernel
theorem dX3_readNumbers_214 : decode cX3_readNumbers 214 = .ok (.iload_n 3, 1) := by decide +kernel
theorem dX3_readNumbers_215 : decode cX3_readNumbers 215 = .ok (.if_icmp .ge 27, 3) := by decide +kernel
theorem dX3_readNumbers_218 : decode cX3_readNumbers 218 = .ok (.aload_n 0, 1) := by decide +kernel
theorem dX3_readNumbers_219 : decode cX3_readNumbers 219 = .ok (.getfield 29, 3) := by decide +kernel
theorem dX3_readNumbers_222 : decode cX3_readNumbers 222 = .ok (.iload_n 1, 1) := by decide +kernel
theorem dX3_readNumbers_223 : decode cX3_readNumbers 223 = .ok (.iload 4, 2) := by decide +kernel
theorem dX3_readNumbers_225 : decode cX3_readNumbers 225 = .ok (.aload_n 0, 1) := by decide +kernel
theorem dX3_readNumbers_226 : decode cX3_readNumbers 226 = .ok (.iconst 0, 1) := by decide +kernel
theorem dX3_readNumbers_227 : decode cX3_readNumbers 227 = .ok (.sipush 999, 3) := by decide +kernel
theorem dX3_readNumbers_230 : decode cX3_readNumbers 230 = .ok (.invokevirtual 103, 3) := by decide +kernel
theorem dX3_readNumbers_233 : decode cX3_readNumbers 233 = .ok (.invokevirtual 107, 3) := by decide +kernel
theorem dX3_readNumbers_236 : decode cX3_readNumbers 236 = .ok (.iinc 4 1, 3) := by decide +kernel
theorem dX3_readNumbers_239 : decode cX3_readNumbers 239 = .ok (.goto (-27), 3) := by decide +kernel
theorem dX3_readNumbers_242 : decode cX3_readNumbers 242 = .ok (.iload_n 2, 1) := by decide +kernel
theorem dX3_readNumbers_243 : decode cX3_readNumbers 243 = .ok (.iconst 4, 1) := by decide +kernel
theorem dX3_readNumbers_244 : decode cX3_readNumbers 244 = .ok (.if_icmp .ne 19, 3) := by decide +kernel
theorem dX3_readNumbers_247 : decode cX3_readNumbers 247 = .ok (.aload_n 0, 1) := by decide +kernel
theorem dX3_readNumbers_248 : decode cX3_readNumbers 248 = .ok (.getfield 29, 3) := by decide +kernel
theorem dX3_readNumbers_251 : decode cX3_readNumbers 251 = .ok (.iload_n 1, 1) := by decide +kernel
theorem dX3_readNumbers_252 : decode cX3_readNumbers 252 = .ok (.iconst 4, 1) := by decide +kernel
theorem dX3_readNumbers_253 : decode cX3_readNumbers 253 = .ok (.aload_n 0, 1) := by decide +kernel
theorem dX3_readNumbers_254 : decode cX3_readNumbers 254 = .ok (.iconst 1, 1) := by decide +kernel
theorem dX3_readNumbers_255 : decode cX3_readNumbers 255 = .ok (.bipush 99, 2) := by decide +kernel
theorem dX3_readNumbers_257 : decode cX3_readNumbers 257 = .ok (.invokevirtual 103, 3) := by decide +kernel
theorem dX3_readNumbers_260 : decode cX3_readNumbers 260 = .ok (.invokevirtual 107, 3) := by decide +kernel
theorem dX3_readNumbers_263 : decode cX3_readNumbers 263 = .ok (.return_, 1) := by decide +kernel
theorem dX3_readForm_0 : decode cX3_readForm 0 = .ok (.aload_n 0, 1) := by decide +kernel
theorem dX3_readForm_1 : decode cX3_readForm 1 = .ok (.invokevirtual 116, 3) := by decide +kernel
theorem dX3_readForm_4 : decode cX3_readForm 4 = .ok (.aload_n 0, 1) := by decide +kernel
theorem dX3_readForm_5 : decode cX3_readForm 5 = .ok (.invokevirtual 119, 3) := by decide +kernel
theorem dX3_readForm_8 : decode cX3_readForm 8 = .ok (.iconst (-1), 1) := by decide +kernel
theorem dX3_readForm_9 : decode cX3_readForm 9 = .ok (.if_icmp .eq 8, 3) := by decide +kernel
theorem dX3_readForm_12 : decode cX3_readForm 12 = .ok (.aload_n 0, 1) := by decide +kernel
theorem dX3_readForm_13 : decode cX3_readForm 13 = .ok (.iconst 3, 1) := by decide +kernel
theorem dX3_readForm_14 : decode cX3_readForm 14 = .ok (.invokevirtual 58, 3) := by decide +kernel
theorem dX3_readForm_17 : decode cX3_readForm 17 = .ok (.aload_n 0, 1) := by decide +kernel
theorem dX3_readForm_18 : decode cX3_readForm 18 = .ok (.getfield 9, 3) := by decide +kernel
theorem dX3_readForm_21 : decode cX3_readForm 21 = .ok (.ifCond .eq 4, 3) := by decide +kernel
theorem dX3_readForm_24 : decode cX3_readForm 24 = .ok (.return_, 1) := by decide +kernel
theorem dX3_readForm_25 : decode cX3_readForm 25 = .ok (.aload_n 0, 1) := by decide +kernel
theorem dX3_readForm_26 : decode cX3_readForm 26 = .ok (.getfield 29, 3) := by decide +kernel
theorem dX3_readForm_29 : decode cX3_readForm 29 = .ok (.aload_n 0, 1) := by decide +kernel
theorem dX3_readForm_30 : decode cX3_readForm 30 = .ok (.getfield 25, 3) := by decide +kernel
theorem dX3_readForm_33 : decode cX3_readForm 33 = .ok (.getfield 122, 3) := by decide +kernel
theorem dX3_readForm_36 : decode cX3_readForm 36 = .ok (.aload_n 0, 1) := by decide +kernel
theorem dX3_readForm_37 : decode cX3_readForm 37 = .ok (.getfield 25, 3) := by decide +kernel
theorem dX3_readForm_40 : decode cX3_readForm 40 = .ok (.getfield 125, 3) := by decide +kernel
theorem dX3_readForm_43 : decode cX3_readForm 43 = .ok (.invokevirtual 128, 3) := by decide +kernel
theorem dX3_readForm_46 : decode cX3_readForm 46 = .ok (.istore_n 1, 1) := by decide +kernel
theorem dX3_readForm_47 : decode cX3_readForm 47 = .ok (.aload_n 0, 1) := by decide +kernel
theorem dX3_readForm_48 : decode cX3_readForm 48 = .ok (.getfield 25, 3) := by decide +kernel
theorem dX3_readForm_51 : decode cX3_readForm 51 = .ok (.invokevirtual 52, 3) := by decide +kernel
theorem dX3_readForm_54 : decode cX3_readForm 54 = .ok (.iconst 0, 1) := by decide +kernel
theorem dX3_readForm_55 : decode cX3_readForm 55 = .ok (.istore_n 2, 1) := by decide +kernel
theorem dX3_readForm_56 : decode cX3_readForm 56 = .ok (.iload_n 2, 1) := by decide +kernel
theorem dX3_readForm_57 : decode cX3_readForm 57 = .ok (.bipush 12, 2) := by decide +kernel
theorem dX3_readForm_59 : decode cX3_readForm 59 = .ok (.if_icmp .ge 59, 3) := by decide +kernel
theorem dX3_readForm_62 : decode cX3_readForm 62 = .ok (.aload_n 0, 1) := by decide +kernel
theorem dX3_readForm_63 : decode cX3_readForm 63 = .ok (.getfield 9, 3) := by decide +kernel
theorem dX3_readForm_66 : decode cX3_readForm 66 = .ok (.ifCond .ne 46, 3) := by decide +kernel
theorem dX3_readForm_69 : decode cX3_readForm 69 = .ok (.iload_n 2, 1) := by decide +kernel
theorem dX3_readForm_70 : decode cX3_readForm 70 = .ok (.ifCond .eq 14, 3) := by decide +kernel
theorem dX3_readForm_73 : decode cX3_readForm 73 = .ok (.aload_n 0, 1) := by decide +kernel
theorem dX3_readForm_74 : decode cX3_readForm 74 = .ok (.getfield 25, 3) := by decide +kernel
theorem dX3_readForm_77 : decode cX3_readForm 77 = .ok (.getfield 46, 3) := by decide +kernel
theorem dX3_readForm_80 : decode cX3_readForm 80 = .ok (.iconst 2, 1) := by decide +kernel
theorem dX3_readForm_81 : decode cX3_readForm 81 = .ok (.if_icmp .ne 31, 3) := by decide +kernel
theorem dX3_readForm_84 : decode cX3_readForm 84 = .ok (.aload_n 0, 1) := by decide +kernel
theorem dX3_readForm_85 : decode cX3_readForm 85 = .ok (.iconst 0, 1) := by decide +kernel
theorem dX3_readForm_86 : decode cX3_readForm 86 = .ok (.bipush 99, 2) := by decide +kernel
theorem dX3_readForm_88 : decode cX3_readForm 88 = .ok (.invokevirtual 103, 3) := by decide +kernel
theorem dX3_readForm_91 : decode cX3_readForm 91 = .ok (.istore_n 3, 1) := by decide +kernel
theorem dX3_readForm_92 : decode cX3_readForm 92 = .ok (.aload_n 0, 1) := by decide +kernel
theorem dX3_readForm_93 : decode cX3_readForm 93 = .ok (.iconst 0, 1) := by decide +kernel
theorem dX3_readForm_94 : decode cX3_readForm 94 = .ok (.bipush 99, 2) := by decide +kernel
theorem dX3_readForm_96 : decode cX3_readForm 96 = .ok (.invokevirtual 103, 3) := by decide +kernel
theorem dX3_readForm_99 : decode cX3_readForm 99 = .ok (.istore 4, 2) := by decide +kernel
theorem dX3_readForm_101 : decode cX3_readForm 101 = .ok (.aload_n 0, 1) := by decide +kernel
theorem dX3_readForm_102 : decode cX3_readForm 102 = .ok (.getfield 29, 3) := by decide +kernel
theorem dX3_readForm_105 : decode cX3_readForm 105 = .ok (.iload_n 1, 1) := by decide +kernel
theorem dX3_readForm_106 : decode cX3_readForm 106 = .ok (.iload_n 3, 1) := by decide +kernel
theorem dX3_readForm_107 : decode cX3_readForm 107 = .ok (.iload 4, 2) := by decide +kernel
theorem dX3_readForm_109 : decode cX3_readForm 109 = .ok (.invokevirtual 131, 3) := by decide +kernel
theorem dX3_readForm_112 : decode cX3_readForm 112 = .ok (.iinc 2 1, 3) := by decide +kernel
theorem dX3_readForm_115 : decode cX3_readForm 115 = .ok (.goto (-59), 3) := by decide +kernel
theorem dX3_readForm_118 : decode cX3_readForm 118 = .ok (.aload_n 0, 1) := by decide +kernel
theorem dX3_readForm_119 : decode cX3_readForm 119 = .ok (.getfield 25, 3) := by decide +kernel
theorem dX3_readForm_122 : decode cX3_readForm 122 = .ok (.getfield 46, 3) := by decide +kernel
theorem dX3_readForm_125 : decode cX3_readForm 125 = .ok (.iconst 2, 1) := by decide +kernel
theorem dX3_readForm_126 : decode cX3_readForm 126 = .ok (.if_icmp .ne 8, 3) := by decide +kernel
theorem dX3_readForm_129 : decode cX3_readForm 129 = .ok (.aload_n 0, 1) := by decide +kernel
theorem dX3_readForm_130 : decode cX3_readForm 130 = .ok (.iconst 2, 1) := by decide +kernel
theorem dX3_readForm_131 : decode cX3_readForm 131 = .ok (.invokevirtual 58, 3) := by decide +kernel
theorem dX3_readForm_134 : decode cX3_readForm 134 = .ok (.return_, 1) := by decide +kernel
theorem dX3_readFormName_0 : decode cX3_readFormName 0 = .ok (.aload_n 0, 1) := by decide +kernel
theorem dX3_readFormName_1 : decode cX3_readFormName 1 = .ok (.invokevirtual 116, 3) := by decide +kernel
theorem dX3_readFormName_4 : decode cX3_readFormName 4 = .ok (.aload_n 0, 1) := by decide +kernel
theorem dX3_readFormName_5 : decode cX3_readFormName 5 = .ok (.invokevirtual 119, 3) := by decide +kernel
theorem dX3_readFormName_8 : decode cX3_readFormName 8 = .ok (.istore_n 2, 1) := by decide +kernel
theorem dX3_readFormName_9 : decode cX3_readFormName 9 = .ok (.iload_n 2, 1) := by decide +kernel
theorem dX3_readFormName_10 : decode cX3_readFormName 10 = .ok (.iconst (-1), 1) := by decide +kernel
theorem dX3_readFormName_11 : decode cX3_readFormName 11 = .ok (.if_icmp .ne 8, 3) := by decide +kernel
theorem dX3_readFormName_14 : decode cX3_readFormName 14 = .ok (.aload_n 0, 1) := by decide +kernel
theorem dX3_readFormName_15 : decode cX3_readFormName 15 = .ok (.iconst 4, 1) := by decide +kernel
theorem dX3_readFormName_16 : decode cX3_readFormName 16 = .ok (.invokevirtual 58, 3) := by decide +kernel
theorem dX3_readFormName_19 : decode cX3_readFormName 19 = .ok (.aload_n 0, 1) := by decide +kernel
theorem dX3_readFormName_20 : decode cX3_readFormName 20 = .ok (.getfield 9, 3) := by decide +kernel
theorem dX3_readFormName_23 : decode cX3_readFormName 23 = .ok (.ifCond .ne 20, 3) := by decide +kernel
theorem dX3_readFormName_26 : decode cX3_readFormName 26 = .ok (.aload_n 0, 1) := by decide +kernel
theorem dX3_readFormName_27 : decode cX3_readFormName 27 = .ok (.getfield 29, 3) := by decide +kernel
theorem dX3_readFormName_30 : decode cX3_readFormName 30 = .ok (.getfield 134, 3) := by decide +kernel
theorem dX3_readFormName_33 : decode cX3_readFormName 33 = .ok (.iload_n 1, 1) := by decide +kernel
theorem dX3_readFormName_34 : decode cX3_readFormName 34 = .ok (.iload_n 2, 1) := by decide +kernel
theorem dX3_readFormName_35 : decode cX3_readFormName 35 = .ok (.iastore, 1) := by decide +kernel
theorem dX3_readFormName_36 : decode cX3_readFormName 36 = .ok (.aload_n 0, 1) := by decide +kernel
theorem dX3_readFormName_37 : decode cX3_readFormName 37 = .ok (.getfield 25, 3) := by decide +kernel
theorem dX3_readFormName_40 : decode cX3_readFormName 40 = .ok (.invokevirtual 52, 3) := by decide +kernel
theorem dX3_readFormName_43 : decode cX3_readFormName 43 = .ok (.return_, 1) := by decide +kernel
theorem dX3_readAgain_0 : decode cX3_readAgain 0 = .ok (.aload_n 0, 1) := by decide +kernel
theorem dX3_readAgain_1 : decode cX3_readAgain 1 = .ok (.getfield 29, 3) := by decide +kernel
theorem dX3_readAgain_4 : decode cX3_readAgain 4 = .ok (.iload_n 1, 1) := by decide +kernel
theorem dX3_readAgain_5 : decode cX3_readAgain 5 = .ok (.iconst 0, 1) := by decide +kernel
theorem dX3_readAgain_6 : decode cX3_readAgain 6 = .ok (.aload_n 0, 1) := by decide +kernel
theorem dX3_readAgain_7 : decode cX3_readAgain 7 = .ok (.iconst 0, 1) := by decide +kernel
theorem dX3_readAgain_8 : decode cX3_readAgain 8 = .ok (.bipush 99, 2) := by decide +kernel
theorem dX3_readAgain_10 : decode cX3_readAgain 10 = .ok (.invokevirtual 103, 3) := by decide +kernel
theorem dX3_readAgain_13 : decode cX3_readAgain 13 = .ok (.invokevirtual 107, 3) := by decide +kernel
theorem dX3_readAgain_16 : decode cX3_readAgain 16 = .ok (.aload_n 0, 1) := by decide +kernel
theorem dX3_readAgain_17 : decode cX3_readAgain 17 = .ok (.getfield 29, 3) := by decide +kernel
theorem dX3_readAgain_20 : decode cX3_readAgain 20 = .ok (.iload_n 1, 1) := by decide +kernel
theorem dX3_readAgain_21 : decode cX3_readAgain 21 = .ok (.iconst 1, 1) := by decide +kernel
theorem dX3_readAgain_22 : decode cX3_readAgain 22 = .ok (.aload_n 0, 1) := by decide +kernel
theorem dX3_readAgain_23 : decode cX3_readAgain 23 = .ok (.invokevirtual 136, 3) := by decide +kernel
theorem dX3_readAgain_26 : decode cX3_readAgain 26 = .ok (.invokevirtual 107, 3) := by decide +kernel
theorem dX3_readAgain_29 : decode cX3_readAgain 29 = .ok (.aload_n 0, 1) := by decide +kernel
theorem dX3_readAgain_30 : decode cX3_readAgain 30 = .ok (.getfield 29, 3) := by decide +kernel
theorem dX3_readAgain_33 : decode cX3_readAgain 33 = .ok (.iload_n 1, 1) := by decide +kernel
theorem dX3_readAgain_34 : decode cX3_readAgain 34 = .ok (.iconst 2, 1) := by decide +kernel
theorem dX3_readAgain_35 : decode cX3_readAgain 35 = .ok (.aload_n 0, 1) := by decide +kernel
theorem dX3_readAgain_36 : decode cX3_readAgain 36 = .ok (.invokevirtual 136, 3) := by decide +kernel
theorem dX3_readAgain_39 : decode cX3_readAgain 39 = .ok (.invokevirtual 107, 3) := by decide +kernel
theorem dX3_readAgain_42 : decode cX3_readAgain 42 = .ok (.aload_n 0, 1) := by decide +kernel
theorem dX3_readAgain_43 : decode cX3_readAgain 43 = .ok (.getfield 25, 3) := by decide +kernel
theorem dX3_readAgain_46 : decode cX3_readAgain 46 = .ok (.getfield 46, 3) := by decide +kernel
theorem dX3_readAgain_49 : decode cX3_readAgain 49 = .ok (.bipush 40, 2) := by decide +kernel
theorem dX3_readAgain_51 : decode cX3_readAgain 51 = .ok (.if_icmp .ne 16, 3) := by decide +kernel
theorem dX3_readAgain_54 : decode cX3_readAgain 54 = .ok (.aload_n 0, 1) := by decide +kernel
theorem dX3_readAgain_55 : decode cX3_readAgain 55 = .ok (.getfield 18, 3) := by decide +kernel
theorem dX3_readAgain_58 : decode cX3_readAgain 58 = .ok (.iconst 5, 1) := by decide +kernel
theorem dX3_readAgain_59 : decode cX3_readAgain 59 = .ok (.if_icmp .lt 8, 3) := by decide +kernel
theorem dX3_readAgain_62 : decode cX3_readAgain 62 = .ok (.aload_n 0, 1) := by decide +kernel
theorem dX3_readAgain_63 : decode cX3_readAgain 63 = .ok (.iconst 2, 1) := by decide +kernel
theorem dX3_readAgain_64 : decode cX3_readAgain 64 = .ok (.invokevirtual 58, 3) := by decide +kernel
theorem dX3_readAgain_67 : decode cX3_readAgain 67 = .ok (.aload_n 0, 1) := by decide +kernel
theorem dX3_readAgain_68 : decode cX3_readAgain 68 = .ok (.bipush 40, 2) := by decide +kernel
theorem dX3_readAgain_70 : decode cX3_readAgain 70 = .ok (.invokevirtual 76, 3) := by decide +kernel
theorem dX3_readAgain_73 : decode cX3_readAgain 73 = .ok (.aload_n 0, 1) := by decide +kernel
theorem dX3_readAgain_74 : decode cX3_readAgain 74 = .ok (.getfield 9, 3) := by decide +kernel
theorem dX3_readAgain_77 : decode cX3_readAgain 77 = .ok (.ifCond .ne 23, 3) := by decide +kernel
theorem dX3_readAgain_80 : decode cX3_readAgain 80 = .ok (.aload_n 0, 1) := by decide +kernel
theorem dX3_readAgain_81 : decode cX3_readAgain 81 = .ok (.getfield 21, 3) := by decide +kernel
theorem dX3_readAgain_84 : decode cX3_readAgain 84 = .ok (.aload_n 0, 1) := by decide +kernel
theorem dX3_readAgain_85 : decode cX3_readAgain 85 = .ok (.getfield 18, 3) := by decide +kernel
theorem dX3_readAgain_88 : decode cX3_readAgain 88 = .ok (.iload_n 1, 1) := by decide +kernel
theorem dX3_readAgain_89 : decode cX3_readAgain 89 = .ok (.iastore, 1) := by decide +kernel
theorem dX3_readAgain_90 : decode cX3_readAgain 90 = .ok (.aload_n 0, 1) := by decide +kernel
theorem dX3_readAgain_91 : decode cX3_readAgain 91 = .ok (.dup, 1) := by decide +kernel
theorem dX3_readAgain_92 : decode cX3_readAgain 92 = .ok (.getfield 18, 3) := by decide +kernel
theorem dX3_readAgain_95 : decode cX3_readAgain 95 = .ok (.iconst 1, 1) := by decide +kernel
theorem dX3_readAgain_96 : decode cX3_readAgain 96 = .ok (.iadd, 1) := by decide +kernel
theorem dX3_readAgain_97 : decode cX3_readAgain 97 = .ok (.putfield 18, 3) := by decide +kernel
theorem dX3_readAgain_100 : decode cX3_readAgain 100 = .ok (.return_, 1) := by decide +kernel
theorem dX3_checkName_0 : decode cX3_checkName 0 = .ok (.aload_n 0, 1) := by decide +kernel
theorem dX3_checkName_1 : decode cX3_checkName 1 = .ok (.getfield 25, 3) := by decide +kernel
theorem dX3_checkName_4 : decode cX3_checkName 4 = .ok (.getfield 46, 3) := by decide +kernel
theorem dX3_checkName_7 : decode cX3_checkName 7 = .ok (.iconst 1, 1) := by decide +kernel
theorem dX3_checkName_8 : decode cX3_checkName 8 = .ok (.if_icmp .ne 31, 3) := by decide +kernel
theorem dX3_checkName_11 : decode cX3_checkName 11 = .ok (.aload_n 0, 1) := by decide +kernel
theorem dX3_checkName_12 : decode cX3_checkName 12 = .ok (.getfield 25, 3) := by decide +kernel
theorem dX3_checkName_15 : decode cX3_checkName 15 = .ok (.getfield 125, 3) := by decide +kernel
theorem dX3_checkName_18 : decode cX3_checkName 18 = .ok (.aload_n 0, 1) := by decide +kernel
theorem dX3_checkName_19 : decode cX3_checkName 19 = .ok (.getfield 25, 3) := by decide +kernel
theorem dX3_checkName_22 : decode cX3_checkName 22 = .ok (.getfield 122, 3) := by decide +kernel
theorem dX3_checkName_25 : decode cX3_checkName 25 = .ok (.isub, 1) := by decide +kernel
theorem dX3_checkName_26 : decode cX3_checkName 26 = .ok (.bipush 6, 2) := by decide +kernel
theorem dX3_checkName_28 : decode cX3_checkName 28 = .ok (.if_icmp .gt 11, 3) := by decide +kernel
theorem dX3_checkName_31 : decode cX3_checkName 31 = .ok (.aload_n 0, 1) := by decide +kernel
theorem dX3_checkName_32 : decode cX3_checkName 32 = .ok (.invokevirtual 61, 3) := by decide +kernel
theorem dX3_checkName_35 : decode cX3_checkName 35 = .ok (.iconst (-1), 1) := by decide +kernel
theorem dX3_checkName_36 : decode cX3_checkName 36 = .ok (.if_icmp .eq 8, 3) := by decide +kernel
theorem dX3_checkName_39 : decode cX3_checkName 39 = .ok (.aload_n 0, 1) := by decide +kernel
theorem dX3_checkName_40 : decode cX3_checkName 40 = .ok (.iconst 1, 1) := by decide +kernel
theorem dX3_checkName_41 : decode cX3_checkName 41 = .ok (.invokevirtual 58, 3) := by decide +kernel
theorem dX3_checkName_44 : decode cX3_checkName 44 = .ok (.return_, 1) := by decide +kernel
theorem dX3_formAtHand_0 : decode cX3_formAtHand 0 = .ok (.iconst 0, 1) := by decide +kernel
theorem dX3_formAtHand_1 : decode cX3_formAtHand 1 = .ok (.istore_n 1, 1) := by decide +kernel
theorem dX3_formAtHand_2 : decode cX3_formAtHand 2 = .ok (.iload_n 1, 1) := by decide +kernel
theorem dX3_formAtHand_3 : decode cX3_formAtHand 3 = .ok (.aload_n 0, 1) := by decide +kernel
theorem dX3_formAtHand_4 : decode cX3_formAtHand 4 = .ok (.getfield 29, 3) := by decide +kernel
theorem dX3_formAtHand_7 : decode cX3_formAtHand 7 = .ok (.getfield 38, 3) := by decide +kernel
theorem dX3_formAtHand_10 : decode cX3_formAtHand 10 = .ok (.if_icmp .ge 39, 3) := by decide +kernel
theorem dX3_formAtHand_13 : decode cX3_formAtHand 13 = .ok (.aload_n 0, 1) := by decide +kernel
theorem dX3_formAtHand_14 : decode cX3_formAtHand 14 = .ok (.getfield 25, 3) := by decide +kernel
theorem dX3_formAtHand_17 : decode cX3_formAtHand 17 = .ok (.aload_n 0, 1) := by decide +kernel
theorem dX3_formAtHand_18 : decode cX3_formAtHand 18 = .ok (.getfield 29, 3) := by decide +kernel
theorem dX3_formAtHand_21 : decode cX3_formAtHand 21 = .ok (.getfield 139, 3) := by decide +kernel
theorem dX3_formAtHand_24 : decode cX3_formAtHand 24 = .ok (.iload_n 1, 1) := by decide +kernel
theorem dX3_formAtHand_25 : decode cX3_formAtHand 25 = .ok (.iaload, 1) := by decide +kernel
theorem dX3_formAtHand_26 : decode cX3_formAtHand 26 = .ok (.aload_n 0, 1) := by decide +kernel
theorem dX3_formAtHand_27 : decode cX3_formAtHand 27 = .ok (.getfield 29, 3) := by decide +kernel
theorem dX3_formAtHand_30 : decode cX3_formAtHand 30 = .ok (.getfield 142, 3) := by decide +kernel
theorem dX3_formAtHand_33 : decode cX3_formAtHand 33 = .ok (.iload_n 1, 1) := by decide +kernel
theorem dX3_formAtHand_34 : decode cX3_formAtHand 34 = .ok (.iaload, 1) := by decide +kernel
theorem dX3_formAtHand_35 : decode cX3_formAtHand 35 = .ok (.invokevirtual 145, 3) := by decide +kernel
theorem dX3_formAtHand_38 : decode cX3_formAtHand 38 = .ok (.ifCond .eq 5, 3) := by decide +kernel
theorem dX3_formAtHand_41 : decode cX3_formAtHand 41 = .ok (.iload_n 1, 1) := by decide +kernel
theorem dX3_formAtHand_42 : decode cX3_formAtHand 42 = .ok (.ireturn, 1) := by decide +kernel
theorem dX3_formAtHand_43 : decode cX3_formAtHand 43 = .ok (.iinc 1 1, 3) := by decide +kernel
theorem dX3_formAtHand_46 : decode cX3_formAtHand 46 = .ok (.goto (-44), 3) := by decide +kernel
theorem dX3_formAtHand_49 : decode cX3_formAtHand 49 = .ok (.iconst (-1), 1) := by decide +kernel
theorem dX3_formAtHand_50 : decode cX3_formAtHand 50 = .ok (.ireturn, 1) := by decide +kernel
theorem dX3_takeNumber_0 : decode cX3_takeNumber 0 = .ok (.aload_n 0, 1) := by decide +kernel
theorem dX3_takeNumber_1 : decode cX3_takeNumber 1 = .ok (.getfield 25, 3) := by decide +kernel
theorem dX3_takeNumber_4 : decode cX3_takeNumber 4 = .ok (.getfield 149, 3) := by decide +kernel
theorem dX3_takeNumber_7 : decode cX3_takeNumber 7 = .ok (.istore_n 3, 1) := by decide +kernel
theorem dX3_takeNumber_8 : decode cX3_takeNumber 8 = .ok (.aload_n 0, 1) := by decide +kernel
theorem dX3_takeNumber_9 : decode cX3_takeNumber 9 = .ok (.getfield 25, 3) := by decide +kernel
theorem dX3_takeNumber_12 : decode cX3_takeNumber 12 = .ok (.getfield 46, 3) := by decide +kernel
theorem dX3_takeNumber_15 : decode cX3_takeNumber 15 = .ok (.iconst 2, 1) := by decide +kernel
theorem dX3_takeNumber_16 : decode cX3_takeNumber 16 = .ok (.if_icmp .eq 11, 3) := by decide +kernel
theorem dX3_takeNumber_19 : decode cX3_takeNumber 19 = .ok (.aload_n 0, 1) := by decide +kernel
theorem dX3_takeNumber_20 : decode cX3_takeNumber 20 = .ok (.iconst 1, 1) := by decide +kernel
theorem dX3_takeNumber_21 : decode cX3_takeNumber 21 = .ok (.invokevirtual 58, 3) := by decide +kernel
theorem dX3_takeNumber_24 : decode cX3_takeNumber 24 = .ok (.goto 17, 3) := by decide +kernel
theorem dX3_takeNumber_27 : decode cX3_takeNumber 27 = .ok (.iload_n 3, 1) := by decide +kernel
theorem dX3_takeNumber_28 : decode cX3_takeNumber 28 = .ok (.iload_n 1, 1) := by decide +kernel
theorem dX3_takeNumber_29 : decode cX3_takeNumber 29 = .ok (.iload_n 2, 1) := by decide +kernel
theorem dX3_takeNumber_30 : decode cX3_takeNumber 30 = .ok (.invokestatic 152, 3) := by decide +kernel
theorem dX3_takeNumber_33 : decode cX3_takeNumber 33 = .ok (.ifCond .ne 8, 3) := by decide +kernel
theorem dX3_takeNumber_36 : decode cX3_takeNumber 36 = .ok (.aload_n 0, 1) := by decide +kernel
theorem dX3_takeNumber_37 : decode cX3_takeNumber 37 = .ok (.iconst 2, 1) := by decide +kernel
theorem dX3_takeNumber_38 : decode cX3_takeNumber 38 = .ok (.invokevirtual 58, 3) := by decide +kernel
theorem dX3_takeNumber_41 : decode cX3_takeNumber 41 = .ok (.aload_n 0, 1) := by decide +kernel
theorem dX3_takeNumber_42 : decode cX3_takeNumber 42 = .ok (.getfield 9, 3) := by decide +kernel
theorem dX3_takeNumber_45 : decode cX3_takeNumber 45 = .ok (.ifCond .eq 5, 3) := by decide +kernel
theorem dX3_takeNumber_48 : decode cX3_takeNumber 48 = .ok (.iconst 0, 1) := by decide +kernel
theorem dX3_takeNumber_49 : decode cX3_takeNumber 49 = .ok (.ireturn, 1) := by decide +kernel
theorem dX3_takeNumber_50 : decode cX3_takeNumber 50 = .ok (.aload_n 0, 1) := by decide +kernel
theorem dX3_takeNumber_51 : decode cX3_takeNumber 51 = .ok (.getfield 25, 3) := by decide +kernel
theorem dX3_takeNumber_54 : decode cX3_takeNumber 54 = .ok (.invokevirtual 52, 3) := by decide +kernel
theorem dX3_takeNumber_57 : decode cX3_takeNumber 57 = .ok (.iload_n 3, 1) := by decide +kernel
theorem dX3_takeNumber_58 : decode cX3_takeNumber 58 = .ok (.ireturn, 1) := by decide +kernel
theorem dX3_checkAbove_0 : decode cX3_checkAbove 0 = .ok (.aload_n 0, 1) := by decide +kernel
theorem dX3_checkAbove_1 : decode cX3_checkAbove 1 = .ok (.getfield 25, 3) := by decide +kernel
theorem dX3_checkAbove_4 : decode cX3_checkAbove 4 = .ok (.getfield 46, 3) := by decide +kernel
theorem dX3_checkAbove_7 : decode cX3_checkAbove 7 = .ok (.iconst 2, 1) := by decide +kernel
theorem dX3_checkAbove_8 : decode cX3_checkAbove 8 = .ok (.if_icmp .ne 19, 3) := by decide +kernel
theorem dX3_checkAbove_11 : decode cX3_checkAbove 11 = .ok (.aload_n 0, 1) := by decide +kernel
theorem dX3_checkAbove_12 : decode cX3_checkAbove 12 = .ok (.getfield 25, 3) := by decide +kernel
theorem dX3_checkAbove_15 : decode cX3_checkAbove 15 = .ok (.getfield 149, 3) := by decide +kernel
theorem dX3_checkAbove_18 : decode cX3_checkAbove 18 = .ok (.iload_n 1, 1) := by decide +kernel
theorem dX3_checkAbove_19 : decode cX3_checkAbove 19 = .ok (.if_icmp .gt 8, 3) := by decide +kernel
theorem dX3_checkAbove_22 : decode cX3_checkAbove 22 = .ok (.aload_n 0, 1) := by decide +kernel
theorem dX3_checkAbove_23 : decode cX3_checkAbove 23 = .ok (.iconst 5, 1) := by decide +kernel
theorem dX3_checkAbove_24 : decode cX3_checkAbove 24 = .ok (.invokevirtual 58, 3) := by decide +kernel
theorem dX3_checkAbove_27 : decode cX3_checkAbove 27 = .ok (.return_, 1) := by decide +kernel
theorem dX3_takeSigned_0 : decode cX3_takeSigned 0 = .ok (.aload_n 0, 1) := by decide +kernel
theorem dX3_takeSigned_1 : decode cX3_takeSigned 1 = .ok (.getfield 9, 3) := by decide +kernel
theorem dX3_takeSigned_4 : decode cX3_takeSigned 4 = .ok (.ifCond .ne 32, 3) := by decide +kernel
theorem dX3_takeSigned_7 : decode cX3_takeSigned 7 = .ok (.aload_n 0, 1) := by decide +kernel
theorem dX3_takeSigned_8 : decode cX3_takeSigned 8 = .ok (.getfield 25, 3) := by decide +kernel
theorem dX3_takeSigned_11 : decode cX3_takeSigned 11 = .ok (.getfield 46, 3) := by decide +kernel
theorem dX3_takeSigned_14 : decode cX3_takeSigned 14 = .ok (.bipush 45, 2) := by decide +kernel
theorem dX3_takeSigned_16 : decode cX3_takeSigned 16 = .ok (.if_icmp .ne 20, 3) := by decide +kernel
theorem dX3_takeSigned_19 : decode cX3_takeSigned 19 = .ok (.aload_n 0, 1) := by decide +kernel
theorem dX3_takeSigned_20 : decode cX3_takeSigned 20 = .ok (.getfield 25, 3) := by decide +kernel
theorem dX3_takeSigned_23 : decode cX3_takeSigned 23 = .ok (.invokevirtual 52, 3) := by decide +kernel
theorem dX3_takeSigned_26 : decode cX3_takeSigned 26 = .ok (.aload_n 0, 1) := by decide +kernel
theorem dX3_takeSigned_27 : decode cX3_takeSigned 27 = .ok (.iconst 0, 1) := by decide +kernel
theorem dX3_takeSigned_28 : decode cX3_takeSigned 28 = .ok (.sipush 999, 3) := by decide +kernel
theorem dX3_takeSigned_31 : decode cX3_takeSigned 31 = .ok (.invokevirtual 103, 3) := by decide +kernel
theorem dX3_takeSigned_34 : decode cX3_takeSigned 34 = .ok (.ineg, 1) := by decide +kernel
theorem dX3_takeSigned_35 : decode cX3_takeSigned 35 = .ok (.ireturn, 1) := by decide +kernel
theorem dX3_takeSigned_36 : decode cX3_takeSigned 36 = .ok (.aload_n 0, 1) := by decide +kernel
theorem dX3_takeSigned_37 : decode cX3_takeSigned 37 = .ok (.iconst 0, 1) := by decide +kernel
theorem dX3_takeSigned_38 : decode cX3_takeSigned 38 = .ok (.sipush 999, 3) := by decide +kernel
theorem dX3_takeSigned_41 : decode cX3_takeSigned 41 = .ok (.invokevirtual 103, 3) := by decide +kernel
theorem dX3_takeSigned_44 : decode cX3_takeSigned 44 = .ok (.ireturn, 1) := by decide +kernel
theorem dX3_takeSign_0 : decode cX3_takeSign 0 = .ok (.aload_n 0, 1) := by decide +kernel
theorem dX3_takeSign_1 : decode cX3_takeSign 1 = .ok (.getfield 25, 3) := by decide +kernel
theorem dX3_takeSign_4 : decode cX3_takeSign 4 = .ok (.getfield 46, 3) := by decide +kernel
theorem dX3_takeSign_7 : decode cX3_takeSign 7 = .ok (.iload_n 1, 1) := by decide +kernel
theorem dX3_takeSign_8 : decode cX3_takeSign 8 = .ok (.if_icmp .eq 8, 3) := by decide +kernel
theorem dX3_takeSign_11 : decode cX3_takeSign 11 = .ok (.aload_n 0, 1) := by decide +kernel
theorem dX3_takeSign_12 : decode cX3_takeSign 12 = .ok (.iconst 1, 1) := by decide +kernel
theorem dX3_takeSign_13 : decode cX3_takeSign 13 = .ok (.invokevirtual 58, 3) := by decide +kernel
theorem dX3_takeSign_16 : decode cX3_takeSign 16 = .ok (.aload_n 0, 1) := by decide +kernel
theorem dX3_takeSign_17 : decode cX3_takeSign 17 = .ok (.getfield 9, 3) := by decide +kernel
theorem dX3_takeSign_20 : decode cX3_takeSign 20 = .ok (.ifCond .ne 10, 3) := by decide +kernel
theorem dX3_takeSign_23 : decode cX3_takeSign 23 = .ok (.aload_n 0, 1) := by decide +kernel
theorem dX3_takeSign_24 : decode cX3_takeSign 24 = .ok (.getfield 25, 3) := by decide +kernel
theorem dX3_takeSign_27 : decode cX3_takeSign 27 = .ok (.invokevirtual 52, 3) := by decide +kernel
theorem dX3_takeSign_30 : decode cX3_takeSign 30 = .ok (.return_, 1) := by decide +kernel
theorem dX3_fail_0 : decode cX3_fail 0 = .ok (.aload_n 0, 1) := by decide +kernel
theorem dX3_fail_1 : decode cX3_fail 1 = .ok (.getfield 9, 3) := by decide +kernel
theorem dX3_fail_4 : decode cX3_fail 4 = .ok (.ifCond .ne 19, 3) := by decide +kernel
theorem dX3_fail_7 : decode cX3_fail 7 = .ok (.aload_n 0, 1) := by decide +kernel
theorem dX3_fail_8 : decode cX3_fail 8 = .ok (.iload_n 1, 1) := by decide +kernel
theorem dX3_fail_9 : decode cX3_fail 9 = .ok (.putfield 9, 3) := by decide +kernel
theorem dX3_fail_12 : decode cX3_fail 12 = .ok (.aload_n 0, 1) := by decide +kernel
theorem dX3_fail_13 : decode cX3_fail 13 = .ok (.aload_n 0, 1) := by decide +kernel
theorem dX3_fail_14 : decode cX3_fail 14 = .ok (.getfield 25, 3) := by decide +kernel
theorem dX3_fail_17 : decode cX3_fail 17 = .ok (.getfield 122, 3) := by decide +kernel
theorem dX3_fail_20 : decode cX3_fail 20 = .ok (.putfield 15, 3) := by decide +kernel
theorem dX3_fail_23 : decode cX3_fail 23 = .ok (.return_, 1) := by decide +kernel
theorem dX4_init_0 : decode cX4_init 0 = .ok (.aload_n 0, 1) := by decide +kernel
theorem dX4_init_1 : decode cX4_init 1 = .ok (.invokespecial 3, 3) := by decide +kernel
theorem dX4_init_4 : decode cX4_init 4 = .ok (.aload_n 0, 1) := by decide +kernel
theorem dX4_init_5 : decode cX4_init 5 = .ok (.iconst 0, 1) := by decide +kernel
theorem dX4_init_6 : decode cX4_init 6 = .ok (.putfield 9, 3) := by decide +kernel
theorem dX4_init_9 : decode cX4_init 9 = .ok (.aload_n 0, 1) := by decide +kernel
theorem dX4_init_10 : decode cX4_init 10 = .ok (.iconst 0, 1) := by decide +kernel
theorem dX4_init_11 : decode cX4_init 11 = .ok (.putfield 15, 3) := by decide +kernel
theorem dX4_init_14 : decode cX4_init 14 = .ok (.aload_n 0, 1) := by decide +kernel
theorem dX4_init_15 : decode cX4_init 15 = .ok (.iconst 0, 1) := by decide +kernel
theorem dX4_init_16 : decode cX4_init 16 = .ok (.putfield 18, 3) := by decide +kernel
theorem dX4_init_19 : decode cX4_init 19 = .ok (.aload_n 0, 1) := by decide +kernel
theorem dX4_init_20 : decode cX4_init 20 = .ok (.iconst 0, 1) := by decide +kernel
theorem dX4_init_21 : decode cX4_init 21 = .ok (.putfield 21, 3) := by decide +kernel
theorem dX4_init_24 : decode cX4_init 24 = .ok (.aload_n 0, 1) := by decide +kernel
theorem dX4_init_25 : decode cX4_init 25 = .ok (.bipush 20, 2) := by decide +kernel
theorem dX4_init_27 : decode cX4_init 27 = .ok (.newarray .long, 2) := by decide +kernel
theorem dX4_init_29 : decode cX4_init 29 = .ok (.putfield 24, 3) := by decide +kernel
theorem dX4_init_32 : decode cX4_init 32 = .ok (.aload_n 0, 1) := by decide +kernel
theorem dX4_init_33 : decode cX4_init 33 = .ok (.bipush 20, 2) := by decide +kernel
theorem dX4_init_35 : decode cX4_init 35 = .ok (.newarray .long, 2) := by decide +kernel
theorem dX4_init_37 : decode cX4_init 37 = .ok (.putfield 28, 3) := by decide +kernel
theorem dX4_init_40 : decode cX4_init 40 = .ok (.return_, 1) := by decide +kernel
theorem dX4_append_0 : decode cX4_append 0 = .ok (.aload_n 0, 1) := by decide +kernel
theorem dX4_append_1 : decode cX4_append 1 = .ok (.getfield 9, 3) := by decide +kernel
theorem dX4_append_4 : decode cX4_append 4 = .ok (.bipush 20, 2) := by decide +kernel
theorem dX4_append_6 : decode cX4_append 6 = .ok (.if_icmp .lt 5, 3) := by decide +kernel
theorem dX4_append_9 : decode cX4_append 9 = .ok (.iconst (-1), 1) := by decide +kernel
theorem dX4_append_10 : decode cX4_append 10 = .ok (.ireturn, 1) := by decide +kernel
theorem dX4_append_11 : decode cX4_append 11 = .ok (.aload_n 0, 1) := by decide +kernel
theorem dX4_append_12 : decode cX4_append 12 = .ok (.getfield 24, 3) := by decide +kernel
theorem dX4_append_15 : decode cX4_append 15 = .ok (.aload_n 0, 1) := by decide +kernel
theorem dX4_append_16 : decode cX4_append 16 = .ok (.getfield 9, 3) := by decide +kernel
theorem dX4_append_19 : decode cX4_append 19 = .ok (.lload_n 1, 1) := by decide +kernel
theorem dX4_append_20 : decode cX4_append 20 = .ok (.lastore, 1) := by decide +kernel
theorem dX4_append_21 : decode cX4_append 21 = .ok (.aload_n 0, 1) := by decide +kernel
theorem dX4_append_22 : decode cX4_append 22 = .ok (.getfield 28, 3) := by decide +kernel
theorem dX4_append_25 : decode cX4_append 25 = .ok (.aload_n 0, 1) := by decide +kernel
theorem dX4_append_26 : decode cX4_append 26 = .ok (.getfield 9, 3) := by decide +kernel
theorem dX4_append_29 : decode cX4_append 29 = .ok (.lload_n 3, 1) := by decide +kernel
theorem dX4_append_30 : decode cX4_append 30 = .ok (.lastore, 1) := by decide +kernel
theorem dX4_append_31 : decode cX4_append 31 = .ok (.aload_n 0, 1) := by decide +kernel
theorem dX4_append_32 : decode cX4_append 32 = .ok (.dup, 1) := by decide +kernel
theorem dX4_append_33 : decode cX4_append 33 = .ok (.getfield 9, 3) := by decide +kernel
theorem dX4_append_36 : decode cX4_append 36 = .ok (.iconst 1, 1) := by decide +kernel
theorem dX4_append_37 : decode cX4_append 37 = .ok (.iadd, 1) := by decide +kernel
theorem dX4_append_38 : decode cX4_append 38 = .ok (.putfield 9, 3) := by decide +kernel
theorem dX4_append_41 : decode cX4_append 41 = .ok (.aload_n 0, 1) := by decide +kernel
theorem dX4_append_42 : decode cX4_append 42 = .ok (.getfield 9, 3) := by decide +kernel
theorem dX4_append_45 : decode cX4_append 45 = .ok (.ireturn, 1) := by decide +kernel
theorem dX4_fit_0 : decode cX4_fit 0 = .ok (.aload_n 0, 1) := by decide +kernel
theorem dX4_fit_1 : decode cX4_fit 1 = .ok (.iconst (-1), 1) := by decide +kernel
theorem dX4_fit_2 : decode cX4_fit 2 = .ok (.putfield 21, 3) := by decide +kernel
theorem dX4_fit_5 : decode cX4_fit 5 = .ok (.bipush (-20), 2) := by decide +kernel
theorem dX4_fit_7 : decode cX4_fit 7 = .ok (.istore_n 2, 1) := by decide +kernel
theorem dX4_fit_8 : decode cX4_fit 8 = .ok (.iload_n 2, 1) := by decide +kernel
theorem dX4_fit_9 : decode cX4_fit 9 = .ok (.bipush 20, 2) := by decide +kernel
theorem dX4_fit_11 : decode cX4_fit 11 = .ok (.if_icmp .gt 58, 3) := by decide +kernel
theorem dX4_fit_14 : decode cX4_fit 14 = .ok (.bipush (-20), 2) := by decide +kernel
theorem dX4_fit_16 : decode cX4_fit 16 = .ok (.istore_n 3, 1) := by decide +kernel
theorem dX4_fit_17 : decode cX4_fit 17 = .ok (.iload_n 3, 1) := by decide +kernel
theorem dX4_fit_18 : decode cX4_fit 18 = .ok (.bipush 20, 2) := by decide +kernel
theorem dX4_fit_20 : decode cX4_fit 20 = .ok (.if_icmp .gt 43, 3) := by decide +kernel
theorem dX4_fit_23 : decode cX4_fit 23 = .ok (.aload_n 0, 1) := by decide +kernel
theorem dX4_fit_24 : decode cX4_fit 24 = .ok (.iload_n 2, 1) := by decide +kernel
theorem dX4_fit_25 : decode cX4_fit 25 = .ok (.iload_n 3, 1) := by decide +kernel
theorem dX4_fit_26 : decode cX4_fit 26 = .ok (.iload_n 1, 1) := by decide +kernel
theorem dX4_fit_27 : decode cX4_fit 27 = .ok (.invokevirtual 31, 3) := by decide +kernel
theorem dX4_fit_30 : decode cX4_fit 30 = .ok (.istore 4, 2) := by decide +kernel
theorem dX4_fit_32 : decode cX4_fit 32 = .ok (.iload 4, 2) := by decide +kernel
theorem dX4_fit_34 : decode cX4_fit 34 = .ok (.aload_n 0, 1) := by decide +kernel
theorem dX4_fit_35 : decode cX4_fit 35 = .ok (.getfield 21, 3) := by decide +kernel
theorem dX4_fit_38 : decode cX4_fit 38 = .ok (.if_icmp .le 19, 3) := by decide +kernel
theorem dX4_fit_41 : decode cX4_fit 41 = .ok (.aload_n 0, 1) := by decide +kernel
theorem dX4_fit_42 : decode cX4_fit 42 = .ok (.iload 4, 2) := by decide +kernel
theorem dX4_fit_44 : decode cX4_fit 44 = .ok (.putfield 21, 3) := by decide +kernel
theorem dX4_fit_47 : decode cX4_fit 47 = .ok (.aload_n 0, 1) := by decide +kernel
theorem dX4_fit_48 : decode cX4_fit 48 = .ok (.iload_n 2, 1) := by decide +kernel
theorem dX4_fit_49 : decode cX4_fit 49 = .ok (.putfield 15, 3) := by decide +kernel
theorem dX4_fit_52 : decode cX4_fit 52 = .ok (.aload_n 0, 1) := by decide +kernel
theorem dX4_fit_53 : decode cX4_fit 53 = .ok (.iload_n 3, 1) := by decide +kernel
theorem dX4_fit_54 : decode cX4_fit 54 = .ok (.putfield 18, 3) := by decide +kernel
theorem dX4_fit_57 : decode cX4_fit 57 = .ok (.iinc 3 1, 3) := by decide +kernel
theorem dX4_fit_60 : decode cX4_fit 60 = .ok (.goto (-43), 3) := by decide +kernel
theorem dX4_fit_63 : decode cX4_fit 63 = .ok (.iinc 2 1, 3) := by decide +kernel
theorem dX4_fit_66 : decode cX4_fit 66 = .ok (.goto (-58), 3) := by decide +kernel
theorem dX4_fit_69 : decode cX4_fit 69 = .ok (.return_, 1) := by decide +kernel
theorem dX4_countFits_0 : decode cX4_countFits 0 = .ok (.iconst 0, 1) := by decide +kernel
theorem dX4_countFits_1 : decode cX4_countFits 1 = .ok (.istore 4, 2) := by decide +kernel
theorem dX4_countFits_3 : decode cX4_countFits 3 = .ok (.iconst 0, 1) := by decide +kernel
theorem dX4_countFits_4 : decode cX4_countFits 4 = .ok (.istore 5, 2) := by decide +kernel
theorem dX4_countFits_6 : decode cX4_countFits 6 = .ok (.iload 5, 2) := by decide +kernel
theorem dX4_countFits_8 : decode cX4_countFits 8 = .ok (.aload_n 0, 1) := by decide +kernel
theorem dX4_countFits_9 : decode cX4_countFits 9 = .ok (.getfield 9, 3) := by decide +kernel
theorem dX4_countFits_12 : decode cX4_countFits 12 = .ok (.if_icmp .ge 50, 3) := by decide +kernel
theorem dX4_countFits_15 : decode cX4_countFits 15 = .ok (.aload_n 0, 1) := by decide +kernel
theorem dX4_countFits_16 : decode cX4_countFits 16 = .ok (.getfield 24, 3) := by decide +kernel
theorem dX4_countFits_19 : decode cX4_countFits 19 = .ok (.iload 5, 2) := by decide +kernel
theorem dX4_countFits_21 : decode cX4_countFits 21 = .ok (.laload, 1) := by decide +kernel
theorem dX4_countFits_22 : decode cX4_countFits 22 = .ok (.iload_n 1, 1) := by decide +kernel
theorem dX4_countFits_23 : decode cX4_countFits 23 = .ok (.i2l, 1) := by decide +kernel
theorem dX4_countFits_24 : decode cX4_countFits 24 = .ok (.lsub, 1) := by decide +kernel
theorem dX4_countFits_25 : decode cX4_countFits 25 = .ok (.invokestatic 35, 3) := by decide +kernel
theorem dX4_countFits_28 : decode cX4_countFits 28 = .ok (.iload_n 3, 1) := by decide +kernel
theorem dX4_countFits_29 : decode cX4_countFits 29 = .ok (.i2l, 1) := by decide +kernel
theorem dX4_countFits_30 : decode cX4_countFits 30 = .ok (.lcmp, 1) := by decide +kernel
theorem dX4_countFits_31 : decode cX4_countFits 31 = .ok (.ifCond .gt 25, 3) := by decide +kernel
theorem dX4_countFits_34 : decode cX4_countFits 34 = .ok (.aload_n 0, 1) := by decide +kernel
theorem dX4_countFits_35 : decode cX4_countFits 35 = .ok (.getfield 28, 3) := by decide +kernel
theorem dX4_countFits_38 : decode cX4_countFits 38 = .ok (.iload 5, 2) := by decide +kernel
theorem dX4_countFits_40 : decode cX4_countFits 40 = .ok (.laload, 1) := by decide +kernel
theorem dX4_countFits_41 : decode cX4_countFits 41 = .ok (.iload_n 2, 1) := by decide +kernel
theorem dX4_countFits_42 : decode cX4_countFits 42 = .ok (.i2l, 1) := by decide +kernel
theorem dX4_countFits_43 : decode cX4_countFits 43 = .ok (.lsub, 1) := by decide +kernel
theorem dX4_countFits_44 : decode cX4_countFits 44 = .ok (.invokestatic 35, 3) := by decide +kernel
theorem dX4_countFits_47 : decode cX4_countFits 47 = .ok (.iload_n 3, 1) := by decide +kernel
theorem dX4_countFits_48 : decode cX4_countFits 48 = .ok (.i2l, 1) := by decide +kernel
theorem dX4_countFits_49 : decode cX4_countFits 49 = .ok (.lcmp, 1) := by decide +kernel
theorem dX4_countFits_50 : decode cX4_countFits 50 = .ok (.ifCond .gt 6, 3) := by decide +kernel
theorem dX4_countFits_53 : decode cX4_countFits 53 = .ok (.iinc 4 1, 3) := by decide +kernel
theorem dX4_countFits_56 : decode cX4_countFits 56 = .ok (.iinc 5 1, 3) := by decide +kernel
theorem dX4_countFits_59 : decode cX4_countFits 59 = .ok (.goto (-53), 3) := by decide +kernel
theorem dX4_countFits_62 : decode cX4_countFits 62 = .ok (.iload 4, 2) := by decide +kernel
theorem dX4_countFits_64 : decode cX4_countFits 64 = .ok (.ireturn, 1) := by decide +kernel
theorem dX5_init_0 : decode cX5_init 0 = .ok (.aload_n 0, 1) := by decide +kernel
theorem dX5_init_1 : decode cX5_init 1 = .ok (.invokespecial 1, 3) := by decide +kernel
theorem dX5_init_4 : decode cX5_init 4 = .ok (.aload_n 0, 1) := by decide +kernel
theorem dX5_init_5 : decode cX5_init 5 = .ok (.iconst 0, 1) := by decide +kernel
theorem dX5_init_6 : decode cX5_init 6 = .ok (.putfield 7, 3) := by decide +kernel
theorem dX5_init_9 : decode cX5_init 9 = .ok (.aload_n 0, 1) := by decide +kernel
theorem dX5_init_10 : decode cX5_init 10 = .ok (.iconst 0, 1) := by decide +kernel
theorem dX5_init_11 : decode cX5_init 11 = .ok (.putfield 13, 3) := by decide +kernel
theorem dX5_init_14 : decode cX5_init 14 = .ok (.aload_n 0, 1) := by decide +kernel
theorem dX5_init_15 : decode cX5_init 15 = .ok (.iconst 0, 1) := by decide +kernel
theorem dX5_init_16 : decode cX5_init 16 = .ok (.putfield 16, 3) := by decide +kernel
theorem dX5_init_19 : decode cX5_init 19 = .ok (.aload_n 0, 1) := by decide +kernel
theorem dX5_init_20 : decode cX5_init 20 = .ok (.iconst 0, 1) := by decide +kernel
theorem dX5_init_21 : decode cX5_init 21 = .ok (.putfield 19, 3) := by decide +kernel
theorem dX5_init_24 : decode cX5_init 24 = .ok (.aload_n 0, 1) := by decide +kernel
theorem dX5_init_25 : decode cX5_init 25 = .ok (.iconst 0, 1) := by decide +kernel
theorem dX5_init_26 : decode cX5_init 26 = .ok (.putfield 22, 3) := by decide +kernel
theorem dX5_init_29 : decode cX5_init 29 = .ok (.aload_n 0, 1) := by decide +kernel
theorem dX5_init_30 : decode cX5_init 30 = .ok (.iconst 0, 1) := by decide +kernel
theorem dX5_init_31 : decode cX5_init 31 = .ok (.putfield 25, 3) := by decide +kernel
theorem dX5_init_34 : decode cX5_init 34 = .ok (.aload_n 0, 1) := by decide +kernel
theorem dX5_init_35 : decode cX5_init 35 = .ok (.iconst 0, 1) := by decide +kernel
theorem dX5_init_36 : decode cX5_init 36 = .ok (.putfield 28, 3) := by decide +kernel
theorem dX5_init_39 : decode cX5_init 39 = .ok (.aload_n 0, 1) := by decide +kernel
theorem dX5_init_40 : decode cX5_init 40 = .ok (.iconst 0, 1) := by decide +kernel
theorem dX5_init_41 : decode cX5_init 41 = .ok (.putfield 31, 3) := by decide +kernel
theorem dX5_init_44 : decode cX5_init 44 = .ok (.aload_n 0, 1) := by decide +kernel
theorem dX5_init_45 : decode cX5_init 45 = .ok (.iconst 4, 1) := by decide +kernel
theorem dX5_init_46 : decode cX5_init 46 = .ok (.newarray .int, 2) := by decide +kernel
theorem dX5_init_48 : decode cX5_init 48 = .ok (.putfield 35, 3) := by decide +kernel
theorem dX5_init_51 : decode cX5_init 51 = .ok (.aload_n 0, 1) := by decide +kernel
theorem dX5_init_52 : decode cX5_init 52 = .ok (.aload_n 1, 1) := by decide +kernel
theorem dX5_init_53 : decode cX5_init 53 = .ok (.putfield 39, 3) := by decide +kernel
theorem dX5_init_56 : decode cX5_init 56 = .ok (.aload_n 0, 1) := by decide +kernel
theorem dX5_init_57 : decode cX5_init 57 = .ok (.aload_n 2, 1) := by decide +kernel
theorem dX5_init_58 : decode cX5_init 58 = .ok (.putfield 43, 3) := by decide +kernel
theorem dX5_init_61 : decode cX5_init 61 = .ok (.aload_n 0, 1) := by decide +kernel
theorem dX5_init_62 : decode cX5_init 62 = .ok (.aload_n 3, 1) := by decide +kernel
theorem dX5_init_63 : decode cX5_init 63 = .ok (.putfield 47, 3) := by decide +kernel
theorem dX5_init_66 : decode cX5_init 66 = .ok (.return_, 1) := by decide +kernel
theorem dX5_plotAll_0 : decode cX5_plotAll 0 = .ok (.aload_n 0, 1) := by decide +kernel
theorem dX5_plotAll_1 : decode cX5_plotAll 1 = .ok (.getfield 47, 3) := by decide +kernel
theorem dX5_plotAll_4 : decode cX5_plotAll 4 = .ok (.invokevirtual 51, 3) := by decide +kernel
theorem dX5_plotAll_7 : decode cX5_plotAll 7 = .ok (.aload_n 0, 1) := by decide +kernel
theorem dX5_plotAll_8 : decode cX5_plotAll 8 = .ok (.iconst 0, 1) := by decide +kernel
theorem dX5_plotAll_9 : decode cX5_plotAll 9 = .ok (.putfield 7, 3) := by decide +kernel
theorem dX5_plotAll_12 : decode cX5_plotAll 12 = .ok (.aload_n 0, 1) := by decide +kernel
theorem dX5_plotAll_13 : decode cX5_plotAll 13 = .ok (.iconst 0, 1) := by decide +kernel
theorem dX5_plotAll_14 : decode cX5_plotAll 14 = .ok (.putfield 13, 3) := by decide +kernel
theorem dX5_plotAll_17 : decode cX5_plotAll 17 = .ok (.aload_n 0, 1) := by decide +kernel
theorem dX5_plotAll_18 : decode cX5_plotAll 18 = .ok (.iconst 0, 1) := by decide +kernel
theorem dX5_plotAll_19 : decode cX5_plotAll 19 = .ok (.putfield 16, 3) := by decide +kernel
theorem dX5_plotAll_22 : decode cX5_plotAll 22 = .ok (.aload_n 0, 1) := by decide +kernel
theorem dX5_plotAll_23 : decode cX5_plotAll 23 = .ok (.iconst 1, 1) := by decide +kernel
theorem dX5_plotAll_24 : decode cX5_plotAll 24 = .ok (.putfield 19, 3) := by decide +kernel
theorem dX5_plotAll_27 : decode cX5_plotAll 27 = .ok (.aload_n 0, 1) := by decide +kernel
theorem dX5_plotAll_28 : decode cX5_plotAll 28 = .ok (.aload_n 0, 1) := by decide +kernel
theorem dX5_plotAll_29 : decode cX5_plotAll 29 = .ok (.getfield 39, 3) := by decide +kernel
theorem dX5_plotAll_32 : decode cX5_plotAll 32 = .ok (.getfield 56, 3) := by decide +kernel
theorem dX5_plotAll_35 : decode cX5_plotAll 35 = .ok (.putfield 22, 3) := by decide +kernel
theorem dX5_plotAll_38 : decode cX5_plotAll 38 = .ok (.aload_n 0, 1) := by decide +kernel
theorem dX5_plotAll_39 : decode cX5_plotAll 39 = .ok (.aload_n 0, 1) := by decide +kernel
theorem dX5_plotAll_40 : decode cX5_plotAll 40 = .ok (.getfield 39, 3) := by decide +kernel
theorem dX5_plotAll_43 : decode cX5_plotAll 43 = .ok (.getfield 61, 3) := by decide +kernel
theorem dX5_plotAll_46 : decode cX5_plotAll 46 = .ok (.putfield 25, 3) := by decide +kernel
theorem dX5_plotAll_49 : decode cX5_plotAll 49 = .ok (.aload_n 0, 1) := by decide +kernel
theorem dX5_plotAll_50 : decode cX5_plotAll 50 = .ok (.iconst 0, 1) := by decide +kernel
theorem dX5_plotAll_51 : decode cX5_plotAll 51 = .ok (.putfield 28, 3) := by decide +kernel
theorem dX5_plotAll_54 : decode cX5_plotAll 54 = .ok (.aload_n 0, 1) := by decide +kernel
theorem dX5_plotAll_55 : decode cX5_plotAll 55 = .ok (.iconst 0, 1) := by decide +kernel
theorem dX5_plotAll_56 : decode cX5_plotAll 56 = .ok (.putfield 31, 3) := by decide +kernel
theorem dX5_plotAll_59 : decode cX5_plotAll 59 = .ok (.aload_n 0, 1) := by decide +kernel
theorem dX5_plotAll_60 : decode cX5_plotAll 60 = .ok (.iconst 0, 1) := by decide +kernel
theorem dX5_plotAll_61 : decode cX5_plotAll 61 = .ok (.aload_n 0, 1) := by decide +kernel
theorem dX5_plotAll_62 : decode cX5_plotAll 62 = .ok (.getfield 43, 3) := by decide +kernel
theorem dX5_plotAll_65 : decode cX5_plotAll 65 = .ok (.getfield 64, 3) := by decide +kernel
theorem dX5_plotAll_68 : decode cX5_plotAll 68 = .ok (.iconst 0, 1) := by decide +kernel
theorem dX5_plotAll_69 : decode cX5_plotAll 69 = .ok (.invokevirtual 69, 3) := by decide +kernel
theorem dX5_plotAll_72 : decode cX5_plotAll 72 = .ok (.aload_n 0, 1) := by decide +kernel
theorem dX5_plotAll_73 : decode cX5_plotAll 73 = .ok (.getfield 31, 3) := by decide +kernel
theorem dX5_plotAll_76 : decode cX5_plotAll 76 = .ok (.ireturn, 1) := by decide +kernel
theorem dX5_perform_0 : decode cX5_perform 0 = .ok (.iload_n 1, 1) := by decide +kernel
theorem dX5_perform_1 : decode cX5_perform 1 = .ok (.istore 4, 2) := by decide +kernel
theorem dX5_perform_3 : decode cX5_perform 3 = .ok (.iload 4, 2) := by decide +kernel
theorem dX5_perform_5 : decode cX5_perform 5 = .ok (.iload_n 2, 1) := by decide +kernel
theorem dX5_perform_6 : decode cX5_perform 6 = .ok (.if_icmp .ge 230, 3) := by decide +kernel
theorem dX5_perform_9 : decode cX5_perform 9 = .ok (.aload_n 0, 1) := by decide +kernel
theorem dX5_perform_10 : decode cX5_perform 10 = .ok (.getfield 31, 3) := by decide +kernel
theorem dX5_perform_13 : decode cX5_perform 13 = .ok (.ifCond .ne 223, 3) := by decide +kernel
theorem dX5_perform_16 : decode cX5_perform 16 = .ok (.aload_n 0, 1) := by decide +kernel
theorem dX5_perform_17 : decode cX5_perform 17 = .ok (.getfield 28, 3) := by decide +kernel
theorem dX5_perform_20 : decode cX5_perform 20 = .ok (.sipush 3000, 3) := by decide +kernel
theorem dX5_perform_23 : decode cX5_perform 23 = .ok (.if_icmp .lt 9, 3) := by decide +kernel
theorem dX5_perform_26 : decode cX5_perform 26 = .ok (.aload_n 0, 1) := by decide +kernel
theorem dX5_perform_27 : decode cX5_perform 27 = .ok (.iconst 1, 1) := by decide +kernel
theorem dX5_perform_28 : decode cX5_perform 28 = .ok (.putfield 31, 3) := by decide +kernel
theorem dX5_perform_31 : decode cX5_perform 31 = .ok (.return_, 1) := by decide +kernel
theorem dX5_perform_32 : decode cX5_perform 32 = .ok (.aload_n 0, 1) := by decide +kernel
theorem dX5_perform_33 : decode cX5_perform 33 = .ok (.dup, 1) := by decide +kernel
theorem dX5_perform_34 : decode cX5_perform 34 = .ok (.getfield 28, 3) := by decide +kernel
theorem dX5_perform_37 : decode cX5_perform 37 = .ok (.iconst 1, 1) := by decide +kernel
theorem dX5_perform_38 : decode cX5_perform 38 = .ok (.iadd, 1) := by decide +kernel
theorem dX5_perform_39 : decode cX5_perform 39 = .ok (.putfield 28, 3) := by decide +kernel
theorem dX5_perform_42 : decode cX5_perform 42 = .ok (.aload_n 0, 1) := by decide +kernel
theorem dX5_perform_43 : decode cX5_perform 43 = .ok (.getfield 43, 3) := by decide +kernel
theorem dX5_perform_46 : decode cX5_perform 46 = .ok (.getfield 73, 3) := by decide +kernel
theorem dX5_perform_49 : decode cX5_perform 49 = .ok (.iload 4, 2) := by decide +kernel
theorem dX5_perform_51 : decode cX5_perform 51 = .ok (.iaload, 1) := by decide +kernel
theorem dX5_perform_52 : decode cX5_perform 52 = .ok (.tableswitch 178 1 6 #[67, 76, 123, 160, 169, 40], 40) := by decide +kernel
theorem dX5_perform_92 : decode cX5_perform 92 = .ok (.aload_n 0, 1) := by decide +kernel
theorem dX5_perform_93 : decode cX5_perform 93 = .ok (.iload 4, 2) := by decide +kernel
theorem dX5_perform_95 : decode cX5_perform 95 = .ok (.iload_n 3, 1) := by decide +kernel
theorem dX5_perform_96 : decode cX5_perform 96 = .ok (.invokevirtual 76, 3) := by decide +kernel
theorem dX5_perform_99 : decode cX5_perform 99 = .ok (.iload 4, 2) := by decide +kernel
theorem dX5_perform_101 : decode cX5_perform 101 = .ok (.aload_n 0, 1) := by decide +kernel
theorem dX5_perform_102 : decode cX5_perform 102 = .ok (.getfield 43, 3) := by decide +kernel
theorem dX5_perform_105 : decode cX5_perform 105 = .ok (.getfield 80, 3) := by decide +kernel
theorem dX5_perform_108 : decode cX5_perform 108 = .ok (.iload 4, 2) := by decide +kernel
theorem dX5_perform_110 : decode cX5_perform 110 = .ok (.iaload, 1) := by decide +kernel
theorem dX5_perform_111 : decode cX5_perform 111 = .ok (.invokestatic 83, 3) := by decide +kernel
theorem dX5_perform_114 : decode cX5_perform 114 = .ok (.istore 4, 2) := by decide +kernel
theorem dX5_perform_116 : decode cX5_perform 116 = .ok (.goto 114, 3) := by decide +kernel
theorem dX5_perform_119 : decode cX5_perform 119 = .ok (.aload_n 0, 1) := by decide +kernel
theorem dX5_perform_120 : decode cX5_perform 120 = .ok (.iload 4, 2) := by decide +kernel
theorem dX5_perform_122 : decode cX5_perform 122 = .ok (.invokevirtual 89, 3) := by decide +kernel
theorem dX5_perform_125 : decode cX5_perform 125 = .ok (.goto 105, 3) := by decide +kernel
theorem dX5_perform_128 : decode cX5_perform 128 = .ok (.aload_n 0, 1) := by decide +kernel
theorem dX5_perform_129 : decode cX5_perform 129 = .ok (.aload_n 0, 1) := by decide +kernel
theorem dX5_perform_130 : decode cX5_perform 130 = .ok (.getfield 43, 3) := by decide +kernel
theorem dX5_perform_133 : decode cX5_perform 133 = .ok (.iload 4, 2) := by decide +kernel
theorem dX5_perform_135 : decode cX5_perform 135 = .ok (.iconst 0, 1) := by decide +kernel
theorem dX5_perform_136 : decode cX5_perform 136 = .ok (.invokevirtual 93, 3) := by decide +kernel
theorem dX5_perform_139 : decode cX5_perform 139 = .ok (.aload_n 0, 1) := by decide +kernel
theorem dX5_perform_140 : decode cX5_perform 140 = .ok (.getfield 43, 3) := by decide +kernel
theorem dX5_perform_143 : decode cX5_perform 143 = .ok (.iload 4, 2) := by decide +kernel
theorem dX5_perform_145 : decode cX5_perform 145 = .ok (.iconst 1, 1) := by decide +kernel
theorem dX5_perform_146 : decode cX5_perform 146 = .ok (.invokevirtual 93, 3) := by decide +kernel
theorem dX5_perform_149 : decode cX5_perform 149 = .ok (.aload_n 0, 1) := by decide +kernel
theorem dX5_perform_150 : decode cX5_perform 150 = .ok (.getfield 43, 3) := by decide +kernel
theorem dX5_perform_153 : decode cX5_perform 153 = .ok (.iload 4, 2) := by decide +kernel
theorem dX5_perform_155 : decode cX5_perform 155 = .ok (.iconst 2, 1) := by decide +kernel
theorem dX5_perform_156 : decode cX5_perform 156 = .ok (.invokevirtual 93, 3) := by decide +kernel
theorem dX5_perform_159 : decode cX5_perform 159 = .ok (.aload_n 0, 1) := by decide +kernel
theorem dX5_perform_160 : decode cX5_perform 160 = .ok (.getfield 43, 3) := by decide +kernel
theorem dX5_perform_163 : decode cX5_perform 163 = .ok (.iload 4, 2) := by decide +kernel
theorem dX5_perform_165 : decode cX5_perform 165 = .ok (.iconst 3, 1) := by decide +kernel
theorem dX5_perform_166 : decode cX5_perform 166 = .ok (.invokevirtual 93, 3) := by decide +kernel
theorem dX5_perform_169 : decode cX5_perform 169 = .ok (.invokevirtual 96, 3) := by decide +kernel
theorem dX5_perform_172 : decode cX5_perform 172 = .ok (.goto 58, 3) := by decide +kernel
theorem dX5_perform_175 : decode cX5_perform 175 = .ok (.aload_n 0, 1) := by decide +kernel
theorem dX5_perform_176 : decode cX5_perform 176 = .ok (.aload_n 0, 1) := by decide +kernel
theorem dX5_perform_177 : decode cX5_perform 177 = .ok (.getfield 43, 3) := by decide +kernel
theorem dX5_perform_180 : decode cX5_perform 180 = .ok (.iload 4, 2) := by decide +kernel
theorem dX5_perform_182 : decode cX5_perform 182 = .ok (.iconst 0, 1) := by decide +kernel
theorem dX5_perform_183 : decode cX5_perform 183 = .ok (.invokevirtual 93, 3) := by decide +kernel
theorem dX5_perform_186 : decode cX5_perform 186 = .ok (.aload_n 0, 1) := by decide +kernel
theorem dX5_perform_187 : decode cX5_perform 187 = .ok (.getfield 7, 3) := by decide +kernel
theorem dX5_perform_190 : decode cX5_perform 190 = .ok (.iadd, 1) := by decide +kernel
theorem dX5_perform_191 : decode cX5_perform 191 = .ok (.aload_n 0, 1) := by decide +kernel
theorem dX5_perform_192 : decode cX5_perform 192 = .ok (.getfield 43, 3) := by decide +kernel
theorem dX5_perform_195 : decode cX5_perform 195 = .ok (.iload 4, 2) := by decide +kernel
theorem dX5_perform_197 : decode cX5_perform 197 = .ok (.iconst 1, 1) := by decide +kernel
theorem dX5_perform_198 : decode cX5_perform 198 = .ok (.invokevirtual 93, 3) := by decide +kernel
theorem dX5_perform_201 : decode cX5_perform 201 = .ok (.aload_n 0, 1) := by decide +kernel
theorem dX5_perform_202 : decode cX5_perform 202 = .ok (.getfield 13, 3) := by decide +kernel
theorem dX5_perform_205 : decode cX5_perform 205 = .ok (.iadd, 1) := by decide +kernel
theorem dX5_perform_206 : decode cX5_perform 206 = .ok (.invokevirtual 100, 3) := by decide +kernel
theorem dX5_perform_209 : decode cX5_perform 209 = .ok (.goto 21, 3) := by decide +kernel
theorem dX5_perform_212 : decode cX5_perform 212 = .ok (.aload_n 0, 1) := by decide +kernel
theorem dX5_perform_213 : decode cX5_perform 213 = .ok (.iload 4, 2) := by decide +kernel
theorem dX5_perform_215 : decode cX5_perform 215 = .ok (.invokevirtual 103, 3) := by decide +kernel
theorem dX5_perform_218 : decode cX5_perform 218 = .ok (.goto 12, 3) := by decide +kernel
theorem dX5_perform_221 : decode cX5_perform 221 = .ok (.aload_n 0, 1) := by decide +kernel
theorem dX5_perform_222 : decode cX5_perform 222 = .ok (.iload 4, 2) := by decide +kernel
theorem dX5_perform_224 : decode cX5_perform 224 = .ok (.invokevirtual 106, 3) := by decide +kernel
theorem dX5_perform_227 : decode cX5_perform 227 = .ok (.goto 3, 3) := by decide +kernel
theorem dX5_perform_230 : decode cX5_perform 230 = .ok (.iinc 4 1, 3) := by decide +kernel
theorem dX5_perform_233 : decode cX5_perform 233 = .ok (.goto (-230), 3) := by decide +kernel
theorem dX5_perform_236 : decode cX5_perform 236 = .ok (.return_, 1) := by decide +kernel
theorem dX5_repeat_0 : decode cX5_repeat 0 = .ok (.iload_n 2, 1) := by decide +kernel
theorem dX5_repeat_1 : decode cX5_repeat 1 = .ok (.iconst 5, 1) := by decide +kernel
theorem dX5_repeat_2 : decode cX5_repeat 2 = .ok (.if_icmp .lt 4, 3) := by decide +kernel
theorem dX5_repeat_5 : decode cX5_repeat 5 = .ok (.return_, 1) := by decide +kernel
theorem dX5_repeat_6 : decode cX5_repeat 6 = .ok (.aload_n 0, 1) := by decide +kernel
theorem dX5_repeat_7 : decode cX5_repeat 7 = .ok (.getfield 7, 3) := by decide +kernel
theorem dX5_repeat_10 : decode cX5_repeat 10 = .ok (.istore_n 3, 1) := by decide +kernel
theorem dX5_repeat_11 : decode cX5_repeat 11 = .ok (.aload_n 0, 1) := by decide +kernel
theorem dX5_repeat_12 : decode cX5_repeat 12 = .ok (.getfield 13, 3) := by decide +kernel
theorem dX5_repeat_15 : decode cX5_repeat 15 = .ok (.istore 4, 2) := by decide +kernel
theorem dX5_repeat_17 : decode cX5_repeat 17 = .ok (.aload_n 0, 1) := by decide +kernel
theorem dX5_repeat_18 : decode cX5_repeat 18 = .ok (.getfield 16, 3) := by decide +kernel
theorem dX5_repeat_21 : decode cX5_repeat 21 = .ok (.istore 5, 2) := by decide +kernel
theorem dX5_repeat_23 : decode cX5_repeat 23 = .ok (.aload_n 0, 1) := by decide +kernel
theorem dX5_repeat_24 : decode cX5_repeat 24 = .ok (.getfield 19, 3) := by decide +kernel
theorem dX5_repeat_27 : decode cX5_repeat 27 = .ok (.istore 6, 2) := by decide +kernel
theorem dX5_repeat_29 : decode cX5_repeat 29 = .ok (.aload_n 0, 1) := by decide +kernel
theorem dX5_repeat_30 : decode cX5_repeat 30 = .ok (.getfield 22, 3) := by decide +kernel
theorem dX5_repeat_33 : decode cX5_repeat 33 = .ok (.istore 7, 2) := by decide +kernel
theorem dX5_repeat_35 : decode cX5_repeat 35 = .ok (.aload_n 0, 1) := by decide +kernel
theorem dX5_repeat_36 : decode cX5_repeat 36 = .ok (.getfield 25, 3) := by decide +kernel
theorem dX5_repeat_39 : decode cX5_repeat 39 = .ok (.istore 8, 2) := by decide +kernel
theorem dX5_repeat_41 : decode cX5_repeat 41 = .ok (.aload_n 0, 1) := by decide +kernel
theorem dX5_repeat_42 : decode cX5_repeat 42 = .ok (.getfield 43, 3) := by decide +kernel
theorem dX5_repeat_45 : decode cX5_repeat 45 = .ok (.iload_n 1, 1) := by decide +kernel
theorem dX5_repeat_46 : decode cX5_repeat 46 = .ok (.iconst 0, 1) := by decide +kernel
theorem dX5_repeat_47 : decode cX5_repeat 47 = .ok (.invokevirtual 93, 3) := by decide +kernel
theorem dX5_repeat_50 : decode cX5_repeat 50 = .ok (.istore 9, 2) := by decide +kernel
theorem dX5_repeat_52 : decode cX5_repeat 52 = .ok (.iconst 0, 1) := by decide +kernel
theorem dX5_repeat_53 : decode cX5_repeat 53 = .ok (.istore 10, 2) := by decide +kernel
theorem dX5_repeat_55 : decode cX5_repeat 55 = .ok (.iload 10, 2) := by decide +kernel
theorem dX5_repeat_57 : decode cX5_repeat 57 = .ok (.iload 9, 2) := by decide +kernel
theorem dX5_repeat_59 : decode cX5_repeat 59 = .ok (.if_icmp .ge 73, 3) := by decide +kernel
theorem dX5_repeat_62 : decode cX5_repeat 62 = .ok (.aload_n 0, 1) := by decide +kernel
theorem dX5_repeat_63 : decode cX5_repeat 63 = .ok (.getfield 31, 3) := by decide +kernel
theorem dX5_repeat_66 : decode cX5_repeat 66 = .ok (.ifCond .ne 66, 3) := by decide +kernel
theorem dX5_repeat_69 : decode cX5_repeat 69 = .ok (.aload_n 0, 1) := by decide +kernel
theorem dX5_repeat_70 : decode cX5_repeat 70 = .ok (.iload_n 1, 1) := by decide +kernel
theorem dX5_repeat_71 : decode cX5_repeat 71 = .ok (.iconst 1, 1) := by decide +kernel
theorem dX5_repeat_72 : decode cX5_repeat 72 = .ok (.iadd, 1) := by decide +kernel
theorem dX5_repeat_73 : decode cX5_repeat 73 = .ok (.aload_n 0, 1) := by decide +kernel
theorem dX5_repeat_74 : decode cX5_repeat 74 = .ok (.getfield 43, 3) := by decide +kernel
theorem dX5_repeat_77 : decode cX5_repeat 77 = .ok (.getfield 80, 3) := by decide +kernel
theorem dX5_repeat_80 : decode cX5_repeat 80 = .ok (.iload_n 1, 1) := by decide +kernel
theorem dX5_repeat_81 : decode cX5_repeat 81 = .ok (.iaload, 1) := by decide +kernel
theorem dX5_repeat_82 : decode cX5_repeat 82 = .ok (.iconst 1, 1) := by decide +kernel
theorem dX5_repeat_83 : decode cX5_repeat 83 = .ok (.iadd, 1) := by decide +kernel
theorem dX5_repeat_84 : decode cX5_repeat 84 = .ok (.iload_n 2, 1) := by decide +kernel
theorem dX5_repeat_85 : decode cX5_repeat 85 = .ok (.iconst 1, 1) := by decide +kernel
theorem dX5_repeat_86 : decode cX5_repeat 86 = .ok (.iadd, 1) := by decide +kernel
theorem dX5_repeat_87 : decode cX5_repeat 87 = .ok (.invokevirtual 69, 3) := by decide +kernel
theorem dX5_repeat_90 : decode cX5_repeat 90 = .ok (.aload_n 0, 1) := by decide +kernel
theorem dX5_repeat_91 : decode cX5_repeat 91 = .ok (.dup, 1) := by decide +kernel
theorem dX5_repeat_92 : decode cX5_repeat 92 = .ok (.getfield 7, 3) := by decide +kernel
theorem dX5_repeat_95 : decode cX5_repeat 95 = .ok (.aload_n 0, 1) := by decide +kernel
theorem dX5_repeat_96 : decode cX5_repeat 96 = .ok (.getfield 43, 3) := by decide +kernel
theorem dX5_repeat_99 : decode cX5_repeat 99 = .ok (.iload_n 1, 1) := by decide +kernel
theorem dX5_repeat_100 : decode cX5_repeat 100 = .ok (.iconst 1, 1) := by decide +kernel
theorem dX5_repeat_101 : decode cX5_repeat 101 = .ok (.invokevirtual 93, 3) := by decide +kernel
theorem dX5_repeat_104 : decode cX5_repeat 104 = .ok (.iadd, 1) := by decide +kernel
theorem dX5_repeat_105 : decode cX5_repeat 105 = .ok (.putfield 7, 3) := by decide +kernel
theorem dX5_repeat_108 : decode cX5_repeat 108 = .ok (.aload_n 0, 1) := by decide +kernel
theorem dX5_repeat_109 : decode cX5_repeat 109 = .ok (.dup, 1) := by decide +kernel
theorem dX5_repeat_110 : decode cX5_repeat 110 = .ok (.getfield 13, 3) := by decide +kernel
theorem dX5_repeat_113 : decode cX5_repeat 113 = .ok (.aload_n 0, 1) := by decide +kernel
theorem dX5_repeat_114 : decode cX5_repeat 114 = .ok (.getfield 43, 3) := by decide +kernel
theorem dX5_repeat_117 : decode cX5_repeat 117 = .ok (.iload_n 1, 1) := by decide +kernel
theorem dX5_repeat_118 : decode cX5_repeat 118 = .ok (.iconst 2, 1) := by decide +kernel
theorem dX5_repeat_119 : decode cX5_repeat 119 = .ok (.invokevirtual 93, 3) := by decide +kernel
theorem dX5_repeat_122 : decode cX5_repeat 122 = .ok (.iadd, 1) := by decide +kernel
theorem dX5_repeat_123 : decode cX5_repeat 123 = .ok (.putfield 13, 3) := by decide +kernel
theorem dX5_repeat_126 : decode cX5_repeat 126 = .ok (.iinc 10 1, 3) := by decide +kernel
theorem dX5_repeat_129 : decode cX5_repeat 129 = .ok (.goto (-74), 3) := by decide +kernel
theorem dX5_repeat_132 : decode cX5_repeat 132 = .ok (.aload_n 0, 1) := by decide +kernel
theorem dX5_repeat_133 : decode cX5_repeat 133 = .ok (.iload_n 3, 1) := by decide +kernel
theorem dX5_repeat_134 : decode cX5_repeat 134 = .ok (.putfield 7, 3) := by decide +kernel
theorem dX5_repeat_137 : decode cX5_repeat 137 = .ok (.aload_n 0, 1) := by decide +kernel
theorem dX5_repeat_138 : decode cX5_repeat 138 = .ok (.iload 4, 2) := by decide +kernel
theorem dX5_repeat_140 : decode cX5_repeat 140 = .ok (.putfield 13, 3) := by decide +kernel
theorem dX5_repeat_143 : decode cX5_repeat 143 = .ok (.aload_n 0, 1) := by decide +kernel
theorem dX5_repeat_144 : decode cX5_repeat 144 = .ok (.iload 5, 2) := by decide +kernel
theorem dX5_repeat_146 : decode cX5_repeat 146 = .ok (.putfield 16, 3) := by decide +kernel
theorem dX5_repeat_149 : decode cX5_repeat 149 = .ok (.aload_n 0, 1) := by decide +kernel
theorem dX5_repeat_150 : decode cX5_repeat 150 = .ok (.iload 6, 2) := by decide +kernel
theorem dX5_repeat_152 : decode cX5_repeat 152 = .ok (.putfield 19, 3) := by decide +kernel
theorem dX5_repeat_155 : decode cX5_repeat 155 = .ok (.aload_n 0, 1) := by decide +kernel
theorem dX5_repeat_156 : decode cX5_repeat 156 = .ok (.iload 7, 2) := by decide +kernel
theorem dX5_repeat_158 : decode cX5_repeat 158 = .ok (.putfield 22, 3) := by decide +kernel
theorem dX5_repeat_161 : decode cX5_repeat 161 = .ok (.aload_n 0, 1) := by decide +kernel
theorem dX5_repeat_162 : decode cX5_repeat 162 = .ok (.iload 8, 2) := by decide +kernel
theorem dX5_repeat_164 : decode cX5_repeat 164 = .ok (.putfield 25, 3) := by decide +kernel
theorem dX5_repeat_167 : decode cX5_repeat 167 = .ok (.return_, 1) := by decide +kernel
theorem dX5_narrow_0 : decode cX5_narrow 0 = .ok (.aload_n 0, 1) := by decide +kernel
theorem dX5_narrow_1 : decode cX5_narrow 1 = .ok (.aload_n 0, 1) := by decide +kernel
theorem dX5_narrow_2 : decode cX5_narrow 2 = .ok (.getfield 43, 3) := by decide +kernel
theorem dX5_narrow_5 : decode cX5_narrow 5 = .ok (.iload_n 1, 1) := by decide +kernel
theorem dX5_narrow_6 : decode cX5_narrow 6 = .ok (.iconst 0, 1) := by decide +kernel
theorem dX5_narrow_7 : decode cX5_narrow 7 = .ok (.invokevirtual 93, 3) := by decide +kernel
theorem dX5_narrow_10 : decode cX5_narrow 10 = .ok (.iconst 0, 1) := by decide +kernel
theorem dX5_narrow_11 : decode cX5_narrow 11 = .ok (.invokestatic 83, 3) := by decide +kernel
theorem dX5_narrow_14 : decode cX5_narrow 14 = .ok (.putfield 16, 3) := by decide +kernel
theorem dX5_narrow_17 : decode cX5_narrow 17 = .ok (.aload_n 0, 1) := by decide +kernel
theorem dX5_narrow_18 : decode cX5_narrow 18 = .ok (.aload_n 0, 1) := by decide +kernel
theorem dX5_narrow_19 : decode cX5_narrow 19 = .ok (.getfield 43, 3) := by decide +kernel
theorem dX5_narrow_22 : decode cX5_narrow 22 = .ok (.iload_n 1, 1) := by decide +kernel
theorem dX5_narrow_23 : decode cX5_narrow 23 = .ok (.iconst 1, 1) := by decide +kernel
theorem dX5_narrow_24 : decode cX5_narrow 24 = .ok (.invokevirtual 93, 3) := by decide +kernel
theorem dX5_narrow_27 : decode cX5_narrow 27 = .ok (.iconst 1, 1) := by decide +kernel
theorem dX5_narrow_28 : decode cX5_narrow 28 = .ok (.invokestatic 83, 3) := by decide +kernel
theorem dX5_narrow_31 : decode cX5_narrow 31 = .ok (.putfield 19, 3) := by decide +kernel
theorem dX5_narrow_34 : decode cX5_narrow 34 = .ok (.aload_n 0, 1) := by decide +kernel
theorem dX5_narrow_35 : decode cX5_narrow 35 = .ok (.aload_n 0, 1) := by decide +kernel
theorem dX5_narrow_36 : decode cX5_narrow 36 = .ok (.getfield 43, 3) := by decide +kernel
theorem dX5_narrow_39 : decode cX5_narrow 39 = .ok (.iload_n 1, 1) := by decide +kernel
theorem dX5_narrow_40 : decode cX5_narrow 40 = .ok (.iconst 2, 1) := by decide +kernel
theorem dX5_narrow_41 : decode cX5_narrow 41 = .ok (.invokevirtual 93, 3) := by decide +kernel
theorem dX5_narrow_44 : decode cX5_narrow 44 = .ok (.aload_n 0, 1) := by decide +kernel
theorem dX5_narrow_45 : decode cX5_narrow 45 = .ok (.getfield 39, 3) := by decide +kernel
theorem dX5_narrow_48 : decode cX5_narrow 48 = .ok (.getfield 56, 3) := by decide +kernel
theorem dX5_narrow_51 : decode cX5_narrow 51 = .ok (.invokestatic 109, 3) := by decide +kernel
theorem dX5_narrow_54 : decode cX5_narrow 54 = .ok (.putfield 22, 3) := by decide +kernel
theorem dX5_narrow_57 : decode cX5_narrow 57 = .ok (.aload_n 0, 1) := by decide +kernel
theorem dX5_narrow_58 : decode cX5_narrow 58 = .ok (.aload_n 0, 1) := by decide +kernel
theorem dX5_narrow_59 : decode cX5_narrow 59 = .ok (.getfield 43, 3) := by decide +kernel
theorem dX5_narrow_62 : decode cX5_narrow 62 = .ok (.iload_n 1, 1) := by decide +kernel
theorem dX5_narrow_63 : decode cX5_narrow 63 = .ok (.iconst 3, 1) := by decide +kernel
theorem dX5_narrow_64 : decode cX5_narrow 64 = .ok (.invokevirtual 93, 3) := by decide +kernel
theorem dX5_narrow_67 : decode cX5_narrow 67 = .ok (.aload_n 0, 1) := by decide +kernel
theorem dX5_narrow_68 : decode cX5_narrow 68 = .ok (.getfield 39, 3) := by decide +kernel
theorem dX5_narrow_71 : decode cX5_narrow 71 = .ok (.getfield 61, 3) := by decide +kernel
theorem dX5_narrow_74 : decode cX5_narrow 74 = .ok (.invokestatic 109, 3) := by decide +kernel
theorem dX5_narrow_77 : decode cX5_narrow 77 = .ok (.putfield 25, 3) := by decide +kernel
theorem dX5_narrow_80 : decode cX5_narrow 80 = .ok (.return_, 1) := by decide +kernel
theorem dX5_drawForm_0 : decode cX5_drawForm 0 = .ok (.aload_n 0, 1) := by decide +kernel
theorem dX5_drawForm_1 : decode cX5_drawForm 1 = .ok (.getfield 43, 3) := by decide +kernel
theorem dX5_drawForm_4 : decode cX5_drawForm 4 = .ok (.iload_n 1, 1) := by decide +kernel
theorem dX5_drawForm_5 : decode cX5_drawForm 5 = .ok (.iconst 0, 1) := by decide +kernel
theorem dX5_drawForm_6 : decode cX5_drawForm 6 = .ok (.invokevirtual 93, 3) := by decide +kernel
theorem dX5_drawForm_9 : decode cX5_drawForm 9 = .ok (.istore_n 2, 1) := by decide +kernel
theorem dX5_drawForm_10 : decode cX5_drawForm 10 = .ok (.aload_n 0, 1) := by decide +kernel
theorem dX5_drawForm_11 : decode cX5_drawForm 11 = .ok (.getfield 43, 3) := by decide +kernel
theorem dX5_drawForm_14 : decode cX5_drawForm 14 = .ok (.iload_n 1, 1) := by decide +kernel
theorem dX5_drawForm_15 : decode cX5_drawForm 15 = .ok (.iconst 1, 1) := by decide +kernel
theorem dX5_drawForm_16 : decode cX5_drawForm 16 = .ok (.invokevirtual 93, 3) := by decide +kernel
theorem dX5_drawForm_19 : decode cX5_drawForm 19 = .ok (.istore_n 3, 1) := by decide +kernel
theorem dX5_drawForm_20 : decode cX5_drawForm 20 = .ok (.aload_n 0, 1) := by decide +kernel
theorem dX5_drawForm_21 : decode cX5_drawForm 21 = .ok (.getfield 43, 3) := by decide +kernel
theorem dX5_drawForm_24 : decode cX5_drawForm 24 = .ok (.iload_n 1, 1) := by decide +kernel
theorem dX5_drawForm_25 : decode cX5_drawForm 25 = .ok (.iconst 2, 1) := by decide +kernel
theorem dX5_drawForm_26 : decode cX5_drawForm 26 = .ok (.invokevirtual 93, 3) := by decide +kernel
theorem dX5_drawForm_29 : decode cX5_drawForm 29 = .ok (.istore 4, 2) := by decide +kernel
theorem dX5_drawForm_31 : decode cX5_drawForm 31 = .ok (.bipush 12, 2) := by decide +kernel
theorem dX5_drawForm_33 : decode cX5_drawForm 33 = .ok (.aload_n 0, 1) := by decide +kernel
theorem dX5_drawForm_34 : decode cX5_drawForm 34 = .ok (.getfield 43, 3) := by decide +kernel
theorem dX5_drawForm_37 : decode cX5_drawForm 37 = .ok (.getfield 112, 3) := by decide +kernel
theorem dX5_drawForm_40 : decode cX5_drawForm 40 = .ok (.iload_n 1, 1) := by decide +kernel
theorem dX5_drawForm_41 : decode cX5_drawForm 41 = .ok (.iaload, 1) := by decide +kernel
theorem dX5_drawForm_42 : decode cX5_drawForm 42 = .ok (.imul, 1) := by decide +kernel
theorem dX5_drawForm_43 : decode cX5_drawForm 43 = .ok (.istore 5, 2) := by decide +kernel
theorem dX5_drawForm_45 : decode cX5_drawForm 45 = .ok (.iload 5, 2) := by decide +kernel
theorem dX5_drawForm_47 : decode cX5_drawForm 47 = .ok (.aload_n 0, 1) := by decide +kernel
theorem dX5_drawForm_48 : decode cX5_drawForm 48 = .ok (.getfield 43, 3) := by decide +kernel
theorem dX5_drawForm_51 : decode cX5_drawForm 51 = .ok (.getfield 115, 3) := by decide +kernel
theorem dX5_drawForm_54 : decode cX5_drawForm 54 = .ok (.aload_n 0, 1) := by decide +kernel
theorem dX5_drawForm_55 : decode cX5_drawForm 55 = .ok (.getfield 43, 3) := by decide +kernel
theorem dX5_drawForm_58 : decode cX5_drawForm 58 = .ok (.getfield 112, 3) := by decide +kernel
theorem dX5_drawForm_61 : decode cX5_drawForm 61 = .ok (.iload_n 1, 1) := by decide +kernel
theorem dX5_drawForm_62 : decode cX5_drawForm 62 = .ok (.iaload, 1) := by decide +kernel
theorem dX5_drawForm_63 : decode cX5_drawForm 63 = .ok (.iaload, 1) := by decide +kernel
theorem dX5_drawForm_64 : decode cX5_drawForm 64 = .ok (.iadd, 1) := by decide +kernel
theorem dX5_drawForm_65 : decode cX5_drawForm 65 = .ok (.istore 6, 2) := by decide +kernel
theorem dX5_drawForm_67 : decode cX5_drawForm 67 = .ok (.iload 5, 2) := by decide +kernel
theorem dX5_drawForm_69 : decode cX5_drawForm 69 = .ok (.iconst 1, 1) := by decide +kernel
theorem dX5_drawForm_70 : decode cX5_drawForm 70 = .ok (.iadd, 1) := by decide +kernel
theorem dX5_drawForm_71 : decode cX5_drawForm 71 = .ok (.istore 7, 2) := by decide +kernel
theorem dX5_drawForm_73 : decode cX5_drawForm 73 = .ok (.iload 7, 2) := by decide +kernel
theorem dX5_drawForm_75 : decode cX5_drawForm 75 = .ok (.iload 6, 2) := by decide +kernel
theorem dX5_drawForm_77 : decode cX5_drawForm 77 = .ok (.if_icmp .ge 84, 3) := by decide +kernel
theorem dX5_drawForm_80 : decode cX5_drawForm 80 = .ok (.aload_n 0, 1) := by decide +kernel
theorem dX5_drawForm_81 : decode cX5_drawForm 81 = .ok (.getfield 31, 3) := by decide +kernel
theorem dX5_drawForm_84 : decode cX5_drawForm 84 = .ok (.ifCond .ne 77, 3) := by decide +kernel
theorem dX5_drawForm_87 : decode cX5_drawForm 87 = .ok (.aload_n 0, 1) := by decide +kernel
theorem dX5_drawForm_88 : decode cX5_drawForm 88 = .ok (.iload_n 2, 1) := by decide +kernel
theorem dX5_drawForm_89 : decode cX5_drawForm 89 = .ok (.iload 4, 2) := by decide +kernel
theorem dX5_drawForm_91 : decode cX5_drawForm 91 = .ok (.aload_n 0, 1) := by decide +kernel
theorem dX5_drawForm_92 : decode cX5_drawForm 92 = .ok (.getfield 43, 3) := by decide +kernel
theorem dX5_drawForm_95 : decode cX5_drawForm 95 = .ok (.getfield 118, 3) := by decide +kernel
theorem dX5_drawForm_98 : decode cX5_drawForm 98 = .ok (.iload 7, 2) := by decide +kernel
theorem dX5_drawForm_100 : decode cX5_drawForm 100 = .ok (.iconst 1, 1) := by decide +kernel
theorem dX5_drawForm_101 : decode cX5_drawForm 101 = .ok (.isub, 1) := by decide +kernel
theorem dX5_drawForm_102 : decode cX5_drawForm 102 = .ok (.iaload, 1) := by decide +kernel
theorem dX5_drawForm_103 : decode cX5_drawForm 103 = .ok (.imul, 1) := by decide +kernel
theorem dX5_drawForm_104 : decode cX5_drawForm 104 = .ok (.iadd, 1) := by decide +kernel
theorem dX5_drawForm_105 : decode cX5_drawForm 105 = .ok (.iload_n 3, 1) := by decide +kernel
theorem dX5_drawForm_106 : decode cX5_drawForm 106 = .ok (.iload 4, 2) := by decide +kernel
theorem dX5_drawForm_108 : decode cX5_drawForm 108 = .ok (.aload_n 0, 1) := by decide +kernel
theorem dX5_drawForm_109 : decode cX5_drawForm 109 = .ok (.getfield 43, 3) := by decide +kernel
theorem dX5_drawForm_112 : decode cX5_drawForm 112 = .ok (.getfield 121, 3) := by decide +kernel
theorem dX5_drawForm_115 : decode cX5_drawForm 115 = .ok (.iload 7, 2) := by decide +kernel
theorem dX5_drawForm_117 : decode cX5_drawForm 117 = .ok (.iconst 1, 1) := by decide +kernel
theorem dX5_drawForm_118 : decode cX5_drawForm 118 = .ok (.isub, 1) := by decide +kernel
theorem dX5_drawForm_119 : decode cX5_drawForm 119 = .ok (.iaload, 1) := by decide +kernel
theorem dX5_drawForm_120 : decode cX5_drawForm 120 = .ok (.imul, 1) := by decide +kernel
theorem dX5_drawForm_121 : decode cX5_drawForm 121 = .ok (.iadd, 1) := by decide +kernel
theorem dX5_drawForm_122 : decode cX5_drawForm 122 = .ok (.iload_n 2, 1) := by decide +kernel
theorem dX5_drawForm_123 : decode cX5_drawForm 123 = .ok (.iload 4, 2) := by decide +kernel
theorem dX5_drawForm_125 : decode cX5_drawForm 125 = .ok (.aload_n 0, 1) := by decide +kernel
theorem dX5_drawForm_126 : decode cX5_drawForm 126 = .ok (.getfield 43, 3) := by decide +kernel
theorem dX5_drawForm_129 : decode cX5_drawForm 129 = .ok (.getfield 118, 3) := by decide +kernel
theorem dX5_drawForm_132 : decode cX5_drawForm 132 = .ok (.iload 7, 2) := by decide +kernel
theorem dX5_drawForm_134 : decode cX5_drawForm 134 = .ok (.iaload, 1) := by decide +kernel
theorem dX5_drawForm_135 : decode cX5_drawForm 135 = .ok (.imul, 1) := by decide +kernel
theorem dX5_drawForm_136 : decode cX5_drawForm 136 = .ok (.iadd, 1) := by decide +kernel
theorem dX5_drawForm_137 : decode cX5_drawForm 137 = .ok (.iload_n 3, 1) := by decide +kernel
theorem dX5_drawForm_138 : decode cX5_drawForm 138 = .ok (.iload 4, 2) := by decide +kernel
theorem dX5_drawForm_140 : decode cX5_drawForm 140 = .ok (.aload_n 0, 1) := by decide +kernel
theorem dX5_drawForm_141 : decode cX5_drawForm 141 = .ok (.getfield 43, 3) := by decide +kernel
theorem dX5_drawForm_144 : decode cX5_drawForm 144 = .ok (.getfield 121, 3) := by decide +kernel
theorem dX5_drawForm_147 : decode cX5_drawForm 147 = .ok (.iload 7, 2) := by decide +kernel
theorem dX5_drawForm_149 : decode cX5_drawForm 149 = .ok (.iaload, 1) := by decide +kernel
theorem dX5_drawForm_150 : decode cX5_drawForm 150 = .ok (.imul, 1) := by decide +kernel
theorem dX5_drawForm_151 : decode cX5_drawForm 151 = .ok (.iadd, 1) := by decide +kernel
theorem dX5_drawForm_152 : decode cX5_drawForm 152 = .ok (.invokevirtual 96, 3) := by decide +kernel
theorem dX5_drawForm_155 : decode cX5_drawForm 155 = .ok (.iinc 7 1, 3) := by decide +kernel
theorem dX5_drawForm_158 : decode cX5_drawForm 158 = .ok (.goto (-85), 3) := by decide +kernel
theorem dX5_drawForm_161 : decode cX5_drawForm 161 = .ok (.return_, 1) := by decide +kernel
theorem dX5_drawHatch_0 : decode cX5_drawHatch 0 = .ok (.aload_n 0, 1) := by decide +kernel
theorem dX5_drawHatch_1 : decode cX5_drawHatch 1 = .ok (.getfield 43, 3) := by decide +kernel
theorem dX5_drawHatch_4 : decode cX5_drawHatch 4 = .ok (.iload_n 1, 1) := by decide +kernel
theorem dX5_drawHatch_5 : decode cX5_drawHatch 5 = .ok (.iconst 0, 1) := by decide +kernel
theorem dX5_drawHatch_6 : decode cX5_drawHatch 6 = .ok (.invokevirtual 93, 3) := by decide +kernel
theorem dX5_drawHatch_9 : decode cX5_drawHatch 9 = .ok (.istore_n 2, 1) := by decide +kernel
theorem dX5_drawHatch_10 : decode cX5_drawHatch 10 = .ok (.aload_n 0, 1) := by decide +kernel
theorem dX5_drawHatch_11 : decode cX5_drawHatch 11 = .ok (.getfield 43, 3) := by decide +kernel
theorem dX5_drawHatch_14 : decode cX5_drawHatch 14 = .ok (.iload_n 1, 1) := by decide +kernel
theorem dX5_drawHatch_15 : decode cX5_drawHatch 15 = .ok (.iconst 2, 1) := by decide +kernel
theorem dX5_drawHatch_16 : decode cX5_drawHatch 16 = .ok (.invokevirtual 93, 3) := by decide +kernel
theorem dX5_drawHatch_19 : decode cX5_drawHatch 19 = .ok (.istore_n 3, 1) := by decide +kernel
theorem dX5_drawHatch_20 : decode cX5_drawHatch 20 = .ok (.aload_n 0, 1) := by decide +kernel
theorem dX5_drawHatch_21 : decode cX5_drawHatch 21 = .ok (.getfield 43, 3) := by decide +kernel
theorem dX5_drawHatch_24 : decode cX5_drawHatch 24 = .ok (.iload_n 1, 1) := by decide +kernel
theorem dX5_drawHatch_25 : decode cX5_drawHatch 25 = .ok (.iconst 1, 1) := by decide +kernel
theorem dX5_drawHatch_26 : decode cX5_drawHatch 26 = .ok (.invokevirtual 93, 3) := by decide +kernel
theorem dX5_drawHatch_29 : decode cX5_drawHatch 29 = .ok (.istore 4, 2) := by decide +kernel
theorem dX5_drawHatch_31 : decode cX5_drawHatch 31 = .ok (.aload_n 0, 1) := by decide +kernel
theorem dX5_drawHatch_32 : decode cX5_drawHatch 32 = .ok (.getfield 43, 3) := by decide +kernel
theorem dX5_drawHatch_35 : decode cX5_drawHatch 35 = .ok (.iload_n 1, 1) := by decide +kernel
theorem dX5_drawHatch_36 : decode cX5_drawHatch 36 = .ok (.iconst 4, 1) := by decide +kernel
theorem dX5_drawHatch_37 : decode cX5_drawHatch 37 = .ok (.invokevirtual 93, 3) := by decide +kernel
theorem dX5_drawHatch_40 : decode cX5_drawHatch 40 = .ok (.iconst 1, 1) := by decide +kernel
theorem dX5_drawHatch_41 : decode cX5_drawHatch 41 = .ok (.invokestatic 83, 3) := by decide +kernel
theorem dX5_drawHatch_44 : decode cX5_drawHatch 44 = .ok (.istore 5, 2) := by decide +kernel
theorem dX5_drawHatch_46 : decode cX5_drawHatch 46 = .ok (.aload_n 0, 1) := by decide +kernel
theorem dX5_drawHatch_47 : decode cX5_drawHatch 47 = .ok (.getfield 19, 3) := by decide +kernel
theorem dX5_drawHatch_50 : decode cX5_drawHatch 50 = .ok (.aload_n 0, 1) := by decide +kernel
theorem dX5_drawHatch_51 : decode cX5_drawHatch 51 = .ok (.getfield 13, 3) := by decide +kernel
theorem dX5_drawHatch_54 : decode cX5_drawHatch 54 = .ok (.isub, 1) := by decide +kernel
theorem dX5_drawHatch_55 : decode cX5_drawHatch 55 = .ok (.iload 4, 2) := by decide +kernel
theorem dX5_drawHatch_57 : decode cX5_drawHatch 57 = .ok (.isub, 1) := by decide +kernel
theorem dX5_drawHatch_58 : decode cX5_drawHatch 58 = .ok (.iconst 0, 1) := by decide +kernel
theorem dX5_drawHatch_59 : decode cX5_drawHatch 59 = .ok (.invokestatic 83, 3) := by decide +kernel
theorem dX5_drawHatch_62 : decode cX5_drawHatch 62 = .ok (.istore 6, 2) := by decide +kernel
theorem dX5_drawHatch_64 : decode cX5_drawHatch 64 = .ok (.aload_n 0, 1) := by decide +kernel
theorem dX5_drawHatch_65 : decode cX5_drawHatch 65 = .ok (.getfield 43, 3) := by decide +kernel
theorem dX5_drawHatch_68 : decode cX5_drawHatch 68 = .ok (.iload_n 1, 1) := by decide +kernel
theorem dX5_drawHatch_69 : decode cX5_drawHatch 69 = .ok (.iconst 3, 1) := by decide +kernel
theorem dX5_drawHatch_70 : decode cX5_drawHatch 70 = .ok (.invokevirtual 93, 3) := by decide +kernel
theorem dX5_drawHatch_73 : decode cX5_drawHatch 73 = .ok (.aload_n 0, 1) := by decide +kernel
theorem dX5_drawHatch_74 : decode cX5_drawHatch 74 = .ok (.getfield 25, 3) := by decide +kernel
theorem dX5_drawHatch_77 : decode cX5_drawHatch 77 = .ok (.aload_n 0, 1) := by decide +kernel
theorem dX5_drawHatch_78 : decode cX5_drawHatch 78 = .ok (.getfield 13, 3) := by decide +kernel
theorem dX5_drawHatch_81 : decode cX5_drawHatch 81 = .ok (.isub, 1) := by decide +kernel
theorem dX5_drawHatch_82 : decode cX5_drawHatch 82 = .ok (.invokestatic 109, 3) := by decide +kernel
theorem dX5_drawHatch_85 : decode cX5_drawHatch 85 = .ok (.istore 7, 2) := by decide +kernel
theorem dX5_drawHatch_87 : decode cX5_drawHatch 87 = .ok (.iload 6, 2) := by decide +kernel
theorem dX5_drawHatch_89 : decode cX5_drawHatch 89 = .ok (.iload 5, 2) := by decide +kernel
theorem dX5_drawHatch_91 : decode cX5_drawHatch 91 = .ok (.iadd, 1) := by decide +kernel
theorem dX5_drawHatch_92 : decode cX5_drawHatch 92 = .ok (.iconst 1, 1) := by decide +kernel
theorem dX5_drawHatch_93 : decode cX5_drawHatch 93 = .ok (.isub, 1) := by decide +kernel
theorem dX5_drawHatch_94 : decode cX5_drawHatch 94 = .ok (.iload 5, 2) := by decide +kernel
theorem dX5_drawHatch_96 : decode cX5_drawHatch 96 = .ok (.idiv, 1) := by decide +kernel
theorem dX5_drawHatch_97 : decode cX5_drawHatch 97 = .ok (.istore 8, 2) := by decide +kernel
theorem dX5_drawHatch_99 : decode cX5_drawHatch 99 = .ok (.iload 4, 2) := by decide +kernel
theorem dX5_drawHatch_101 : decode cX5_drawHatch 101 = .ok (.iload 8, 2) := by decide +kernel
theorem dX5_drawHatch_103 : decode cX5_drawHatch 103 = .ok (.iload 5, 2) := by decide +kernel
theorem dX5_drawHatch_105 : decode cX5_drawHatch 105 = .ok (.imul, 1) := by decide +kernel
theorem dX5_drawHatch_106 : decode cX5_drawHatch 106 = .ok (.iadd, 1) := by decide +kernel
theorem dX5_drawHatch_107 : decode cX5_drawHatch 107 = .ok (.iload 7, 2) := by decide +kernel
theorem dX5_drawHatch_109 : decode cX5_drawHatch 109 = .ok (.if_icmp .gt 71, 3) := by decide +kernel
theorem dX5_drawHatch_112 : decode cX5_drawHatch 112 = .ok (.aload_n 0, 1) := by decide +kernel
theorem dX5_drawHatch_113 : decode cX5_drawHatch 113 = .ok (.getfield 31, 3) := by decide +kernel
theorem dX5_drawHatch_116 : decode cX5_drawHatch 116 = .ok (.ifCond .ne 64, 3) := by decide +kernel
theorem dX5_drawHatch_119 : decode cX5_drawHatch 119 = .ok (.iload 8, 2) := by decide +kernel
theorem dX5_drawHatch_121 : decode cX5_drawHatch 121 = .ok (.iconst 2, 1) := by decide +kernel
theorem dX5_drawHatch_122 : decode cX5_drawHatch 122 = .ok (.irem, 1) := by decide +kernel
theorem dX5_drawHatch_123 : decode cX5_drawHatch 123 = .ok (.iconst 1, 1) := by decide +kernel
theorem dX5_drawHatch_124 : decode cX5_drawHatch 124 = .ok (.if_icmp .ne 7, 3) := by decide +kernel
theorem dX5_drawHatch_127 : decode cX5_drawHatch 127 = .ok (.iconst 1, 1) := by decide +kernel
theorem dX5_drawHatch_128 : decode cX5_drawHatch 128 = .ok (.goto 4, 3) := by decide +kernel
theorem dX5_drawHatch_131 : decode cX5_drawHatch 131 = .ok (.iconst 0, 1) := by decide +kernel
theorem dX5_drawHatch_132 : decode cX5_drawHatch 132 = .ok (.istore 9, 2) := by decide +kernel
theorem dX5_drawHatch_134 : decode cX5_drawHatch 134 = .ok (.aload_n 0, 1) := by decide +kernel
theorem dX5_drawHatch_135 : decode cX5_drawHatch 135 = .ok (.iload 9, 2) := by decide +kernel
theorem dX5_drawHatch_137 : decode cX5_drawHatch 137 = .ok (.ifCond .eq 7, 3) := by decide +kernel
theorem dX5_drawHatch_140 : decode cX5_drawHatch 140 = .ok (.iload_n 3, 1) := by decide +kernel
theorem dX5_drawHatch_141 : decode cX5_drawHatch 141 = .ok (.goto 4, 3) := by decide +kernel
theorem dX5_drawHatch_144 : decode cX5_drawHatch 144 = .ok (.iload_n 2, 1) := by decide +kernel
theorem dX5_drawHatch_145 : decode cX5_drawHatch 145 = .ok (.iload 4, 2) := by decide +kernel
theorem dX5_drawHatch_147 : decode cX5_drawHatch 147 = .ok (.iload 8, 2) := by decide +kernel
theorem dX5_drawHatch_149 : decode cX5_drawHatch 149 = .ok (.iload 5, 2) := by decide +kernel
theorem dX5_drawHatch_151 : decode cX5_drawHatch 151 = .ok (.imul, 1) := by decide +kernel
theorem dX5_drawHatch_152 : decode cX5_drawHatch 152 = .ok (.iadd, 1) := by decide +kernel
theorem dX5_drawHatch_153 : decode cX5_drawHatch 153 = .ok (.iload 9, 2) := by decide +kernel
theorem dX5_drawHatch_155 : decode cX5_drawHatch 155 = .ok (.ifCond .eq 7, 3) := by decide +kernel
theorem dX5_drawHatch_158 : decode cX5_drawHatch 158 = .ok (.iload_n 2, 1) := by decide +kernel
theorem dX5_drawHatch_159 : decode cX5_drawHatch 159 = .ok (.goto 4, 3) := by decide +kernel
theorem dX5_drawHatch_162 : decode cX5_drawHatch 162 = .ok (.iload_n 3, 1) := by decide +kernel
theorem dX5_drawHatch_163 : decode cX5_drawHatch 163 = .ok (.iload 4, 2) := by decide +kernel
theorem dX5_drawHatch_165 : decode cX5_drawHatch 165 = .ok (.iload 8, 2) := by decide +kernel
theorem dX5_drawHatch_167 : decode cX5_drawHatch 167 = .ok (.iload 5, 2) := by decide +kernel
theorem dX5_drawHatch_169 : decode cX5_drawHatch 169 = .ok (.imul, 1) := by decide +kernel
theorem dX5_drawHatch_170 : decode cX5_drawHatch 170 = .ok (.iadd, 1) := by decide +kernel
theorem dX5_drawHatch_171 : decode cX5_drawHatch 171 = .ok (.invokevirtual 96, 3) := by decide +kernel
theorem dX5_drawHatch_174 : decode cX5_drawHatch 174 = .ok (.iinc 8 1, 3) := by decide +kernel
theorem dX5_drawHatch_177 : decode cX5_drawHatch 177 = .ok (.goto (-78), 3) := by decide +kernel
theorem dX5_drawHatch_180 : decode cX5_drawHatch 180 = .ok (.return_, 1) := by decide +kernel
theorem dX5_goTo_0 : decode cX5_goTo 0 = .ok (.iload_n 1, 1) := by decide +kernel
theorem dX5_goTo_1 : decode cX5_goTo 1 = .ok (.aload_n 0, 1) := by decide +kernel
theorem dX5_goTo_2 : decode cX5_goTo 2 = .ok (.getfield 16, 3) := by decide +kernel
theorem dX5_goTo_5 : decode cX5_goTo 5 = .ok (.aload_n 0, 1) := by decide +kernel
theorem dX5_goTo_6 : decode cX5_goTo 6 = .ok (.getfield 22, 3) := by decide +kernel
theorem dX5_goTo_9 : decode cX5_goTo 9 = .ok (.invokestatic 124, 3) := by decide +kernel
theorem dX5_goTo_12 : decode cX5_goTo 12 = .ok (.ifCond .eq 22, 3) := by decide +kernel
theorem dX5_goTo_15 : decode cX5_goTo 15 = .ok (.iload_n 2, 1) := by decide +kernel
theorem dX5_goTo_16 : decode cX5_goTo 16 = .ok (.aload_n 0, 1) := by decide +kernel
theorem dX5_goTo_17 : decode cX5_goTo 17 = .ok (.getfield 19, 3) := by decide +kernel
theorem dX5_goTo_20 : decode cX5_goTo 20 = .ok (.aload_n 0, 1) := by decide +kernel
theorem dX5_goTo_21 : decode cX5_goTo 21 = .ok (.getfield 25, 3) := by decide +kernel
theorem dX5_goTo_24 : decode cX5_goTo 24 = .ok (.invokestatic 124, 3) := by decide +kernel
theorem dX5_goTo_27 : decode cX5_goTo 27 = .ok (.ifCond .eq 7, 3) := by decide +kernel
theorem dX5_goTo_30 : decode cX5_goTo 30 = .ok (.iconst 1, 1) := by decide +kernel
theorem dX5_goTo_31 : decode cX5_goTo 31 = .ok (.goto 4, 3) := by decide +kernel
theorem dX5_goTo_34 : decode cX5_goTo 34 = .ok (.iconst 0, 1) := by decide +kernel
theorem dX5_goTo_35 : decode cX5_goTo 35 = .ok (.istore_n 3, 1) := by decide +kernel
theorem dX5_goTo_36 : decode cX5_goTo 36 = .ok (.iload_n 3, 1) := by decide +kernel
theorem dX5_goTo_37 : decode cX5_goTo 37 = .ok (.ifCond .eq 37, 3) := by decide +kernel
theorem dX5_goTo_40 : decode cX5_goTo 40 = .ok (.aload_n 0, 1) := by decide +kernel
theorem dX5_goTo_41 : decode cX5_goTo 41 = .ok (.getfield 47, 3) := by decide +kernel
theorem dX5_goTo_44 : decode cX5_goTo 44 = .ok (.iload_n 1, 1) := by decide +kernel
theorem dX5_goTo_45 : decode cX5_goTo 45 = .ok (.iload_n 2, 1) := by decide +kernel
theorem dX5_goTo_46 : decode cX5_goTo 46 = .ok (.invokevirtual 130, 3) := by decide +kernel
theorem dX5_goTo_49 : decode cX5_goTo 49 = .ok (.ifCond .ne 25, 3) := by decide +kernel
theorem dX5_goTo_52 : decode cX5_goTo 52 = .ok (.aload_n 0, 1) := by decide +kernel
theorem dX5_goTo_53 : decode cX5_goTo 53 = .ok (.aload_n 0, 1) := by decide +kernel
theorem dX5_goTo_54 : decode cX5_goTo 54 = .ok (.getfield 47, 3) := by decide +kernel
theorem dX5_goTo_57 : decode cX5_goTo 57 = .ok (.iload_n 1, 1) := by decide +kernel
theorem dX5_goTo_58 : decode cX5_goTo 58 = .ok (.iload_n 2, 1) := by decide +kernel
theorem dX5_goTo_59 : decode cX5_goTo 59 = .ok (.iconst 0, 1) := by decide +kernel
theorem dX5_goTo_60 : decode cX5_goTo 60 = .ok (.invokevirtual 134, 3) := by decide +kernel
theorem dX5_goTo_63 : decode cX5_goTo 63 = .ok (.ifCond .ne 7, 3) := by decide +kernel
theorem dX5_goTo_66 : decode cX5_goTo 66 = .ok (.iconst 1, 1) := by decide +kernel
theorem dX5_goTo_67 : decode cX5_goTo 67 = .ok (.goto 4, 3) := by decide +kernel
theorem dX5_goTo_70 : decode cX5_goTo 70 = .ok (.iconst 0, 1) := by decide +kernel
theorem dX5_goTo_71 : decode cX5_goTo 71 = .ok (.putfield 31, 3) := by decide +kernel
theorem dX5_goTo_74 : decode cX5_goTo 74 = .ok (.return_, 1) := by decide +kernel
theorem dX5_drawLine_0 : decode cX5_drawLine 0 = .ok (.aload_n 0, 1) := by decide +kernel
theorem dX5_drawLine_1 : decode cX5_drawLine 1 = .ok (.getfield 35, 3) := by decide +kernel
theorem dX5_drawLine_4 : decode cX5_drawLine 4 = .ok (.iconst 0, 1) := by decide +kernel
theorem dX5_drawLine_5 : decode cX5_drawLine 5 = .ok (.iload_n 1, 1) := by decide +kernel
theorem dX5_drawLine_6 : decode cX5_drawLine 6 = .ok (.aload_n 0, 1) := by decide +kernel
theorem dX5_drawLine_7 : decode cX5_drawLine 7 = .ok (.getfield 7, 3) := by decide +kernel
theorem dX5_drawLine_10 : decode cX5_drawLine 10 = .ok (.iadd, 1) := by decide +kernel
theorem dX5_drawLine_11 : decode cX5_drawLine 11 = .ok (.iastore, 1) := by decide +kernel
theorem dX5_drawLine_12 : decode cX5_drawLine 12 = .ok (.aload_n 0, 1) := by decide +kernel
theorem dX5_drawLine_13 : decode cX5_drawLine 13 = .ok (.getfield 35, 3) := by decide +kernel
theorem dX5_drawLine_16 : decode cX5_drawLine 16 = .ok (.iconst 1, 1) := by decide +kernel
theorem dX5_drawLine_17 : decode cX5_drawLine 17 = .ok (.iload_n 2, 1) := by decide +kernel
theorem dX5_drawLine_18 : decode cX5_drawLine 18 = .ok (.aload_n 0, 1) := by decide +kernel
theorem dX5_drawLine_19 : decode cX5_drawLine 19 = .ok (.getfield 13, 3) := by decide +kernel
theorem dX5_drawLine_22 : decode cX5_drawLine 22 = .ok (.iadd, 1) := by decide +kernel
theorem dX5_drawLine_23 : decode cX5_drawLine 23 = .ok (.iastore, 1) := by decide +kernel
theorem dX5_drawLine_24 : decode cX5_drawLine 24 = .ok (.aload_n 0, 1) := by decide +kernel
theorem dX5_drawLine_25 : decode cX5_drawLine 25 = .ok (.getfield 35, 3) := by decide +kernel
theorem dX5_drawLine_28 : decode cX5_drawLine 28 = .ok (.iconst 2, 1) := by decide +kernel
theorem dX5_drawLine_29 : decode cX5_drawLine 29 = .ok (.iload_n 3, 1) := by decide +kernel
theorem dX5_drawLine_30 : decode cX5_drawLine 30 = .ok (.aload_n 0, 1) := by decide +kernel
theorem dX5_drawLine_31 : decode cX5_drawLine 31 = .ok (.getfield 7, 3) := by decide +kernel
theorem dX5_drawLine_34 : decode cX5_drawLine 34 = .ok (.iadd, 1) := by decide +kernel
theorem dX5_drawLine_35 : decode cX5_drawLine 35 = .ok (.iastore, 1) := by decide +kernel
theorem dX5_drawLine_36 : decode cX5_drawLine 36 = .ok (.aload_n 0, 1) := by decide +kernel
theorem dX5_drawLine_37 : decode cX5_drawLine 37 = .ok (.getfield 35, 3) := by decide +kernel
theorem dX5_drawLine_40 : decode cX5_drawLine 40 = .ok (.iconst 3, 1) := by decide +kernel
theorem dX5_drawLine_41 : decode cX5_drawLine 41 = .ok (.iload 4, 2) := by decide +kernel
theorem dX5_drawLine_43 : decode cX5_drawLine 43 = .ok (.aload_n 0, 1) := by decide +kernel
theorem dX5_drawLine_44 : decode cX5_drawLine 44 = .ok (.getfield 13, 3) := by decide +kernel
theorem dX5_drawLine_47 : decode cX5_drawLine 47 = .ok (.iadd, 1) := by decide +kernel
theorem dX5_drawLine_48 : decode cX5_drawLine 48 = .ok (.iastore, 1) := by decide +kernel
theorem dX5_drawLine_49 : decode cX5_drawLine 49 = .ok (.aload_n 0, 1) := by decide +kernel
theorem dX5_drawLine_50 : decode cX5_drawLine 50 = .ok (.iconst 0, 1) := by decide +kernel
theorem dX5_drawLine_51 : decode cX5_drawLine 51 = .ok (.aload_n 0, 1) := by decide +kernel
theorem dX5_drawLine_52 : decode cX5_drawLine 52 = .ok (.getfield 16, 3) := by decide +kernel
theorem dX5_drawLine_55 : decode cX5_drawLine 55 = .ok (.iconst 1, 1) := by decide +kernel
theorem dX5_drawLine_56 : decode cX5_drawLine 56 = .ok (.invokevirtual 138, 3) := by decide +kernel
theorem dX5_drawLine_59 : decode cX5_drawLine 59 = .ok (.ifCond .eq 46, 3) := by decide +kernel
theorem dX5_drawLine_62 : decode cX5_drawLine 62 = .ok (.aload_n 0, 1) := by decide +kernel
theorem dX5_drawLine_63 : decode cX5_drawLine 63 = .ok (.iconst 0, 1) := by decide +kernel
theorem dX5_drawLine_64 : decode cX5_drawLine 64 = .ok (.aload_n 0, 1) := by decide +kernel
theorem dX5_drawLine_65 : decode cX5_drawLine 65 = .ok (.getfield 22, 3) := by decide +kernel
theorem dX5_drawLine_68 : decode cX5_drawLine 68 = .ok (.iconst (-1), 1) := by decide +kernel
theorem dX5_drawLine_69 : decode cX5_drawLine 69 = .ok (.invokevirtual 138, 3) := by decide +kernel
theorem dX5_drawLine_72 : decode cX5_drawLine 72 = .ok (.ifCond .eq 33, 3) := by decide +kernel
theorem dX5_drawLine_75 : decode cX5_drawLine 75 = .ok (.aload_n 0, 1) := by decide +kernel
theorem dX5_drawLine_76 : decode cX5_drawLine 76 = .ok (.iconst 1, 1) := by decide +kernel
theorem dX5_drawLine_77 : decode cX5_drawLine 77 = .ok (.aload_n 0, 1) := by decide +kernel
theorem dX5_drawLine_78 : decode cX5_drawLine 78 = .ok (.getfield 19, 3) := by decide +kernel
theorem dX5_drawLine_81 : decode cX5_drawLine 81 = .ok (.iconst 1, 1) := by decide +kernel
theorem dX5_drawLine_82 : decode cX5_drawLine 82 = .ok (.invokevirtual 138, 3) := by decide +kernel
theorem dX5_drawLine_85 : decode cX5_drawLine 85 = .ok (.ifCond .eq 20, 3) := by decide +kernel
theorem dX5_drawLine_88 : decode cX5_drawLine 88 = .ok (.aload_n 0, 1) := by decide +kernel
theorem dX5_drawLine_89 : decode cX5_drawLine 89 = .ok (.iconst 1, 1) := by decide +kernel
theorem dX5_drawLine_90 : decode cX5_drawLine 90 = .ok (.aload_n 0, 1) := by decide +kernel
theorem dX5_drawLine_91 : decode cX5_drawLine 91 = .ok (.getfield 25, 3) := by decide +kernel
theorem dX5_drawLine_94 : decode cX5_drawLine 94 = .ok (.iconst (-1), 1) := by decide +kernel
theorem dX5_drawLine_95 : decode cX5_drawLine 95 = .ok (.invokevirtual 138, 3) := by decide +kernel
theorem dX5_drawLine_98 : decode cX5_drawLine 98 = .ok (.ifCond .eq 7, 3) := by decide +kernel
theorem dX5_drawLine_101 : decode cX5_drawLine 101 = .ok (.iconst 1, 1) := by decide +kernel
theorem dX5_drawLine_102 : decode cX5_drawLine 102 = .ok (.goto 4, 3) := by decide +kernel
theorem dX5_drawLine_105 : decode cX5_drawLine 105 = .ok (.iconst 0, 1) := by decide +kernel
theorem dX5_drawLine_106 : decode cX5_drawLine 106 = .ok (.istore 5, 2) := by decide +kernel
theorem dX5_drawLine_108 : decode cX5_drawLine 108 = .ok (.iload 5, 2) := by decide +kernel
theorem dX5_drawLine_110 : decode cX5_drawLine 110 = .ok (.ifCond .ne 4, 3) := by decide +kernel
theorem dX5_drawLine_113 : decode cX5_drawLine 113 = .ok (.return_, 1) := by decide +kernel
theorem dX5_drawLine_114 : decode cX5_drawLine 114 = .ok (.aload_n 0, 1) := by decide +kernel
theorem dX5_drawLine_115 : decode cX5_drawLine 115 = .ok (.getfield 47, 3) := by decide +kernel
theorem dX5_drawLine_118 : decode cX5_drawLine 118 = .ok (.aload_n 0, 1) := by decide +kernel
theorem dX5_drawLine_119 : decode cX5_drawLine 119 = .ok (.getfield 35, 3) := by decide +kernel
theorem dX5_drawLine_122 : decode cX5_drawLine 122 = .ok (.iconst 0, 1) := by decide +kernel
theorem dX5_drawLine_123 : decode cX5_drawLine 123 = .ok (.iaload, 1) := by decide +kernel
theorem dX5_drawLine_124 : decode cX5_drawLine 124 = .ok (.aload_n 0, 1) := by decide +kernel
theorem dX5_drawLine_125 : decode cX5_drawLine 125 = .ok (.getfield 35, 3) := by decide +kernel
theorem dX5_drawLine_128 : decode cX5_drawLine 128 = .ok (.iconst 1, 1) := by decide +kernel
theorem dX5_drawLine_129 : decode cX5_drawLine 129 = .ok (.iaload, 1) := by decide +kernel
theorem dX5_drawLine_130 : decode cX5_drawLine 130 = .ok (.invokevirtual 130, 3) := by decide +kernel
theorem dX5_drawLine_133 : decode cX5_drawLine 133 = .ok (.ifCond .ne 35, 3) := by decide +kernel
theorem dX5_drawLine_136 : decode cX5_drawLine 136 = .ok (.aload_n 0, 1) := by decide +kernel
theorem dX5_drawLine_137 : decode cX5_drawLine 137 = .ok (.aload_n 0, 1) := by decide +kernel
theorem dX5_drawLine_138 : decode cX5_drawLine 138 = .ok (.getfield 47, 3) := by decide +kernel
theorem dX5_drawLine_141 : decode cX5_drawLine 141 = .ok (.aload_n 0, 1) := by decide +kernel
theorem dX5_drawLine_142 : decode cX5_drawLine 142 = .ok (.getfield 35, 3) := by decide +kernel
theorem dX5_drawLine_145 : decode cX5_drawLine 145 = .ok (.iconst 0, 1) := by decide +kernel
theorem dX5_drawLine_146 : decode cX5_drawLine 146 = .ok (.iaload, 1) := by decide +kernel
theorem dX5_drawLine_147 : decode cX5_drawLine 147 = .ok (.aload_n 0, 1) := by decide +kernel
theorem dX5_drawLine_148 : decode cX5_drawLine 148 = .ok (.getfield 35, 3) := by decide +kernel
theorem dX5_drawLine_151 : decode cX5_drawLine 151 = .ok (.iconst 1, 1) := by decide +kernel
theorem dX5_drawLine_152 : decode cX5_drawLine 152 = .ok (.iaload, 1) := by decide +kernel
theorem dX5_drawLine_153 : decode cX5_drawLine 153 = .ok (.iconst 0, 1) := by decide +kernel
theorem dX5_drawLine_154 : decode cX5_drawLine 154 = .ok (.invokevirtual 134, 3) := by decide +kernel
theorem dX5_drawLine_157 : decode cX5_drawLine 157 = .ok (.ifCond .ne 7, 3) := by decide +kernel
theorem dX5_drawLine_160 : decode cX5_drawLine 160 = .ok (.iconst 1, 1) := by decide +kernel
theorem dX5_drawLine_161 : decode cX5_drawLine 161 = .ok (.goto 4, 3) := by decide +kernel
theorem dX5_drawLine_164 : decode cX5_drawLine 164 = .ok (.iconst 0, 1) := by decide +kernel
theorem dX5_drawLine_165 : decode cX5_drawLine 165 = .ok (.putfield 31, 3) := by decide +kernel
theorem dX5_drawLine_168 : decode cX5_drawLine 168 = .ok (.aload_n 0, 1) := by decide +kernel
theorem dX5_drawLine_169 : decode cX5_drawLine 169 = .ok (.getfield 31, 3) := by decide +kernel
theorem dX5_drawLine_172 : decode cX5_drawLine 172 = .ok (.ifCond .ne 65, 3) := by decide +kernel
theorem dX5_drawLine_175 : decode cX5_drawLine 175 = .ok (.aload_n 0, 1) := by decide +kernel
theorem dX5_drawLine_176 : decode cX5_drawLine 176 = .ok (.getfield 35, 3) := by decide +kernel
theorem dX5_drawLine_179 : decode cX5_drawLine 179 = .ok (.iconst 0, 1) := by decide +kernel
theorem dX5_drawLine_180 : decode cX5_drawLine 180 = .ok (.iaload, 1) := by decide +kernel
theorem dX5_drawLine_181 : decode cX5_drawLine 181 = .ok (.aload_n 0, 1) := by decide +kernel
theorem dX5_drawLine_182 : decode cX5_drawLine 182 = .ok (.getfield 35, 3) := by decide +kernel
theorem dX5_drawLine_185 : decode cX5_drawLine 185 = .ok (.iconst 2, 1) := by decide +kernel
theorem dX5_drawLine_186 : decode cX5_drawLine 186 = .ok (.iaload, 1) := by decide +kernel
theorem dX5_drawLine_187 : decode cX5_drawLine 187 = .ok (.if_icmp .ne 18, 3) := by decide +kernel
theorem dX5_drawLine_190 : decode cX5_drawLine 190 = .ok (.aload_n 0, 1) := by decide +kernel
theorem dX5_drawLine_191 : decode cX5_drawLine 191 = .ok (.getfield 35, 3) := by decide +kernel
theorem dX5_drawLine_194 : decode cX5_drawLine 194 = .ok (.iconst 1, 1) := by decide +kernel
theorem dX5_drawLine_195 : decode cX5_drawLine 195 = .ok (.iaload, 1) := by decide +kernel
theorem dX5_drawLine_196 : decode cX5_drawLine 196 = .ok (.aload_n 0, 1) := by decide +kernel
theorem dX5_drawLine_197 : decode cX5_drawLine 197 = .ok (.getfield 35, 3) := by decide +kernel
theorem dX5_drawLine_200 : decode cX5_drawLine 200 = .ok (.iconst 3, 1) := by decide +kernel
theorem dX5_drawLine_201 : decode cX5_drawLine 201 = .ok (.iaload, 1) := by decide +kernel
theorem dX5_drawLine_202 : decode cX5_drawLine 202 = .ok (.if_icmp .eq 35, 3) := by decide +kernel
theorem dX5_drawLine_205 : decode cX5_drawLine 205 = .ok (.aload_n 0, 1) := by decide +kernel
theorem dX5_drawLine_206 : decode cX5_drawLine 206 = .ok (.aload_n 0, 1) := by decide +kernel
theorem dX5_drawLine_207 : decode cX5_drawLine 207 = .ok (.getfield 47, 3) := by decide +kernel
theorem dX5_drawLine_210 : decode cX5_drawLine 210 = .ok (.aload_n 0, 1) := by decide +kernel
theorem dX5_drawLine_211 : decode cX5_drawLine 211 = .ok (.getfield 35, 3) := by decide +kernel
theorem dX5_drawLine_214 : decode cX5_drawLine 214 = .ok (.iconst 2, 1) := by decide +kernel
theorem dX5_drawLine_215 : decode cX5_drawLine 215 = .ok (.iaload, 1) := by decide +kernel
theorem dX5_drawLine_216 : decode cX5_drawLine 216 = .ok (.aload_n 0, 1) := by decide +kernel
theorem dX5_drawLine_217 : decode cX5_drawLine 217 = .ok (.getfield 35, 3) := by decide +kernel
theorem dX5_drawLine_220 : decode cX5_drawLine 220 = .ok (.iconst 3, 1) := by decide +kernel
theorem dX5_drawLine_221 : decode cX5_drawLine 221 = .ok (.iaload, 1) := by decide +kernel
theorem dX5_drawLine_222 : decode cX5_drawLine 222 = .ok (.iconst 1, 1) := by decide +kernel
theorem dX5_drawLine_223 : decode cX5_drawLine 223 = .ok (.invokevirtual 134, 3) := by decide +kernel
theorem dX5_drawLine_226 : decode cX5_drawLine 226 = .ok (.ifCond .ne 7, 3) := by decide +kernel
theorem dX5_drawLine_229 : decode cX5_drawLine 229 = .ok (.iconst 1, 1) := by decide +kernel
theorem dX5_drawLine_230 : decode cX5_drawLine 230 = .ok (.goto 4, 3) := by decide +kernel
theorem dX5_drawLine_233 : decode cX5_drawLine 233 = .ok (.iconst 0, 1) := by decide +kernel
theorem dX5_drawLine_234 : decode cX5_drawLine 234 = .ok (.putfield 31, 3) := by decide +kernel
theorem dX5_drawLine_237 : decode cX5_drawLine 237 = .ok (.return_, 1) := by decide +kernel
theorem dX5_cut_0 : decode cX5_cut 0 = .ok (.aload_n 0, 1) := by decide +kernel
theorem dX5_cut_1 : decode cX5_cut 1 = .ok (.getfield 35, 3) := by decide +kernel
theorem dX5_cut_4 : decode cX5_cut 4 = .ok (.iload_n 1, 1) := by decide +kernel
theorem dX5_cut_5 : decode cX5_cut 5 = .ok (.iaload, 1) := by decide +kernel
theorem dX5_cut_6 : decode cX5_cut 6 = .ok (.iload_n 2, 1) := by decide +kernel
theorem dX5_cut_7 : decode cX5_cut 7 = .ok (.isub, 1) := by decide +kernel
theorem dX5_cut_8 : decode cX5_cut 8 = .ok (.iload_n 3, 1) := by decide +kernel
theorem dX5_cut_9 : decode cX5_cut 9 = .ok (.imul, 1) := by decide +kernel
theorem dX5_cut_10 : decode cX5_cut 10 = .ok (.ifCond .ge 7, 3) := by decide +kernel
theorem dX5_cut_13 : decode cX5_cut 13 = .ok (.iconst 1, 1) := by decide +kernel
theorem dX5_cut_14 : decode cX5_cut 14 = .ok (.goto 4, 3) := by decide +kernel
theorem dX5_cut_17 : decode cX5_cut 17 = .ok (.iconst 0, 1) := by decide +kernel
theorem dX5_cut_18 : decode cX5_cut 18 = .ok (.istore 4, 2) := by decide +kernel
theorem dX5_cut_20 : decode cX5_cut 20 = .ok (.aload_n 0, 1) := by decide +kernel
theorem dX5_cut_21 : decode cX5_cut 21 = .ok (.getfield 35, 3) := by decide +kernel
theorem dX5_cut_24 : decode cX5_cut 24 = .ok (.iload_n 1, 1) := by decide +kernel
theorem dX5_cut_25 : decode cX5_cut 25 = .ok (.iconst 2, 1) := by decide +kernel
theorem dX5_cut_26 : decode cX5_cut 26 = .ok (.iadd, 1) := by decide +kernel
theorem dX5_cut_27 : decode cX5_cut 27 = .ok (.iaload, 1) := by decide +kernel
theorem dX5_cut_28 : decode cX5_cut 28 = .ok (.iload_n 2, 1) := by decide +kernel
theorem dX5_cut_29 : decode cX5_cut 29 = .ok (.isub, 1) := by decide +kernel
theorem dX5_cut_30 : decode cX5_cut 30 = .ok (.iload_n 3, 1) := by decide +kernel
theorem dX5_cut_31 : decode cX5_cut 31 = .ok (.imul, 1) := by decide +kernel
theorem dX5_cut_32 : decode cX5_cut 32 = .ok (.ifCond .ge 7, 3) := by decide +kernel
theorem dX5_cut_35 : decode cX5_cut 35 = .ok (.iconst 1, 1) := by decide +kernel
theorem dX5_cut_36 : decode cX5_cut 36 = .ok (.goto 4, 3) := by decide +kernel
theorem dX5_cut_39 : decode cX5_cut 39 = .ok (.iconst 0, 1) := by decide +kernel
theorem dX5_cut_40 : decode cX5_cut 40 = .ok (.istore 5, 2) := by decide +kernel
theorem dX5_cut_42 : decode cX5_cut 42 = .ok (.iload 4, 2) := by decide +kernel
theorem dX5_cut_44 : decode cX5_cut 44 = .ok (.ifCond .eq 10, 3) := by decide +kernel
theorem dX5_cut_47 : decode cX5_cut 47 = .ok (.iload 5, 2) := by decide +kernel
theorem dX5_cut_49 : decode cX5_cut 49 = .ok (.ifCond .eq 5, 3) := by decide +kernel
theorem dX5_cut_52 : decode cX5_cut 52 = .ok (.iconst 0, 1) := by decide +kernel
theorem dX5_cut_53 : decode cX5_cut 53 = .ok (.ireturn, 1) := by decide +kernel
theorem dX5_cut_54 : decode cX5_cut 54 = .ok (.iload 4, 2) := by decide +kernel
theorem dX5_cut_56 : decode cX5_cut 56 = .ok (.ifCond .eq 14, 3) := by decide +kernel
theorem dX5_cut_59 : decode cX5_cut 59 = .ok (.aload_n 0, 1) := by decide +kernel
theorem dX5_cut_60 : decode cX5_cut 60 = .ok (.iconst 0, 1) := by decide +kernel
theorem dX5_cut_61 : decode cX5_cut 61 = .ok (.iconst 2, 1) := by decide +kernel
theorem dX5_cut_62 : decode cX5_cut 62 = .ok (.iload_n 1, 1) := by decide +kernel
theorem dX5_cut_63 : decode cX5_cut 63 = .ok (.iload_n 2, 1) := by decide +kernel
theorem dX5_cut_64 : decode cX5_cut 64 = .ok (.invokevirtual 141, 3) := by decide +kernel
theorem dX5_cut_67 : decode cX5_cut 67 = .ok (.goto 16, 3) := by decide +kernel
theorem dX5_cut_70 : decode cX5_cut 70 = .ok (.iload 5, 2) := by decide +kernel
theorem dX5_cut_72 : decode cX5_cut 72 = .ok (.ifCond .eq 11, 3) := by decide +kernel
theorem dX5_cut_75 : decode cX5_cut 75 = .ok (.aload_n 0, 1) := by decide +kernel
theorem dX5_cut_76 : decode cX5_cut 76 = .ok (.iconst 2, 1) := by decide +kernel
theorem dX5_cut_77 : decode cX5_cut 77 = .ok (.iconst 0, 1) := by decide +kernel
theorem dX5_cut_78 : decode cX5_cut 78 = .ok (.iload_n 1, 1) := by decide +kernel
theorem dX5_cut_79 : decode cX5_cut 79 = .ok (.iload_n 2, 1) := by decide +kernel
theorem dX5_cut_80 : decode cX5_cut 80 = .ok (.invokevirtual 141, 3) := by decide +kernel
theorem dX5_cut_83 : decode cX5_cut 83 = .ok (.iconst 1, 1) := by decide +kernel
theorem dX5_cut_84 : decode cX5_cut 84 = .ok (.ireturn, 1) := by decide +kernel
theorem dX5_bringToSide_0 : decode cX5_bringToSide 0 = .ok (.iconst 1, 1) := by decide +kernel
theorem dX5_bringToSide_1 : decode cX5_bringToSide 1 = .ok (.iload_n 3, 1) := by decide +kernel
theorem dX5_bringToSide_2 : decode cX5_bringToSide 2 = .ok (.isub, 1) := by decide +kernel
theorem dX5_bringToSide_3 : decode cX5_bringToSide 3 = .ok (.istore 5, 2) := by decide +kernel
theorem dX5_bringToSide_5 : decode cX5_bringToSide 5 = .ok (.aload_n 0, 1) := by decide +kernel
theorem dX5_bringToSide_6 : decode cX5_bringToSide 6 = .ok (.getfield 35, 3) := by decide +kernel
theorem dX5_bringToSide_9 : decode cX5_bringToSide 9 = .ok (.iload_n 2, 1) := by decide +kernel
theorem dX5_bringToSide_10 : decode cX5_bringToSide 10 = .ok (.iload_n 3, 1) := by decide +kernel
theorem dX5_bringToSide_11 : decode cX5_bringToSide 11 = .ok (.iadd, 1) := by decide +kernel
theorem dX5_bringToSide_12 : decode cX5_bringToSide 12 = .ok (.iaload, 1) := by decide +kernel
theorem dX5_bringToSide_13 : decode cX5_bringToSide 13 = .ok (.aload_n 0, 1) := by decide +kernel
theorem dX5_bringToSide_14 : decode cX5_bringToSide 14 = .ok (.getfield 35, 3) := by decide +kernel
theorem dX5_bringToSide_17 : decode cX5_bringToSide 17 = .ok (.iload_n 1, 1) := by decide +kernel
theorem dX5_bringToSide_18 : decode cX5_bringToSide 18 = .ok (.iload_n 3, 1) := by decide +kernel
theorem dX5_bringToSide_19 : decode cX5_bringToSide 19 = .ok (.iadd, 1) := by decide +kernel
theorem dX5_bringToSide_20 : decode cX5_bringToSide 20 = .ok (.iaload, 1) := by decide +kernel
theorem dX5_bringToSide_21 : decode cX5_bringToSide 21 = .ok (.isub, 1) := by decide +kernel
theorem dX5_bringToSide_22 : decode cX5_bringToSide 22 = .ok (.istore 6, 2) := by decide +kernel
theorem dX5_bringToSide_24 : decode cX5_bringToSide 24 = .ok (.iload 6, 2) := by decide +kernel
theorem dX5_bringToSide_26 : decode cX5_bringToSide 26 = .ok (.ifCond .ne 4, 3) := by decide +kernel
theorem dX5_bringToSide_29 : decode cX5_bringToSide 29 = .ok (.return_, 1) := by decide +kernel
theorem dX5_bringToSide_30 : decode cX5_bringToSide 30 = .ok (.aload_n 0, 1) := by decide +kernel
theorem dX5_bringToSide_31 : decode cX5_bringToSide 31 = .ok (.getfield 35, 3) := by decide +kernel
theorem dX5_bringToSide_34 : decode cX5_bringToSide 34 = .ok (.iload_n 2, 1) := by decide +kernel
theorem dX5_bringToSide_35 : decode cX5_bringToSide 35 = .ok (.iload 5, 2) := by decide +kernel
theorem dX5_bringToSide_37 : decode cX5_bringToSide 37 = .ok (.iadd, 1) := by decide +kernel
theorem dX5_bringToSide_38 : decode cX5_bringToSide 38 = .ok (.iaload, 1) := by decide +kernel
theorem dX5_bringToSide_39 : decode cX5_bringToSide 39 = .ok (.aload_n 0, 1) := by decide +kernel
theorem dX5_bringToSide_40 : decode cX5_bringToSide 40 = .ok (.getfield 35, 3) := by decide +kernel
theorem dX5_bringToSide_43 : decode cX5_bringToSide 43 = .ok (.iload_n 1, 1) := by decide +kernel
theorem dX5_bringToSide_44 : decode cX5_bringToSide 44 = .ok (.iload 5, 2) := by decide +kernel
theorem dX5_bringToSide_46 : decode cX5_bringToSide 46 = .ok (.iadd, 1) := by decide +kernel
theorem dX5_bringToSide_47 : decode cX5_bringToSide 47 = .ok (.iaload, 1) := by decide +kernel
theorem dX5_bringToSide_48 : decode cX5_bringToSide 48 = .ok (.isub, 1) := by decide +kernel
theorem dX5_bringToSide_49 : decode cX5_bringToSide 49 = .ok (.istore 7, 2) := by decide +kernel
theorem dX5_bringToSide_51 : decode cX5_bringToSide 51 = .ok (.aload_n 0, 1) := by decide +kernel
theorem dX5_bringToSide_52 : decode cX5_bringToSide 52 = .ok (.getfield 35, 3) := by decide +kernel
theorem dX5_bringToSide_55 : decode cX5_bringToSide 55 = .ok (.iload_n 1, 1) := by decide +kernel
theorem dX5_bringToSide_56 : decode cX5_bringToSide 56 = .ok (.iload 5, 2) := by decide +kernel
theorem dX5_bringToSide_58 : decode cX5_bringToSide 58 = .ok (.iadd, 1) := by decide +kernel
theorem dX5_bringToSide_59 : decode cX5_bringToSide 59 = .ok (.dup2, 1) := by decide +kernel
theorem dX5_bringToSide_60 : decode cX5_bringToSide 60 = .ok (.iaload, 1) := by decide +kernel
theorem dX5_bringToSide_61 : decode cX5_bringToSide 61 = .ok (.iload 7, 2) := by decide +kernel
theorem dX5_bringToSide_63 : decode cX5_bringToSide 63 = .ok (.iload 4, 2) := by decide +kernel
theorem dX5_bringToSide_65 : decode cX5_bringToSide 65 = .ok (.aload_n 0, 1) := by decide +kernel
theorem dX5_bringToSide_66 : decode cX5_bringToSide 66 = .ok (.getfield 35, 3) := by decide +kernel
theorem dX5_bringToSide_69 : decode cX5_bringToSide 69 = .ok (.iload_n 1, 1) := by decide +kernel
theorem dX5_bringToSide_70 : decode cX5_bringToSide 70 = .ok (.iload_n 3, 1) := by decide +kernel
theorem dX5_bringToSide_71 : decode cX5_bringToSide 71 = .ok (.iadd, 1) := by decide +kernel
theorem dX5_bringToSide_72 : decode cX5_bringToSide 72 = .ok (.iaload, 1) := by decide +kernel
theorem dX5_bringToSide_73 : decode cX5_bringToSide 73 = .ok (.isub, 1) := by decide +kernel
theorem dX5_bringToSide_74 : decode cX5_bringToSide 74 = .ok (.imul, 1) := by decide +kernel
theorem dX5_bringToSide_75 : decode cX5_bringToSide 75 = .ok (.iload 6, 2) := by decide +kernel
theorem dX5_bringToSide_77 : decode cX5_bringToSide 77 = .ok (.idiv, 1) := by decide +kernel
theorem dX5_bringToSide_78 : decode cX5_bringToSide 78 = .ok (.iadd, 1) := by decide +kernel
theorem dX5_bringToSide_79 : decode cX5_bringToSide 79 = .ok (.iastore, 1) := by decide +kernel
theorem dX5_bringToSide_80 : decode cX5_bringToSide 80 = .ok (.aload_n 0, 1) := by decide +kernel
theorem dX5_bringToSide_81 : decode cX5_bringToSide 81 = .ok (.getfield 35, 3) := by decide +kernel
theorem dX5_bringToSide_84 : decode cX5_bringToSide 84 = .ok (.iload_n 1, 1) := by decide +kernel
theorem dX5_bringToSide_85 : decode cX5_bringToSide 85 = .ok (.iload_n 3, 1) := by decide +kernel
theorem dX5_bringToSide_86 : decode cX5_bringToSide 86 = .ok (.iadd, 1) := by decide +kernel
theorem dX5_bringToSide_87 : decode cX5_bringToSide 87 = .ok (.iload 4, 2) := by decide +kernel
theorem dX5_bringToSide_89 : decode cX5_bringToSide 89 = .ok (.iastore, 1) := by decide +kernel
theorem dX5_bringToSide_90 : decode cX5_bringToSide 90 = .ok (.return_, 1) := by decide +kernel
theorem dX6_init_0 : decode cX6_init 0 = .ok (.aload_n 0, 1) := by decide +kernel
theorem dX6_init_1 : decode cX6_init 1 = .ok (.invokespecial 3, 3) := by decide +kernel
theorem dX6_init_4 : decode cX6_init 4 = .ok (.aload_n 0, 1) := by decide +kernel
theorem dX6_init_5 : decode cX6_init 5 = .ok (.iconst 0, 1) := by decide +kernel
theorem dX6_init_6 : decode cX6_init 6 = .ok (.putfield 9, 3) := by decide +kernel
theorem dX6_init_9 : decode cX6_init 9 = .ok (.aload_n 0, 1) := by decide +kernel
theorem dX6_init_10 : decode cX6_init 10 = .ok (.iconst 0, 1) := by decide +kernel
theorem dX6_init_11 : decode cX6_init 11 = .ok (.putfield 15, 3) := by decide +kernel
theorem dX6_init_14 : decode cX6_init 14 = .ok (.aload_n 0, 1) := by decide +kernel
theorem dX6_init_15 : decode cX6_init 15 = .ok (.iconst 0, 1) := by decide +kernel
theorem dX6_init_16 : decode cX6_init 16 = .ok (.putfield 19, 3) := by decide +kernel
theorem dX6_init_19 : decode cX6_init 19 = .ok (.aload_n 0, 1) := by decide +kernel
theorem dX6_init_20 : decode cX6_init 20 = .ok (.iconst 0, 1) := by decide +kernel
theorem dX6_init_21 : decode cX6_init 21 = .ok (.putfield 22, 3) := by decide +kernel
theorem dX6_init_24 : decode cX6_init 24 = .ok (.aload_n 0, 1) := by decide +kernel
theorem dX6_init_25 : decode cX6_init 25 = .ok (.aload_n 1, 1) := by decide +kernel
theorem dX6_init_26 : decode cX6_init 26 = .ok (.putfield 25, 3) := by decide +kernel
theorem dX6_init_29 : decode cX6_init 29 = .ok (.return_, 1) := by decide +kernel
theorem dX6_start_0 : decode cX6_start 0 = .ok (.aload_n 0, 1) := by decide +kernel
theorem dX6_start_1 : decode cX6_start 1 = .ok (.iconst 1, 1) := by decide +kernel
theorem dX6_start_2 : decode cX6_start 2 = .ok (.putfield 9, 3) := by decide +kernel
theorem dX6_start_5 : decode cX6_start 5 = .ok (.aload_n 0, 1) := by decide +kernel
theorem dX6_start_6 : decode cX6_start 6 = .ok (.iconst 0, 1) := by decide +kernel
theorem dX6_start_7 : decode cX6_start 7 = .ok (.putfield 15, 3) := by decide +kernel
theorem dX6_start_10 : decode cX6_start 10 = .ok (.aload_n 0, 1) := by decide +kernel
theorem dX6_start_11 : decode cX6_start 11 = .ok (.iconst 0, 1) := by decide +kernel
theorem dX6_start_12 : decode cX6_start 12 = .ok (.putfield 19, 3) := by decide +kernel
theorem dX6_start_15 : decode cX6_start 15 = .ok (.aload_n 0, 1) := by decide +kernel
theorem dX6_start_16 : decode cX6_start 16 = .ok (.iconst 0, 1) := by decide +kernel
theorem dX6_start_17 : decode cX6_start 17 = .ok (.putfield 22, 3) := by decide +kernel
theorem dX6_start_20 : decode cX6_start 20 = .ok (.aload_n 0, 1) := by decide +kernel
theorem dX6_start_21 : decode cX6_start 21 = .ok (.iconst 0, 1) := by decide +kernel
theorem dX6_start_22 : decode cX6_start 22 = .ok (.invokevirtual 29, 3) := by decide +kernel
theorem dX6_start_25 : decode cX6_start 25 = .ok (.pop, 1) := by decide +kernel
theorem dX6_start_26 : decode cX6_start 26 = .ok (.return_, 1) := by decide +kernel
theorem dX6_advance_0 : decode cX6_advance 0 = .ok (.iload_n 1, 1) := by decide +kernel
theorem dX6_advance_1 : decode cX6_advance 1 = .ok (.istore_n 2, 1) := by decide +kernel
theorem dX6_advance_2 : decode cX6_advance 2 = .ok (.aload_n 0, 1) := by decide +kernel
theorem dX6_advance_3 : decode cX6_advance 3 = .ok (.getfield 15, 3) := by decide +kernel
theorem dX6_advance_6 : decode cX6_advance 6 = .ok (.istore_n 3, 1) := by decide +kernel
theorem dX6_advance_7 : decode cX6_advance 7 = .ok (.iload_n 3, 1) := by decide +kernel
theorem dX6_advance_8 : decode cX6_advance 8 = .ok (.aload_n 0, 1) := by decide +kernel
theorem dX6_advance_9 : decode cX6_advance 9 = .ok (.getfield 25, 3) := by decide +kernel
theorem dX6_advance_12 : decode cX6_advance 12 = .ok (.getfield 33, 3) := by decide +kernel
theorem dX6_advance_15 : decode cX6_advance 15 = .ok (.if_icmp .ge 83, 3) := by decide +kernel
theorem dX6_advance_18 : decode cX6_advance 18 = .ok (.aload_n 0, 1) := by decide +kernel
theorem dX6_advance_19 : decode cX6_advance 19 = .ok (.getfield 25, 3) := by decide +kernel
theorem dX6_advance_22 : decode cX6_advance 22 = .ok (.iload_n 3, 1) := by decide +kernel
theorem dX6_advance_23 : decode cX6_advance 23 = .ok (.invokevirtual 38, 3) := by decide +kernel
theorem dX6_advance_26 : decode cX6_advance 26 = .ok (.aload_n 0, 1) := by decide +kernel
theorem dX6_advance_27 : decode cX6_advance 27 = .ok (.getfield 19, 3) := by decide +kernel
theorem dX6_advance_30 : decode cX6_advance 30 = .ok (.isub, 1) := by decide +kernel
theorem dX6_advance_31 : decode cX6_advance 31 = .ok (.istore 4, 2) := by decide +kernel
theorem dX6_advance_33 : decode cX6_advance 33 = .ok (.iload 4, 2) := by decide +kernel
theorem dX6_advance_35 : decode cX6_advance 35 = .ok (.iload_n 2, 1) := by decide +kernel
theorem dX6_advance_36 : decode cX6_advance 36 = .ok (.if_icmp .le 28, 3) := by decide +kernel
theorem dX6_advance_39 : decode cX6_advance 39 = .ok (.aload_n 0, 1) := by decide +kernel
theorem dX6_advance_40 : decode cX6_advance 40 = .ok (.dup, 1) := by decide +kernel
theorem dX6_advance_41 : decode cX6_advance 41 = .ok (.getfield 19, 3) := by decide +kernel
theorem dX6_advance_44 : decode cX6_advance 44 = .ok (.iload_n 2, 1) := by decide +kernel
theorem dX6_advance_45 : decode cX6_advance 45 = .ok (.iadd, 1) := by decide +kernel
theorem dX6_advance_46 : decode cX6_advance 46 = .ok (.putfield 19, 3) := by decide +kernel
theorem dX6_advance_49 : decode cX6_advance 49 = .ok (.aload_n 0, 1) := by decide +kernel
theorem dX6_advance_50 : decode cX6_advance 50 = .ok (.dup, 1) := by decide +kernel
theorem dX6_advance_51 : decode cX6_advance 51 = .ok (.getfield 22, 3) := by decide +kernel
theorem dX6_advance_54 : decode cX6_advance 54 = .ok (.iload_n 2, 1) := by decide +kernel
theorem dX6_advance_55 : decode cX6_advance 55 = .ok (.iadd, 1) := by decide +kernel
theorem dX6_advance_56 : decode cX6_advance 56 = .ok (.putfield 22, 3) := by decide +kernel
theorem dX6_advance_59 : decode cX6_advance 59 = .ok (.aload_n 0, 1) := by decide +kernel
theorem dX6_advance_60 : decode cX6_advance 60 = .ok (.getfield 22, 3) := by decide +kernel
theorem dX6_advance_63 : decode cX6_advance 63 = .ok (.ireturn, 1) := by decide +kernel
theorem dX6_advance_64 : decode cX6_advance 64 = .ok (.aload_n 0, 1) := by decide +kernel
theorem dX6_advance_65 : decode cX6_advance 65 = .ok (.dup, 1) := by decide +kernel
theorem dX6_advance_66 : decode cX6_advance 66 = .ok (.getfield 22, 3) := by decide +kernel
theorem dX6_advance_69 : decode cX6_advance 69 = .ok (.iload 4, 2) := by decide +kernel
theorem dX6_advance_71 : decode cX6_advance 71 = .ok (.iadd, 1) := by decide +kernel
theorem dX6_advance_72 : decode cX6_advance 72 = .ok (.putfield 22, 3) := by decide +kernel
theorem dX6_advance_75 : decode cX6_advance 75 = .ok (.iload_n 2, 1) := by decide +kernel
theorem dX6_advance_76 : decode cX6_advance 76 = .ok (.iload 4, 2) := by decide +kernel
theorem dX6_advance_78 : decode cX6_advance 78 = .ok (.isub, 1) := by decide +kernel
theorem dX6_advance_79 : decode cX6_advance 79 = .ok (.istore_n 2, 1) := by decide +kernel
theorem dX6_advance_80 : decode cX6_advance 80 = .ok (.aload_n 0, 1) := by decide +kernel
theorem dX6_advance_81 : decode cX6_advance 81 = .ok (.iconst 0, 1) := by decide +kernel
theorem dX6_advance_82 : decode cX6_advance 82 = .ok (.putfield 19, 3) := by decide +kernel
theorem dX6_advance_85 : decode cX6_advance 85 = .ok (.aload_n 0, 1) := by decide +kernel
theorem dX6_advance_86 : decode cX6_advance 86 = .ok (.iload_n 3, 1) := by decide +kernel
theorem dX6_advance_87 : decode cX6_advance 87 = .ok (.iconst 1, 1) := by decide +kernel
theorem dX6_advance_88 : decode cX6_advance 88 = .ok (.iadd, 1) := by decide +kernel
theorem dX6_advance_89 : decode cX6_advance 89 = .ok (.putfield 15, 3) := by decide +kernel
theorem dX6_advance_92 : decode cX6_advance 92 = .ok (.iinc 3 1, 3) := by decide +kernel
theorem dX6_advance_95 : decode cX6_advance 95 = .ok (.goto (-88), 3) := by decide +kernel
theorem dX6_advance_98 : decode cX6_advance 98 = .ok (.aload_n 0, 1) := by decide +kernel
theorem dX6_advance_99 : decode cX6_advance 99 = .ok (.getfield 22, 3) := by decide +kernel
theorem dX6_advance_102 : decode cX6_advance 102 = .ok (.ireturn, 1) := by decide +kernel
theorem dX6_trueSteps_0 : decode cX6_trueSteps 0 = .ok (.iload_n 1, 1) := by decide +kernel
theorem dX6_trueSteps_1 : decode cX6_trueSteps 1 = .ok (.ifCond .ne 13, 3) := by decide +kernel
theorem dX6_trueSteps_4 : decode cX6_trueSteps 4 = .ok (.aload_n 0, 1) := by decide +kernel
theorem dX6_trueSteps_5 : decode cX6_trueSteps 5 = .ok (.getfield 25, 3) := by decide +kernel
theorem dX6_trueSteps_8 : decode cX6_trueSteps 8 = .ok (.getfield 41, 3) := by decide +kernel
theorem dX6_trueSteps_11 : decode cX6_trueSteps 11 = .ok (.goto 10, 3) := by decide +kernel
theorem dX6_trueSteps_14 : decode cX6_trueSteps 14 = .ok (.aload_n 0, 1) := by decide +kernel
theorem dX6_trueSteps_15 : decode cX6_trueSteps 15 = .ok (.getfield 25, 3) := by decide +kernel
theorem dX6_trueSteps_18 : decode cX6_trueSteps 18 = .ok (.getfield 45, 3) := by decide +kernel
theorem dX6_trueSteps_21 : decode cX6_trueSteps 21 = .ok (.astore_n 2, 1) := by decide +kernel
theorem dX6_trueSteps_22 : decode cX6_trueSteps 22 = .ok (.aload_n 2, 1) := by decide +kernel
theorem dX6_trueSteps_23 : decode cX6_trueSteps 23 = .ok (.aload_n 0, 1) := by decide +kernel
theorem dX6_trueSteps_24 : decode cX6_trueSteps 24 = .ok (.getfield 15, 3) := by decide +kernel
theorem dX6_trueSteps_27 : decode cX6_trueSteps 27 = .ok (.aload_n 0, 1) := by decide +kernel
theorem dX6_trueSteps_28 : decode cX6_trueSteps 28 = .ok (.getfield 25, 3) := by decide +kernel
theorem dX6_trueSteps_31 : decode cX6_trueSteps 31 = .ok (.getfield 33, 3) := by decide +kernel
theorem dX6_trueSteps_34 : decode cX6_trueSteps 34 = .ok (.invokestatic 48, 3) := by decide +kernel
theorem dX6_trueSteps_37 : decode cX6_trueSteps 37 = .ok (.iaload, 1) := by decide +kernel
theorem dX6_trueSteps_38 : decode cX6_trueSteps 38 = .ok (.istore_n 3, 1) := by decide +kernel
theorem dX6_trueSteps_39 : decode cX6_trueSteps 39 = .ok (.aload_n 0, 1) := by decide +kernel
theorem dX6_trueSteps_40 : decode cX6_trueSteps 40 = .ok (.getfield 25, 3) := by decide +kernel
theorem dX6_trueSteps_43 : decode cX6_trueSteps 43 = .ok (.aload_n 0, 1) := by decide +kernel
theorem dX6_trueSteps_44 : decode cX6_trueSteps 44 = .ok (.getfield 15, 3) := by decide +kernel
theorem dX6_trueSteps_47 : decode cX6_trueSteps 47 = .ok (.invokevirtual 54, 3) := by decide +kernel
theorem dX6_trueSteps_50 : decode cX6_trueSteps 50 = .ok (.ifCond .eq 36, 3) := by decide +kernel
theorem dX6_trueSteps_53 : decode cX6_trueSteps 53 = .ok (.aload_n 2, 1) := by decide +kernel
theorem dX6_trueSteps_54 : decode cX6_trueSteps 54 = .ok (.aload_n 0, 1) := by decide +kernel
theorem dX6_trueSteps_55 : decode cX6_trueSteps 55 = .ok (.getfield 15, 3) := by decide +kernel
theorem dX6_trueSteps_58 : decode cX6_trueSteps 58 = .ok (.iaload, 1) := by decide +kernel
theorem dX6_trueSteps_59 : decode cX6_trueSteps 59 = .ok (.aload_n 2, 1) := by decide +kernel
theorem dX6_trueSteps_60 : decode cX6_trueSteps 60 = .ok (.aload_n 0, 1) := by decide +kernel
theorem dX6_trueSteps_61 : decode cX6_trueSteps 61 = .ok (.getfield 15, 3) := by decide +kernel
theorem dX6_trueSteps_64 : decode cX6_trueSteps 64 = .ok (.iconst 1, 1) := by decide +kernel
theorem dX6_trueSteps_65 : decode cX6_trueSteps 65 = .ok (.iadd, 1) := by decide +kernel
theorem dX6_trueSteps_66 : decode cX6_trueSteps 66 = .ok (.iaload, 1) := by decide +kernel
theorem dX6_trueSteps_67 : decode cX6_trueSteps 67 = .ok (.aload_n 0, 1) := by decide +kernel
theorem dX6_trueSteps_68 : decode cX6_trueSteps 68 = .ok (.getfield 19, 3) := by decide +kernel
theorem dX6_trueSteps_71 : decode cX6_trueSteps 71 = .ok (.aload_n 0, 1) := by decide +kernel
theorem dX6_trueSteps_72 : decode cX6_trueSteps 72 = .ok (.getfield 25, 3) := by decide +kernel
theorem dX6_trueSteps_75 : decode cX6_trueSteps 75 = .ok (.aload_n 0, 1) := by decide +kernel
theorem dX6_trueSteps_76 : decode cX6_trueSteps 76 = .ok (.getfield 15, 3) := by decide +kernel
theorem dX6_trueSteps_79 : decode cX6_trueSteps 79 = .ok (.invokevirtual 38, 3) := by decide +kernel
theorem dX6_trueSteps_82 : decode cX6_trueSteps 82 = .ok (.invokestatic 58, 3) := by decide +kernel
theorem dX6_trueSteps_85 : decode cX6_trueSteps 85 = .ok (.istore_n 3, 1) := by decide +kernel
theorem dX6_trueSteps_86 : decode cX6_trueSteps 86 = .ok (.iload_n 3, 1) := by decide +kernel
theorem dX6_trueSteps_87 : decode cX6_trueSteps 87 = .ok (.aload_n 0, 1) := by decide +kernel
theorem dX6_trueSteps_88 : decode cX6_trueSteps 88 = .ok (.getfield 25, 3) := by decide +kernel
theorem dX6_trueSteps_91 : decode cX6_trueSteps 91 = .ok (.aload_n 0, 1) := by decide +kernel
theorem dX6_trueSteps_92 : decode cX6_trueSteps 92 = .ok (.getfield 15, 3) := by decide +kernel
theorem dX6_trueSteps_95 : decode cX6_trueSteps 95 = .ok (.iload_n 1, 1) := by decide +kernel
theorem dX6_trueSteps_96 : decode cX6_trueSteps 96 = .ok (.invokevirtual 62, 3) := by decide +kernel
theorem dX6_trueSteps_99 : decode cX6_trueSteps 99 = .ok (.iadd, 1) := by decide +kernel
theorem dX6_trueSteps_100 : decode cX6_trueSteps 100 = .ok (.ireturn, 1) := by decide +kernel
theorem dX7_init_0 : decode cX7_init 0 = .ok (.aload_n 0, 1) := by decide +kernel
theorem dX7_init_1 : decode cX7_init 1 = .ok (.invokespecial 1, 3) := by decide +kernel
theorem dX7_init_4 : decode cX7_init 4 = .ok (.aload_n 0, 1) := by decide +kernel
theorem dX7_init_5 : decode cX7_init 5 = .ok (.iconst 0, 1) := by decide +kernel
theorem dX7_init_6 : decode cX7_init 6 = .ok (.putfield 7, 3) := by decide +kernel
theorem dX7_init_9 : decode cX7_init 9 = .ok (.aload_n 0, 1) := by decide +kernel
theorem dX7_init_10 : decode cX7_init 10 = .ok (.iconst 0, 1) := by decide +kernel
theorem dX7_init_11 : decode cX7_init 11 = .ok (.putfield 13, 3) := by decide +kernel
theorem dX7_init_14 : decode cX7_init 14 = .ok (.aload_n 0, 1) := by decide +kernel
theorem dX7_init_15 : decode cX7_init 15 = .ok (.bipush 60, 2) := by decide +kernel
theorem dX7_init_17 : decode cX7_init 17 = .ok (.newarray .int, 2) := by decide +kernel
theorem dX7_init_19 : decode cX7_init 19 = .ok (.putfield 16, 3) := by decide +kernel
theorem dX7_init_22 : decode cX7_init 22 = .ok (.aload_n 0, 1) := by decide +kernel
theorem dX7_init_23 : decode cX7_init 23 = .ok (.bipush 60, 2) := by decide +kernel
theorem dX7_init_25 : decode cX7_init 25 = .ok (.newarray .int, 2) := by decide +kernel
theorem dX7_init_27 : decode cX7_init 27 = .ok (.putfield 20, 3) := by decide +kernel
theorem dX7_init_30 : decode cX7_init 30 = .ok (.aload_n 0, 1) := by decide +kernel
theorem dX7_init_31 : decode cX7_init 31 = .ok (.bipush 60, 2) := by decide +kernel
theorem dX7_init_33 : decode cX7_init 33 = .ok (.newarray .int, 2) := by decide +kernel
theorem dX7_init_35 : decode cX7_init 35 = .ok (.putfield 23, 3) := by decide +kernel
theorem dX7_init_38 : decode cX7_init 38 = .ok (.aload_n 0, 1) := by decide +kernel
theorem dX7_init_39 : decode cX7_init 39 = .ok (.sipush 300, 3) := by decide +kernel
theorem dX7_init_42 : decode cX7_init 42 = .ok (.newarray .int, 2) := by decide +kernel
theorem dX7_init_44 : decode cX7_init 44 = .ok (.putfield 26, 3) := by decide +kernel
theorem dX7_init_47 : decode cX7_init 47 = .ok (.aload_n 0, 1) := by decide +kernel
theorem dX7_init_48 : decode cX7_init 48 = .ok (.bipush 8, 2) := by decide +kernel
theorem dX7_init_50 : decode cX7_init 50 = .ok (.newarray .int, 2) := by decide +kernel
theorem dX7_init_52 : decode cX7_init 52 = .ok (.putfield 29, 3) := by decide +kernel
theorem dX7_init_55 : decode cX7_init 55 = .ok (.aload_n 0, 1) := by decide +kernel
theorem dX7_init_56 : decode cX7_init 56 = .ok (.bipush 8, 2) := by decide +kernel
theorem dX7_init_58 : decode cX7_init 58 = .ok (.newarray .int, 2) := by decide +kernel
theorem dX7_init_60 : decode cX7_init 60 = .ok (.putfield 32, 3) := by decide +kernel
theorem dX7_init_63 : decode cX7_init 63 = .ok (.aload_n 0, 1) := by decide +kernel
theorem dX7_init_64 : decode cX7_init 64 = .ok (.bipush 8, 2) := by decide +kernel
theorem dX7_init_66 : decode cX7_init 66 = .ok (.newarray .int, 2) := by decide +kernel
theorem dX7_init_68 : decode cX7_init 68 = .ok (.putfield 35, 3) := by decide +kernel
theorem dX7_init_71 : decode cX7_init 71 = .ok (.aload_n 0, 1) := by decide +kernel
theorem dX7_init_72 : decode cX7_init 72 = .ok (.bipush 96, 2) := by decide +kernel
theorem dX7_init_74 : decode cX7_init 74 = .ok (.newarray .int, 2) := by decide +kernel
theorem dX7_init_76 : decode cX7_init 76 = .ok (.putfield 38, 3) := by decide +kernel
theorem dX7_init_79 : decode cX7_init 79 = .ok (.aload_n 0, 1) := by decide +kernel
theorem dX7_init_80 : decode cX7_init 80 = .ok (.bipush 96, 2) := by decide +kernel
theorem dX7_init_82 : decode cX7_init 82 = .ok (.newarray .int, 2) := by decide +kernel
theorem dX7_init_84 : decode cX7_init 84 = .ok (.putfield 41, 3) := by decide +kernel
theorem dX7_init_87 : decode cX7_init 87 = .ok (.return_, 1) := by decide +kernel
theorem dX7_add_0 : decode cX7_add 0 = .ok (.aload_n 0, 1) := by decide +kernel
theorem dX7_add_1 : decode cX7_add 1 = .ok (.getfield 7, 3) := by decide +kernel
theorem dX7_add_4 : decode cX7_add 4 = .ok (.istore_n 2, 1) := by decide +kernel
theorem dX7_add_5 : decode cX7_add 5 = .ok (.aload_n 0, 1) := by decide +kernel
theorem dX7_add_6 : decode cX7_add 6 = .ok (.getfield 16, 3) := by decide +kernel
theorem dX7_add_9 : decode cX7_add 9 = .ok (.iload_n 2, 1) := by decide +kernel
theorem dX7_add_10 : decode cX7_add 10 = .ok (.iload_n 1, 1) := by decide +kernel
theorem dX7_add_11 : decode cX7_add 11 = .ok (.iastore, 1) := by decide +kernel
theorem dX7_add_12 : decode cX7_add 12 = .ok (.aload_n 0, 1) := by decide +kernel
theorem dX7_add_13 : decode cX7_add 13 = .ok (.getfield 20, 3) := by decide +kernel
theorem dX7_add_16 : decode cX7_add 16 = .ok (.iload_n 2, 1) := by decide +kernel
theorem dX7_add_17 : decode cX7_add 17 = .ok (.iload_n 2, 1) := by decide +kernel
theorem dX7_add_18 : decode cX7_add 18 = .ok (.iastore, 1) := by decide +kernel
theorem dX7_add_19 : decode cX7_add 19 = .ok (.aload_n 0, 1) := by decide +kernel
theorem dX7_add_20 : decode cX7_add 20 = .ok (.getfield 23, 3) := by decide +kernel
theorem dX7_add_23 : decode cX7_add 23 = .ok (.iload_n 2, 1) := by decide +kernel
theorem dX7_add_24 : decode cX7_add 24 = .ok (.iconst 0, 1) := by decide +kernel
theorem dX7_add_25 : decode cX7_add 25 = .ok (.iastore, 1) := by decide +kernel
theorem dX7_add_26 : decode cX7_add 26 = .ok (.aload_n 0, 1) := by decide +kernel
theorem dX7_add_27 : decode cX7_add 27 = .ok (.dup, 1) := by decide +kernel
theorem dX7_add_28 : decode cX7_add 28 = .ok (.getfield 7, 3) := by decide +kernel
theorem dX7_add_31 : decode cX7_add 31 = .ok (.iconst 1, 1) := by decide +kernel
theorem dX7_add_32 : decode cX7_add 32 = .ok (.iadd, 1) := by decide +kernel
theorem dX7_add_33 : decode cX7_add 33 = .ok (.putfield 7, 3) := by decide +kernel
theorem dX7_add_36 : decode cX7_add 36 = .ok (.iload_n 2, 1) := by decide +kernel
theorem dX7_add_37 : decode cX7_add 37 = .ok (.ireturn, 1) := by decide +kernel
theorem dX7_put_0 : decode cX7_put 0 = .ok (.aload_n 0, 1) := by decide +kernel
theorem dX7_put_1 : decode cX7_put 1 = .ok (.getfield 26, 3) := by decide +kernel
theorem dX7_put_4 : decode cX7_put 4 = .ok (.iconst 5, 1) := by decide +kernel
theorem dX7_put_5 : decode cX7_put 5 = .ok (.iload_n 1, 1) := by decide +kernel
theorem dX7_put_6 : decode cX7_put 6 = .ok (.imul, 1) := by decide +kernel
theorem dX7_put_7 : decode cX7_put 7 = .ok (.iload_n 2, 1) := by decide +kernel
theorem dX7_put_8 : decode cX7_put 8 = .ok (.iadd, 1) := by decide +kernel
theorem dX7_put_9 : decode cX7_put 9 = .ok (.iload_n 3, 1) := by decide +kernel
theorem dX7_put_10 : decode cX7_put 10 = .ok (.iastore, 1) := by decide +kernel
theorem dX7_put_11 : decode cX7_put 11 = .ok (.return_, 1) := by decide +kernel
theorem dX7_get_0 : decode cX7_get 0 = .ok (.aload_n 0, 1) := by decide +kernel
theorem dX7_get_1 : decode cX7_get 1 = .ok (.getfield 26, 3) := by decide +kernel
theorem dX7_get_4 : decode cX7_get 4 = .ok (.iconst 5, 1) := by decide +kernel
theorem dX7_get_5 : decode cX7_get 5 = .ok (.iload_n 1, 1) := by decide +kernel
theorem dX7_get_6 : decode cX7_get 6 = .ok (.imul, 1) := by decide +kernel
theorem dX7_get_7 : decode cX7_get 7 = .ok (.iload_n 2, 1) := by decide +kernel
theorem dX7_get_8 : decode cX7_get 8 = .ok (.iadd, 1) := by decide +kernel
theorem dX7_get_9 : decode cX7_get 9 = .ok (.iaload, 1) := by decide +kernel
theorem dX7_get_10 : decode cX7_get 10 = .ok (.ireturn, 1) := by decide +kernel
theorem dX7_addForm_0 : decode cX7_addForm 0 = .ok (.aload_n 0, 1) := by decide +kernel
theorem dX7_addForm_1 : decode cX7_addForm 1 = .ok (.getfield 13, 3) := by decide +kernel
theorem dX7_addForm_4 : decode cX7_addForm 4 = .ok (.istore_n 3, 1) := by decide +kernel
theorem dX7_addForm_5 : decode cX7_addForm 5 = .ok (.aload_n 0, 1) := by decide +kernel
theorem dX7_addForm_6 : decode cX7_addForm 6 = .ok (.getfield 29, 3) := by decide +kernel
theorem dX7_addForm_9 : decode cX7_addForm 9 = .ok (.iload_n 3, 1) := by decide +kernel
theorem dX7_addForm_10 : decode cX7_addForm 10 = .ok (.iload_n 1, 1) := by decide +kernel
theorem dX7_addForm_11 : decode cX7_addForm 11 = .ok (.iastore, 1) := by decide +kernel
theorem dX7_addForm_12 : decode cX7_addForm 12 = .ok (.aload_n 0, 1) := by decide +kernel
theorem dX7_addForm_13 : decode cX7_addForm 13 = .ok (.getfield 32, 3) := by decide +kernel
theorem dX7_addForm_16 : decode cX7_addForm 16 = .ok (.iload_n 3, 1) := by decide +kernel
theorem dX7_addForm_17 : decode cX7_addForm 17 = .ok (.iload_n 2, 1) := by decide +kernel
theorem dX7_addForm_18 : decode cX7_addForm 18 = .ok (.iastore, 1) := by decide +kernel
theorem dX7_addForm_19 : decode cX7_addForm 19 = .ok (.aload_n 0, 1) := by decide +kernel
theorem dX7_addForm_20 : decode cX7_addForm 20 = .ok (.getfield 35, 3) := by decide +kernel
theorem dX7_addForm_23 : decode cX7_addForm 23 = .ok (.iload_n 3, 1) := by decide +kernel
theorem dX7_addForm_24 : decode cX7_addForm 24 = .ok (.iconst 0, 1) := by decide +kernel
theorem dX7_addForm_25 : decode cX7_addForm 25 = .ok (.iastore, 1) := by decide +kernel
theorem dX7_addForm_26 : decode cX7_addForm 26 = .ok (.aload_n 0, 1) := by decide +kernel
theorem dX7_addForm_27 : decode cX7_addForm 27 = .ok (.dup, 1) := by decide +kernel
theorem dX7_addForm_28 : decode cX7_addForm 28 = .ok (.getfield 13, 3) := by decide +kernel
theorem dX7_addForm_31 : decode cX7_addForm 31 = .ok (.iconst 1, 1) := by decide +kernel
theorem dX7_addForm_32 : decode cX7_addForm 32 = .ok (.iadd, 1) := by decide +kernel
theorem dX7_addForm_33 : decode cX7_addForm 33 = .ok (.putfield 13, 3) := by decide +kernel
theorem dX7_addForm_36 : decode cX7_addForm 36 = .ok (.iload_n 3, 1) := by decide +kernel
theorem dX7_addForm_37 : decode cX7_addForm 37 = .ok (.ireturn, 1) := by decide +kernel
theorem dX7_addPoint_0 : decode cX7_addPoint 0 = .ok (.aload_n 0, 1) := by decide +kernel
theorem dX7_addPoint_1 : decode cX7_addPoint 1 = .ok (.getfield 35, 3) := by decide +kernel
theorem dX7_addPoint_4 : decode cX7_addPoint 4 = .ok (.iload_n 1, 1) := by decide +kernel
theorem dX7_addPoint_5 : decode cX7_addPoint 5 = .ok (.iaload, 1) := by decide +kernel
theorem dX7_addPoint_6 : decode cX7_addPoint 6 = .ok (.bipush 12, 2) := by decide +kernel
theorem dX7_addPoint_8 : decode cX7_addPoint 8 = .ok (.if_icmp .ge 42, 3) := by decide +kernel
theorem dX7_addPoint_11 : decode cX7_addPoint 11 = .ok (.bipush 12, 2) := by decide +kernel
theorem dX7_addPoint_13 : decode cX7_addPoint 13 = .ok (.iload_n 1, 1) := by decide +kernel
theorem dX7_addPoint_14 : decode cX7_addPoint 14 = .ok (.imul, 1) := by decide +kernel
theorem dX7_addPoint_15 : decode cX7_addPoint 15 = .ok (.aload_n 0, 1) := by decide +kernel
theorem dX7_addPoint_16 : decode cX7_addPoint 16 = .ok (.getfield 35, 3) := by decide +kernel
theorem dX7_addPoint_19 : decode cX7_addPoint 19 = .ok (.iload_n 1, 1) := by decide +kernel
theorem dX7_addPoint_20 : decode cX7_addPoint 20 = .ok (.iaload, 1) := by decide +kernel
theorem dX7_addPoint_21 : decode cX7_addPoint 21 = .ok (.iadd, 1) := by decide +kernel
theorem dX7_addPoint_22 : decode cX7_addPoint 22 = .ok (.istore 4, 2) := by decide +kernel
theorem dX7_addPoint_24 : decode cX7_addPoint 24 = .ok (.aload_n 0, 1) := by decide +kernel
theorem dX7_addPoint_25 : decode cX7_addPoint 25 = .ok (.getfield 38, 3) := by decide +kernel
theorem dX7_addPoint_28 : decode cX7_addPoint 28 = .ok (.iload 4, 2) := by decide +kernel
theorem dX7_addPoint_30 : decode cX7_addPoint 30 = .ok (.iload_n 2, 1) := by decide +kernel
theorem dX7_addPoint_31 : decode cX7_addPoint 31 = .ok (.iastore, 1) := by decide +kernel
theorem dX7_addPoint_32 : decode cX7_addPoint 32 = .ok (.aload_n 0, 1) := by decide +kernel
theorem dX7_addPoint_33 : decode cX7_addPoint 33 = .ok (.getfield 41, 3) := by decide +kernel
theorem dX7_addPoint_36 : decode cX7_addPoint 36 = .ok (.iload 4, 2) := by decide +kernel
theorem dX7_addPoint_38 : decode cX7_addPoint 38 = .ok (.iload_n 3, 1) := by decide +kernel
theorem dX7_addPoint_39 : decode cX7_addPoint 39 = .ok (.iastore, 1) := by decide +kernel
theorem dX7_addPoint_40 : decode cX7_addPoint 40 = .ok (.aload_n 0, 1) := by decide +kernel
theorem dX7_addPoint_41 : decode cX7_addPoint 41 = .ok (.getfield 35, 3) := by decide +kernel
theorem dX7_addPoint_44 : decode cX7_addPoint 44 = .ok (.iload_n 1, 1) := by decide +kernel
theorem dX7_addPoint_45 : decode cX7_addPoint 45 = .ok (.dup2, 1) := by decide +kernel
theorem dX7_addPoint_46 : decode cX7_addPoint 46 = .ok (.iaload, 1) := by decide +kernel
theorem dX7_addPoint_47 : decode cX7_addPoint 47 = .ok (.iconst 1, 1) := by decide +kernel
theorem dX7_addPoint_48 : decode cX7_addPoint 48 = .ok (.iadd, 1) := by decide +kernel
theorem dX7_addPoint_49 : decode cX7_addPoint 49 = .ok (.iastore, 1) := by decide +kernel
theorem dX7_addPoint_50 : decode cX7_addPoint 50 = .ok (.return_, 1) := by decide +kernel
theorem dX8_init_0 : decode cX8_init 0 = .ok (.aload_n 0, 1) := by decide +kernel
theorem dX8_init_1 : decode cX8_init 1 = .ok (.invokespecial 1, 3) := by decide +kernel
theorem dX8_init_4 : decode cX8_init 4 = .ok (.aload_n 0, 1) := by decide +kernel
theorem dX8_init_5 : decode cX8_init 5 = .ok (.iconst 0, 1) := by decide +kernel
theorem dX8_init_6 : decode cX8_init 6 = .ok (.putfield 7, 3) := by decide +kernel
theorem dX8_init_9 : decode cX8_init 9 = .ok (.aload_n 0, 1) := by decide +kernel
theorem dX8_init_10 : decode cX8_init 10 = .ok (.iconst 0, 1) := by decide +kernel
theorem dX8_init_11 : decode cX8_init 11 = .ok (.putfield 13, 3) := by decide +kernel
theorem dX8_init_14 : decode cX8_init 14 = .ok (.aload_n 0, 1) := by decide +kernel
theorem dX8_init_15 : decode cX8_init 15 = .ok (.iconst 0, 1) := by decide +kernel
theorem dX8_init_16 : decode cX8_init 16 = .ok (.putfield 16, 3) := by decide +kernel
theorem dX8_init_19 : decode cX8_init 19 = .ok (.aload_n 0, 1) := by decide +kernel
theorem dX8_init_20 : decode cX8_init 20 = .ok (.iconst 0, 1) := by decide +kernel
theorem dX8_init_21 : decode cX8_init 21 = .ok (.putfield 19, 3) := by decide +kernel
theorem dX8_init_24 : decode cX8_init 24 = .ok (.aload_n 0, 1) := by decide +kernel
theorem dX8_init_25 : decode cX8_init 25 = .ok (.iconst 0, 1) := by decide +kernel
theorem dX8_init_26 : decode cX8_init 26 = .ok (.putfield 22, 3) := by decide +kernel
theorem dX8_init_29 : decode cX8_init 29 = .ok (.aload_n 0, 1) := by decide +kernel
theorem dX8_init_30 : decode cX8_init 30 = .ok (.iconst 0, 1) := by decide +kernel
theorem dX8_init_31 : decode cX8_init 31 = .ok (.putfield 25, 3) := by decide +kernel
theorem dX8_init_34 : decode cX8_init 34 = .ok (.aload_n 0, 1) := by decide +kernel
theorem dX8_init_35 : decode cX8_init 35 = .ok (.sipush 500, 3) := by decide +kernel
theorem dX8_init_38 : decode cX8_init 38 = .ok (.newarray .byte, 2) := by decide +kernel
theorem dX8_init_40 : decode cX8_init 40 = .ok (.putfield 28, 3) := by decide +kernel
theorem dX8_init_43 : decode cX8_init 43 = .ok (.return_, 1) := by decide +kernel
theorem dX8_append_0 : decode cX8_append 0 = .ok (.bipush 24, 2) := by decide +kernel
theorem dX8_append_2 : decode cX8_append 2 = .ok (.istore_n 2, 1) := by decide +kernel
theorem dX8_append_3 : decode cX8_append 3 = .ok (.iload_n 2, 1) := by decide +kernel
theorem dX8_append_4 : decode cX8_append 4 = .ok (.ifCond .lt 42, 3) := by decide +kernel
theorem dX8_append_7 : decode cX8_append 7 = .ok (.aload_n 0, 1) := by decide +kernel
theorem dX8_append_8 : decode cX8_append 8 = .ok (.getfield 7, 3) := by decide +kernel
theorem dX8_append_11 : decode cX8_append 11 = .ok (.sipush 500, 3) := by decide +kernel
theorem dX8_append_14 : decode cX8_append 14 = .ok (.if_icmp .ge 32, 3) := by decide +kernel
theorem dX8_append_17 : decode cX8_append 17 = .ok (.aload_n 0, 1) := by decide +kernel
theorem dX8_append_18 : decode cX8_append 18 = .ok (.getfield 28, 3) := by decide +kernel
theorem dX8_append_21 : decode cX8_append 21 = .ok (.aload_n 0, 1) := by decide +kernel
theorem dX8_append_22 : decode cX8_append 22 = .ok (.getfield 7, 3) := by decide +kernel
theorem dX8_append_25 : decode cX8_append 25 = .ok (.iload_n 1, 1) := by decide +kernel
theorem dX8_append_26 : decode cX8_append 26 = .ok (.iload_n 2, 1) := by decide +kernel
theorem dX8_append_27 : decode cX8_append 27 = .ok (.ishr, 1) := by decide +kernel
theorem dX8_append_28 : decode cX8_append 28 = .ok (.i2b, 1) := by decide +kernel
theorem dX8_append_29 : decode cX8_append 29 = .ok (.bastore, 1) := by decide +kernel
theorem dX8_append_30 : decode cX8_append 30 = .ok (.aload_n 0, 1) := by decide +kernel
theorem dX8_append_31 : decode cX8_append 31 = .ok (.dup, 1) := by decide +kernel
theorem dX8_append_32 : decode cX8_append 32 = .ok (.getfield 7, 3) := by decide +kernel
theorem dX8_append_35 : decode cX8_append 35 = .ok (.iconst 1, 1) := by decide +kernel
theorem dX8_append_36 : decode cX8_append 36 = .ok (.iadd, 1) := by decide +kernel
theorem dX8_append_37 : decode cX8_append 37 = .ok (.putfield 7, 3) := by decide +kernel
theorem dX8_append_40 : decode cX8_append 40 = .ok (.iinc 2 (-8), 3) := by decide +kernel
theorem dX8_append_43 : decode cX8_append 43 = .ok (.goto (-40), 3) := by decide +kernel
theorem dX8_append_46 : decode cX8_append 46 = .ok (.return_, 1) := by decide +kernel
theorem dX8_open_0 : decode cX8_open 0 = .ok (.aload_n 0, 1) := by decide +kernel
theorem dX8_open_1 : decode cX8_open 1 = .ok (.iload_n 1, 1) := by decide +kernel
theorem dX8_open_2 : decode cX8_open 2 = .ok (.iconst 0, 1) := by decide +kernel
theorem dX8_open_3 : decode cX8_open 3 = .ok (.invokestatic 32, 3) := by decide +kernel
theorem dX8_open_6 : decode cX8_open 6 = .ok (.aload_n 0, 1) := by decide +kernel
theorem dX8_open_7 : decode cX8_open 7 = .ok (.getfield 7, 3) := by decide +kernel
theorem dX8_open_10 : decode cX8_open 10 = .ok (.invokestatic 38, 3) := by decide +kernel
theorem dX8_open_13 : decode cX8_open 13 = .ok (.putfield 25, 3) := by decide +kernel
theorem dX8_open_16 : decode cX8_open 16 = .ok (.aload_n 0, 1) := by decide +kernel
theorem dX8_open_17 : decode cX8_open 17 = .ok (.iconst 0, 1) := by decide +kernel
theorem dX8_open_18 : decode cX8_open 18 = .ok (.putfield 19, 3) := by decide +kernel
theorem dX8_open_21 : decode cX8_open 21 = .ok (.aload_n 0, 1) := by decide +kernel
theorem dX8_open_22 : decode cX8_open 22 = .ok (.invokevirtual 41, 3) := by decide +kernel
theorem dX8_open_25 : decode cX8_open 25 = .ok (.return_, 1) := by decide +kernel
theorem dX8_step_0 : decode cX8_step 0 = .ok (.aload_n 0, 1) := by decide +kernel
theorem dX8_step_1 : decode cX8_step 1 = .ok (.aload_n 0, 1) := by decide +kernel
theorem dX8_step_2 : decode cX8_step 2 = .ok (.getfield 19, 3) := by decide +kernel
theorem dX8_step_5 : decode cX8_step 5 = .ok (.putfield 16, 3) := by decide +kernel
theorem dX8_step_8 : decode cX8_step 8 = .ok (.aload_n 0, 1) := by decide +kernel
theorem dX8_step_9 : decode cX8_step 9 = .ok (.getfield 16, 3) := by decide +kernel
theorem dX8_step_12 : decode cX8_step 12 = .ok (.aload_n 0, 1) := by decide +kernel
theorem dX8_step_13 : decode cX8_step 13 = .ok (.getfield 25, 3) := by decide +kernel
theorem dX8_step_16 : decode cX8_step 16 = .ok (.if_icmp .ge 32, 3) := by decide +kernel
theorem dX8_step_19 : decode cX8_step 19 = .ok (.aload_n 0, 1) := by decide +kernel
theorem dX8_step_20 : decode cX8_step 20 = .ok (.getfield 28, 3) := by decide +kernel
theorem dX8_step_23 : decode cX8_step 23 = .ok (.aload_n 0, 1) := by decide +kernel
theorem dX8_step_24 : decode cX8_step 24 = .ok (.getfield 16, 3) := by decide +kernel
theorem dX8_step_27 : decode cX8_step 27 = .ok (.baload, 1) := by decide +kernel
theorem dX8_step_28 : decode cX8_step 28 = .ok (.invokestatic 44, 3) := by decide +kernel
theorem dX8_step_31 : decode cX8_step 31 = .ok (.iconst 4, 1) := by decide +kernel
theorem dX8_step_32 : decode cX8_step 32 = .ok (.if_icmp .ne 16, 3) := by decide +kernel
theorem dX8_step_35 : decode cX8_step 35 = .ok (.aload_n 0, 1) := by decide +kernel
theorem dX8_step_36 : decode cX8_step 36 = .ok (.dup, 1) := by decide +kernel
theorem dX8_step_37 : decode cX8_step 37 = .ok (.getfield 16, 3) := by decide +kernel
theorem dX8_step_40 : decode cX8_step 40 = .ok (.iconst 1, 1) := by decide +kernel
theorem dX8_step_41 : decode cX8_step 41 = .ok (.iadd, 1) := by decide +kernel
theorem dX8_step_42 : decode cX8_step 42 = .ok (.putfield 16, 3) := by decide +kernel
theorem dX8_step_45 : decode cX8_step 45 = .ok (.goto (-37), 3) := by decide +kernel
theorem dX8_step_48 : decode cX8_step 48 = .ok (.aload_n 0, 1) := by decide +kernel
theorem dX8_step_49 : decode cX8_step 49 = .ok (.aload_n 0, 1) := by decide +kernel
theorem dX8_step_50 : decode cX8_step 50 = .ok (.getfield 16, 3) := by decide +kernel
theorem dX8_step_53 : decode cX8_step 53 = .ok (.putfield 19, 3) := by decide +kernel
theorem dX8_step_56 : decode cX8_step 56 = .ok (.aload_n 0, 1) := by decide +kernel
theorem dX8_step_57 : decode cX8_step 57 = .ok (.iconst 0, 1) := by decide +kernel
theorem dX8_step_58 : decode cX8_step 58 = .ok (.putfield 22, 3) := by decide +kernel
theorem dX8_step_61 : decode cX8_step 61 = .ok (.aload_n 0, 1) := by decide +kernel
theorem dX8_step_62 : decode cX8_step 62 = .ok (.aload_n 0, 1) := by decide +kernel
theorem dX8_step_63 : decode cX8_step 63 = .ok (.getfield 16, 3) := by decide +kernel
theorem dX8_step_66 : decode cX8_step 66 = .ok (.aload_n 0, 1) := by decide +kernel
theorem dX8_step_67 : decode cX8_step 67 = .ok (.getfield 25, 3) := by decide +kernel
theorem dX8_step_70 : decode cX8_step 70 = .ok (.if_icmp .ge 18, 3) := by decide +kernel
theorem dX8_step_73 : decode cX8_step 73 = .ok (.aload_n 0, 1) := by decide +kernel
theorem dX8_step_74 : decode cX8_step 74 = .ok (.getfield 28, 3) := by decide +kernel
theorem dX8_step_77 : decode cX8_step 77 = .ok (.aload_n 0, 1) := by decide +kernel
theorem dX8_step_78 : decode cX8_step 78 = .ok (.getfield 16, 3) := by decide +kernel
theorem dX8_step_81 : decode cX8_step 81 = .ok (.baload, 1) := by decide +kernel
theorem dX8_step_82 : decode cX8_step 82 = .ok (.invokestatic 44, 3) := by decide +kernel
theorem dX8_step_85 : decode cX8_step 85 = .ok (.goto 4, 3) := by decide +kernel
theorem dX8_step_88 : decode cX8_step 88 = .ok (.iconst 0, 1) := by decide +kernel
theorem dX8_step_89 : decode cX8_step 89 = .ok (.putfield 13, 3) := by decide +kernel
theorem dX8_step_92 : decode cX8_step 92 = .ok (.aload_n 0, 1) := by decide +kernel
theorem dX8_step_93 : decode cX8_step 93 = .ok (.getfield 13, 3) := by decide +kernel
theorem dX8_step_96 : decode cX8_step 96 = .ok (.iconst 1, 1) := by decide +kernel
theorem dX8_step_97 : decode cX8_step 97 = .ok (.if_icmp .eq 11, 3) := by decide +kernel
theorem dX8_step_100 : decode cX8_step 100 = .ok (.aload_n 0, 1) := by decide +kernel
theorem dX8_step_101 : decode cX8_step 101 = .ok (.getfield 13, 3) := by decide +kernel
theorem dX8_step_104 : decode cX8_step 104 = .ok (.iconst 2, 1) := by decide +kernel
theorem dX8_step_105 : decode cX8_step 105 = .ok (.if_icmp .ne 7, 3) := by decide +kernel
theorem dX8_step_108 : decode cX8_step 108 = .ok (.iconst 1, 1) := by decide +kernel
theorem dX8_step_109 : decode cX8_step 109 = .ok (.goto 4, 3) := by decide +kernel
theorem dX8_step_112 : decode cX8_step 112 = .ok (.iconst 0, 1) := by decide +kernel
theorem dX8_step_113 : decode cX8_step 113 = .ok (.istore_n 1, 1) := by decide +kernel
theorem dX8_step_114 : decode cX8_step 114 = .ok (.aload_n 0, 1) := by decide +kernel
theorem dX8_step_115 : decode cX8_step 115 = .ok (.getfield 19, 3) := by decide +kernel
theorem dX8_step_118 : decode cX8_step 118 = .ok (.aload_n 0, 1) := by decide +kernel
theorem dX8_step_119 : decode cX8_step 119 = .ok (.getfield 25, 3) := by decide +kernel
theorem dX8_step_122 : decode cX8_step 122 = .ok (.if_icmp .ge 88, 3) := by decide +kernel
theorem dX8_step_125 : decode cX8_step 125 = .ok (.aload_n 0, 1) := by decide +kernel
theorem dX8_step_126 : decode cX8_step 126 = .ok (.getfield 19, 3) := by decide +kernel
theorem dX8_step_129 : decode cX8_step 129 = .ok (.aload_n 0, 1) := by decide +kernel
theorem dX8_step_130 : decode cX8_step 130 = .ok (.getfield 16, 3) := by decide +kernel
theorem dX8_step_133 : decode cX8_step 133 = .ok (.if_icmp .eq 26, 3) := by decide +kernel
theorem dX8_step_136 : decode cX8_step 136 = .ok (.iload_n 1, 1) := by decide +kernel
theorem dX8_step_137 : decode cX8_step 137 = .ok (.ifCond .eq 73, 3) := by decide +kernel
theorem dX8_step_140 : decode cX8_step 140 = .ok (.aload_n 0, 1) := by decide +kernel
theorem dX8_step_141 : decode cX8_step 141 = .ok (.getfield 28, 3) := by decide +kernel
theorem dX8_step_144 : decode cX8_step 144 = .ok (.aload_n 0, 1) := by decide +kernel
theorem dX8_step_145 : decode cX8_step 145 = .ok (.getfield 19, 3) := by decide +kernel
theorem dX8_step_148 : decode cX8_step 148 = .ok (.baload, 1) := by decide +kernel
theorem dX8_step_149 : decode cX8_step 149 = .ok (.invokestatic 44, 3) := by decide +kernel
theorem dX8_step_152 : decode cX8_step 152 = .ok (.aload_n 0, 1) := by decide +kernel
theorem dX8_step_153 : decode cX8_step 153 = .ok (.getfield 13, 3) := by decide +kernel
theorem dX8_step_156 : decode cX8_step 156 = .ok (.if_icmp .ne 54, 3) := by decide +kernel
theorem dX8_step_159 : decode cX8_step 159 = .ok (.aload_n 0, 1) := by decide +kernel
theorem dX8_step_160 : decode cX8_step 160 = .ok (.getfield 13, 3) := by decide +kernel
theorem dX8_step_163 : decode cX8_step 163 = .ok (.iconst 2, 1) := by decide +kernel
theorem dX8_step_164 : decode cX8_step 164 = .ok (.if_icmp .ne 33, 3) := by decide +kernel
theorem dX8_step_167 : decode cX8_step 167 = .ok (.aload_n 0, 1) := by decide +kernel
theorem dX8_step_168 : decode cX8_step 168 = .ok (.bipush 10, 2) := by decide +kernel
theorem dX8_step_170 : decode cX8_step 170 = .ok (.aload_n 0, 1) := by decide +kernel
theorem dX8_step_171 : decode cX8_step 171 = .ok (.getfield 22, 3) := by decide +kernel
theorem dX8_step_174 : decode cX8_step 174 = .ok (.imul, 1) := by decide +kernel
theorem dX8_step_175 : decode cX8_step 175 = .ok (.aload_n 0, 1) := by decide +kernel
theorem dX8_step_176 : decode cX8_step 176 = .ok (.getfield 28, 3) := by decide +kernel
theorem dX8_step_179 : decode cX8_step 179 = .ok (.aload_n 0, 1) := by decide +kernel
theorem dX8_step_180 : decode cX8_step 180 = .ok (.getfield 19, 3) := by decide +kernel
theorem dX8_step_183 : decode cX8_step 183 = .ok (.baload, 1) := by decide +kernel
theorem dX8_step_184 : decode cX8_step 184 = .ok (.iadd, 1) := by decide +kernel
theorem dX8_step_185 : decode cX8_step 185 = .ok (.bipush 48, 2) := by decide +kernel
theorem dX8_step_187 : decode cX8_step 187 = .ok (.isub, 1) := by decide +kernel
theorem dX8_step_188 : decode cX8_step 188 = .ok (.sipush 1000, 3) := by decide +kernel
theorem dX8_step_191 : decode cX8_step 191 = .ok (.invokestatic 38, 3) := by decide +kernel
theorem dX8_step_194 : decode cX8_step 194 = .ok (.putfield 22, 3) := by decide +kernel
theorem dX8_step_197 : decode cX8_step 197 = .ok (.aload_n 0, 1) := by decide +kernel
theorem dX8_step_198 : decode cX8_step 198 = .ok (.dup, 1) := by decide +kernel
theorem dX8_step_199 : decode cX8_step 199 = .ok (.getfield 19, 3) := by decide +kernel
theorem dX8_step_202 : decode cX8_step 202 = .ok (.iconst 1, 1) := by decide +kernel
theorem dX8_step_203 : decode cX8_step 203 = .ok (.iadd, 1) := by decide +kernel
theorem dX8_step_204 : decode cX8_step 204 = .ok (.putfield 19, 3) := by decide +kernel
theorem dX8_step_207 : decode cX8_step 207 = .ok (.goto (-93), 3) := by decide +kernel
theorem dX8_step_210 : decode cX8_step 210 = .ok (.return_, 1) := by decide +kernel
theorem dX8_kindOf_0 : decode cX8_kindOf 0 = .ok (.iload_n 0, 1) := by decide +kernel
theorem dX8_kindOf_1 : decode cX8_kindOf 1 = .ok (.bipush 97, 2) := by decide +kernel
theorem dX8_kindOf_3 : decode cX8_kindOf 3 = .ok (.if_icmp .lt 11, 3) := by decide +kernel
theorem dX8_kindOf_6 : decode cX8_kindOf 6 = .ok (.iload_n 0, 1) := by decide +kernel
theorem dX8_kindOf_7 : decode cX8_kindOf 7 = .ok (.bipush 122, 2) := by decide +kernel
theorem dX8_kindOf_9 : decode cX8_kindOf 9 = .ok (.if_icmp .gt 5, 3) := by decide +kernel
theorem dX8_kindOf_12 : decode cX8_kindOf 12 = .ok (.iconst 1, 1) := by decide +kernel
theorem dX8_kindOf_13 : decode cX8_kindOf 13 = .ok (.ireturn, 1) := by decide +kernel
theorem dX8_kindOf_14 : decode cX8_kindOf 14 = .ok (.iload_n 0, 1) := by decide +kernel
theorem dX8_kindOf_15 : decode cX8_kindOf 15 = .ok (.bipush 48, 2) := by decide +kernel
theorem dX8_kindOf_17 : decode cX8_kindOf 17 = .ok (.if_icmp .lt 11, 3) := by decide +kernel
theorem dX8_kindOf_20 : decode cX8_kindOf 20 = .ok (.iload_n 0, 1) := by decide +kernel
theorem dX8_kindOf_21 : decode cX8_kindOf 21 = .ok (.bipush 57, 2) := by decide +kernel
theorem dX8_kindOf_23 : decode cX8_kindOf 23 = .ok (.if_icmp .gt 5, 3) := by decide +kernel
theorem dX8_kindOf_26 : decode cX8_kindOf 26 = .ok (.iconst 2, 1) := by decide +kernel
theorem dX8_kindOf_27 : decode cX8_kindOf 27 = .ok (.ireturn, 1) := by decide +kernel
theorem dX8_kindOf_28 : decode cX8_kindOf 28 = .ok (.iload_n 0, 1) := by decide +kernel
theorem dX8_kindOf_29 : decode cX8_kindOf 29 = .ok (.bipush 10, 2) := by decide +kernel
theorem dX8_kindOf_31 : decode cX8_kindOf 31 = .ok (.if_icmp .eq 9, 3) := by decide +kernel
theorem dX8_kindOf_34 : decode cX8_kindOf 34 = .ok (.iload_n 0, 1) := by decide +kernel
theorem dX8_kindOf_35 : decode cX8_kindOf 35 = .ok (.bipush 32, 2) := by decide +kernel
theorem dX8_kindOf_37 : decode cX8_kindOf 37 = .ok (.if_icmp .ne 5, 3) := by decide +kernel
theorem dX8_kindOf_40 : decode cX8_kindOf 40 = .ok (.iconst 4, 1) := by decide +kernel
theorem dX8_kindOf_41 : decode cX8_kindOf 41 = .ok (.ireturn, 1) := by decide +kernel
theorem dX8_kindOf_42 : decode cX8_kindOf 42 = .ok (.iload_n 0, 1) := by decide +kernel
theorem dX8_kindOf_43 : decode cX8_kindOf 43 = .ok (.bipush 59, 2) := by decide +kernel
theorem dX8_kindOf_45 : decode cX8_kindOf 45 = .ok (.if_icmp .eq 21, 3) := by decide +kernel
theorem dX8_kindOf_48 : decode cX8_kindOf 48 = .ok (.iload_n 0, 1) := by decide +kernel
theorem dX8_kindOf_49 : decode cX8_kindOf 49 = .ok (.bipush 40, 2) := by decide +kernel
theorem dX8_kindOf_51 : decode cX8_kindOf 51 = .ok (.if_icmp .eq 15, 3) := by decide +kernel
theorem dX8_kindOf_54 : decode cX8_kindOf 54 = .ok (.iload_n 0, 1) := by decide +kernel
theorem dX8_kindOf_55 : decode cX8_kindOf 55 = .ok (.bipush 41, 2) := by decide +kernel
theorem dX8_kindOf_57 : decode cX8_kindOf 57 = .ok (.if_icmp .eq 9, 3) := by decide +kernel
theorem dX8_kindOf_60 : decode cX8_kindOf 60 = .ok (.iload_n 0, 1) := by decide +kernel
theorem dX8_kindOf_61 : decode cX8_kindOf 61 = .ok (.bipush 45, 2) := by decide +kernel
theorem dX8_kindOf_63 : decode cX8_kindOf 63 = .ok (.if_icmp .ne 7, 3) := by decide +kernel
theorem dX8_kindOf_66 : decode cX8_kindOf 66 = .ok (.iload_n 0, 1) := by decide +kernel
theorem dX8_kindOf_67 : decode cX8_kindOf 67 = .ok (.goto 4, 3) := by decide +kernel
theorem dX8_kindOf_70 : decode cX8_kindOf 70 = .ok (.iconst 3, 1) := by decide +kernel
theorem dX8_kindOf_71 : decode cX8_kindOf 71 = .ok (.ireturn, 1) := by decide +kernel
theorem dX8_spells_0 : decode cX8_spells 0 = .ok (.aload_n 0, 1) := by decide +kernel
theorem dX8_spells_1 : decode cX8_spells 1 = .ok (.getfield 13, 3) := by decide +kernel
theorem dX8_spells_4 : decode cX8_spells 4 = .ok (.iconst 1, 1) := by decide +kernel
theorem dX8_spells_5 : decode cX8_spells 5 = .ok (.if_icmp .ne 19, 3) := by decide +kernel
theorem dX8_spells_8 : decode cX8_spells 8 = .ok (.aload_n 0, 1) := by decide +kernel
theorem dX8_spells_9 : decode cX8_spells 9 = .ok (.getfield 19, 3) := by decide +kernel
theorem dX8_spells_12 : decode cX8_spells 12 = .ok (.aload_n 0, 1) := by decide +kernel
theorem dX8_spells_13 : decode cX8_spells 13 = .ok (.getfield 16, 3) := by decide +kernel
theorem dX8_spells_16 : decode cX8_spells 16 = .ok (.isub, 1) := by decide +kernel
theorem dX8_spells_17 : decode cX8_spells 17 = .ok (.aload_n 1, 1) := by decide +kernel
theorem dX8_spells_18 : decode cX8_spells 18 = .ok (.invokevirtual 48, 3) := by decide +kernel
theorem dX8_spells_21 : decode cX8_spells 21 = .ok (.if_icmp .eq 5, 3) := by decide +kernel
theorem dX8_spells_24 : decode cX8_spells 24 = .ok (.iconst 0, 1) := by decide +kernel
theorem dX8_spells_25 : decode cX8_spells 25 = .ok (.ireturn, 1) := by decide +kernel
theorem dX8_spells_26 : decode cX8_spells 26 = .ok (.iconst 0, 1) := by decide +kernel
theorem dX8_spells_27 : decode cX8_spells 27 = .ok (.istore_n 2, 1) := by decide +kernel
theorem dX8_spells_28 : decode cX8_spells 28 = .ok (.iload_n 2, 1) := by decide +kernel
theorem dX8_spells_29 : decode cX8_spells 29 = .ok (.aload_n 1, 1) := by decide +kernel
theorem dX8_spells_30 : decode cX8_spells 30 = .ok (.invokevirtual 48, 3) := by decide +kernel
theorem dX8_spells_33 : decode cX8_spells 33 = .ok (.if_icmp .ge 30, 3) := by decide +kernel
theorem dX8_spells_36 : decode cX8_spells 36 = .ok (.aload_n 0, 1) := by decide +kernel
theorem dX8_spells_37 : decode cX8_spells 37 = .ok (.getfield 28, 3) := by decide +kernel
theorem dX8_spells_40 : decode cX8_spells 40 = .ok (.aload_n 0, 1) := by decide +kernel
theorem dX8_spells_41 : decode cX8_spells 41 = .ok (.getfield 16, 3) := by decide +kernel
theorem dX8_spells_44 : decode cX8_spells 44 = .ok (.iload_n 2, 1) := by decide +kernel
theorem dX8_spells_45 : decode cX8_spells 45 = .ok (.iadd, 1) := by decide +kernel
theorem dX8_spells_46 : decode cX8_spells 46 = .ok (.baload, 1) := by decide +kernel
theorem dX8_spells_47 : decode cX8_spells 47 = .ok (.aload_n 1, 1) := by decide +kernel
theorem dX8_spells_48 : decode cX8_spells 48 = .ok (.iload_n 2, 1) := by decide +kernel
theorem dX8_spells_49 : decode cX8_spells 49 = .ok (.invokevirtual 54, 3) := by decide +kernel
theorem dX8_spells_52 : decode cX8_spells 52 = .ok (.if_icmp .eq 5, 3) := by decide +kernel
theorem dX8_spells_55 : decode cX8_spells 55 = .ok (.iconst 0, 1) := by decide +kernel
theorem dX8_spells_56 : decode cX8_spells 56 = .ok (.ireturn, 1) := by decide +kernel
theorem dX8_spells_57 : decode cX8_spells 57 = .ok (.iinc 2 1, 3) := by decide +kernel
theorem dX8_spells_60 : decode cX8_spells 60 = .ok (.goto (-32), 3) := by decide +kernel
theorem dX8_spells_63 : decode cX8_spells 63 = .ok (.iconst 1, 1) := by decide +kernel
theorem dX8_spells_64 : decode cX8_spells 64 = .ok (.ireturn, 1) := by decide +kernel
theorem dX8_repeats_0 : decode cX8_repeats 0 = .ok (.aload_n 0, 1) := by decide +kernel
theorem dX8_repeats_1 : decode cX8_repeats 1 = .ok (.getfield 13, 3) := by decide +kernel
theorem dX8_repeats_4 : decode cX8_repeats 4 = .ok (.iconst 1, 1) := by decide +kernel
theorem dX8_repeats_5 : decode cX8_repeats 5 = .ok (.if_icmp .ne 18, 3) := by decide +kernel
theorem dX8_repeats_8 : decode cX8_repeats 8 = .ok (.aload_n 0, 1) := by decide +kernel
theorem dX8_repeats_9 : decode cX8_repeats 9 = .ok (.getfield 19, 3) := by decide +kernel
theorem dX8_repeats_12 : decode cX8_repeats 12 = .ok (.aload_n 0, 1) := by decide +kernel
theorem dX8_repeats_13 : decode cX8_repeats 13 = .ok (.getfield 16, 3) := by decide +kernel
theorem dX8_repeats_16 : decode cX8_repeats 16 = .ok (.isub, 1) := by decide +kernel
theorem dX8_repeats_17 : decode cX8_repeats 17 = .ok (.iload_n 2, 1) := by decide +kernel
theorem dX8_repeats_18 : decode cX8_repeats 18 = .ok (.iload_n 1, 1) := by decide +kernel
theorem dX8_repeats_19 : decode cX8_repeats 19 = .ok (.isub, 1) := by decide +kernel
theorem dX8_repeats_20 : decode cX8_repeats 20 = .ok (.if_icmp .eq 5, 3) := by decide +kernel
theorem dX8_repeats_23 : decode cX8_repeats 23 = .ok (.iconst 0, 1) := by decide +kernel
theorem dX8_repeats_24 : decode cX8_repeats 24 = .ok (.ireturn, 1) := by decide +kernel
theorem dX8_repeats_25 : decode cX8_repeats 25 = .ok (.iconst 0, 1) := by decide +kernel
theorem dX8_repeats_26 : decode cX8_repeats 26 = .ok (.istore_n 3, 1) := by decide +kernel
theorem dX8_repeats_27 : decode cX8_repeats 27 = .ok (.iload_n 3, 1) := by decide +kernel
theorem dX8_repeats_28 : decode cX8_repeats 28 = .ok (.iload_n 2, 1) := by decide +kernel
theorem dX8_repeats_29 : decode cX8_repeats 29 = .ok (.iload_n 1, 1) := by decide +kernel
theorem dX8_repeats_30 : decode cX8_repeats 30 = .ok (.isub, 1) := by decide +kernel
theorem dX8_repeats_31 : decode cX8_repeats 31 = .ok (.if_icmp .ge 33, 3) := by decide +kernel
theorem dX8_repeats_34 : decode cX8_repeats 34 = .ok (.aload_n 0, 1) := by decide +kernel
theorem dX8_repeats_35 : decode cX8_repeats 35 = .ok (.getfield 28, 3) := by decide +kernel
theorem dX8_repeats_38 : decode cX8_repeats 38 = .ok (.aload_n 0, 1) := by decide +kernel
theorem dX8_repeats_39 : decode cX8_repeats 39 = .ok (.getfield 16, 3) := by decide +kernel
theorem dX8_repeats_42 : decode cX8_repeats 42 = .ok (.iload_n 3, 1) := by decide +kernel
theorem dX8_repeats_43 : decode cX8_repeats 43 = .ok (.iadd, 1) := by decide +kernel
theorem dX8_repeats_44 : decode cX8_repeats 44 = .ok (.baload, 1) := by decide +kernel
theorem dX8_repeats_45 : decode cX8_repeats 45 = .ok (.aload_n 0, 1) := by decide +kernel
theorem dX8_repeats_46 : decode cX8_repeats 46 = .ok (.getfield 28, 3) := by decide +kernel
theorem dX8_repeats_49 : decode cX8_repeats 49 = .ok (.iload_n 1, 1) := by decide +kernel
theorem dX8_repeats_50 : decode cX8_repeats 50 = .ok (.iload_n 3, 1) := by decide +kernel
theorem dX8_repeats_51 : decode cX8_repeats 51 = .ok (.iadd, 1) := by decide +kernel
theorem dX8_repeats_52 : decode cX8_repeats 52 = .ok (.baload, 1) := by decide +kernel
theorem dX8_repeats_53 : decode cX8_repeats 53 = .ok (.if_icmp .eq 5, 3) := by decide +kernel
theorem dX8_repeats_56 : decode cX8_repeats 56 = .ok (.iconst 0, 1) := by decide +kernel
theorem dX8_repeats_57 : decode cX8_repeats 57 = .ok (.ireturn, 1) := by decide +kernel
theorem dX8_repeats_58 : decode cX8_repeats 58 = .ok (.iinc 3 1, 3) := by decide +kernel
theorem dX8_repeats_61 : decode cX8_repeats 61 = .ok (.goto (-34), 3) := by decide +kernel
theorem dX8_repeats_64 : decode cX8_repeats 64 = .ok (.iconst 1, 1) := by decide +kernel
theorem dX8_repeats_65 : decode cX8_repeats 65 = .ok (.ireturn, 1) := by decide +kernel
theorem dX9_init_0 : decode cX9_init 0 = .ok (.aload_n 0, 1) := by decide +kernel
theorem dX9_init_1 : decode cX9_init 1 = .ok (.invokespecial 3, 3) := by decide +kernel
theorem dX9_init_4 : decode cX9_init 4 = .ok (.aload_n 0, 1) := by decide +kernel
theorem dX9_init_5 : decode cX9_init 5 = .ok (.lconst 0, 1) := by decide +kernel
theorem dX9_init_6 : decode cX9_init 6 = .ok (.putfield 9, 3) := by decide +kernel
theorem dX9_init_9 : decode cX9_init 9 = .ok (.aload_n 0, 1) := by decide +kernel
theorem dX9_init_10 : decode cX9_init 10 = .ok (.lconst 0, 1) := by decide +kernel
theorem dX9_init_11 : decode cX9_init 11 = .ok (.putfield 15, 3) := by decide +kernel
theorem dX9_init_14 : decode cX9_init 14 = .ok (.aload_n 0, 1) := by decide +kernel
theorem dX9_init_15 : decode cX9_init 15 = .ok (.lconst 0, 1) := by decide +kernel
theorem dX9_init_16 : decode cX9_init 16 = .ok (.putfield 18, 3) := by decide +kernel
theorem dX9_init_19 : decode cX9_init 19 = .ok (.aload_n 0, 1) := by decide +kernel
theorem dX9_init_20 : decode cX9_init 20 = .ok (.lconst 0, 1) := by decide +kernel
theorem dX9_init_21 : decode cX9_init 21 = .ok (.putfield 21, 3) := by decide +kernel
theorem dX9_init_24 : decode cX9_init 24 = .ok (.aload_n 0, 1) := by decide +kernel
theorem dX9_init_25 : decode cX9_init 25 = .ok (.lconst 1, 1) := by decide +kernel
theorem dX9_init_26 : decode cX9_init 26 = .ok (.putfield 24, 3) := by decide +kernel
theorem dX9_init_29 : decode cX9_init 29 = .ok (.aload_n 0, 1) := by decide +kernel
theorem dX9_init_30 : decode cX9_init 30 = .ok (.aload_n 1, 1) := by decide +kernel
theorem dX9_init_31 : decode cX9_init 31 = .ok (.putfield 27, 3) := by decide +kernel
theorem dX9_init_34 : decode cX9_init 34 = .ok (.aload_n 0, 1) := by decide +kernel
theorem dX9_init_35 : decode cX9_init 35 = .ok (.aload_n 2, 1) := by decide +kernel
theorem dX9_init_36 : decode cX9_init 36 = .ok (.putfield 31, 3) := by decide +kernel
theorem dX9_init_39 : decode cX9_init 39 = .ok (.return_, 1) := by decide +kernel
theorem dX9_sagOf_0 : decode cX9_sagOf 0 = .ok (.aload_n 0, 1) := by decide +kernel
theorem dX9_sagOf_1 : decode cX9_sagOf 1 = .ok (.getfield 27, 3) := by decide +kernel
theorem dX9_sagOf_4 : decode cX9_sagOf 4 = .ok (.aload_n 0, 1) := by decide +kernel
theorem dX9_sagOf_5 : decode cX9_sagOf 5 = .ok (.getfield 31, 3) := by decide +kernel
theorem dX9_sagOf_8 : decode cX9_sagOf 8 = .ok (.getfield 35, 3) := by decide +kernel
theorem dX9_sagOf_11 : decode cX9_sagOf 11 = .ok (.iload_n 1, 1) := by decide +kernel
theorem dX9_sagOf_12 : decode cX9_sagOf 12 = .ok (.iconst 1, 1) := by decide +kernel
theorem dX9_sagOf_13 : decode cX9_sagOf 13 = .ok (.iadd, 1) := by decide +kernel
theorem dX9_sagOf_14 : decode cX9_sagOf 14 = .ok (.iaload, 1) := by decide +kernel
theorem dX9_sagOf_15 : decode cX9_sagOf 15 = .ok (.i2l, 1) := by decide +kernel
theorem dX9_sagOf_16 : decode cX9_sagOf 16 = .ok (.aload_n 0, 1) := by decide +kernel
theorem dX9_sagOf_17 : decode cX9_sagOf 17 = .ok (.getfield 31, 3) := by decide +kernel
theorem dX9_sagOf_20 : decode cX9_sagOf 20 = .ok (.getfield 41, 3) := by decide +kernel
theorem dX9_sagOf_23 : decode cX9_sagOf 23 = .ok (.iload_n 1, 1) := by decide +kernel
theorem dX9_sagOf_24 : decode cX9_sagOf 24 = .ok (.iconst 1, 1) := by decide +kernel
theorem dX9_sagOf_25 : decode cX9_sagOf 25 = .ok (.iadd, 1) := by decide +kernel
theorem dX9_sagOf_26 : decode cX9_sagOf 26 = .ok (.iaload, 1) := by decide +kernel
theorem dX9_sagOf_27 : decode cX9_sagOf 27 = .ok (.i2l, 1) := by decide +kernel
theorem dX9_sagOf_28 : decode cX9_sagOf 28 = .ok (.invokevirtual 44, 3) := by decide +kernel
theorem dX9_sagOf_31 : decode cX9_sagOf 31 = .ok (.aload_n 0, 1) := by decide +kernel
theorem dX9_sagOf_32 : decode cX9_sagOf 32 = .ok (.getfield 27, 3) := by decide +kernel
theorem dX9_sagOf_35 : decode cX9_sagOf 35 = .ok (.getfield 50, 3) := by decide +kernel
theorem dX9_sagOf_38 : decode cX9_sagOf 38 = .ok (.lstore_n 2, 1) := by decide +kernel
theorem dX9_sagOf_39 : decode cX9_sagOf 39 = .ok (.aload_n 0, 1) := by decide +kernel
theorem dX9_sagOf_40 : decode cX9_sagOf 40 = .ok (.getfield 27, 3) := by decide +kernel
theorem dX9_sagOf_43 : decode cX9_sagOf 43 = .ok (.getfield 53, 3) := by decide +kernel
theorem dX9_sagOf_46 : decode cX9_sagOf 46 = .ok (.lstore 4, 2) := by decide +kernel
theorem dX9_sagOf_48 : decode cX9_sagOf 48 = .ok (.aload_n 0, 1) := by decide +kernel
theorem dX9_sagOf_49 : decode cX9_sagOf 49 = .ok (.getfield 27, 3) := by decide +kernel
theorem dX9_sagOf_52 : decode cX9_sagOf 52 = .ok (.aload_n 0, 1) := by decide +kernel
theorem dX9_sagOf_53 : decode cX9_sagOf 53 = .ok (.getfield 31, 3) := by decide +kernel
theorem dX9_sagOf_56 : decode cX9_sagOf 56 = .ok (.getfield 35, 3) := by decide +kernel
theorem dX9_sagOf_59 : decode cX9_sagOf 59 = .ok (.iload_n 1, 1) := by decide +kernel
theorem dX9_sagOf_60 : decode cX9_sagOf 60 = .ok (.iaload, 1) := by decide +kernel
theorem dX9_sagOf_61 : decode cX9_sagOf 61 = .ok (.i2l, 1) := by decide +kernel
theorem dX9_sagOf_62 : decode cX9_sagOf 62 = .ok (.aload_n 0, 1) := by decide +kernel
theorem dX9_sagOf_63 : decode cX9_sagOf 63 = .ok (.getfield 31, 3) := by decide +kernel
theorem dX9_sagOf_66 : decode cX9_sagOf 66 = .ok (.getfield 41, 3) := by decide +kernel
theorem dX9_sagOf_69 : decode cX9_sagOf 69 = .ok (.iload_n 1, 1) := by decide +kernel
theorem dX9_sagOf_70 : decode cX9_sagOf 70 = .ok (.iaload, 1) := by decide +kernel
theorem dX9_sagOf_71 : decode cX9_sagOf 71 = .ok (.i2l, 1) := by decide +kernel
theorem dX9_sagOf_72 : decode cX9_sagOf 72 = .ok (.invokevirtual 44, 3) := by decide +kernel
theorem dX9_sagOf_75 : decode cX9_sagOf 75 = .ok (.aload_n 0, 1) := by decide +kernel
theorem dX9_sagOf_76 : decode cX9_sagOf 76 = .ok (.aload_n 0, 1) := by decide +kernel
theorem dX9_sagOf_77 : decode cX9_sagOf 77 = .ok (.getfield 27, 3) := by decide +kernel
theorem dX9_sagOf_80 : decode cX9_sagOf 80 = .ok (.getfield 50, 3) := by decide +kernel
theorem dX9_sagOf_83 : decode cX9_sagOf 83 = .ok (.aload_n 0, 1) := by decide +kernel
theorem dX9_sagOf_84 : decode cX9_sagOf 84 = .ok (.getfield 27, 3) := by decide +kernel
theorem dX9_sagOf_87 : decode cX9_sagOf 87 = .ok (.getfield 53, 3) := by decide +kernel
theorem dX9_sagOf_90 : decode cX9_sagOf 90 = .ok (.lload_n 2, 1) := by decide +kernel
theorem dX9_sagOf_91 : decode cX9_sagOf 91 = .ok (.lload 4, 2) := by decide +kernel
theorem dX9_sagOf_93 : decode cX9_sagOf 93 = .ok (.invokevirtual 56, 3) := by decide +kernel
theorem dX9_sagOf_96 : decode cX9_sagOf 96 = .ok (.aload_n 0, 1) := by decide +kernel
theorem dX9_sagOf_97 : decode cX9_sagOf 97 = .ok (.aload_n 0, 1) := by decide +kernel
theorem dX9_sagOf_98 : decode cX9_sagOf 98 = .ok (.getfield 31, 3) := by decide +kernel
theorem dX9_sagOf_101 : decode cX9_sagOf 101 = .ok (.getfield 35, 3) := by decide +kernel
theorem dX9_sagOf_104 : decode cX9_sagOf 104 = .ok (.iload_n 1, 1) := by decide +kernel
theorem dX9_sagOf_105 : decode cX9_sagOf 105 = .ok (.iaload, 1) := by decide +kernel
theorem dX9_sagOf_106 : decode cX9_sagOf 106 = .ok (.aload_n 0, 1) := by decide +kernel
theorem dX9_sagOf_107 : decode cX9_sagOf 107 = .ok (.getfield 31, 3) := by decide +kernel
theorem dX9_sagOf_110 : decode cX9_sagOf 110 = .ok (.getfield 41, 3) := by decide +kernel
theorem dX9_sagOf_113 : decode cX9_sagOf 113 = .ok (.iload_n 1, 1) := by decide +kernel
theorem dX9_sagOf_114 : decode cX9_sagOf 114 = .ok (.iaload, 1) := by decide +kernel
theorem dX9_sagOf_115 : decode cX9_sagOf 115 = .ok (.aload_n 0, 1) := by decide +kernel
theorem dX9_sagOf_116 : decode cX9_sagOf 116 = .ok (.getfield 31, 3) := by decide +kernel
theorem dX9_sagOf_119 : decode cX9_sagOf 119 = .ok (.getfield 35, 3) := by decide +kernel
theorem dX9_sagOf_122 : decode cX9_sagOf 122 = .ok (.iload_n 1, 1) := by decide +kernel
theorem dX9_sagOf_123 : decode cX9_sagOf 123 = .ok (.iconst 1, 1) := by decide +kernel
theorem dX9_sagOf_124 : decode cX9_sagOf 124 = .ok (.iadd, 1) := by decide +kernel
theorem dX9_sagOf_125 : decode cX9_sagOf 125 = .ok (.iaload, 1) := by decide +kernel
theorem dX9_sagOf_126 : decode cX9_sagOf 126 = .ok (.aload_n 0, 1) := by decide +kernel
theorem dX9_sagOf_127 : decode cX9_sagOf 127 = .ok (.getfield 31, 3) := by decide +kernel
theorem dX9_sagOf_130 : decode cX9_sagOf 130 = .ok (.getfield 41, 3) := by decide +kernel
theorem dX9_sagOf_133 : decode cX9_sagOf 133 = .ok (.iload_n 1, 1) := by decide +kernel
theorem dX9_sagOf_134 : decode cX9_sagOf 134 = .ok (.iconst 1, 1) := by decide +kernel
theorem dX9_sagOf_135 : decode cX9_sagOf 135 = .ok (.iadd, 1) := by decide +kernel
theorem dX9_sagOf_136 : decode cX9_sagOf 136 = .ok (.iaload, 1) := by decide +kernel
theorem dX9_sagOf_137 : decode cX9_sagOf 137 = .ok (.ldc2_w 60, 3) := by decide +kernel
theorem dX9_sagOf_140 : decode cX9_sagOf 140 = .ok (.invokevirtual 62, 3) := by decide +kernel
theorem dX9_sagOf_143 : decode cX9_sagOf 143 = .ok (.lstore 6, 2) := by decide +kernel
theorem dX9_sagOf_145 : decode cX9_sagOf 145 = .ok (.lload 6, 2) := by decide +kernel
theorem dX9_sagOf_147 : decode cX9_sagOf 147 = .ok (.l2i, 1) := by decide +kernel
theorem dX9_sagOf_148 : decode cX9_sagOf 148 = .ok (.ireturn, 1) := by decide +kernel
theorem dX9_fewestParts_0 : decode cX9_fewestParts 0 = .ok (.aload_n 0, 1) := by decide +kernel
theorem dX9_fewestParts_1 : decode cX9_fewestParts 1 = .ok (.ldc2_w 66, 3) := by decide +kernel
theorem dX9_fewestParts_4 : decode cX9_fewestParts 4 = .ok (.aload_n 0, 1) := by decide +kernel
theorem dX9_fewestParts_5 : decode cX9_fewestParts 5 = .ok (.getfield 31, 3) := by decide +kernel
theorem dX9_fewestParts_8 : decode cX9_fewestParts 8 = .ok (.getfield 68, 3) := by decide +kernel
theorem dX9_fewestParts_11 : decode cX9_fewestParts 11 = .ok (.iload_n 1, 1) := by decide +kernel
theorem dX9_fewestParts_12 : decode cX9_fewestParts 12 = .ok (.iaload, 1) := by decide +kernel
theorem dX9_fewestParts_13 : decode cX9_fewestParts 13 = .ok (.i2l, 1) := by decide +kernel
theorem dX9_fewestParts_14 : decode cX9_fewestParts 14 = .ok (.lmul, 1) := by decide +kernel
theorem dX9_fewestParts_15 : decode cX9_fewestParts 15 = .ok (.ldc2_w 66, 3) := by decide +kernel
theorem dX9_fewestParts_18 : decode cX9_fewestParts 18 = .ok (.aload_n 0, 1) := by decide +kernel
theorem dX9_fewestParts_19 : decode cX9_fewestParts 19 = .ok (.getfield 31, 3) := by decide +kernel
theorem dX9_fewestParts_22 : decode cX9_fewestParts 22 = .ok (.getfield 71, 3) := by decide +kernel
theorem dX9_fewestParts_25 : decode cX9_fewestParts 25 = .ok (.iload_n 1, 1) := by decide +kernel
theorem dX9_fewestParts_26 : decode cX9_fewestParts 26 = .ok (.iaload, 1) := by decide +kernel
theorem dX9_fewestParts_27 : decode cX9_fewestParts 27 = .ok (.i2l, 1) := by decide +kernel
theorem dX9_fewestParts_28 : decode cX9_fewestParts 28 = .ok (.lmul, 1) := by decide +kernel
theorem dX9_fewestParts_29 : decode cX9_fewestParts 29 = .ok (.ldc2_w 66, 3) := by decide +kernel
theorem dX9_fewestParts_32 : decode cX9_fewestParts 32 = .ok (.aload_n 0, 1) := by decide +kernel
theorem dX9_fewestParts_33 : decode cX9_fewestParts 33 = .ok (.getfield 31, 3) := by decide +kernel
theorem dX9_fewestParts_36 : decode cX9_fewestParts 36 = .ok (.getfield 68, 3) := by decide +kernel
theorem dX9_fewestParts_39 : decode cX9_fewestParts 39 = .ok (.iload_n 1, 1) := by decide +kernel
theorem dX9_fewestParts_40 : decode cX9_fewestParts 40 = .ok (.iconst 1, 1) := by decide +kernel
theorem dX9_fewestParts_41 : decode cX9_fewestParts 41 = .ok (.iadd, 1) := by decide +kernel
theorem dX9_fewestParts_42 : decode cX9_fewestParts 42 = .ok (.iaload, 1) := by decide +kernel
theorem dX9_fewestParts_43 : decode cX9_fewestParts 43 = .ok (.i2l, 1) := by decide +kernel
theorem dX9_fewestParts_44 : decode cX9_fewestParts 44 = .ok (.lmul, 1) := by decide +kernel
theorem dX9_fewestParts_45 : decode cX9_fewestParts 45 = .ok (.ldc2_w 66, 3) := by decide +kernel
theorem dX9_fewestParts_48 : decode cX9_fewestParts 48 = .ok (.aload_n 0, 1) := by decide +kernel
theorem dX9_fewestParts_49 : decode cX9_fewestParts 49 = .ok (.getfield 31, 3) := by decide +kernel
theorem dX9_fewestParts_52 : decode cX9_fewestParts 52 = .ok (.getfield 71, 3) := by decide +kernel
theorem dX9_fewestParts_55 : decode cX9_fewestParts 55 = .ok (.iload_n 1, 1) := by decide +kernel
theorem dX9_fewestParts_56 : decode cX9_fewestParts 56 = .ok (.iconst 1, 1) := by decide +kernel
theorem dX9_fewestParts_57 : decode cX9_fewestParts 57 = .ok (.iadd, 1) := by decide +kernel
theorem dX9_fewestParts_58 : decode cX9_fewestParts 58 = .ok (.iaload, 1) := by decide +kernel
theorem dX9_fewestParts_59 : decode cX9_fewestParts 59 = .ok (.i2l, 1) := by decide +kernel
theorem dX9_fewestParts_60 : decode cX9_fewestParts 60 = .ok (.lmul, 1) := by decide +kernel
theorem dX9_fewestParts_61 : decode cX9_fewestParts 61 = .ok (.invokevirtual 56, 3) := by decide +kernel
theorem dX9_fewestParts_64 : decode cX9_fewestParts 64 = .ok (.iconst 1, 1) := by decide +kernel
theorem dX9_fewestParts_65 : decode cX9_fewestParts 65 = .ok (.istore_n 3, 1) := by decide +kernel
theorem dX9_fewestParts_66 : decode cX9_fewestParts 66 = .ok (.iload_n 3, 1) := by decide +kernel
theorem dX9_fewestParts_67 : decode cX9_fewestParts 67 = .ok (.bipush 64, 2) := by decide +kernel
theorem dX9_fewestParts_69 : decode cX9_fewestParts 69 = .ok (.if_icmp .gt 21, 3) := by decide +kernel
theorem dX9_fewestParts_72 : decode cX9_fewestParts 72 = .ok (.aload_n 0, 1) := by decide +kernel
theorem dX9_fewestParts_73 : decode cX9_fewestParts 73 = .ok (.iload_n 1, 1) := by decide +kernel
theorem dX9_fewestParts_74 : decode cX9_fewestParts 74 = .ok (.iload_n 3, 1) := by decide +kernel
theorem dX9_fewestParts_75 : decode cX9_fewestParts 75 = .ok (.iload_n 2, 1) := by decide +kernel
theorem dX9_fewestParts_76 : decode cX9_fewestParts 76 = .ok (.invokevirtual 74, 3) := by decide +kernel
theorem dX9_fewestParts_79 : decode cX9_fewestParts 79 = .ok (.ifCond .eq 5, 3) := by decide +kernel
theorem dX9_fewestParts_82 : decode cX9_fewestParts 82 = .ok (.iload_n 3, 1) := by decide +kernel
theorem dX9_fewestParts_83 : decode cX9_fewestParts 83 = .ok (.ireturn, 1) := by decide +kernel
theorem dX9_fewestParts_84 : decode cX9_fewestParts 84 = .ok (.iinc 3 1, 3) := by decide +kernel
theorem dX9_fewestParts_87 : decode cX9_fewestParts 87 = .ok (.goto (-21), 3) := by decide +kernel
theorem dX9_fewestParts_90 : decode cX9_fewestParts 90 = .ok (.iconst (-1), 1) := by decide +kernel
theorem dX9_fewestParts_91 : decode cX9_fewestParts 91 = .ok (.ireturn, 1) := by decide +kernel
theorem dX9_isTrue_0 : decode cX9_isTrue 0 = .ok (.aload_n 0, 1) := by decide +kernel
theorem dX9_isTrue_1 : decode cX9_isTrue 1 = .ok (.getfield 31, 3) := by decide +kernel
theorem dX9_isTrue_4 : decode cX9_isTrue 4 = .ok (.getfield 35, 3) := by decide +kernel
theorem dX9_isTrue_7 : decode cX9_isTrue 7 = .ok (.iload_n 1, 1) := by decide +kernel
theorem dX9_isTrue_8 : decode cX9_isTrue 8 = .ok (.iaload, 1) := by decide +kernel
theorem dX9_isTrue_9 : decode cX9_isTrue 9 = .ok (.istore 4, 2) := by decide +kernel
theorem dX9_isTrue_11 : decode cX9_isTrue 11 = .ok (.aload_n 0, 1) := by decide +kernel
theorem dX9_isTrue_12 : decode cX9_isTrue 12 = .ok (.getfield 31, 3) := by decide +kernel
theorem dX9_isTrue_15 : decode cX9_isTrue 15 = .ok (.getfield 41, 3) := by decide +kernel
theorem dX9_isTrue_18 : decode cX9_isTrue 18 = .ok (.iload_n 1, 1) := by decide +kernel
theorem dX9_isTrue_19 : decode cX9_isTrue 19 = .ok (.iaload, 1) := by decide +kernel
theorem dX9_isTrue_20 : decode cX9_isTrue 20 = .ok (.istore 5, 2) := by decide +kernel
theorem dX9_isTrue_22 : decode cX9_isTrue 22 = .ok (.iconst 1, 1) := by decide +kernel
theorem dX9_isTrue_23 : decode cX9_isTrue 23 = .ok (.istore 6, 2) := by decide +kernel
theorem dX9_isTrue_25 : decode cX9_isTrue 25 = .ok (.iload 6, 2) := by decide +kernel
theorem dX9_isTrue_27 : decode cX9_isTrue 27 = .ok (.iload_n 2, 1) := by decide +kernel
theorem dX9_isTrue_28 : decode cX9_isTrue 28 = .ok (.if_icmp .gt 101, 3) := by decide +kernel
theorem dX9_isTrue_31 : decode cX9_isTrue 31 = .ok (.aload_n 0, 1) := by decide +kernel
theorem dX9_isTrue_32 : decode cX9_isTrue 32 = .ok (.getfield 9, 3) := by decide +kernel
theorem dX9_isTrue_35 : decode cX9_isTrue 35 = .ok (.iload 6, 2) := by decide +kernel
theorem dX9_isTrue_37 : decode cX9_isTrue 37 = .ok (.i2l, 1) := by decide +kernel
theorem dX9_isTrue_38 : decode cX9_isTrue 38 = .ok (.aload_n 0, 1) := by decide +kernel
theorem dX9_isTrue_39 : decode cX9_isTrue 39 = .ok (.getfield 18, 3) := by decide +kernel
theorem dX9_isTrue_42 : decode cX9_isTrue 42 = .ok (.lmul, 1) := by decide +kernel
theorem dX9_isTrue_43 : decode cX9_isTrue 43 = .ok (.iload_n 2, 1) := by decide +kernel
theorem dX9_isTrue_44 : decode cX9_isTrue 44 = .ok (.i2l, 1) := by decide +kernel
theorem dX9_isTrue_45 : decode cX9_isTrue 45 = .ok (.ldiv, 1) := by decide +kernel
theorem dX9_isTrue_46 : decode cX9_isTrue 46 = .ok (.ladd, 1) := by decide +kernel
theorem dX9_isTrue_47 : decode cX9_isTrue 47 = .ok (.lstore 7, 2) := by decide +kernel
theorem dX9_isTrue_49 : decode cX9_isTrue 49 = .ok (.aload_n 0, 1) := by decide +kernel
theorem dX9_isTrue_50 : decode cX9_isTrue 50 = .ok (.getfield 15, 3) := by decide +kernel
theorem dX9_isTrue_53 : decode cX9_isTrue 53 = .ok (.iload 6, 2) := by decide +kernel
theorem dX9_isTrue_55 : decode cX9_isTrue 55 = .ok (.i2l, 1) := by decide +kernel
theorem dX9_isTrue_56 : decode cX9_isTrue 56 = .ok (.aload_n 0, 1) := by decide +kernel
theorem dX9_isTrue_57 : decode cX9_isTrue 57 = .ok (.getfield 21, 3) := by decide +kernel
theorem dX9_isTrue_60 : decode cX9_isTrue 60 = .ok (.lmul, 1) := by decide +kernel
theorem dX9_isTrue_61 : decode cX9_isTrue 61 = .ok (.iload_n 2, 1) := by decide +kernel
theorem dX9_isTrue_62 : decode cX9_isTrue 62 = .ok (.i2l, 1) := by decide +kernel
theorem dX9_isTrue_63 : decode cX9_isTrue 63 = .ok (.ldiv, 1) := by decide +kernel
theorem dX9_isTrue_64 : decode cX9_isTrue 64 = .ok (.ladd, 1) := by decide +kernel
theorem dX9_isTrue_65 : decode cX9_isTrue 65 = .ok (.lstore 9, 2) := by decide +kernel
theorem dX9_isTrue_67 : decode cX9_isTrue 67 = .ok (.aload_n 0, 1) := by decide +kernel
theorem dX9_isTrue_68 : decode cX9_isTrue 68 = .ok (.getfield 27, 3) := by decide +kernel
theorem dX9_isTrue_71 : decode cX9_isTrue 71 = .ok (.lload 7, 2) := by decide +kernel
theorem dX9_isTrue_73 : decode cX9_isTrue 73 = .ok (.lload 9, 2) := by decide +kernel
theorem dX9_isTrue_75 : decode cX9_isTrue 75 = .ok (.invokevirtual 78, 3) := by decide +kernel
theorem dX9_isTrue_78 : decode cX9_isTrue 78 = .ok (.istore 11, 2) := by decide +kernel
theorem dX9_isTrue_80 : decode cX9_isTrue 80 = .ok (.aload_n 0, 1) := by decide +kernel
theorem dX9_isTrue_81 : decode cX9_isTrue 81 = .ok (.getfield 27, 3) := by decide +kernel
theorem dX9_isTrue_84 : decode cX9_isTrue 84 = .ok (.lload 7, 2) := by decide +kernel
theorem dX9_isTrue_86 : decode cX9_isTrue 86 = .ok (.lload 9, 2) := by decide +kernel
theorem dX9_isTrue_88 : decode cX9_isTrue 88 = .ok (.invokevirtual 82, 3) := by decide +kernel
theorem dX9_isTrue_91 : decode cX9_isTrue 91 = .ok (.istore 12, 2) := by decide +kernel
theorem dX9_isTrue_93 : decode cX9_isTrue 93 = .ok (.aload_n 0, 1) := by decide +kernel
theorem dX9_isTrue_94 : decode cX9_isTrue 94 = .ok (.iload 4, 2) := by decide +kernel
theorem dX9_isTrue_96 : decode cX9_isTrue 96 = .ok (.iload 5, 2) := by decide +kernel
theorem dX9_isTrue_98 : decode cX9_isTrue 98 = .ok (.iload 11, 2) := by decide +kernel
theorem dX9_isTrue_100 : decode cX9_isTrue 100 = .ok (.iload 12, 2) := by decide +kernel
theorem dX9_isTrue_102 : decode cX9_isTrue 102 = .ok (.iload_n 3, 1) := by decide +kernel
theorem dX9_isTrue_103 : decode cX9_isTrue 103 = .ok (.i2l, 1) := by decide +kernel
theorem dX9_isTrue_104 : decode cX9_isTrue 104 = .ok (.invokevirtual 62, 3) := by decide +kernel
theorem dX9_isTrue_107 : decode cX9_isTrue 107 = .ok (.iload_n 3, 1) := by decide +kernel
theorem dX9_isTrue_108 : decode cX9_isTrue 108 = .ok (.i2l, 1) := by decide +kernel
theorem dX9_isTrue_109 : decode cX9_isTrue 109 = .ok (.lcmp, 1) := by decide +kernel
theorem dX9_isTrue_110 : decode cX9_isTrue 110 = .ok (.ifCond .le 5, 3) := by decide +kernel
theorem dX9_isTrue_113 : decode cX9_isTrue 113 = .ok (.iconst 0, 1) := by decide +kernel
theorem dX9_isTrue_114 : decode cX9_isTrue 114 = .ok (.ireturn, 1) := by decide +kernel
theorem dX9_isTrue_115 : decode cX9_isTrue 115 = .ok (.iload 11, 2) := by decide +kernel
theorem dX9_isTrue_117 : decode cX9_isTrue 117 = .ok (.istore 4, 2) := by decide +kernel
theorem dX9_isTrue_119 : decode cX9_isTrue 119 = .ok (.iload 12, 2) := by decide +kernel
theorem dX9_isTrue_121 : decode cX9_isTrue 121 = .ok (.istore 5, 2) := by decide +kernel
theorem dX9_isTrue_123 : decode cX9_isTrue 123 = .ok (.iinc 6 1, 3) := by decide +kernel
theorem dX9_isTrue_126 : decode cX9_isTrue 126 = .ok (.goto (-101), 3) := by decide +kernel
theorem dX9_isTrue_129 : decode cX9_isTrue 129 = .ok (.iconst 1, 1) := by decide +kernel
theorem dX9_isTrue_130 : decode cX9_isTrue 130 = .ok (.ireturn, 1) := by decide +kernel
theorem dX9_aim_0 : decode cX9_aim 0 = .ok (.aload_n 0, 1) := by decide +kernel
theorem dX9_aim_1 : decode cX9_aim 1 = .ok (.lload_n 1, 1) := by decide +kernel
theorem dX9_aim_2 : decode cX9_aim 2 = .ok (.putfield 9, 3) := by decide +kernel
theorem dX9_aim_5 : decode cX9_aim 5 = .ok (.aload_n 0, 1) := by decide +kernel
theorem dX9_aim_6 : decode cX9_aim 6 = .ok (.lload_n 3, 1) := by decide +kernel
theorem dX9_aim_7 : decode cX9_aim 7 = .ok (.putfield 15, 3) := by decide +kernel
theorem dX9_aim_10 : decode cX9_aim 10 = .ok (.aload_n 0, 1) := by decide +kernel
theorem dX9_aim_11 : decode cX9_aim 11 = .ok (.lload 5, 2) := by decide +kernel
theorem dX9_aim_13 : decode cX9_aim 13 = .ok (.lload_n 1, 1) := by decide +kernel
theorem dX9_aim_14 : decode cX9_aim 14 = .ok (.lsub, 1) := by decide +kernel
theorem dX9_aim_15 : decode cX9_aim 15 = .ok (.putfield 18, 3) := by decide +kernel
theorem dX9_aim_18 : decode cX9_aim 18 = .ok (.aload_n 0, 1) := by decide +kernel
theorem dX9_aim_19 : decode cX9_aim 19 = .ok (.lload 7, 2) := by decide +kernel
theorem dX9_aim_21 : decode cX9_aim 21 = .ok (.lload_n 3, 1) := by decide +kernel
theorem dX9_aim_22 : decode cX9_aim 22 = .ok (.lsub, 1) := by decide +kernel
theorem dX9_aim_23 : decode cX9_aim 23 = .ok (.putfield 21, 3) := by decide +kernel
theorem dX9_aim_26 : decode cX9_aim 26 = .ok (.aload_n 0, 1) := by decide +kernel
theorem dX9_aim_27 : decode cX9_aim 27 = .ok (.aload_n 0, 1) := by decide +kernel
theorem dX9_aim_28 : decode cX9_aim 28 = .ok (.getfield 18, 3) := by decide +kernel
theorem dX9_aim_31 : decode cX9_aim 31 = .ok (.aload_n 0, 1) := by decide +kernel
theorem dX9_aim_32 : decode cX9_aim 32 = .ok (.getfield 18, 3) := by decide +kernel
theorem dX9_aim_35 : decode cX9_aim 35 = .ok (.lmul, 1) := by decide +kernel
theorem dX9_aim_36 : decode cX9_aim 36 = .ok (.aload_n 0, 1) := by decide +kernel
theorem dX9_aim_37 : decode cX9_aim 37 = .ok (.getfield 21, 3) := by decide +kernel
theorem dX9_aim_40 : decode cX9_aim 40 = .ok (.aload_n 0, 1) := by decide +kernel
theorem dX9_aim_41 : decode cX9_aim 41 = .ok (.getfield 21, 3) := by decide +kernel
theorem dX9_aim_44 : decode cX9_aim 44 = .ok (.lmul, 1) := by decide +kernel
theorem dX9_aim_45 : decode cX9_aim 45 = .ok (.ladd, 1) := by decide +kernel
theorem dX9_aim_46 : decode cX9_aim 46 = .ok (.aload_n 0, 1) := by decide +kernel
theorem dX9_aim_47 : decode cX9_aim 47 = .ok (.getfield 18, 3) := by decide +kernel
theorem dX9_aim_50 : decode cX9_aim 50 = .ok (.invokestatic 85, 3) := by decide +kernel
theorem dX9_aim_53 : decode cX9_aim 53 = .ok (.aload_n 0, 1) := by decide +kernel
theorem dX9_aim_54 : decode cX9_aim 54 = .ok (.getfield 21, 3) := by decide +kernel
theorem dX9_aim_57 : decode cX9_aim 57 = .ok (.invokestatic 85, 3) := by decide +kernel
theorem dX9_aim_60 : decode cX9_aim 60 = .ok (.ladd, 1) := by decide +kernel
theorem dX9_aim_61 : decode cX9_aim 61 = .ok (.invokestatic 89, 3) := by decide +kernel
theorem dX9_aim_64 : decode cX9_aim 64 = .ok (.lconst 1, 1) := by decide +kernel
theorem dX9_aim_65 : decode cX9_aim 65 = .ok (.invokestatic 93, 3) := by decide +kernel
theorem dX9_aim_68 : decode cX9_aim 68 = .ok (.putfield 24, 3) := by decide +kernel
theorem dX9_aim_71 : decode cX9_aim 71 = .ok (.return_, 1) := by decide +kernel
theorem dX9_furthest_0 : decode cX9_furthest 0 = .ok (.iload_n 3, 1) := by decide +kernel
theorem dX9_furthest_1 : decode cX9_furthest 1 = .ok (.iload_n 1, 1) := by decide +kernel
theorem dX9_furthest_2 : decode cX9_furthest 2 = .ok (.isub, 1) := by decide +kernel
theorem dX9_furthest_3 : decode cX9_furthest 3 = .ok (.invokestatic 98, 3) := by decide +kernel
theorem dX9_furthest_6 : decode cX9_furthest 6 = .ok (.iload 4, 2) := by decide +kernel
theorem dX9_furthest_8 : decode cX9_furthest 8 = .ok (.iload_n 2, 1) := by decide +kernel
theorem dX9_furthest_9 : decode cX9_furthest 9 = .ok (.isub, 1) := by decide +kernel
theorem dX9_furthest_10 : decode cX9_furthest 10 = .ok (.invokestatic 98, 3) := by decide +kernel
theorem dX9_furthest_13 : decode cX9_furthest 13 = .ok (.invokestatic 102, 3) := by decide +kernel
theorem dX9_furthest_16 : decode cX9_furthest 16 = .ok (.istore 7, 2) := by decide +kernel
theorem dX9_furthest_18 : decode cX9_furthest 18 = .ok (.lconst 0, 1) := by decide +kernel
theorem dX9_furthest_19 : decode cX9_furthest 19 = .ok (.lstore 8, 2) := by decide +kernel
theorem dX9_furthest_21 : decode cX9_furthest 21 = .ok (.iconst 0, 1) := by decide +kernel
theorem dX9_furthest_22 : decode cX9_furthest 22 = .ok (.istore 10, 2) := by decide +kernel
theorem dX9_furthest_24 : decode cX9_furthest 24 = .ok (.iload 10, 2) := by decide +kernel
theorem dX9_furthest_26 : decode cX9_furthest 26 = .ok (.iload 7, 2) := by decide +kernel
theorem dX9_furthest_28 : decode cX9_furthest 28 = .ok (.if_icmp .gt 95, 3) := by decide +kernel
theorem dX9_furthest_31 : decode cX9_furthest 31 = .ok (.lload 8, 2) := by decide +kernel
theorem dX9_furthest_33 : decode cX9_furthest 33 = .ok (.lload 5, 2) := by decide +kernel
theorem dX9_furthest_35 : decode cX9_furthest 35 = .ok (.lcmp, 1) := by decide +kernel
theorem dX9_furthest_36 : decode cX9_furthest 36 = .ok (.ifCond .gt 87, 3) := by decide +kernel
theorem dX9_furthest_39 : decode cX9_furthest 39 = .ok (.aload_n 0, 1) := by decide +kernel
theorem dX9_furthest_40 : decode cX9_furthest 40 = .ok (.getfield 27, 3) := by decide +kernel
theorem dX9_furthest_43 : decode cX9_furthest 43 = .ok (.iload_n 1, 1) := by decide +kernel
theorem dX9_furthest_44 : decode cX9_furthest 44 = .ok (.iload_n 3, 1) := by decide +kernel
theorem dX9_furthest_45 : decode cX9_furthest 45 = .ok (.iload 10, 2) := by decide +kernel
theorem dX9_furthest_47 : decode cX9_furthest 47 = .ok (.iload 7, 2) := by decide +kernel
theorem dX9_furthest_49 : decode cX9_furthest 49 = .ok (.invokestatic 105, 3) := by decide +kernel
theorem dX9_furthest_52 : decode cX9_furthest 52 = .ok (.i2l, 1) := by decide +kernel
theorem dX9_furthest_53 : decode cX9_furthest 53 = .ok (.iload_n 2, 1) := by decide +kernel
theorem dX9_furthest_54 : decode cX9_furthest 54 = .ok (.iload 4, 2) := by decide +kernel
theorem dX9_furthest_56 : decode cX9_furthest 56 = .ok (.iload 10, 2) := by decide +kernel
theorem dX9_furthest_58 : decode cX9_furthest 58 = .ok (.iload 7, 2) := by decide +kernel
theorem dX9_furthest_60 : decode cX9_furthest 60 = .ok (.invokestatic 105, 3) := by decide +kernel
theorem dX9_furthest_63 : decode cX9_furthest 63 = .ok (.i2l, 1) := by decide +kernel
theorem dX9_furthest_64 : decode cX9_furthest 64 = .ok (.invokevirtual 44, 3) := by decide +kernel
theorem dX9_furthest_67 : decode cX9_furthest 67 = .ok (.lload 8, 2) := by decide +kernel
theorem dX9_furthest_69 : decode cX9_furthest 69 = .ok (.aload_n 0, 1) := by decide +kernel
theorem dX9_furthest_70 : decode cX9_furthest 70 = .ok (.getfield 18, 3) := by decide +kernel
theorem dX9_furthest_73 : decode cX9_furthest 73 = .ok (.aload_n 0, 1) := by decide +kernel
theorem dX9_furthest_74 : decode cX9_furthest 74 = .ok (.getfield 27, 3) := by decide +kernel
theorem dX9_furthest_77 : decode cX9_furthest 77 = .ok (.getfield 53, 3) := by decide +kernel
theorem dX9_furthest_80 : decode cX9_furthest 80 = .ok (.aload_n 0, 1) := by decide +kernel
theorem dX9_furthest_81 : decode cX9_furthest 81 = .ok (.getfield 15, 3) := by decide +kernel
theorem dX9_furthest_84 : decode cX9_furthest 84 = .ok (.lsub, 1) := by decide +kernel
theorem dX9_furthest_85 : decode cX9_furthest 85 = .ok (.lmul, 1) := by decide +kernel
theorem dX9_furthest_86 : decode cX9_furthest 86 = .ok (.aload_n 0, 1) := by decide +kernel
theorem dX9_furthest_87 : decode cX9_furthest 87 = .ok (.getfield 21, 3) := by decide +kernel
theorem dX9_furthest_90 : decode cX9_furthest 90 = .ok (.aload_n 0, 1) := by decide +kernel
theorem dX9_furthest_91 : decode cX9_furthest 91 = .ok (.getfield 27, 3) := by decide +kernel
theorem dX9_furthest_94 : decode cX9_furthest 94 = .ok (.getfield 50, 3) := by decide +kernel
theorem dX9_furthest_97 : decode cX9_furthest 97 = .ok (.aload_n 0, 1) := by decide +kernel
theorem dX9_furthest_98 : decode cX9_furthest 98 = .ok (.getfield 9, 3) := by decide +kernel
theorem dX9_furthest_101 : decode cX9_furthest 101 = .ok (.lsub, 1) := by decide +kernel
theorem dX9_furthest_102 : decode cX9_furthest 102 = .ok (.lmul, 1) := by decide +kernel
theorem dX9_furthest_103 : decode cX9_furthest 103 = .ok (.lsub, 1) := by decide +kernel
theorem dX9_furthest_104 : decode cX9_furthest 104 = .ok (.invokestatic 85, 3) := by decide +kernel
theorem dX9_furthest_107 : decode cX9_furthest 107 = .ok (.aload_n 0, 1) := by decide +kernel
theorem dX9_furthest_108 : decode cX9_furthest 108 = .ok (.getfield 24, 3) := by decide +kernel
theorem dX9_furthest_111 : decode cX9_furthest 111 = .ok (.ldiv, 1) := by decide +kernel
theorem dX9_furthest_112 : decode cX9_furthest 112 = .ok (.invokestatic 93, 3) := by decide +kernel
theorem dX9_furthest_115 : decode cX9_furthest 115 = .ok (.lstore 8, 2) := by decide +kernel
theorem dX9_furthest_117 : decode cX9_furthest 117 = .ok (.iinc 10 1, 3) := by decide +kernel
theorem dX9_furthest_120 : decode cX9_furthest 120 = .ok (.goto (-96), 3) := by decide +kernel
theorem dX9_furthest_123 : decode cX9_furthest 123 = .ok (.lload 8, 2) := by decide +kernel
theorem dX9_furthest_125 : decode cX9_furthest 125 = .ok (.lreturn, 1) := by decide +kernel
theorem dX9_countSkips_0 : decode cX9_countSkips 0 = .ok (.iconst 0, 1) := by decide +kernel
theorem dX9_countSkips_1 : decode cX9_countSkips 1 = .ok (.istore_n 2, 1) := by decide +kernel
theorem dX9_countSkips_2 : decode cX9_countSkips 2 = .ok (.iconst 0, 1) := by decide +kernel
theorem dX9_countSkips_3 : decode cX9_countSkips 3 = .ok (.istore_n 3, 1) := by decide +kernel
theorem dX9_countSkips_4 : decode cX9_countSkips 4 = .ok (.iload_n 3, 1) := by decide +kernel
theorem dX9_countSkips_5 : decode cX9_countSkips 5 = .ok (.aload_n 0, 1) := by decide +kernel
theorem dX9_countSkips_6 : decode cX9_countSkips 6 = .ok (.getfield 31, 3) := by decide +kernel
theorem dX9_countSkips_9 : decode cX9_countSkips 9 = .ok (.getfield 109, 3) := by decide +kernel
theorem dX9_countSkips_12 : decode cX9_countSkips 12 = .ok (.if_icmp .ge 32, 3) := by decide +kernel
theorem dX9_countSkips_15 : decode cX9_countSkips 15 = .ok (.aload_n 0, 1) := by decide +kernel
theorem dX9_countSkips_16 : decode cX9_countSkips 16 = .ok (.getfield 31, 3) := by decide +kernel
theorem dX9_countSkips_19 : decode cX9_countSkips 19 = .ok (.getfield 113, 3) := by decide +kernel
theorem dX9_countSkips_22 : decode cX9_countSkips 22 = .ok (.iload_n 3, 1) := by decide +kernel
theorem dX9_countSkips_23 : decode cX9_countSkips 23 = .ok (.iconst 1, 1) := by decide +kernel
theorem dX9_countSkips_24 : decode cX9_countSkips 24 = .ok (.iadd, 1) := by decide +kernel
theorem dX9_countSkips_25 : decode cX9_countSkips 25 = .ok (.baload, 1) := by decide +kernel
theorem dX9_countSkips_26 : decode cX9_countSkips 26 = .ok (.ifCond .eq 12, 3) := by decide +kernel
theorem dX9_countSkips_29 : decode cX9_countSkips 29 = .ok (.iload_n 2, 1) := by decide +kernel
theorem dX9_countSkips_30 : decode cX9_countSkips 30 = .ok (.aload_n 0, 1) := by decide +kernel
theorem dX9_countSkips_31 : decode cX9_countSkips 31 = .ok (.iload_n 3, 1) := by decide +kernel
theorem dX9_countSkips_32 : decode cX9_countSkips 32 = .ok (.iload_n 1, 1) := by decide +kernel
theorem dX9_countSkips_33 : decode cX9_countSkips 33 = .ok (.invokevirtual 117, 3) := by decide +kernel
theorem dX9_countSkips_36 : decode cX9_countSkips 36 = .ok (.iadd, 1) := by decide +kernel
theorem dX9_countSkips_37 : decode cX9_countSkips 37 = .ok (.istore_n 2, 1) := by decide +kernel
theorem dX9_countSkips_38 : decode cX9_countSkips 38 = .ok (.iinc 3 1, 3) := by decide +kernel
theorem dX9_countSkips_41 : decode cX9_countSkips 41 = .ok (.goto (-37), 3) := by decide +kernel
theorem dX9_countSkips_44 : decode cX9_countSkips 44 = .ok (.iload_n 2, 1) := by decide +kernel
theorem dX9_countSkips_45 : decode cX9_countSkips 45 = .ok (.ireturn, 1) := by decide +kernel
theorem dX9_skipsOf_0 : decode cX9_skipsOf 0 = .ok (.aload_n 0, 1) := by decide +kernel
theorem dX9_skipsOf_1 : decode cX9_skipsOf 1 = .ok (.getfield 31, 3) := by decide +kernel
theorem dX9_skipsOf_4 : decode cX9_skipsOf 4 = .ok (.iload_n 1, 1) := by decide +kernel
theorem dX9_skipsOf_5 : decode cX9_skipsOf 5 = .ok (.invokevirtual 120, 3) := by decide +kernel
theorem dX9_skipsOf_8 : decode cX9_skipsOf 8 = .ok (.istore_n 3, 1) := by decide +kernel
theorem dX9_skipsOf_9 : decode cX9_skipsOf 9 = .ok (.iconst 0, 1) := by decide +kernel
theorem dX9_skipsOf_10 : decode cX9_skipsOf 10 = .ok (.istore 4, 2) := by decide +kernel
theorem dX9_skipsOf_12 : decode cX9_skipsOf 12 = .ok (.aload_n 0, 1) := by decide +kernel
theorem dX9_skipsOf_13 : decode cX9_skipsOf 13 = .ok (.getfield 27, 3) := by decide +kernel
theorem dX9_skipsOf_16 : decode cX9_skipsOf 16 = .ok (.aload_n 0, 1) := by decide +kernel
theorem dX9_skipsOf_17 : decode cX9_skipsOf 17 = .ok (.getfield 31, 3) := by decide +kernel
theorem dX9_skipsOf_20 : decode cX9_skipsOf 20 = .ok (.getfield 35, 3) := by decide +kernel
theorem dX9_skipsOf_23 : decode cX9_skipsOf 23 = .ok (.iload_n 1, 1) := by decide +kernel
theorem dX9_skipsOf_24 : decode cX9_skipsOf 24 = .ok (.iaload, 1) := by decide +kernel
theorem dX9_skipsOf_25 : decode cX9_skipsOf 25 = .ok (.i2l, 1) := by decide +kernel
theorem dX9_skipsOf_26 : decode cX9_skipsOf 26 = .ok (.aload_n 0, 1) := by decide +kernel
theorem dX9_skipsOf_27 : decode cX9_skipsOf 27 = .ok (.getfield 31, 3) := by decide +kernel
theorem dX9_skipsOf_30 : decode cX9_skipsOf 30 = .ok (.getfield 41, 3) := by decide +kernel
theorem dX9_skipsOf_33 : decode cX9_skipsOf 33 = .ok (.iload_n 1, 1) := by decide +kernel
theorem dX9_skipsOf_34 : decode cX9_skipsOf 34 = .ok (.iaload, 1) := by decide +kernel
theorem dX9_skipsOf_35 : decode cX9_skipsOf 35 = .ok (.i2l, 1) := by decide +kernel
theorem dX9_skipsOf_36 : decode cX9_skipsOf 36 = .ok (.invokevirtual 44, 3) := by decide +kernel
theorem dX9_skipsOf_39 : decode cX9_skipsOf 39 = .ok (.iconst 1, 1) := by decide +kernel
theorem dX9_skipsOf_40 : decode cX9_skipsOf 40 = .ok (.istore 5, 2) := by decide +kernel
theorem dX9_skipsOf_42 : decode cX9_skipsOf 42 = .ok (.iload 5, 2) := by decide +kernel
theorem dX9_skipsOf_44 : decode cX9_skipsOf 44 = .ok (.iload_n 3, 1) := by decide +kernel
theorem dX9_skipsOf_45 : decode cX9_skipsOf 45 = .ok (.if_icmp .gt 124, 3) := by decide +kernel
theorem dX9_skipsOf_48 : decode cX9_skipsOf 48 = .ok (.aload_n 0, 1) := by decide +kernel
theorem dX9_skipsOf_49 : decode cX9_skipsOf 49 = .ok (.getfield 27, 3) := by decide +kernel
theorem dX9_skipsOf_52 : decode cX9_skipsOf 52 = .ok (.getfield 50, 3) := by decide +kernel
theorem dX9_skipsOf_55 : decode cX9_skipsOf 55 = .ok (.lstore 6, 2) := by decide +kernel
theorem dX9_skipsOf_57 : decode cX9_skipsOf 57 = .ok (.aload_n 0, 1) := by decide +kernel
theorem dX9_skipsOf_58 : decode cX9_skipsOf 58 = .ok (.getfield 27, 3) := by decide +kernel
theorem dX9_skipsOf_61 : decode cX9_skipsOf 61 = .ok (.getfield 53, 3) := by decide +kernel
theorem dX9_skipsOf_64 : decode cX9_skipsOf 64 = .ok (.lstore 8, 2) := by decide +kernel
theorem dX9_skipsOf_66 : decode cX9_skipsOf 66 = .ok (.aload_n 0, 1) := by decide +kernel
theorem dX9_skipsOf_67 : decode cX9_skipsOf 67 = .ok (.getfield 27, 3) := by decide +kernel
theorem dX9_skipsOf_70 : decode cX9_skipsOf 70 = .ok (.aload_n 0, 1) := by decide +kernel
theorem dX9_skipsOf_71 : decode cX9_skipsOf 71 = .ok (.getfield 31, 3) := by decide +kernel
theorem dX9_skipsOf_74 : decode cX9_skipsOf 74 = .ok (.getfield 35, 3) := by decide +kernel
theorem dX9_skipsOf_77 : decode cX9_skipsOf 77 = .ok (.iload_n 1, 1) := by decide +kernel
theorem dX9_skipsOf_78 : decode cX9_skipsOf 78 = .ok (.iaload, 1) := by decide +kernel
theorem dX9_skipsOf_79 : decode cX9_skipsOf 79 = .ok (.aload_n 0, 1) := by decide +kernel
theorem dX9_skipsOf_80 : decode cX9_skipsOf 80 = .ok (.getfield 31, 3) := by decide +kernel
theorem dX9_skipsOf_83 : decode cX9_skipsOf 83 = .ok (.getfield 35, 3) := by decide +kernel
theorem dX9_skipsOf_86 : decode cX9_skipsOf 86 = .ok (.iload_n 1, 1) := by decide +kernel
theorem dX9_skipsOf_87 : decode cX9_skipsOf 87 = .ok (.iconst 1, 1) := by decide +kernel
theorem dX9_skipsOf_88 : decode cX9_skipsOf 88 = .ok (.iadd, 1) := by decide +kernel
theorem dX9_skipsOf_89 : decode cX9_skipsOf 89 = .ok (.iaload, 1) := by decide +kernel
theorem dX9_skipsOf_90 : decode cX9_skipsOf 90 = .ok (.iload 5, 2) := by decide +kernel
theorem dX9_skipsOf_92 : decode cX9_skipsOf 92 = .ok (.iload_n 3, 1) := by decide +kernel
theorem dX9_skipsOf_93 : decode cX9_skipsOf 93 = .ok (.invokestatic 105, 3) := by decide +kernel
theorem dX9_skipsOf_96 : decode cX9_skipsOf 96 = .ok (.i2l, 1) := by decide +kernel
theorem dX9_skipsOf_97 : decode cX9_skipsOf 97 = .ok (.aload_n 0, 1) := by decide +kernel
theorem dX9_skipsOf_98 : decode cX9_skipsOf 98 = .ok (.getfield 31, 3) := by decide +kernel
theorem dX9_skipsOf_101 : decode cX9_skipsOf 101 = .ok (.getfield 41, 3) := by decide +kernel
theorem dX9_skipsOf_104 : decode cX9_skipsOf 104 = .ok (.iload_n 1, 1) := by decide +kernel
theorem dX9_skipsOf_105 : decode cX9_skipsOf 105 = .ok (.iaload, 1) := by decide +kernel
theorem dX9_skipsOf_106 : decode cX9_skipsOf 106 = .ok (.aload_n 0, 1) := by decide +kernel
theorem dX9_skipsOf_107 : decode cX9_skipsOf 107 = .ok (.getfield 31, 3) := by decide +kernel
theorem dX9_skipsOf_110 : decode cX9_skipsOf 110 = .ok (.getfield 41, 3) := by decide +kernel
theorem dX9_skipsOf_113 : decode cX9_skipsOf 113 = .ok (.iload_n 1, 1) := by decide +kernel
theorem dX9_skipsOf_114 : decode cX9_skipsOf 114 = .ok (.iconst 1, 1) := by decide +kernel
theorem dX9_skipsOf_115 : decode cX9_skipsOf 115 = .ok (.iadd, 1) := by decide +kernel
theorem dX9_skipsOf_116 : decode cX9_skipsOf 116 = .ok (.iaload, 1) := by decide +kernel
theorem dX9_skipsOf_117 : decode cX9_skipsOf 117 = .ok (.iload 5, 2) := by decide +kernel
theorem dX9_skipsOf_119 : decode cX9_skipsOf 119 = .ok (.iload_n 3, 1) := by decide +kernel
theorem dX9_skipsOf_120 : decode cX9_skipsOf 120 = .ok (.invokestatic 105, 3) := by decide +kernel
theorem dX9_skipsOf_123 : decode cX9_skipsOf 123 = .ok (.i2l, 1) := by decide +kernel
theorem dX9_skipsOf_124 : decode cX9_skipsOf 124 = .ok (.invokevirtual 44, 3) := by decide +kernel
theorem dX9_skipsOf_127 : decode cX9_skipsOf 127 = .ok (.aload_n 0, 1) := by decide +kernel
theorem dX9_skipsOf_128 : decode cX9_skipsOf 128 = .ok (.getfield 27, 3) := by decide +kernel
theorem dX9_skipsOf_131 : decode cX9_skipsOf 131 = .ok (.getfield 50, 3) := by decide +kernel
theorem dX9_skipsOf_134 : decode cX9_skipsOf 134 = .ok (.lload 6, 2) := by decide +kernel
theorem dX9_skipsOf_136 : decode cX9_skipsOf 136 = .ok (.lsub, 1) := by decide +kernel
theorem dX9_skipsOf_137 : decode cX9_skipsOf 137 = .ok (.invokestatic 85, 3) := by decide +kernel
theorem dX9_skipsOf_140 : decode cX9_skipsOf 140 = .ok (.aload_n 0, 1) := by decide +kernel
theorem dX9_skipsOf_141 : decode cX9_skipsOf 141 = .ok (.getfield 27, 3) := by decide +kernel
theorem dX9_skipsOf_144 : decode cX9_skipsOf 144 = .ok (.getfield 53, 3) := by decide +kernel
theorem dX9_skipsOf_147 : decode cX9_skipsOf 147 = .ok (.lload 8, 2) := by decide +kernel
theorem dX9_skipsOf_149 : decode cX9_skipsOf 149 = .ok (.lsub, 1) := by decide +kernel
theorem dX9_skipsOf_150 : decode cX9_skipsOf 150 = .ok (.invokestatic 85, 3) := by decide +kernel
theorem dX9_skipsOf_153 : decode cX9_skipsOf 153 = .ok (.ladd, 1) := by decide +kernel
theorem dX9_skipsOf_154 : decode cX9_skipsOf 154 = .ok (.iload_n 2, 1) := by decide +kernel
theorem dX9_skipsOf_155 : decode cX9_skipsOf 155 = .ok (.i2l, 1) := by decide +kernel
theorem dX9_skipsOf_156 : decode cX9_skipsOf 156 = .ok (.lcmp, 1) := by decide +kernel
theorem dX9_skipsOf_157 : decode cX9_skipsOf 157 = .ok (.ifCond .le 6, 3) := by decide +kernel
theorem dX9_skipsOf_160 : decode cX9_skipsOf 160 = .ok (.iinc 4 1, 3) := by decide +kernel
theorem dX9_skipsOf_163 : decode cX9_skipsOf 163 = .ok (.iinc 5 1, 3) := by decide +kernel
theorem dX9_skipsOf_166 : decode cX9_skipsOf 166 = .ok (.goto (-124), 3) := by decide +kernel
theorem dX9_skipsOf_169 : decode cX9_skipsOf 169 = .ok (.iload 4, 2) := by decide +kernel
theorem dX9_skipsOf_171 : decode cX9_skipsOf 171 = .ok (.ireturn, 1) := by decide +kernel
theorem dX10_init_0 : decode cX10_init 0 = .ok (.aload_n 0, 1) := by decide +kernel
theorem dX10_init_1 : decode cX10_init 1 = .ok (.invokespecial 3, 3) := by decide +kernel
theorem dX10_init_4 : decode cX10_init 4 = .ok (.aload_n 0, 1) := by decide +kernel
theorem dX10_init_5 : decode cX10_init 5 = .ok (.bipush 100, 2) := by decide +kernel
theorem dX10_init_7 : decode cX10_init 7 = .ok (.putfield 9, 3) := by decide +kernel
theorem dX10_init_10 : decode cX10_init 10 = .ok (.aload_n 0, 1) := by decide +kernel
theorem dX10_init_11 : decode cX10_init 11 = .ok (.bipush 100, 2) := by decide +kernel
theorem dX10_init_13 : decode cX10_init 13 = .ok (.putfield 15, 3) := by decide +kernel
theorem dX10_init_16 : decode cX10_init 16 = .ok (.aload_n 0, 1) := by decide +kernel
theorem dX10_init_17 : decode cX10_init 17 = .ok (.iconst 4, 1) := by decide +kernel
theorem dX10_init_18 : decode cX10_init 18 = .ok (.putfield 18, 3) := by decide +kernel
theorem dX10_init_21 : decode cX10_init 21 = .ok (.aload_n 0, 1) := by decide +kernel
theorem dX10_init_22 : decode cX10_init 22 = .ok (.iconst 0, 1) := by decide +kernel
theorem dX10_init_23 : decode cX10_init 23 = .ok (.putfield 21, 3) := by decide +kernel
theorem dX10_init_26 : decode cX10_init 26 = .ok (.aload_n 0, 1) := by decide +kernel
theorem dX10_init_27 : decode cX10_init 27 = .ok (.iconst 1, 1) := by decide +kernel
theorem dX10_init_28 : decode cX10_init 28 = .ok (.putfield 24, 3) := by decide +kernel
theorem dX10_init_31 : decode cX10_init 31 = .ok (.aload_n 0, 1) := by decide +kernel
theorem dX10_init_32 : decode cX10_init 32 = .ok (.sipush 9999, 3) := by decide +kernel
theorem dX10_init_35 : decode cX10_init 35 = .ok (.putfield 27, 3) := by decide +kernel
theorem dX10_init_38 : decode cX10_init 38 = .ok (.aload_n 0, 1) := by decide +kernel
theorem dX10_init_39 : decode cX10_init 39 = .ok (.lconst 0, 1) := by decide +kernel
theorem dX10_init_40 : decode cX10_init 40 = .ok (.putfield 30, 3) := by decide +kernel
theorem dX10_init_43 : decode cX10_init 43 = .ok (.aload_n 0, 1) := by decide +kernel
theorem dX10_init_44 : decode cX10_init 44 = .ok (.lconst 0, 1) := by decide +kernel
theorem dX10_init_45 : decode cX10_init 45 = .ok (.putfield 34, 3) := by decide +kernel
theorem dX10_init_48 : decode cX10_init 48 = .ok (.aload_n 0, 1) := by decide +kernel
theorem dX10_init_49 : decode cX10_init 49 = .ok (.iconst (-1), 1) := by decide +kernel
theorem dX10_init_50 : decode cX10_init 50 = .ok (.putfield 37, 3) := by decide +kernel
theorem dX10_init_53 : decode cX10_init 53 = .ok (.return_, 1) := by decide +kernel
theorem dX10_holds_0 : decode cX10_holds 0 = .ok (.iload_n 1, 1) := by decide +kernel
theorem dX10_holds_1 : decode cX10_holds 1 = .ok (.iconst 0, 1) := by decide +kernel
theorem dX10_holds_2 : decode cX10_holds 2 = .ok (.bipush 100, 2) := by decide +kernel
theorem dX10_holds_4 : decode cX10_holds 4 = .ok (.aload_n 0, 1) := by decide +kernel
theorem dX10_holds_5 : decode cX10_holds 5 = .ok (.getfield 9, 3) := by decide +kernel
theorem dX10_holds_8 : decode cX10_holds 8 = .ok (.imul, 1) := by decide +kernel
theorem dX10_holds_9 : decode cX10_holds 9 = .ok (.invokestatic 40, 3) := by decide +kernel
theorem dX10_holds_12 : decode cX10_holds 12 = .ok (.ifCond .eq 22, 3) := by decide +kernel
theorem dX10_holds_15 : decode cX10_holds 15 = .ok (.iload_n 2, 1) := by decide +kernel
theorem dX10_holds_16 : decode cX10_holds 16 = .ok (.iconst 0, 1) := by decide +kernel
theorem dX10_holds_17 : decode cX10_holds 17 = .ok (.bipush 100, 2) := by decide +kernel
theorem dX10_holds_19 : decode cX10_holds 19 = .ok (.aload_n 0, 1) := by decide +kernel
theorem dX10_holds_20 : decode cX10_holds 20 = .ok (.getfield 15, 3) := by decide +kernel
theorem dX10_holds_23 : decode cX10_holds 23 = .ok (.imul, 1) := by decide +kernel
theorem dX10_holds_24 : decode cX10_holds 24 = .ok (.invokestatic 40, 3) := by decide +kernel
theorem dX10_holds_27 : decode cX10_holds 27 = .ok (.ifCond .eq 7, 3) := by decide +kernel
theorem dX10_holds_30 : decode cX10_holds 30 = .ok (.iconst 1, 1) := by decide +kernel
theorem dX10_holds_31 : decode cX10_holds 31 = .ok (.goto 4, 3) := by decide +kernel
theorem dX10_holds_34 : decode cX10_holds 34 = .ok (.iconst 0, 1) := by decide +kernel
theorem dX10_holds_35 : decode cX10_holds 35 = .ok (.ireturn, 1) := by decide +kernel
theorem dX10_hung_0 : decode cX10_hung 0 = .ok (.lload_n 1, 1) := by decide +kernel
theorem dX10_hung_1 : decode cX10_hung 1 = .ok (.lload_n 1, 1) := by decide +kernel
theorem dX10_hung_2 : decode cX10_hung 2 = .ok (.aload_n 0, 1) := by decide +kernel
theorem dX10_hung_3 : decode cX10_hung 3 = .ok (.getfield 21, 3) := by decide +kernel
theorem dX10_hung_6 : decode cX10_hung 6 = .ok (.i2l, 1) := by decide +kernel
theorem dX10_hung_7 : decode cX10_hung 7 = .ok (.lmul, 1) := by decide +kernel
theorem dX10_hung_8 : decode cX10_hung 8 = .ok (.ldc2_w 44, 3) := by decide +kernel
theorem dX10_hung_11 : decode cX10_hung 11 = .ok (.ldiv, 1) := by decide +kernel
theorem dX10_hung_12 : decode cX10_hung 12 = .ok (.ladd, 1) := by decide +kernel
theorem dX10_hung_13 : decode cX10_hung 13 = .ok (.lreturn, 1) := by decide +kernel
theorem dX10_leftSteps_0 : decode cX10_leftSteps 0 = .ok (.aload_n 0, 1) := by decide +kernel
theorem dX10_leftSteps_1 : decode cX10_leftSteps 1 = .ok (.getfield 18, 3) := by decide +kernel
theorem dX10_leftSteps_4 : decode cX10_leftSteps 4 = .ok (.i2l, 1) := by decide +kernel
theorem dX10_leftSteps_5 : decode cX10_leftSteps 5 = .ok (.aload_n 0, 1) := by decide +kernel
theorem dX10_leftSteps_6 : decode cX10_leftSteps 6 = .ok (.getfield 18, 3) := by decide +kernel
theorem dX10_leftSteps_9 : decode cX10_leftSteps 9 = .ok (.i2l, 1) := by decide +kernel
theorem dX10_leftSteps_10 : decode cX10_leftSteps 10 = .ok (.lmul, 1) := by decide +kernel
theorem dX10_leftSteps_11 : decode cX10_leftSteps 11 = .ok (.lload_n 1, 1) := by decide +kernel
theorem dX10_leftSteps_12 : decode cX10_leftSteps 12 = .ok (.lload_n 1, 1) := by decide +kernel
theorem dX10_leftSteps_13 : decode cX10_leftSteps 13 = .ok (.lmul, 1) := by decide +kernel
theorem dX10_leftSteps_14 : decode cX10_leftSteps 14 = .ok (.lload_n 3, 1) := by decide +kernel
theorem dX10_leftSteps_15 : decode cX10_leftSteps 15 = .ok (.lload_n 3, 1) := by decide +kernel
theorem dX10_leftSteps_16 : decode cX10_leftSteps 16 = .ok (.lmul, 1) := by decide +kernel
theorem dX10_leftSteps_17 : decode cX10_leftSteps 17 = .ok (.ladd, 1) := by decide +kernel
theorem dX10_leftSteps_18 : decode cX10_leftSteps 18 = .ok (.lmul, 1) := by decide +kernel
theorem dX10_leftSteps_19 : decode cX10_leftSteps 19 = .ok (.lstore 5, 2) := by decide +kernel
theorem dX10_leftSteps_21 : decode cX10_leftSteps 21 = .ok (.lload 5, 2) := by decide +kernel
theorem dX10_leftSteps_23 : decode cX10_leftSteps 23 = .ok (.aload_n 0, 1) := by decide +kernel
theorem dX10_leftSteps_24 : decode cX10_leftSteps 24 = .ok (.getfield 18, 3) := by decide +kernel
theorem dX10_leftSteps_27 : decode cX10_leftSteps 27 = .ok (.i2l, 1) := by decide +kernel
theorem dX10_leftSteps_28 : decode cX10_leftSteps 28 = .ok (.lload_n 1, 1) := by decide +kernel
theorem dX10_leftSteps_29 : decode cX10_leftSteps 29 = .ok (.lload_n 3, 1) := by decide +kernel
theorem dX10_leftSteps_30 : decode cX10_leftSteps 30 = .ok (.ladd, 1) := by decide +kernel
theorem dX10_leftSteps_31 : decode cX10_leftSteps 31 = .ok (.lmul, 1) := by decide +kernel
theorem dX10_leftSteps_32 : decode cX10_leftSteps 32 = .ok (.invokestatic 46, 3) := by decide +kernel
theorem dX10_leftSteps_35 : decode cX10_leftSteps 35 = .ok (.ldc2_w 50, 3) := by decide +kernel
theorem dX10_leftSteps_38 : decode cX10_leftSteps 38 = .ok (.ldiv, 1) := by decide +kernel
theorem dX10_leftSteps_39 : decode cX10_leftSteps 39 = .ok (.lstore 7, 2) := by decide +kernel
theorem dX10_leftSteps_41 : decode cX10_leftSteps 41 = .ok (.ldc2_w 44, 3) := by decide +kernel
theorem dX10_leftSteps_44 : decode cX10_leftSteps 44 = .ok (.lload 7, 2) := by decide +kernel
theorem dX10_leftSteps_46 : decode cX10_leftSteps 46 = .ok (.lconst 1, 1) := by decide +kernel
theorem dX10_leftSteps_47 : decode cX10_leftSteps 47 = .ok (.ladd, 1) := by decide +kernel
theorem dX10_leftSteps_48 : decode cX10_leftSteps 48 = .ok (.lmul, 1) := by decide +kernel
theorem dX10_leftSteps_49 : decode cX10_leftSteps 49 = .ok (.lconst 1, 1) := by decide +kernel
theorem dX10_leftSteps_50 : decode cX10_leftSteps 50 = .ok (.lsub, 1) := by decide +kernel
theorem dX10_leftSteps_51 : decode cX10_leftSteps 51 = .ok (.sipush 10000, 3) := by decide +kernel
theorem dX10_leftSteps_54 : decode cX10_leftSteps 54 = .ok (.aload_n 0, 1) := by decide +kernel
theorem dX10_leftSteps_55 : decode cX10_leftSteps 55 = .ok (.getfield 21, 3) := by decide +kernel
theorem dX10_leftSteps_58 : decode cX10_leftSteps 58 = .ok (.iadd, 1) := by decide +kernel
theorem dX10_leftSteps_59 : decode cX10_leftSteps 59 = .ok (.i2l, 1) := by decide +kernel
theorem dX10_leftSteps_60 : decode cX10_leftSteps 60 = .ok (.ldiv, 1) := by decide +kernel
theorem dX10_leftSteps_61 : decode cX10_leftSteps 61 = .ok (.l2i, 1) := by decide +kernel
theorem dX10_leftSteps_62 : decode cX10_leftSteps 62 = .ok (.ireturn, 1) := by decide +kernel
theorem dX10_rightSteps_0 : decode cX10_rightSteps 0 = .ok (.aload_n 0, 1) := by decide +kernel
theorem dX10_rightSteps_1 : decode cX10_rightSteps 1 = .ok (.ldc2_w 50, 3) := by decide +kernel
theorem dX10_rightSteps_4 : decode cX10_rightSteps 4 = .ok (.aload_n 0, 1) := by decide +kernel
theorem dX10_rightSteps_5 : decode cX10_rightSteps 5 = .ok (.getfield 9, 3) := by decide +kernel
theorem dX10_rightSteps_8 : decode cX10_rightSteps 8 = .ok (.i2l, 1) := by decide +kernel
theorem dX10_rightSteps_9 : decode cX10_rightSteps 9 = .ok (.lmul, 1) := by decide +kernel
theorem dX10_rightSteps_10 : decode cX10_rightSteps 10 = .ok (.lload_n 1, 1) := by decide +kernel
theorem dX10_rightSteps_11 : decode cX10_rightSteps 11 = .ok (.lsub, 1) := by decide +kernel
theorem dX10_rightSteps_12 : decode cX10_rightSteps 12 = .ok (.lload_n 3, 1) := by decide +kernel
theorem dX10_rightSteps_13 : decode cX10_rightSteps 13 = .ok (.invokevirtual 52, 3) := by decide +kernel
theorem dX10_rightSteps_16 : decode cX10_rightSteps 16 = .ok (.ireturn, 1) := by decide +kernel
theorem dX10_locate_0 : decode cX10_locate 0 = .ok (.aload_n 0, 1) := by decide +kernel
theorem dX10_locate_1 : decode cX10_locate 1 = .ok (.lload_n 1, 1) := by decide +kernel
theorem dX10_locate_2 : decode cX10_locate 2 = .ok (.invokevirtual 56, 3) := by decide +kernel
theorem dX10_locate_5 : decode cX10_locate 5 = .ok (.lstore 5, 2) := by decide +kernel
theorem dX10_locate_7 : decode cX10_locate 7 = .ok (.aload_n 0, 1) := by decide +kernel
theorem dX10_locate_8 : decode cX10_locate 8 = .ok (.lload_n 3, 1) := by decide +kernel
theorem dX10_locate_9 : decode cX10_locate 9 = .ok (.invokevirtual 56, 3) := by decide +kernel
theorem dX10_locate_12 : decode cX10_locate 12 = .ok (.lstore 7, 2) := by decide +kernel
theorem dX10_locate_14 : decode cX10_locate 14 = .ok (.aload_n 0, 1) := by decide +kernel
theorem dX10_locate_15 : decode cX10_locate 15 = .ok (.getfield 18, 3) := by decide +kernel
theorem dX10_locate_18 : decode cX10_locate 18 = .ok (.i2l, 1) := by decide +kernel
theorem dX10_locate_19 : decode cX10_locate 19 = .ok (.aload_n 0, 1) := by decide +kernel
theorem dX10_locate_20 : decode cX10_locate 20 = .ok (.getfield 18, 3) := by decide +kernel
theorem dX10_locate_23 : decode cX10_locate 23 = .ok (.i2l, 1) := by decide +kernel
theorem dX10_locate_24 : decode cX10_locate 24 = .ok (.lmul, 1) := by decide +kernel
theorem dX10_locate_25 : decode cX10_locate 25 = .ok (.lstore 9, 2) := by decide +kernel
theorem dX10_locate_27 : decode cX10_locate 27 = .ok (.aload_n 0, 1) := by decide +kernel
theorem dX10_locate_28 : decode cX10_locate 28 = .ok (.ldc2_w 50, 3) := by decide +kernel
theorem dX10_locate_31 : decode cX10_locate 31 = .ok (.lload 5, 2) := by decide +kernel
theorem dX10_locate_33 : decode cX10_locate 33 = .ok (.lload 5, 2) := by decide +kernel
theorem dX10_locate_35 : decode cX10_locate 35 = .ok (.lmul, 1) := by decide +kernel
theorem dX10_locate_36 : decode cX10_locate 36 = .ok (.lload 7, 2) := by decide +kernel
theorem dX10_locate_38 : decode cX10_locate 38 = .ok (.lload 7, 2) := by decide +kernel
theorem dX10_locate_40 : decode cX10_locate 40 = .ok (.lmul, 1) := by decide +kernel
theorem dX10_locate_41 : decode cX10_locate 41 = .ok (.lsub, 1) := by decide +kernel
theorem dX10_locate_42 : decode cX10_locate 42 = .ok (.lload 9, 2) := by decide +kernel
theorem dX10_locate_44 : decode cX10_locate 44 = .ok (.aload_n 0, 1) := by decide +kernel
theorem dX10_locate_45 : decode cX10_locate 45 = .ok (.getfield 9, 3) := by decide +kernel
theorem dX10_locate_48 : decode cX10_locate 48 = .ok (.i2l, 1) := by decide +kernel
theorem dX10_locate_49 : decode cX10_locate 49 = .ok (.lmul, 1) := by decide +kernel
theorem dX10_locate_50 : decode cX10_locate 50 = .ok (.aload_n 0, 1) := by decide +kernel
theorem dX10_locate_51 : decode cX10_locate 51 = .ok (.getfield 9, 3) := by decide +kernel
theorem dX10_locate_54 : decode cX10_locate 54 = .ok (.i2l, 1) := by decide +kernel
theorem dX10_locate_55 : decode cX10_locate 55 = .ok (.lmul, 1) := by decide +kernel
theorem dX10_locate_56 : decode cX10_locate 56 = .ok (.ladd, 1) := by decide +kernel
theorem dX10_locate_57 : decode cX10_locate 57 = .ok (.lmul, 1) := by decide +kernel
theorem dX10_locate_58 : decode cX10_locate 58 = .ok (.ldc2_w 60, 3) := by decide +kernel
theorem dX10_locate_61 : decode cX10_locate 61 = .ok (.lload 9, 2) := by decide +kernel
theorem dX10_locate_63 : decode cX10_locate 63 = .ok (.lmul, 1) := by decide +kernel
theorem dX10_locate_64 : decode cX10_locate 64 = .ok (.aload_n 0, 1) := by decide +kernel
theorem dX10_locate_65 : decode cX10_locate 65 = .ok (.getfield 9, 3) := by decide +kernel
theorem dX10_locate_68 : decode cX10_locate 68 = .ok (.i2l, 1) := by decide +kernel
theorem dX10_locate_69 : decode cX10_locate 69 = .ok (.lmul, 1) := by decide +kernel
theorem dX10_locate_70 : decode cX10_locate 70 = .ok (.ldiv, 1) := by decide +kernel
theorem dX10_locate_71 : decode cX10_locate 71 = .ok (.putfield 30, 3) := by decide +kernel
theorem dX10_locate_74 : decode cX10_locate 74 = .ok (.aload_n 0, 1) := by decide +kernel
theorem dX10_locate_75 : decode cX10_locate 75 = .ok (.ldc2_w 44, 3) := by decide +kernel
theorem dX10_locate_78 : decode cX10_locate 78 = .ok (.lload 5, 2) := by decide +kernel
theorem dX10_locate_80 : decode cX10_locate 80 = .ok (.lmul, 1) := by decide +kernel
theorem dX10_locate_81 : decode cX10_locate 81 = .ok (.lload 5, 2) := by decide +kernel
theorem dX10_locate_83 : decode cX10_locate 83 = .ok (.lmul, 1) := by decide +kernel
theorem dX10_locate_84 : decode cX10_locate 84 = .ok (.lload 9, 2) := by decide +kernel
theorem dX10_locate_86 : decode cX10_locate 86 = .ok (.ldiv, 1) := by decide +kernel
theorem dX10_locate_87 : decode cX10_locate 87 = .ok (.aload_n 0, 1) := by decide +kernel
theorem dX10_locate_88 : decode cX10_locate 88 = .ok (.getfield 30, 3) := by decide +kernel
theorem dX10_locate_91 : decode cX10_locate 91 = .ok (.aload_n 0, 1) := by decide +kernel
theorem dX10_locate_92 : decode cX10_locate 92 = .ok (.getfield 30, 3) := by decide +kernel
theorem dX10_locate_95 : decode cX10_locate 95 = .ok (.lmul, 1) := by decide +kernel
theorem dX10_locate_96 : decode cX10_locate 96 = .ok (.lsub, 1) := by decide +kernel
theorem dX10_locate_97 : decode cX10_locate 97 = .ok (.aload_n 0, 1) := by decide +kernel
theorem dX10_locate_98 : decode cX10_locate 98 = .ok (.getfield 34, 3) := by decide +kernel
theorem dX10_locate_101 : decode cX10_locate 101 = .ok (.invokestatic 46, 3) := by decide +kernel
theorem dX10_locate_104 : decode cX10_locate 104 = .ok (.putfield 34, 3) := by decide +kernel
theorem dX10_locate_107 : decode cX10_locate 107 = .ok (.return_, 1) := by decide +kernel
theorem dX10_grainAt_0 : decode cX10_grainAt 0 = .ok (.aload_n 0, 1) := by decide +kernel
theorem dX10_grainAt_1 : decode cX10_grainAt 1 = .ok (.iload_n 1, 1) := by decide +kernel
theorem dX10_grainAt_2 : decode cX10_grainAt 2 = .ok (.i2l, 1) := by decide +kernel
theorem dX10_grainAt_3 : decode cX10_grainAt 3 = .ok (.iload_n 2, 1) := by decide +kernel
theorem dX10_grainAt_4 : decode cX10_grainAt 4 = .ok (.i2l, 1) := by decide +kernel
theorem dX10_grainAt_5 : decode cX10_grainAt 5 = .ok (.invokevirtual 52, 3) := by decide +kernel
theorem dX10_grainAt_8 : decode cX10_grainAt 8 = .ok (.istore_n 3, 1) := by decide +kernel
theorem dX10_grainAt_9 : decode cX10_grainAt 9 = .ok (.aload_n 0, 1) := by decide +kernel
theorem dX10_grainAt_10 : decode cX10_grainAt 10 = .ok (.iload_n 1, 1) := by decide +kernel
theorem dX10_grainAt_11 : decode cX10_grainAt 11 = .ok (.i2l, 1) := by decide +kernel
theorem dX10_grainAt_12 : decode cX10_grainAt 12 = .ok (.iload_n 2, 1) := by decide +kernel
theorem dX10_grainAt_13 : decode cX10_grainAt 13 = .ok (.i2l, 1) := by decide +kernel
theorem dX10_grainAt_14 : decode cX10_grainAt 14 = .ok (.invokevirtual 62, 3) := by decide +kernel
theorem dX10_grainAt_17 : decode cX10_grainAt 17 = .ok (.istore 4, 2) := by decide +kernel
theorem dX10_grainAt_19 : decode cX10_grainAt 19 = .ok (.aload_n 0, 1) := by decide +kernel
theorem dX10_grainAt_20 : decode cX10_grainAt 20 = .ok (.iload_n 3, 1) := by decide +kernel
theorem dX10_grainAt_21 : decode cX10_grainAt 21 = .ok (.i2l, 1) := by decide +kernel
theorem dX10_grainAt_22 : decode cX10_grainAt 22 = .ok (.iload 4, 2) := by decide +kernel
theorem dX10_grainAt_24 : decode cX10_grainAt 24 = .ok (.i2l, 1) := by decide +kernel
theorem dX10_grainAt_25 : decode cX10_grainAt 25 = .ok (.invokevirtual 65, 3) := by decide +kernel
theorem dX10_grainAt_28 : decode cX10_grainAt 28 = .ok (.aload_n 0, 1) := by decide +kernel
theorem dX10_grainAt_29 : decode cX10_grainAt 29 = .ok (.getfield 30, 3) := by decide +kernel
theorem dX10_grainAt_32 : decode cX10_grainAt 32 = .ok (.lstore 5, 2) := by decide +kernel
theorem dX10_grainAt_34 : decode cX10_grainAt 34 = .ok (.aload_n 0, 1) := by decide +kernel
theorem dX10_grainAt_35 : decode cX10_grainAt 35 = .ok (.getfield 34, 3) := by decide +kernel
theorem dX10_grainAt_38 : decode cX10_grainAt 38 = .ok (.lstore 7, 2) := by decide +kernel
theorem dX10_grainAt_40 : decode cX10_grainAt 40 = .ok (.aload_n 0, 1) := by decide +kernel
theorem dX10_grainAt_41 : decode cX10_grainAt 41 = .ok (.lload 5, 2) := by decide +kernel
theorem dX10_grainAt_43 : decode cX10_grainAt 43 = .ok (.lload 7, 2) := by decide +kernel
theorem dX10_grainAt_45 : decode cX10_grainAt 45 = .ok (.iload_n 3, 1) := by decide +kernel
theorem dX10_grainAt_46 : decode cX10_grainAt 46 = .ok (.iconst 1, 1) := by decide +kernel
theorem dX10_grainAt_47 : decode cX10_grainAt 47 = .ok (.iadd, 1) := by decide +kernel
theorem dX10_grainAt_48 : decode cX10_grainAt 48 = .ok (.iload 4, 2) := by decide +kernel
theorem dX10_grainAt_50 : decode cX10_grainAt 50 = .ok (.invokevirtual 69, 3) := by decide +kernel
theorem dX10_grainAt_53 : decode cX10_grainAt 53 = .ok (.lstore 9, 2) := by decide +kernel
theorem dX10_grainAt_55 : decode cX10_grainAt 55 = .ok (.lload 9, 2) := by decide +kernel
theorem dX10_grainAt_57 : decode cX10_grainAt 57 = .ok (.aload_n 0, 1) := by decide +kernel
theorem dX10_grainAt_58 : decode cX10_grainAt 58 = .ok (.lload 5, 2) := by decide +kernel
theorem dX10_grainAt_60 : decode cX10_grainAt 60 = .ok (.lload 7, 2) := by decide +kernel
theorem dX10_grainAt_62 : decode cX10_grainAt 62 = .ok (.iload_n 3, 1) := by decide +kernel
theorem dX10_grainAt_63 : decode cX10_grainAt 63 = .ok (.iconst 1, 1) := by decide +kernel
theorem dX10_grainAt_64 : decode cX10_grainAt 64 = .ok (.isub, 1) := by decide +kernel
theorem dX10_grainAt_65 : decode cX10_grainAt 65 = .ok (.iload 4, 2) := by decide +kernel
theorem dX10_grainAt_67 : decode cX10_grainAt 67 = .ok (.invokevirtual 69, 3) := by decide +kernel
theorem dX10_grainAt_70 : decode cX10_grainAt 70 = .ok (.invokestatic 73, 3) := by decide +kernel
theorem dX10_grainAt_73 : decode cX10_grainAt 73 = .ok (.lstore 9, 2) := by decide +kernel
theorem dX10_grainAt_75 : decode cX10_grainAt 75 = .ok (.lload 9, 2) := by decide +kernel
theorem dX10_grainAt_77 : decode cX10_grainAt 77 = .ok (.aload_n 0, 1) := by decide +kernel
theorem dX10_grainAt_78 : decode cX10_grainAt 78 = .ok (.lload 5, 2) := by decide +kernel
theorem dX10_grainAt_80 : decode cX10_grainAt 80 = .ok (.lload 7, 2) := by decide +kernel
theorem dX10_grainAt_82 : decode cX10_grainAt 82 = .ok (.iload_n 3, 1) := by decide +kernel
theorem dX10_grainAt_83 : decode cX10_grainAt 83 = .ok (.iload 4, 2) := by decide +kernel
theorem dX10_grainAt_85 : decode cX10_grainAt 85 = .ok (.iconst 1, 1) := by decide +kernel
theorem dX10_grainAt_86 : decode cX10_grainAt 86 = .ok (.iadd, 1) := by decide +kernel
theorem dX10_grainAt_87 : decode cX10_grainAt 87 = .ok (.invokevirtual 69, 3) := by decide +kernel
theorem dX10_grainAt_90 : decode cX10_grainAt 90 = .ok (.invokestatic 73, 3) := by decide +kernel
theorem dX10_grainAt_93 : decode cX10_grainAt 93 = .ok (.lstore 9, 2) := by decide +kernel
theorem dX10_grainAt_95 : decode cX10_grainAt 95 = .ok (.lload 9, 2) := by decide +kernel
theorem dX10_grainAt_97 : decode cX10_grainAt 97 = .ok (.aload_n 0, 1) := by decide +kernel
theorem dX10_grainAt_98 : decode cX10_grainAt 98 = .ok (.lload 5, 2) := by decide +kernel
theorem dX10_grainAt_100 : decode cX10_grainAt 100 = .ok (.lload 7, 2) := by decide +kernel
theorem dX10_grainAt_102 : decode cX10_grainAt 102 = .ok (.iload_n 3, 1) := by decide +kernel
theorem dX10_grainAt_103 : decode cX10_grainAt 103 = .ok (.iload 4, 2) := by decide +kernel
theorem dX10_grainAt_105 : decode cX10_grainAt 105 = .ok (.iconst 1, 1) := by decide +kernel
theorem dX10_grainAt_106 : decode cX10_grainAt 106 = .ok (.isub, 1) := by decide +kernel
theorem dX10_grainAt_107 : decode cX10_grainAt 107 = .ok (.invokevirtual 69, 3) := by decide +kernel
theorem dX10_grainAt_110 : decode cX10_grainAt 110 = .ok (.invokestatic 73, 3) := by decide +kernel
theorem dX10_grainAt_113 : decode cX10_grainAt 113 = .ok (.l2i, 1) := by decide +kernel
theorem dX10_grainAt_114 : decode cX10_grainAt 114 = .ok (.ireturn, 1) := by decide +kernel
theorem dX10_awayFrom_0 : decode cX10_awayFrom 0 = .ok (.aload_n 0, 1) := by decide +kernel
theorem dX10_awayFrom_1 : decode cX10_awayFrom 1 = .ok (.iload 5, 2) := by decide +kernel
theorem dX10_awayFrom_3 : decode cX10_awayFrom 3 = .ok (.i2l, 1) := by decide +kernel
theorem dX10_awayFrom_4 : decode cX10_awayFrom 4 = .ok (.iload 6, 2) := by decide +kernel
theorem dX10_awayFrom_6 : decode cX10_awayFrom 6 = .ok (.i2l, 1) := by decide +kernel
theorem dX10_awayFrom_7 : decode cX10_awayFrom 7 = .ok (.invokevirtual 65, 3) := by decide +kernel
theorem dX10_awayFrom_10 : decode cX10_awayFrom 10 = .ok (.aload_n 0, 1) := by decide +kernel
theorem dX10_awayFrom_11 : decode cX10_awayFrom 11 = .ok (.getfield 30, 3) := by decide +kernel
theorem dX10_awayFrom_14 : decode cX10_awayFrom 14 = .ok (.lload_n 1, 1) := by decide +kernel
theorem dX10_awayFrom_15 : decode cX10_awayFrom 15 = .ok (.lsub, 1) := by decide +kernel
theorem dX10_awayFrom_16 : decode cX10_awayFrom 16 = .ok (.invokestatic 78, 3) := by decide +kernel
theorem dX10_awayFrom_19 : decode cX10_awayFrom 19 = .ok (.aload_n 0, 1) := by decide +kernel
theorem dX10_awayFrom_20 : decode cX10_awayFrom 20 = .ok (.getfield 34, 3) := by decide +kernel
theorem dX10_awayFrom_23 : decode cX10_awayFrom 23 = .ok (.lload_n 3, 1) := by decide +kernel
theorem dX10_awayFrom_24 : decode cX10_awayFrom 24 = .ok (.lsub, 1) := by decide +kernel
theorem dX10_awayFrom_25 : decode cX10_awayFrom 25 = .ok (.invokestatic 78, 3) := by decide +kernel
theorem dX10_awayFrom_28 : decode cX10_awayFrom 28 = .ok (.ladd, 1) := by decide +kernel
theorem dX10_awayFrom_29 : decode cX10_awayFrom 29 = .ok (.lreturn, 1) := by decide +kernel
theorem dX10_leftPull_0 : decode cX10_leftPull 0 = .ok (.iload_n 2, 1) := by decide +kernel
theorem dX10_leftPull_1 : decode cX10_leftPull 1 = .ok (.iconst 1, 1) := by decide +kernel
theorem dX10_leftPull_2 : decode cX10_leftPull 2 = .ok (.if_icmp .ge 5, 3) := by decide +kernel
theorem dX10_leftPull_5 : decode cX10_leftPull 5 = .ok (.iconst 0, 1) := by decide +kernel
theorem dX10_leftPull_6 : decode cX10_leftPull 6 = .ok (.ireturn, 1) := by decide +kernel
theorem dX10_leftPull_7 : decode cX10_leftPull 7 = .ok (.aload_n 0, 1) := by decide +kernel
theorem dX10_leftPull_8 : decode cX10_leftPull 8 = .ok (.getfield 24, 3) := by decide +kernel
theorem dX10_leftPull_11 : decode cX10_leftPull 11 = .ok (.i2l, 1) := by decide +kernel
theorem dX10_leftPull_12 : decode cX10_leftPull 12 = .ok (.aload_n 0, 1) := by decide +kernel
theorem dX10_leftPull_13 : decode cX10_leftPull 13 = .ok (.ldc2_w 50, 3) := by decide +kernel
theorem dX10_leftPull_16 : decode cX10_leftPull 16 = .ok (.iload_n 1, 1) := by decide +kernel
theorem dX10_leftPull_17 : decode cX10_leftPull 17 = .ok (.i2l, 1) := by decide +kernel
theorem dX10_leftPull_18 : decode cX10_leftPull 18 = .ok (.lmul, 1) := by decide +kernel
theorem dX10_leftPull_19 : decode cX10_leftPull 19 = .ok (.ldc2_w 50, 3) := by decide +kernel
theorem dX10_leftPull_22 : decode cX10_leftPull 22 = .ok (.iload_n 2, 1) := by decide +kernel
theorem dX10_leftPull_23 : decode cX10_leftPull 23 = .ok (.i2l, 1) := by decide +kernel
theorem dX10_leftPull_24 : decode cX10_leftPull 24 = .ok (.lmul, 1) := by decide +kernel
theorem dX10_leftPull_25 : decode cX10_leftPull 25 = .ok (.invokevirtual 52, 3) := by decide +kernel
theorem dX10_leftPull_28 : decode cX10_leftPull 28 = .ok (.i2l, 1) := by decide +kernel
theorem dX10_leftPull_29 : decode cX10_leftPull 29 = .ok (.lmul, 1) := by decide +kernel
theorem dX10_leftPull_30 : decode cX10_leftPull 30 = .ok (.aload_n 0, 1) := by decide +kernel
theorem dX10_leftPull_31 : decode cX10_leftPull 31 = .ok (.getfield 9, 3) := by decide +kernel
theorem dX10_leftPull_34 : decode cX10_leftPull 34 = .ok (.iload_n 1, 1) := by decide +kernel
theorem dX10_leftPull_35 : decode cX10_leftPull 35 = .ok (.isub, 1) := by decide +kernel
theorem dX10_leftPull_36 : decode cX10_leftPull 36 = .ok (.i2l, 1) := by decide +kernel
theorem dX10_leftPull_37 : decode cX10_leftPull 37 = .ok (.lmul, 1) := by decide +kernel
theorem dX10_leftPull_38 : decode cX10_leftPull 38 = .ok (.lstore_n 3, 1) := by decide +kernel
theorem dX10_leftPull_39 : decode cX10_leftPull 39 = .ok (.lload_n 3, 1) := by decide +kernel
theorem dX10_leftPull_40 : decode cX10_leftPull 40 = .ok (.aload_n 0, 1) := by decide +kernel
theorem dX10_leftPull_41 : decode cX10_leftPull 41 = .ok (.getfield 18, 3) := by decide +kernel
theorem dX10_leftPull_44 : decode cX10_leftPull 44 = .ok (.i2l, 1) := by decide +kernel
theorem dX10_leftPull_45 : decode cX10_leftPull 45 = .ok (.aload_n 0, 1) := by decide +kernel
theorem dX10_leftPull_46 : decode cX10_leftPull 46 = .ok (.getfield 9, 3) := by decide +kernel
theorem dX10_leftPull_49 : decode cX10_leftPull 49 = .ok (.i2l, 1) := by decide +kernel
theorem dX10_leftPull_50 : decode cX10_leftPull 50 = .ok (.lmul, 1) := by decide +kernel
theorem dX10_leftPull_51 : decode cX10_leftPull 51 = .ok (.iload_n 2, 1) := by decide +kernel
theorem dX10_leftPull_52 : decode cX10_leftPull 52 = .ok (.i2l, 1) := by decide +kernel
theorem dX10_leftPull_53 : decode cX10_leftPull 53 = .ok (.lmul, 1) := by decide +kernel
theorem dX10_leftPull_54 : decode cX10_leftPull 54 = .ok (.ldiv, 1) := by decide +kernel
theorem dX10_leftPull_55 : decode cX10_leftPull 55 = .ok (.l2i, 1) := by decide +kernel
theorem dX10_leftPull_56 : decode cX10_leftPull 56 = .ok (.ireturn, 1) := by decide +kernel
theorem dX10_rightPull_0 : decode cX10_rightPull 0 = .ok (.aload_n 0, 1) := by decide +kernel
theorem dX10_rightPull_1 : decode cX10_rightPull 1 = .ok (.aload_n 0, 1) := by decide +kernel
theorem dX10_rightPull_2 : decode cX10_rightPull 2 = .ok (.getfield 9, 3) := by decide +kernel
theorem dX10_rightPull_5 : decode cX10_rightPull 5 = .ok (.iload_n 1, 1) := by decide +kernel
theorem dX10_rightPull_6 : decode cX10_rightPull 6 = .ok (.isub, 1) := by decide +kernel
theorem dX10_rightPull_7 : decode cX10_rightPull 7 = .ok (.iload_n 2, 1) := by decide +kernel
theorem dX10_rightPull_8 : decode cX10_rightPull 8 = .ok (.invokevirtual 81, 3) := by decide +kernel
theorem dX10_rightPull_11 : decode cX10_rightPull 11 = .ok (.ireturn, 1) := by decide +kernel
theorem dX10_bears_0 : decode cX10_bears 0 = .ok (.aload_n 0, 1) := by decide +kernel
theorem dX10_bears_1 : decode cX10_bears 1 = .ok (.iload_n 1, 1) := by decide +kernel
theorem dX10_bears_2 : decode cX10_bears 2 = .ok (.iload_n 2, 1) := by decide +kernel
theorem dX10_bears_3 : decode cX10_bears 3 = .ok (.invokevirtual 81, 3) := by decide +kernel
theorem dX10_bears_6 : decode cX10_bears 6 = .ok (.aload_n 0, 1) := by decide +kernel
theorem dX10_bears_7 : decode cX10_bears 7 = .ok (.getfield 27, 3) := by decide +kernel
theorem dX10_bears_10 : decode cX10_bears 10 = .ok (.if_icmp .gt 20, 3) := by decide +kernel
theorem dX10_bears_13 : decode cX10_bears 13 = .ok (.aload_n 0, 1) := by decide +kernel
theorem dX10_bears_14 : decode cX10_bears 14 = .ok (.iload_n 1, 1) := by decide +kernel
theorem dX10_bears_15 : decode cX10_bears 15 = .ok (.iload_n 2, 1) := by decide +kernel
theorem dX10_bears_16 : decode cX10_bears 16 = .ok (.invokevirtual 85, 3) := by decide +kernel
theorem dX10_bears_19 : decode cX10_bears 19 = .ok (.aload_n 0, 1) := by decide +kernel
theorem dX10_bears_20 : decode cX10_bears 20 = .ok (.getfield 27, 3) := by decide +kernel
theorem dX10_bears_23 : decode cX10_bears 23 = .ok (.if_icmp .gt 7, 3) := by decide +kernel
theorem dX10_bears_26 : decode cX10_bears 26 = .ok (.iconst 1, 1) := by decide +kernel
theorem dX10_bears_27 : decode cX10_bears 27 = .ok (.goto 4, 3) := by decide +kernel
theorem dX10_bears_30 : decode cX10_bears 30 = .ok (.iconst 0, 1) := by decide +kernel
theorem dX10_bears_31 : decode cX10_bears 31 = .ok (.ireturn, 1) := by decide +kernel
theorem dX10_forgetReach_0 : decode cX10_forgetReach 0 = .ok (.aload_n 0, 1) := by decide +kernel
theorem dX10_forgetReach_1 : decode cX10_forgetReach 1 = .ok (.iconst (-1), 1) := by decide +kernel
theorem dX10_forgetReach_2 : decode cX10_forgetReach 2 = .ok (.putfield 37, 3) := by decide +kernel
theorem dX10_forgetReach_5 : decode cX10_forgetReach 5 = .ok (.return_, 1) := by decide +kernel
theorem dX10_countReach_0 : decode cX10_countReach 0 = .ok (.aload_n 0, 1) := by decide +kernel
theorem dX10_countReach_1 : decode cX10_countReach 1 = .ok (.getfield 37, 3) := by decide +kernel
theorem dX10_countReach_4 : decode cX10_countReach 4 = .ok (.iconst (-1), 1) := by decide +kernel
theorem dX10_countReach_5 : decode cX10_countReach 5 = .ok (.if_icmp .eq 8, 3) := by decide +kernel
theorem dX10_countReach_8 : decode cX10_countReach 8 = .ok (.aload_n 0, 1) := by decide +kernel
theorem dX10_countReach_9 : decode cX10_countReach 9 = .ok (.getfield 37, 3) := by decide +kernel
theorem dX10_countReach_12 : decode cX10_countReach 12 = .ok (.ireturn, 1) := by decide +kernel
theorem dX10_countReach_13 : decode cX10_countReach 13 = .ok (.iconst 0, 1) := by decide +kernel
theorem dX10_countReach_14 : decode cX10_countReach 14 = .ok (.istore_n 1, 1) := by decide +kernel
theorem dX10_countReach_15 : decode cX10_countReach 15 = .ok (.iconst 1, 1) := by decide +kernel
theorem dX10_countReach_16 : decode cX10_countReach 16 = .ok (.istore_n 2, 1) := by decide +kernel
theorem dX10_countReach_17 : decode cX10_countReach 17 = .ok (.iload_n 2, 1) := by decide +kernel
theorem dX10_countReach_18 : decode cX10_countReach 18 = .ok (.aload_n 0, 1) := by decide +kernel
theorem dX10_countReach_19 : decode cX10_countReach 19 = .ok (.getfield 15, 3) := by decide +kernel
theorem dX10_countReach_22 : decode cX10_countReach 22 = .ok (.if_icmp .gt 37, 3) := by decide +kernel
theorem dX10_countReach_25 : decode cX10_countReach 25 = .ok (.iconst 0, 1) := by decide +kernel
theorem dX10_countReach_26 : decode cX10_countReach 26 = .ok (.istore_n 3, 1) := by decide +kernel
theorem dX10_countReach_27 : decode cX10_countReach 27 = .ok (.iload_n 3, 1) := by decide +kernel
theorem dX10_countReach_28 : decode cX10_countReach 28 = .ok (.aload_n 0, 1) := by decide +kernel
theorem dX10_countReach_29 : decode cX10_countReach 29 = .ok (.getfield 9, 3) := by decide +kernel
theorem dX10_countReach_32 : decode cX10_countReach 32 = .ok (.if_icmp .gt 21, 3) := by decide +kernel
theorem dX10_countReach_35 : decode cX10_countReach 35 = .ok (.aload_n 0, 1) := by decide +kernel
theorem dX10_countReach_36 : decode cX10_countReach 36 = .ok (.iload_n 3, 1) := by decide +kernel
theorem dX10_countReach_37 : decode cX10_countReach 37 = .ok (.iload_n 2, 1) := by decide +kernel
theorem dX10_countReach_38 : decode cX10_countReach 38 = .ok (.invokevirtual 88, 3) := by decide +kernel
theorem dX10_countReach_41 : decode cX10_countReach 41 = .ok (.ifCond .eq 6, 3) := by decide +kernel
theorem dX10_countReach_44 : decode cX10_countReach 44 = .ok (.iinc 1 1, 3) := by decide +kernel
theorem dX10_countReach_47 : decode cX10_countReach 47 = .ok (.iinc 3 1, 3) := by decide +kernel
theorem dX10_countReach_50 : decode cX10_countReach 50 = .ok (.goto (-23), 3) := by decide +kernel
theorem dX10_countReach_53 : decode cX10_countReach 53 = .ok (.iinc 2 1, 3) := by decide +kernel
theorem dX10_countReach_56 : decode cX10_countReach 56 = .ok (.goto (-39), 3) := by decide +kernel
theorem dX10_countReach_59 : decode cX10_countReach 59 = .ok (.aload_n 0, 1) := by decide +kernel
theorem dX10_countReach_60 : decode cX10_countReach 60 = .ok (.iload_n 1, 1) := by decide +kernel
theorem dX10_countReach_61 : decode cX10_countReach 61 = .ok (.putfield 37, 3) := by decide +kernel
theorem dX10_countReach_64 : decode cX10_countReach 64 = .ok (.iload_n 1, 1) := by decide +kernel
theorem dX10_countReach_65 : decode cX10_countReach 65 = .ok (.ireturn, 1) := by decide +kernel
theorem dX11_init_0 : decode cX11_init 0 = .ok (.aload_n 0, 1) := by decide +kernel
theorem dX11_init_1 : decode cX11_init 1 = .ok (.invokespecial 1, 3) := by decide +kernel
theorem dX11_init_4 : decode cX11_init 4 = .ok (.aload_n 0, 1) := by decide +kernel
theorem dX11_init_5 : decode cX11_init 5 = .ok (.new 7, 3) := by decide +kernel
theorem dX11_init_8 : decode cX11_init 8 = .ok (.dup, 1) := by decide +kernel
theorem dX11_init_9 : decode cX11_init 9 = .ok (.invokespecial 9, 3) := by decide +kernel
theorem dX11_init_12 : decode cX11_init 12 = .ok (.putfield 10, 3) := by decide +kernel
theorem dX11_init_15 : decode cX11_init 15 = .ok (.aload_n 0, 1) := by decide +kernel
theorem dX11_init_16 : decode cX11_init 16 = .ok (.new 16, 3) := by decide +kernel
theorem dX11_init_19 : decode cX11_init 19 = .ok (.dup, 1) := by decide +kernel
theorem dX11_init_20 : decode cX11_init 20 = .ok (.invokespecial 18, 3) := by decide +kernel
theorem dX11_init_23 : decode cX11_init 23 = .ok (.putfield 19, 3) := by decide +kernel
theorem dX11_init_26 : decode cX11_init 26 = .ok (.aload_n 0, 1) := by decide +kernel
theorem dX11_init_27 : decode cX11_init 27 = .ok (.new 23, 3) := by decide +kernel
theorem dX11_init_30 : decode cX11_init 30 = .ok (.dup, 1) := by decide +kernel
theorem dX11_init_31 : decode cX11_init 31 = .ok (.invokespecial 25, 3) := by decide +kernel
theorem dX11_init_34 : decode cX11_init 34 = .ok (.putfield 26, 3) := by decide +kernel
theorem dX11_init_37 : decode cX11_init 37 = .ok (.aload_n 0, 1) := by decide +kernel
theorem dX11_init_38 : decode cX11_init 38 = .ok (.new 30, 3) := by decide +kernel
theorem dX11_init_41 : decode cX11_init 41 = .ok (.dup, 1) := by decide +kernel
theorem dX11_init_42 : decode cX11_init 42 = .ok (.aload_n 0, 1) := by decide +kernel
theorem dX11_init_43 : decode cX11_init 43 = .ok (.getfield 19, 3) := by decide +kernel
theorem dX11_init_46 : decode cX11_init 46 = .ok (.aload_n 0, 1) := by decide +kernel
theorem dX11_init_47 : decode cX11_init 47 = .ok (.getfield 26, 3) := by decide +kernel
theorem dX11_init_50 : decode cX11_init 50 = .ok (.invokespecial 32, 3) := by decide +kernel
theorem dX11_init_53 : decode cX11_init 53 = .ok (.putfield 35, 3) := by decide +kernel
theorem dX11_init_56 : decode cX11_init 56 = .ok (.aload_n 0, 1) := by decide +kernel
theorem dX11_init_57 : decode cX11_init 57 = .ok (.new 39, 3) := by decide +kernel
theorem dX11_init_60 : decode cX11_init 60 = .ok (.dup, 1) := by decide +kernel
theorem dX11_init_61 : decode cX11_init 61 = .ok (.aload_n 0, 1) := by decide +kernel
theorem dX11_init_62 : decode cX11_init 62 = .ok (.getfield 10, 3) := by decide +kernel
theorem dX11_init_65 : decode cX11_init 65 = .ok (.invokespecial 41, 3) := by decide +kernel
theorem dX11_init_68 : decode cX11_init 68 = .ok (.putfield 44, 3) := by decide +kernel
theorem dX11_init_71 : decode cX11_init 71 = .ok (.aload_n 0, 1) := by decide +kernel
theorem dX11_init_72 : decode cX11_init 72 = .ok (.new 39, 3) := by decide +kernel
theorem dX11_init_75 : decode cX11_init 75 = .ok (.dup, 1) := by decide +kernel
theorem dX11_init_76 : decode cX11_init 76 = .ok (.aload_n 0, 1) := by decide +kernel
theorem dX11_init_77 : decode cX11_init 77 = .ok (.getfield 10, 3) := by decide +kernel
theorem dX11_init_80 : decode cX11_init 80 = .ok (.invokespecial 41, 3) := by decide +kernel
theorem dX11_init_83 : decode cX11_init 83 = .ok (.putfield 48, 3) := by decide +kernel
theorem dX11_init_86 : decode cX11_init 86 = .ok (.aload_n 0, 1) := by decide +kernel
theorem dX11_init_87 : decode cX11_init 87 = .ok (.new 51, 3) := by decide +kernel
theorem dX11_init_90 : decode cX11_init 90 = .ok (.dup, 1) := by decide +kernel
theorem dX11_init_91 : decode cX11_init 91 = .ok (.aload_n 0, 1) := by decide +kernel
theorem dX11_init_92 : decode cX11_init 92 = .ok (.getfield 10, 3) := by decide +kernel
theorem dX11_init_95 : decode cX11_init 95 = .ok (.aload_n 0, 1) := by decide +kernel
theorem dX11_init_96 : decode cX11_init 96 = .ok (.getfield 26, 3) := by decide +kernel
theorem dX11_init_99 : decode cX11_init 99 = .ok (.aload_n 0, 1) := by decide +kernel
theorem dX11_init_100 : decode cX11_init 100 = .ok (.getfield 44, 3) := by decide +kernel
theorem dX11_init_103 : decode cX11_init 103 = .ok (.invokespecial 53, 3) := by decide +kernel
theorem dX11_init_106 : decode cX11_init 106 = .ok (.putfield 56, 3) := by decide +kernel
theorem dX11_init_109 : decode cX11_init 109 = .ok (.aload_n 0, 1) := by decide +kernel
theorem dX11_init_110 : decode cX11_init 110 = .ok (.new 60, 3) := by decide +kernel
theorem dX11_init_113 : decode cX11_init 113 = .ok (.dup, 1) := by decide +kernel
theorem dX11_init_114 : decode cX11_init 114 = .ok (.aload_n 0, 1) := by decide +kernel
theorem dX11_init_115 : decode cX11_init 115 = .ok (.getfield 10, 3) := by decide +kernel
theorem dX11_init_118 : decode cX11_init 118 = .ok (.aload_n 0, 1) := by decide +kernel
theorem dX11_init_119 : decode cX11_init 119 = .ok (.getfield 44, 3) := by decide +kernel
theorem dX11_init_122 : decode cX11_init 122 = .ok (.invokespecial 62, 3) := by decide +kernel
theorem dX11_init_125 : decode cX11_init 125 = .ok (.putfield 65, 3) := by decide +kernel
theorem dX11_init_128 : decode cX11_init 128 = .ok (.aload_n 0, 1) := by decide +kernel
theorem dX11_init_129 : decode cX11_init 129 = .ok (.new 69, 3) := by decide +kernel
theorem dX11_init_132 : decode cX11_init 132 = .ok (.dup, 1) := by decide +kernel
theorem dX11_init_133 : decode cX11_init 133 = .ok (.aload_n 0, 1) := by decide +kernel
theorem dX11_init_134 : decode cX11_init 134 = .ok (.getfield 10, 3) := by decide +kernel
theorem dX11_init_137 : decode cX11_init 137 = .ok (.aload_n 0, 1) := by decide +kernel
theorem dX11_init_138 : decode cX11_init 138 = .ok (.getfield 44, 3) := by decide +kernel
theorem dX11_init_141 : decode cX11_init 141 = .ok (.invokespecial 71, 3) := by decide +kernel
theorem dX11_init_144 : decode cX11_init 144 = .ok (.putfield 72, 3) := by decide +kernel
theorem dX11_init_147 : decode cX11_init 147 = .ok (.aload_n 0, 1) := by decide +kernel
theorem dX11_init_148 : decode cX11_init 148 = .ok (.new 76, 3) := by decide +kernel
theorem dX11_init_151 : decode cX11_init 151 = .ok (.dup, 1) := by decide +kernel
theorem dX11_init_152 : decode cX11_init 152 = .ok (.aload_n 0, 1) := by decide +kernel
theorem dX11_init_153 : decode cX11_init 153 = .ok (.getfield 10, 3) := by decide +kernel
theorem dX11_init_156 : decode cX11_init 156 = .ok (.aload_n 0, 1) := by decide +kernel
theorem dX11_init_157 : decode cX11_init 157 = .ok (.getfield 44, 3) := by decide +kernel
theorem dX11_init_160 : decode cX11_init 160 = .ok (.aload_n 0, 1) := by decide +kernel
theorem dX11_init_161 : decode cX11_init 161 = .ok (.getfield 48, 3) := by decide +kernel
theorem dX11_init_164 : decode cX11_init 164 = .ok (.invokespecial 78, 3) := by decide +kernel
theorem dX11_init_167 : decode cX11_init 167 = .ok (.putfield 81, 3) := by decide +kernel
theorem dX11_init_170 : decode cX11_init 170 = .ok (.aload_n 0, 1) := by decide +kernel
theorem dX11_init_171 : decode cX11_init 171 = .ok (.new 85, 3) := by decide +kernel
theorem dX11_init_174 : decode cX11_init 174 = .ok (.dup, 1) := by decide +kernel
theorem dX11_init_175 : decode cX11_init 175 = .ok (.invokespecial 87, 3) := by decide +kernel
theorem dX11_init_178 : decode cX11_init 178 = .ok (.putfield 88, 3) := by decide +kernel
theorem dX11_init_181 : decode cX11_init 181 = .ok (.aload_n 0, 1) := by decide +kernel
theorem dX11_init_182 : decode cX11_init 182 = .ok (.new 92, 3) := by decide +kernel
theorem dX11_init_185 : decode cX11_init 185 = .ok (.dup, 1) := by decide +kernel
theorem dX11_init_186 : decode cX11_init 186 = .ok (.aload_n 0, 1) := by decide +kernel
theorem dX11_init_187 : decode cX11_init 187 = .ok (.getfield 44, 3) := by decide +kernel
theorem dX11_init_190 : decode cX11_init 190 = .ok (.invokespecial 94, 3) := by decide +kernel
theorem dX11_init_193 : decode cX11_init 193 = .ok (.putfield 97, 3) := by decide +kernel
theorem dX11_init_196 : decode cX11_init 196 = .ok (.aload_n 0, 1) := by decide +kernel
theorem dX11_init_197 : decode cX11_init 197 = .ok (.iconst 0, 1) := by decide +kernel
theorem dX11_init_198 : decode cX11_init 198 = .ok (.putfield 101, 3) := by decide +kernel
theorem dX11_init_201 : decode cX11_init 201 = .ok (.aload_n 0, 1) := by decide +kernel
theorem dX11_init_202 : decode cX11_init 202 = .ok (.getfield 44, 3) := by decide +kernel
theorem dX11_init_205 : decode cX11_init 205 = .ok (.invokevirtual 105, 3) := by decide +kernel
theorem dX11_init_208 : decode cX11_init 208 = .ok (.aload_n 0, 1) := by decide +kernel
theorem dX11_init_209 : decode cX11_init 209 = .ok (.getfield 48, 3) := by decide +kernel
theorem dX11_init_212 : decode cX11_init 212 = .ok (.invokevirtual 105, 3) := by decide +kernel
theorem dX11_init_215 : decode cX11_init 215 = .ok (.return_, 1) := by decide +kernel
theorem dX11_feed_0 : decode cX11_feed 0 = .ok (.aload_n 0, 1) := by decide +kernel
theorem dX11_feed_1 : decode cX11_feed 1 = .ok (.getfield 19, 3) := by decide +kernel
theorem dX11_feed_4 : decode cX11_feed 4 = .ok (.getfield 108, 3) := by decide +kernel
theorem dX11_feed_7 : decode cX11_feed 7 = .ok (.bipush 20, 2) := by decide +kernel
theorem dX11_feed_9 : decode cX11_feed 9 = .ok (.iadd, 1) := by decide +kernel
theorem dX11_feed_10 : decode cX11_feed 10 = .ok (.sipush 500, 3) := by decide +kernel
theorem dX11_feed_13 : decode cX11_feed 13 = .ok (.if_icmp .le 5, 3) := by decide +kernel
theorem dX11_feed_16 : decode cX11_feed 16 = .ok (.iconst (-1), 1) := by decide +kernel
theorem dX11_feed_17 : decode cX11_feed 17 = .ok (.ireturn, 1) := by decide +kernel
theorem dX11_feed_18 : decode cX11_feed 18 = .ok (.aload_n 0, 1) := by decide +kernel
theorem dX11_feed_19 : decode cX11_feed 19 = .ok (.getfield 19, 3) := by decide +kernel
theorem dX11_feed_22 : decode cX11_feed 22 = .ok (.iload_n 1, 1) := by decide +kernel
theorem dX11_feed_23 : decode cX11_feed 23 = .ok (.invokevirtual 112, 3) := by decide +kernel
theorem dX11_feed_26 : decode cX11_feed 26 = .ok (.aload_n 0, 1) := by decide +kernel
theorem dX11_feed_27 : decode cX11_feed 27 = .ok (.getfield 19, 3) := by decide +kernel
theorem dX11_feed_30 : decode cX11_feed 30 = .ok (.iload_n 2, 1) := by decide +kernel
theorem dX11_feed_31 : decode cX11_feed 31 = .ok (.invokevirtual 112, 3) := by decide +kernel
theorem dX11_feed_34 : decode cX11_feed 34 = .ok (.aload_n 0, 1) := by decide +kernel
theorem dX11_feed_35 : decode cX11_feed 35 = .ok (.getfield 19, 3) := by decide +kernel
theorem dX11_feed_38 : decode cX11_feed 38 = .ok (.iload_n 3, 1) := by decide +kernel
theorem dX11_feed_39 : decode cX11_feed 39 = .ok (.invokevirtual 112, 3) := by decide +kernel
theorem dX11_feed_42 : decode cX11_feed 42 = .ok (.aload_n 0, 1) := by decide +kernel
theorem dX11_feed_43 : decode cX11_feed 43 = .ok (.getfield 19, 3) := by decide +kernel
theorem dX11_feed_46 : decode cX11_feed 46 = .ok (.iload 4, 2) := by decide +kernel
theorem dX11_feed_48 : decode cX11_feed 48 = .ok (.invokevirtual 112, 3) := by decide +kernel
theorem dX11_feed_51 : decode cX11_feed 51 = .ok (.aload_n 0, 1) := by decide +kernel
theorem dX11_feed_52 : decode cX11_feed 52 = .ok (.getfield 19, 3) := by decide +kernel
theorem dX11_feed_55 : decode cX11_feed 55 = .ok (.iload 5, 2) := by decide +kernel
theorem dX11_feed_57 : decode cX11_feed 57 = .ok (.invokevirtual 112, 3) := by decide +kernel
theorem dX11_feed_60 : decode cX11_feed 60 = .ok (.aload_n 0, 1) := by decide +kernel
theorem dX11_feed_61 : decode cX11_feed 61 = .ok (.getfield 19, 3) := by decide +kernel
theorem dX11_feed_64 : decode cX11_feed 64 = .ok (.getfield 108, 3) := by decide +kernel
theorem dX11_feed_67 : decode cX11_feed 67 = .ok (.ireturn, 1) := by decide +kernel
theorem dX11_wall_0 : decode cX11_wall 0 = .ok (.iload_n 1, 1) := by decide +kernel
theorem dX11_wall_1 : decode cX11_wall 1 = .ok (.bipush 20, 2) := by decide +kernel
theorem dX11_wall_3 : decode cX11_wall 3 = .ok (.sipush 200, 3) := by decide +kernel
theorem dX11_wall_6 : decode cX11_wall 6 = .ok (.invokestatic 116, 3) := by decide +kernel
theorem dX11_wall_9 : decode cX11_wall 9 = .ok (.ifCond .eq 25, 3) := by decide +kernel
theorem dX11_wall_12 : decode cX11_wall 12 = .ok (.iload_n 2, 1) := by decide +kernel
theorem dX11_wall_13 : decode cX11_wall 13 = .ok (.bipush 20, 2) := by decide +kernel
theorem dX11_wall_15 : decode cX11_wall 15 = .ok (.sipush 200, 3) := by decide +kernel
theorem dX11_wall_18 : decode cX11_wall 18 = .ok (.invokestatic 116, 3) := by decide +kernel
theorem dX11_wall_21 : decode cX11_wall 21 = .ok (.ifCond .eq 13, 3) := by decide +kernel
theorem dX11_wall_24 : decode cX11_wall 24 = .ok (.iload_n 3, 1) := by decide +kernel
theorem dX11_wall_25 : decode cX11_wall 25 = .ok (.iconst 2, 1) := by decide +kernel
theorem dX11_wall_26 : decode cX11_wall 26 = .ok (.bipush 20, 2) := by decide +kernel
theorem dX11_wall_28 : decode cX11_wall 28 = .ok (.invokestatic 116, 3) := by decide +kernel
theorem dX11_wall_31 : decode cX11_wall 31 = .ok (.ifCond .ne 5, 3) := by decide +kernel
theorem dX11_wall_34 : decode cX11_wall 34 = .ok (.iconst 0, 1) := by decide +kernel
theorem dX11_wall_35 : decode cX11_wall 35 = .ok (.ireturn, 1) := by decide +kernel
theorem dX11_wall_36 : decode cX11_wall 36 = .ok (.aload_n 0, 1) := by decide +kernel
theorem dX11_wall_37 : decode cX11_wall 37 = .ok (.getfield 10, 3) := by decide +kernel
theorem dX11_wall_40 : decode cX11_wall 40 = .ok (.iload_n 1, 1) := by decide +kernel
theorem dX11_wall_41 : decode cX11_wall 41 = .ok (.putfield 120, 3) := by decide +kernel
theorem dX11_wall_44 : decode cX11_wall 44 = .ok (.aload_n 0, 1) := by decide +kernel
theorem dX11_wall_45 : decode cX11_wall 45 = .ok (.getfield 10, 3) := by decide +kernel
theorem dX11_wall_48 : decode cX11_wall 48 = .ok (.iload_n 2, 1) := by decide +kernel
theorem dX11_wall_49 : decode cX11_wall 49 = .ok (.putfield 123, 3) := by decide +kernel
theorem dX11_wall_52 : decode cX11_wall 52 = .ok (.aload_n 0, 1) := by decide +kernel
theorem dX11_wall_53 : decode cX11_wall 53 = .ok (.getfield 10, 3) := by decide +kernel
theorem dX11_wall_56 : decode cX11_wall 56 = .ok (.iload_n 3, 1) := by decide +kernel
theorem dX11_wall_57 : decode cX11_wall 57 = .ok (.putfield 126, 3) := by decide +kernel
theorem dX11_wall_60 : decode cX11_wall 60 = .ok (.aload_n 0, 1) := by decide +kernel
theorem dX11_wall_61 : decode cX11_wall 61 = .ok (.getfield 10, 3) := by decide +kernel
theorem dX11_wall_64 : decode cX11_wall 64 = .ok (.invokevirtual 129, 3) := by decide +kernel
theorem dX11_wall_67 : decode cX11_wall 67 = .ok (.aload_n 0, 1) := by decide +kernel
theorem dX11_wall_68 : decode cX11_wall 68 = .ok (.getfield 44, 3) := by decide +kernel
theorem dX11_wall_71 : decode cX11_wall 71 = .ok (.invokevirtual 105, 3) := by decide +kernel
theorem dX11_wall_74 : decode cX11_wall 74 = .ok (.aload_n 0, 1) := by decide +kernel
theorem dX11_wall_75 : decode cX11_wall 75 = .ok (.getfield 48, 3) := by decide +kernel
theorem dX11_wall_78 : decode cX11_wall 78 = .ok (.invokevirtual 105, 3) := by decide +kernel
theorem dX11_wall_81 : decode cX11_wall 81 = .ok (.aload_n 0, 1) := by decide +kernel
theorem dX11_wall_82 : decode cX11_wall 82 = .ok (.invokevirtual 132, 3) := by decide +kernel
theorem dX11_wall_85 : decode cX11_wall 85 = .ok (.iconst 1, 1) := by decide +kernel
theorem dX11_wall_86 : decode cX11_wall 86 = .ok (.ireturn, 1) := by decide +kernel
theorem dX11_set_0 : decode cX11_set 0 = .ok (.iload_n 1, 1) := by decide +kernel
theorem dX11_set_1 : decode cX11_set 1 = .ok (.ifCond .ne 42, 3) := by decide +kernel
theorem dX11_set_4 : decode cX11_set 4 = .ok (.iload_n 2, 1) := by decide +kernel
theorem dX11_set_5 : decode cX11_set 5 = .ok (.iconst 0, 1) := by decide +kernel
theorem dX11_set_6 : decode cX11_set 6 = .ok (.bipush 99, 2) := by decide +kernel
theorem dX11_set_8 : decode cX11_set 8 = .ok (.invokestatic 116, 3) := by decide +kernel
theorem dX11_set_11 : decode cX11_set 11 = .ok (.ifCond .eq 32, 3) := by decide +kernel
theorem dX11_set_14 : decode cX11_set 14 = .ok (.aload_n 0, 1) := by decide +kernel
theorem dX11_set_15 : decode cX11_set 15 = .ok (.getfield 10, 3) := by decide +kernel
theorem dX11_set_18 : decode cX11_set 18 = .ok (.iload_n 2, 1) := by decide +kernel
theorem dX11_set_19 : decode cX11_set 19 = .ok (.putfield 135, 3) := by decide +kernel
theorem dX11_set_22 : decode cX11_set 22 = .ok (.aload_n 0, 1) := by decide +kernel
theorem dX11_set_23 : decode cX11_set 23 = .ok (.getfield 44, 3) := by decide +kernel
theorem dX11_set_26 : decode cX11_set 26 = .ok (.invokevirtual 138, 3) := by decide +kernel
theorem dX11_set_29 : decode cX11_set 29 = .ok (.aload_n 0, 1) := by decide +kernel
theorem dX11_set_30 : decode cX11_set 30 = .ok (.getfield 48, 3) := by decide +kernel
theorem dX11_set_33 : decode cX11_set 33 = .ok (.invokevirtual 138, 3) := by decide +kernel
theorem dX11_set_36 : decode cX11_set 36 = .ok (.aload_n 0, 1) := by decide +kernel
theorem dX11_set_37 : decode cX11_set 37 = .ok (.invokevirtual 132, 3) := by decide +kernel
theorem dX11_set_40 : decode cX11_set 40 = .ok (.goto 58, 3) := by decide +kernel
theorem dX11_set_43 : decode cX11_set 43 = .ok (.iload_n 1, 1) := by decide +kernel
theorem dX11_set_44 : decode cX11_set 44 = .ok (.iconst 1, 1) := by decide +kernel
theorem dX11_set_45 : decode cX11_set 45 = .ok (.if_icmp .ne 24, 3) := by decide +kernel
theorem dX11_set_48 : decode cX11_set 48 = .ok (.iload_n 2, 1) := by decide +kernel
theorem dX11_set_49 : decode cX11_set 49 = .ok (.iconst 1, 1) := by decide +kernel
theorem dX11_set_50 : decode cX11_set 50 = .ok (.bipush 99, 2) := by decide +kernel
theorem dX11_set_52 : decode cX11_set 52 = .ok (.invokestatic 116, 3) := by decide +kernel
theorem dX11_set_55 : decode cX11_set 55 = .ok (.ifCond .eq 14, 3) := by decide +kernel
theorem dX11_set_58 : decode cX11_set 58 = .ok (.aload_n 0, 1) := by decide +kernel
theorem dX11_set_59 : decode cX11_set 59 = .ok (.getfield 10, 3) := by decide +kernel
theorem dX11_set_62 : decode cX11_set 62 = .ok (.iload_n 2, 1) := by decide +kernel
theorem dX11_set_63 : decode cX11_set 63 = .ok (.putfield 141, 3) := by decide +kernel
theorem dX11_set_66 : decode cX11_set 66 = .ok (.goto 32, 3) := by decide +kernel
theorem dX11_set_69 : decode cX11_set 69 = .ok (.iload_n 1, 1) := by decide +kernel
theorem dX11_set_70 : decode cX11_set 70 = .ok (.iconst 2, 1) := by decide +kernel
theorem dX11_set_71 : decode cX11_set 71 = .ok (.if_icmp .ne 25, 3) := by decide +kernel
theorem dX11_set_74 : decode cX11_set 74 = .ok (.iload_n 2, 1) := by decide +kernel
theorem dX11_set_75 : decode cX11_set 75 = .ok (.iconst 1, 1) := by decide +kernel
theorem dX11_set_76 : decode cX11_set 76 = .ok (.sipush 9999, 3) := by decide +kernel
theorem dX11_set_79 : decode cX11_set 79 = .ok (.invokestatic 116, 3) := by decide +kernel
theorem dX11_set_82 : decode cX11_set 82 = .ok (.ifCond .eq 14, 3) := by decide +kernel
theorem dX11_set_85 : decode cX11_set 85 = .ok (.aload_n 0, 1) := by decide +kernel
theorem dX11_set_86 : decode cX11_set 86 = .ok (.getfield 10, 3) := by decide +kernel
theorem dX11_set_89 : decode cX11_set 89 = .ok (.iload_n 2, 1) := by decide +kernel
theorem dX11_set_90 : decode cX11_set 90 = .ok (.putfield 144, 3) := by decide +kernel
theorem dX11_set_93 : decode cX11_set 93 = .ok (.goto 5, 3) := by decide +kernel
theorem dX11_set_96 : decode cX11_set 96 = .ok (.iconst 0, 1) := by decide +kernel
theorem dX11_set_97 : decode cX11_set 97 = .ok (.ireturn, 1) := by decide +kernel
theorem dX11_set_98 : decode cX11_set 98 = .ok (.aload_n 0, 1) := by decide +kernel
theorem dX11_set_99 : decode cX11_set 99 = .ok (.getfield 10, 3) := by decide +kernel
theorem dX11_set_102 : decode cX11_set 102 = .ok (.invokevirtual 129, 3) := by decide +kernel
theorem dX11_set_105 : decode cX11_set 105 = .ok (.iconst 1, 1) := by decide +kernel
theorem dX11_set_106 : decode cX11_set 106 = .ok (.ireturn, 1) := by decide +kernel
theorem dX11_draw_0 : decode cX11_draw 0 = .ok (.iload_n 1, 1) := by decide +kernel
theorem dX11_draw_1 : decode cX11_draw 1 = .ok (.ifCond .lt 14, 3) := by decide +kernel
theorem dX11_draw_4 : decode cX11_draw 4 = .ok (.iload_n 1, 1) := by decide +kernel
theorem dX11_draw_5 : decode cX11_draw 5 = .ok (.aload_n 0, 1) := by decide +kernel
theorem dX11_draw_6 : decode cX11_draw 6 = .ok (.getfield 19, 3) := by decide +kernel
theorem dX11_draw_9 : decode cX11_draw 9 = .ok (.getfield 108, 3) := by decide +kernel
theorem dX11_draw_12 : decode cX11_draw 12 = .ok (.if_icmp .le 6, 3) := by decide +kernel
theorem dX11_draw_15 : decode cX11_draw 15 = .ok (.bipush (-2), 2) := by decide +kernel
theorem dX11_draw_17 : decode cX11_draw 17 = .ok (.ireturn, 1) := by decide +kernel
theorem dX11_draw_18 : decode cX11_draw 18 = .ok (.aload_n 0, 1) := by decide +kernel
theorem dX11_draw_19 : decode cX11_draw 19 = .ok (.getfield 35, 3) := by decide +kernel
theorem dX11_draw_22 : decode cX11_draw 22 = .ok (.iload_n 1, 1) := by decide +kernel
theorem dX11_draw_23 : decode cX11_draw 23 = .ok (.invokevirtual 147, 3) := by decide +kernel
theorem dX11_draw_26 : decode cX11_draw 26 = .ok (.istore_n 2, 1) := by decide +kernel
theorem dX11_draw_27 : decode cX11_draw 27 = .ok (.aload_n 0, 1) := by decide +kernel
theorem dX11_draw_28 : decode cX11_draw 28 = .ok (.getfield 19, 3) := by decide +kernel
theorem dX11_draw_31 : decode cX11_draw 31 = .ok (.iconst 0, 1) := by decide +kernel
theorem dX11_draw_32 : decode cX11_draw 32 = .ok (.putfield 108, 3) := by decide +kernel
theorem dX11_draw_35 : decode cX11_draw 35 = .ok (.aload_n 0, 1) := by decide +kernel
theorem dX11_draw_36 : decode cX11_draw 36 = .ok (.iconst 0, 1) := by decide +kernel
theorem dX11_draw_37 : decode cX11_draw 37 = .ok (.putfield 101, 3) := by decide +kernel
theorem dX11_draw_40 : decode cX11_draw 40 = .ok (.iload_n 2, 1) := by decide +kernel
theorem dX11_draw_41 : decode cX11_draw 41 = .ok (.ifCond .ne 5, 3) := by decide +kernel
theorem dX11_draw_44 : decode cX11_draw 44 = .ok (.iconst (-1), 1) := by decide +kernel
theorem dX11_draw_45 : decode cX11_draw 45 = .ok (.ireturn, 1) := by decide +kernel
theorem dX11_draw_46 : decode cX11_draw 46 = .ok (.aload_n 0, 1) := by decide +kernel
theorem dX11_draw_47 : decode cX11_draw 47 = .ok (.invokevirtual 132, 3) := by decide +kernel
theorem dX11_draw_50 : decode cX11_draw 50 = .ok (.aload_n 0, 1) := by decide +kernel
theorem dX11_draw_51 : decode cX11_draw 51 = .ok (.aload_n 0, 1) := by decide +kernel
theorem dX11_draw_52 : decode cX11_draw 52 = .ok (.getfield 56, 3) := by decide +kernel
theorem dX11_draw_55 : decode cX11_draw 55 = .ok (.invokevirtual 151, 3) := by decide +kernel
theorem dX11_draw_58 : decode cX11_draw 58 = .ok (.putfield 101, 3) := by decide +kernel
theorem dX11_draw_61 : decode cX11_draw 61 = .ok (.aload_n 0, 1) := by decide +kernel
theorem dX11_draw_62 : decode cX11_draw 62 = .ok (.getfield 44, 3) := by decide +kernel
theorem dX11_draw_65 : decode cX11_draw 65 = .ok (.invokevirtual 138, 3) := by decide +kernel
theorem dX11_draw_68 : decode cX11_draw 68 = .ok (.aload_n 0, 1) := by decide +kernel
theorem dX11_draw_69 : decode cX11_draw 69 = .ok (.getfield 44, 3) := by decide +kernel
theorem dX11_draw_72 : decode cX11_draw 72 = .ok (.getfield 155, 3) := by decide +kernel
theorem dX11_draw_75 : decode cX11_draw 75 = .ok (.ireturn, 1) := by decide +kernel
theorem dX11_fault_0 : decode cX11_fault 0 = .ok (.iload_n 1, 1) := by decide +kernel
theorem dX11_fault_1 : decode cX11_fault 1 = .ok (.tableswitch 56 0 2 #[27, 35, 43], 27) := by decide +kernel
theorem dX11_fault_28 : decode cX11_fault 28 = .ok (.aload_n 0, 1) := by decide +kernel
theorem dX11_fault_29 : decode cX11_fault 29 = .ok (.getfield 35, 3) := by decide +kernel
theorem dX11_fault_32 : decode cX11_fault 32 = .ok (.getfield 158, 3) := by decide +kernel
theorem dX11_fault_35 : decode cX11_fault 35 = .ok (.ireturn, 1) := by decide +kernel
theorem dX11_fault_36 : decode cX11_fault 36 = .ok (.aload_n 0, 1) := by decide +kernel
theorem dX11_fault_37 : decode cX11_fault 37 = .ok (.getfield 35, 3) := by decide +kernel
theorem dX11_fault_40 : decode cX11_fault 40 = .ok (.getfield 161, 3) := by decide +kernel
theorem dX11_fault_43 : decode cX11_fault 43 = .ok (.ireturn, 1) := by decide +kernel
theorem dX11_fault_44 : decode cX11_fault 44 = .ok (.aload_n 0, 1) := by decide +kernel
theorem dX11_fault_45 : decode cX11_fault 45 = .ok (.getfield 101, 3) := by decide +kernel
theorem dX11_fault_48 : decode cX11_fault 48 = .ok (.ifCond .eq 7, 3) := by decide +kernel
theorem dX11_fault_51 : decode cX11_fault 51 = .ok (.iconst 1, 1) := by decide +kernel
theorem dX11_fault_52 : decode cX11_fault 52 = .ok (.goto 4, 3) := by decide +kernel
theorem dX11_fault_55 : decode cX11_fault 55 = .ok (.iconst 0, 1) := by decide +kernel
theorem dX11_fault_56 : decode cX11_fault 56 = .ok (.ireturn, 1) := by decide +kernel
theorem dX11_fault_57 : decode cX11_fault 57 = .ok (.iconst (-1), 1) := by decide +kernel
theorem dX11_fault_58 : decode cX11_fault 58 = .ok (.ireturn, 1) := by decide +kernel
theorem dX11_look_0 : decode cX11_look 0 = .ok (.aload_n 0, 1) := by decide +kernel
theorem dX11_look_1 : decode cX11_look 1 = .ok (.getfield 44, 3) := by decide +kernel
theorem dX11_look_4 : decode cX11_look 4 = .ok (.iload_n 1, 1) := by decide +kernel
theorem dX11_look_5 : decode cX11_look 5 = .ok (.invokevirtual 164, 3) := by decide +kernel
theorem dX11_look_8 : decode cX11_look 8 = .ok (.ifCond .ne 13, 3) := by decide +kernel
theorem dX11_look_11 : decode cX11_look 11 = .ok (.new 167, 3) := by decide +kernel
theorem dX11_look_14 : decode cX11_look 14 = .ok (.dup, 1) := by decide +kernel
theorem dX11_look_15 : decode cX11_look 15 = .ok (.ldc 169, 2) := by decide +kernel
theorem dX11_look_17 : decode cX11_look 17 = .ok (.invokespecial 171, 3) := by decide +kernel
theorem dX11_look_20 : decode cX11_look 20 = .ok (.athrow, 1) := by decide +kernel
theorem dX11_look_21 : decode cX11_look 21 = .ok (.iload_n 2, 1) := by decide +kernel
theorem dX11_look_22 : decode cX11_look 22 = .ok (.tableswitch 115 0 5 #[38, 50, 62, 82, 91, 103], 38) := by decide +kernel
theorem dX11_look_60 : decode cX11_look 60 = .ok (.aload_n 0, 1) := by decide +kernel
theorem dX11_look_61 : decode cX11_look 61 = .ok (.getfield 44, 3) := by decide +kernel
theorem dX11_look_64 : decode cX11_look 64 = .ok (.getfield 174, 3) := by decide +kernel
theorem dX11_look_67 : decode cX11_look 67 = .ok (.iload_n 1, 1) := by decide +kernel
theorem dX11_look_68 : decode cX11_look 68 = .ok (.iconst 1, 1) := by decide +kernel
theorem dX11_look_69 : decode cX11_look 69 = .ok (.iadd, 1) := by decide +kernel
theorem dX11_look_70 : decode cX11_look 70 = .ok (.iaload, 1) := by decide +kernel
theorem dX11_look_71 : decode cX11_look 71 = .ok (.ireturn, 1) := by decide +kernel
theorem dX11_look_72 : decode cX11_look 72 = .ok (.aload_n 0, 1) := by decide +kernel
theorem dX11_look_73 : decode cX11_look 73 = .ok (.getfield 44, 3) := by decide +kernel
theorem dX11_look_76 : decode cX11_look 76 = .ok (.getfield 178, 3) := by decide +kernel
theorem dX11_look_79 : decode cX11_look 79 = .ok (.iload_n 1, 1) := by decide +kernel
theorem dX11_look_80 : decode cX11_look 80 = .ok (.iconst 1, 1) := by decide +kernel
theorem dX11_look_81 : decode cX11_look 81 = .ok (.iadd, 1) := by decide +kernel
theorem dX11_look_82 : decode cX11_look 82 = .ok (.iaload, 1) := by decide +kernel
theorem dX11_look_83 : decode cX11_look 83 = .ok (.ireturn, 1) := by decide +kernel
theorem dX11_look_84 : decode cX11_look 84 = .ok (.aload_n 0, 1) := by decide +kernel
theorem dX11_look_85 : decode cX11_look 85 = .ok (.getfield 44, 3) := by decide +kernel
theorem dX11_look_88 : decode cX11_look 88 = .ok (.getfield 181, 3) := by decide +kernel
theorem dX11_look_91 : decode cX11_look 91 = .ok (.iload_n 1, 1) := by decide +kernel
theorem dX11_look_92 : decode cX11_look 92 = .ok (.iconst 1, 1) := by decide +kernel
theorem dX11_look_93 : decode cX11_look 93 = .ok (.iadd, 1) := by decide +kernel
theorem dX11_look_94 : decode cX11_look 94 = .ok (.baload, 1) := by decide +kernel
theorem dX11_look_95 : decode cX11_look 95 = .ok (.ifCond .eq 7, 3) := by decide +kernel
theorem dX11_look_98 : decode cX11_look 98 = .ok (.iconst 1, 1) := by decide +kernel
theorem dX11_look_99 : decode cX11_look 99 = .ok (.goto 4, 3) := by decide +kernel
theorem dX11_look_102 : decode cX11_look 102 = .ok (.iconst 0, 1) := by decide +kernel
theorem dX11_look_103 : decode cX11_look 103 = .ok (.ireturn, 1) := by decide +kernel
theorem dX11_look_104 : decode cX11_look 104 = .ok (.aload_n 0, 1) := by decide +kernel
theorem dX11_look_105 : decode cX11_look 105 = .ok (.getfield 44, 3) := by decide +kernel
theorem dX11_look_108 : decode cX11_look 108 = .ok (.iload_n 1, 1) := by decide +kernel
theorem dX11_look_109 : decode cX11_look 109 = .ok (.invokevirtual 185, 3) := by decide +kernel
theorem dX11_look_112 : decode cX11_look 112 = .ok (.ireturn, 1) := by decide +kernel
theorem dX11_look_113 : decode cX11_look 113 = .ok (.aload_n 0, 1) := by decide +kernel
theorem dX11_look_114 : decode cX11_look 114 = .ok (.getfield 44, 3) := by decide +kernel
theorem dX11_look_117 : decode cX11_look 117 = .ok (.getfield 189, 3) := by decide +kernel
theorem dX11_look_120 : decode cX11_look 120 = .ok (.iload_n 1, 1) := by decide +kernel
theorem dX11_look_121 : decode cX11_look 121 = .ok (.iconst 1, 1) := by decide +kernel
theorem dX11_look_122 : decode cX11_look 122 = .ok (.iadd, 1) := by decide +kernel
theorem dX11_look_123 : decode cX11_look 123 = .ok (.iaload, 1) := by decide +kernel
theorem dX11_look_124 : decode cX11_look 124 = .ok (.ireturn, 1) := by decide +kernel
theorem dX11_look_125 : decode cX11_look 125 = .ok (.aload_n 0, 1) := by decide +kernel
theorem dX11_look_126 : decode cX11_look 126 = .ok (.getfield 44, 3) := by decide +kernel
theorem dX11_look_129 : decode cX11_look 129 = .ok (.getfield 192, 3) := by decide +kernel
theorem dX11_look_132 : decode cX11_look 132 = .ok (.iload_n 1, 1) := by decide +kernel
theorem dX11_look_133 : decode cX11_look 133 = .ok (.iconst 1, 1) := by decide +kernel
theorem dX11_look_134 : decode cX11_look 134 = .ok (.iadd, 1) := by decide +kernel
theorem dX11_look_135 : decode cX11_look 135 = .ok (.iaload, 1) := by decide +kernel
theorem dX11_look_136 : decode cX11_look 136 = .ok (.ireturn, 1) := by decide +kernel
theorem dX11_look_137 : decode cX11_look 137 = .ok (.new 195, 3) := by decide +kernel
theorem dX11_look_140 : decode cX11_look 140 = .ok (.dup, 1) := by decide +kernel
theorem dX11_look_141 : decode cX11_look 141 = .ok (.ldc 197, 2) := by decide +kernel
theorem dX11_look_143 : decode cX11_look 143 = .ok (.invokespecial 199, 3) := by decide +kernel
theorem dX11_look_146 : decode cX11_look 146 = .ok (.athrow, 1) := by decide +kernel
theorem dX11_steps_0 : decode cX11_steps 0 = .ok (.aload_n 0, 1) := by decide +kernel
theorem dX11_steps_1 : decode cX11_steps 1 = .ok (.getfield 10, 3) := by decide +kernel
theorem dX11_steps_4 : decode cX11_steps 4 = .ok (.iload_n 1, 1) := by decide +kernel
theorem dX11_steps_5 : decode cX11_steps 5 = .ok (.iload_n 2, 1) := by decide +kernel
theorem dX11_steps_6 : decode cX11_steps 6 = .ok (.invokevirtual 200, 3) := by decide +kernel
theorem dX11_steps_9 : decode cX11_steps 9 = .ok (.ifCond .eq 10, 3) := by decide +kernel
theorem dX11_steps_12 : decode cX11_steps 12 = .ok (.iload_n 3, 1) := by decide +kernel
theorem dX11_steps_13 : decode cX11_steps 13 = .ok (.invokestatic 204, 3) := by decide +kernel
theorem dX11_steps_16 : decode cX11_steps 16 = .ok (.ifCond .ne 5, 3) := by decide +kernel
theorem dX11_steps_19 : decode cX11_steps 19 = .ok (.iconst (-1), 1) := by decide +kernel
theorem dX11_steps_20 : decode cX11_steps 20 = .ok (.ireturn, 1) := by decide +kernel
theorem dX11_steps_21 : decode cX11_steps 21 = .ok (.iload_n 3, 1) := by decide +kernel
theorem dX11_steps_22 : decode cX11_steps 22 = .ok (.ifCond .ne 17, 3) := by decide +kernel
theorem dX11_steps_25 : decode cX11_steps 25 = .ok (.aload_n 0, 1) := by decide +kernel
theorem dX11_steps_26 : decode cX11_steps 26 = .ok (.getfield 10, 3) := by decide +kernel
theorem dX11_steps_29 : decode cX11_steps 29 = .ok (.iload_n 1, 1) := by decide +kernel
theorem dX11_steps_30 : decode cX11_steps 30 = .ok (.i2l, 1) := by decide +kernel
theorem dX11_steps_31 : decode cX11_steps 31 = .ok (.iload_n 2, 1) := by decide +kernel
theorem dX11_steps_32 : decode cX11_steps 32 = .ok (.i2l, 1) := by decide +kernel
theorem dX11_steps_33 : decode cX11_steps 33 = .ok (.invokevirtual 207, 3) := by decide +kernel
theorem dX11_steps_36 : decode cX11_steps 36 = .ok (.goto 14, 3) := by decide +kernel
theorem dX11_steps_39 : decode cX11_steps 39 = .ok (.aload_n 0, 1) := by decide +kernel
theorem dX11_steps_40 : decode cX11_steps 40 = .ok (.getfield 10, 3) := by decide +kernel
theorem dX11_steps_43 : decode cX11_steps 43 = .ok (.iload_n 1, 1) := by decide +kernel
theorem dX11_steps_44 : decode cX11_steps 44 = .ok (.i2l, 1) := by decide +kernel
theorem dX11_steps_45 : decode cX11_steps 45 = .ok (.iload_n 2, 1) := by decide +kernel
theorem dX11_steps_46 : decode cX11_steps 46 = .ok (.i2l, 1) := by decide +kernel
theorem dX11_steps_47 : decode cX11_steps 47 = .ok (.invokevirtual 211, 3) := by decide +kernel
theorem dX11_steps_50 : decode cX11_steps 50 = .ok (.ireturn, 1) := by decide +kernel
theorem dX11_place_0 : decode cX11_place 0 = .ok (.iload_n 1, 1) := by decide +kernel
theorem dX11_place_1 : decode cX11_place 1 = .ok (.iconst 0, 1) := by decide +kernel
theorem dX11_place_2 : decode cX11_place 2 = .ok (.sipush 9999, 3) := by decide +kernel
theorem dX11_place_5 : decode cX11_place 5 = .ok (.invokestatic 116, 3) := by decide +kernel
theorem dX11_place_8 : decode cX11_place 8 = .ok (.ifCond .eq 21, 3) := by decide +kernel
theorem dX11_place_11 : decode cX11_place 11 = .ok (.iload_n 2, 1) := by decide +kernel
theorem dX11_place_12 : decode cX11_place 12 = .ok (.iconst 0, 1) := by decide +kernel
theorem dX11_place_13 : decode cX11_place 13 = .ok (.sipush 9999, 3) := by decide +kernel
theorem dX11_place_16 : decode cX11_place 16 = .ok (.invokestatic 116, 3) := by decide +kernel
theorem dX11_place_19 : decode cX11_place 19 = .ok (.ifCond .eq 10, 3) := by decide +kernel
theorem dX11_place_22 : decode cX11_place 22 = .ok (.iload_n 3, 1) := by decide +kernel
theorem dX11_place_23 : decode cX11_place 23 = .ok (.invokestatic 214, 3) := by decide +kernel
theorem dX11_place_26 : decode cX11_place 26 = .ok (.ifCond .ne 6, 3) := by decide +kernel
theorem dX11_place_29 : decode cX11_place 29 = .ok (.ldc 217, 2) := by decide +kernel
theorem dX11_place_31 : decode cX11_place 31 = .ok (.ireturn, 1) := by decide +kernel
theorem dX11_place_32 : decode cX11_place 32 = .ok (.aload_n 0, 1) := by decide +kernel
theorem dX11_place_33 : decode cX11_place 33 = .ok (.iload_n 1, 1) := by decide +kernel
theorem dX11_place_34 : decode cX11_place 34 = .ok (.iload_n 2, 1) := by decide +kernel
theorem dX11_place_35 : decode cX11_place 35 = .ok (.iload_n 3, 1) := by decide +kernel
theorem dX11_place_36 : decode cX11_place 36 = .ok (.invokevirtual 218, 3) := by decide +kernel
theorem dX11_place_39 : decode cX11_place 39 = .ok (.ireturn, 1) := by decide +kernel
theorem dX11_grain_0 : decode cX11_grain 0 = .ok (.aload_n 0, 1) := by decide +kernel
theorem dX11_grain_1 : decode cX11_grain 1 = .ok (.getfield 10, 3) := by decide +kernel
theorem dX11_grain_4 : decode cX11_grain 4 = .ok (.iload_n 1, 1) := by decide +kernel
theorem dX11_grain_5 : decode cX11_grain 5 = .ok (.iload_n 2, 1) := by decide +kernel
theorem dX11_grain_6 : decode cX11_grain 6 = .ok (.invokevirtual 200, 3) := by decide +kernel
theorem dX11_grain_9 : decode cX11_grain 9 = .ok (.ifCond .eq 15, 3) := by decide +kernel
theorem dX11_grain_12 : decode cX11_grain 12 = .ok (.aload_n 0, 1) := by decide +kernel
theorem dX11_grain_13 : decode cX11_grain 13 = .ok (.getfield 10, 3) := by decide +kernel
theorem dX11_grain_16 : decode cX11_grain 16 = .ok (.iload_n 1, 1) := by decide +kernel
theorem dX11_grain_17 : decode cX11_grain 17 = .ok (.iload_n 2, 1) := by decide +kernel
theorem dX11_grain_18 : decode cX11_grain 18 = .ok (.invokevirtual 222, 3) := by decide +kernel
theorem dX11_grain_21 : decode cX11_grain 21 = .ok (.goto 4, 3) := by decide +kernel
theorem dX11_grain_24 : decode cX11_grain 24 = .ok (.iconst (-1), 1) := by decide +kernel
theorem dX11_grain_25 : decode cX11_grain 25 = .ok (.ireturn, 1) := by decide +kernel
theorem dX11_pull_0 : decode cX11_pull 0 = .ok (.iload_n 1, 1) := by decide +kernel
theorem dX11_pull_1 : decode cX11_pull 1 = .ok (.iconst 0, 1) := by decide +kernel
theorem dX11_pull_2 : decode cX11_pull 2 = .ok (.aload_n 0, 1) := by decide +kernel
theorem dX11_pull_3 : decode cX11_pull 3 = .ok (.getfield 10, 3) := by decide +kernel
theorem dX11_pull_6 : decode cX11_pull 6 = .ok (.getfield 120, 3) := by decide +kernel
theorem dX11_pull_9 : decode cX11_pull 9 = .ok (.invokestatic 116, 3) := by decide +kernel
theorem dX11_pull_12 : decode cX11_pull 12 = .ok (.ifCond .eq 18, 3) := by decide +kernel
theorem dX11_pull_15 : decode cX11_pull 15 = .ok (.iload_n 2, 1) := by decide +kernel
theorem dX11_pull_16 : decode cX11_pull 16 = .ok (.iconst 1, 1) := by decide +kernel
theorem dX11_pull_17 : decode cX11_pull 17 = .ok (.aload_n 0, 1) := by decide +kernel
theorem dX11_pull_18 : decode cX11_pull 18 = .ok (.getfield 10, 3) := by decide +kernel
theorem dX11_pull_21 : decode cX11_pull 21 = .ok (.getfield 123, 3) := by decide +kernel
theorem dX11_pull_24 : decode cX11_pull 24 = .ok (.invokestatic 116, 3) := by decide +kernel
theorem dX11_pull_27 : decode cX11_pull 27 = .ok (.ifCond .ne 5, 3) := by decide +kernel
theorem dX11_pull_30 : decode cX11_pull 30 = .ok (.iconst (-1), 1) := by decide +kernel
theorem dX11_pull_31 : decode cX11_pull 31 = .ok (.ireturn, 1) := by decide +kernel
theorem dX11_pull_32 : decode cX11_pull 32 = .ok (.iload_n 3, 1) := by decide +kernel
theorem dX11_pull_33 : decode cX11_pull 33 = .ok (.tableswitch 65 0 2 #[27, 37, 47], 27) := by decide +kernel
theorem dX11_pull_60 : decode cX11_pull 60 = .ok (.aload_n 0, 1) := by decide +kernel
theorem dX11_pull_61 : decode cX11_pull 61 = .ok (.getfield 10, 3) := by decide +kernel
theorem dX11_pull_64 : decode cX11_pull 64 = .ok (.iload_n 1, 1) := by decide +kernel
theorem dX11_pull_65 : decode cX11_pull 65 = .ok (.iload_n 2, 1) := by decide +kernel
theorem dX11_pull_66 : decode cX11_pull 66 = .ok (.invokevirtual 226, 3) := by decide +kernel
theorem dX11_pull_69 : decode cX11_pull 69 = .ok (.ireturn, 1) := by decide +kernel
theorem dX11_pull_70 : decode cX11_pull 70 = .ok (.aload_n 0, 1) := by decide +kernel
theorem dX11_pull_71 : decode cX11_pull 71 = .ok (.getfield 10, 3) := by decide +kernel
theorem dX11_pull_74 : decode cX11_pull 74 = .ok (.iload_n 1, 1) := by decide +kernel
theorem dX11_pull_75 : decode cX11_pull 75 = .ok (.iload_n 2, 1) := by decide +kernel
theorem dX11_pull_76 : decode cX11_pull 76 = .ok (.invokevirtual 229, 3) := by decide +kernel
theorem dX11_pull_79 : decode cX11_pull 79 = .ok (.ireturn, 1) := by decide +kernel
theorem dX11_pull_80 : decode cX11_pull 80 = .ok (.aload_n 0, 1) := by decide +kernel
theorem dX11_pull_81 : decode cX11_pull 81 = .ok (.getfield 10, 3) := by decide +kernel
theorem dX11_pull_84 : decode cX11_pull 84 = .ok (.iload_n 1, 1) := by decide +kernel
theorem dX11_pull_85 : decode cX11_pull 85 = .ok (.iload_n 2, 1) := by decide +kernel
theorem dX11_pull_86 : decode cX11_pull 86 = .ok (.invokevirtual 232, 3) := by decide +kernel
theorem dX11_pull_89 : decode cX11_pull 89 = .ok (.ifCond .eq 7, 3) := by decide +kernel
theorem dX11_pull_92 : decode cX11_pull 92 = .ok (.iconst 1, 1) := by decide +kernel
theorem dX11_pull_93 : decode cX11_pull 93 = .ok (.goto 4, 3) := by decide +kernel
theorem dX11_pull_96 : decode cX11_pull 96 = .ok (.iconst 0, 1) := by decide +kernel
theorem dX11_pull_97 : decode cX11_pull 97 = .ok (.ireturn, 1) := by decide +kernel
theorem dX11_pull_98 : decode cX11_pull 98 = .ok (.iconst (-1), 1) := by decide +kernel
theorem dX11_pull_99 : decode cX11_pull 99 = .ok (.ireturn, 1) := by decide +kernel
theorem dX11_reach_0 : decode cX11_reach 0 = .ok (.aload_n 0, 1) := by decide +kernel
theorem dX11_reach_1 : decode cX11_reach 1 = .ok (.getfield 10, 3) := by decide +kernel
theorem dX11_reach_4 : decode cX11_reach 4 = .ok (.invokevirtual 235, 3) := by decide +kernel
theorem dX11_reach_7 : decode cX11_reach 7 = .ok (.ireturn, 1) := by decide +kernel
theorem dX11_sag_0 : decode cX11_sag 0 = .ok (.aload_n 0, 1) := by decide +kernel
theorem dX11_sag_1 : decode cX11_sag 1 = .ok (.getfield 44, 3) := by decide +kernel
theorem dX11_sag_4 : decode cX11_sag 4 = .ok (.iload_n 1, 1) := by decide +kernel
theorem dX11_sag_5 : decode cX11_sag 5 = .ok (.invokevirtual 164, 3) := by decide +kernel
theorem dX11_sag_8 : decode cX11_sag 8 = .ok (.ifCond .eq 14, 3) := by decide +kernel
theorem dX11_sag_11 : decode cX11_sag 11 = .ok (.aload_n 0, 1) := by decide +kernel
theorem dX11_sag_12 : decode cX11_sag 12 = .ok (.getfield 65, 3) := by decide +kernel
theorem dX11_sag_15 : decode cX11_sag 15 = .ok (.iload_n 1, 1) := by decide +kernel
theorem dX11_sag_16 : decode cX11_sag 16 = .ok (.invokevirtual 239, 3) := by decide +kernel
theorem dX11_sag_19 : decode cX11_sag 19 = .ok (.goto 4, 3) := by decide +kernel
theorem dX11_sag_22 : decode cX11_sag 22 = .ok (.iconst (-1), 1) := by decide +kernel
theorem dX11_sag_23 : decode cX11_sag 23 = .ok (.ireturn, 1) := by decide +kernel
theorem dX11_parts_0 : decode cX11_parts 0 = .ok (.aload_n 0, 1) := by decide +kernel
theorem dX11_parts_1 : decode cX11_parts 1 = .ok (.getfield 44, 3) := by decide +kernel
theorem dX11_parts_4 : decode cX11_parts 4 = .ok (.iload_n 1, 1) := by decide +kernel
theorem dX11_parts_5 : decode cX11_parts 5 = .ok (.invokevirtual 164, 3) := by decide +kernel
theorem dX11_parts_8 : decode cX11_parts 8 = .ok (.ifCond .eq 19, 3) := by decide +kernel
theorem dX11_parts_11 : decode cX11_parts 11 = .ok (.iload_n 2, 1) := by decide +kernel
theorem dX11_parts_12 : decode cX11_parts 12 = .ok (.ifCond .lt 15, 3) := by decide +kernel
theorem dX11_parts_15 : decode cX11_parts 15 = .ok (.aload_n 0, 1) := by decide +kernel
theorem dX11_parts_16 : decode cX11_parts 16 = .ok (.getfield 65, 3) := by decide +kernel
theorem dX11_parts_19 : decode cX11_parts 19 = .ok (.iload_n 1, 1) := by decide +kernel
theorem dX11_parts_20 : decode cX11_parts 20 = .ok (.iload_n 2, 1) := by decide +kernel
theorem dX11_parts_21 : decode cX11_parts 21 = .ok (.invokevirtual 242, 3) := by decide +kernel
theorem dX11_parts_24 : decode cX11_parts 24 = .ok (.goto 4, 3) := by decide +kernel
theorem dX11_parts_27 : decode cX11_parts 27 = .ok (.iconst (-1), 1) := by decide +kernel
theorem dX11_parts_28 : decode cX11_parts 28 = .ok (.ireturn, 1) := by decide +kernel
theorem dX11_skips_0 : decode cX11_skips 0 = .ok (.iload_n 1, 1) := by decide +kernel
theorem dX11_skips_1 : decode cX11_skips 1 = .ok (.ifCond .ge 7, 3) := by decide +kernel
theorem dX11_skips_4 : decode cX11_skips 4 = .ok (.iconst (-1), 1) := by decide +kernel
theorem dX11_skips_5 : decode cX11_skips 5 = .ok (.goto 11, 3) := by decide +kernel
theorem dX11_skips_8 : decode cX11_skips 8 = .ok (.aload_n 0, 1) := by decide +kernel
theorem dX11_skips_9 : decode cX11_skips 9 = .ok (.getfield 65, 3) := by decide +kernel
theorem dX11_skips_12 : decode cX11_skips 12 = .ok (.iload_n 1, 1) := by decide +kernel
theorem dX11_skips_13 : decode cX11_skips 13 = .ok (.invokevirtual 245, 3) := by decide +kernel
theorem dX11_skips_16 : decode cX11_skips 16 = .ok (.ireturn, 1) := by decide +kernel
theorem dX11_ticks_0 : decode cX11_ticks 0 = .ok (.iload_n 1, 1) := by decide +kernel
theorem dX11_ticks_1 : decode cX11_ticks 1 = .ok (.ifCond .eq 10, 3) := by decide +kernel
theorem dX11_ticks_4 : decode cX11_ticks 4 = .ok (.iload_n 1, 1) := by decide +kernel
theorem dX11_ticks_5 : decode cX11_ticks 5 = .ok (.iconst 1, 1) := by decide +kernel
theorem dX11_ticks_6 : decode cX11_ticks 6 = .ok (.if_icmp .eq 5, 3) := by decide +kernel
theorem dX11_ticks_9 : decode cX11_ticks 9 = .ok (.iconst (-1), 1) := by decide +kernel
theorem dX11_ticks_10 : decode cX11_ticks 10 = .ok (.ireturn, 1) := by decide +kernel
theorem dX11_ticks_11 : decode cX11_ticks 11 = .ok (.iconst 0, 1) := by decide +kernel
theorem dX11_ticks_12 : decode cX11_ticks 12 = .ok (.istore_n 2, 1) := by decide +kernel
theorem dX11_ticks_13 : decode cX11_ticks 13 = .ok (.iconst 0, 1) := by decide +kernel
theorem dX11_ticks_14 : decode cX11_ticks 14 = .ok (.istore_n 3, 1) := by decide +kernel
theorem dX11_ticks_15 : decode cX11_ticks 15 = .ok (.iload_n 3, 1) := by decide +kernel
theorem dX11_ticks_16 : decode cX11_ticks 16 = .ok (.aload_n 0, 1) := by decide +kernel
theorem dX11_ticks_17 : decode cX11_ticks 17 = .ok (.getfield 44, 3) := by decide +kernel
theorem dX11_ticks_20 : decode cX11_ticks 20 = .ok (.getfield 155, 3) := by decide +kernel
theorem dX11_ticks_23 : decode cX11_ticks 23 = .ok (.if_icmp .ge 38, 3) := by decide +kernel
theorem dX11_ticks_26 : decode cX11_ticks 26 = .ok (.iload_n 1, 1) := by decide +kernel
theorem dX11_ticks_27 : decode cX11_ticks 27 = .ok (.ifCond .eq 17, 3) := by decide +kernel
theorem dX11_ticks_30 : decode cX11_ticks 30 = .ok (.aload_n 0, 1) := by decide +kernel
theorem dX11_ticks_31 : decode cX11_ticks 31 = .ok (.getfield 44, 3) := by decide +kernel
theorem dX11_ticks_34 : decode cX11_ticks 34 = .ok (.getfield 181, 3) := by decide +kernel
theorem dX11_ticks_37 : decode cX11_ticks 37 = .ok (.iload_n 3, 1) := by decide +kernel
theorem dX11_ticks_38 : decode cX11_ticks 38 = .ok (.iconst 1, 1) := by decide +kernel
theorem dX11_ticks_39 : decode cX11_ticks 39 = .ok (.iadd, 1) := by decide +kernel
theorem dX11_ticks_40 : decode cX11_ticks 40 = .ok (.baload, 1) := by decide +kernel
theorem dX11_ticks_41 : decode cX11_ticks 41 = .ok (.ifCond .eq 14, 3) := by decide +kernel
theorem dX11_ticks_44 : decode cX11_ticks 44 = .ok (.iload_n 2, 1) := by decide +kernel
theorem dX11_ticks_45 : decode cX11_ticks 45 = .ok (.aload_n 0, 1) := by decide +kernel
theorem dX11_ticks_46 : decode cX11_ticks 46 = .ok (.getfield 44, 3) := by decide +kernel
theorem dX11_ticks_49 : decode cX11_ticks 49 = .ok (.iload_n 3, 1) := by decide +kernel
theorem dX11_ticks_50 : decode cX11_ticks 50 = .ok (.invokevirtual 185, 3) := by decide +kernel
theorem dX11_ticks_53 : decode cX11_ticks 53 = .ok (.iadd, 1) := by decide +kernel
theorem dX11_ticks_54 : decode cX11_ticks 54 = .ok (.istore_n 2, 1) := by decide +kernel
theorem dX11_ticks_55 : decode cX11_ticks 55 = .ok (.iinc 3 1, 3) := by decide +kernel
theorem dX11_ticks_58 : decode cX11_ticks 58 = .ok (.goto (-43), 3) := by decide +kernel
theorem dX11_ticks_61 : decode cX11_ticks 61 = .ok (.iload_n 2, 1) := by decide +kernel
theorem dX11_ticks_62 : decode cX11_ticks 62 = .ok (.ireturn, 1) := by decide +kernel
theorem dX11_miss_0 : decode cX11_miss 0 = .ok (.aload_n 0, 1) := by decide +kernel
theorem dX11_miss_1 : decode cX11_miss 1 = .ok (.getfield 44, 3) := by decide +kernel
theorem dX11_miss_4 : decode cX11_miss 4 = .ok (.iload_n 1, 1) := by decide +kernel
theorem dX11_miss_5 : decode cX11_miss 5 = .ok (.invokevirtual 164, 3) := by decide +kernel
theorem dX11_miss_8 : decode cX11_miss 8 = .ok (.ifCond .eq 21, 3) := by decide +kernel
theorem dX11_miss_11 : decode cX11_miss 11 = .ok (.iload_n 2, 1) := by decide +kernel
theorem dX11_miss_12 : decode cX11_miss 12 = .ok (.invokestatic 204, 3) := by decide +kernel
theorem dX11_miss_15 : decode cX11_miss 15 = .ok (.ifCond .eq 14, 3) := by decide +kernel
theorem dX11_miss_18 : decode cX11_miss 18 = .ok (.iload_n 3, 1) := by decide +kernel
theorem dX11_miss_19 : decode cX11_miss 19 = .ok (.bipush (-9), 2) := by decide +kernel
theorem dX11_miss_21 : decode cX11_miss 21 = .ok (.bipush 9, 2) := by decide +kernel
theorem dX11_miss_23 : decode cX11_miss 23 = .ok (.invokestatic 116, 3) := by decide +kernel
theorem dX11_miss_26 : decode cX11_miss 26 = .ok (.ifCond .ne 5, 3) := by decide +kernel
theorem dX11_miss_29 : decode cX11_miss 29 = .ok (.iconst 0, 1) := by decide +kernel
theorem dX11_miss_30 : decode cX11_miss 30 = .ok (.ireturn, 1) := by decide +kernel
theorem dX11_miss_31 : decode cX11_miss 31 = .ok (.aload_n 0, 1) := by decide +kernel
theorem dX11_miss_32 : decode cX11_miss 32 = .ok (.getfield 44, 3) := by decide +kernel
theorem dX11_miss_35 : decode cX11_miss 35 = .ok (.getfield 248, 3) := by decide +kernel
theorem dX11_miss_38 : decode cX11_miss 38 = .ok (.iconst 2, 1) := by decide +kernel
theorem dX11_miss_39 : decode cX11_miss 39 = .ok (.iload_n 1, 1) := by decide +kernel
theorem dX11_miss_40 : decode cX11_miss 40 = .ok (.imul, 1) := by decide +kernel
theorem dX11_miss_41 : decode cX11_miss 41 = .ok (.iload_n 2, 1) := by decide +kernel
theorem dX11_miss_42 : decode cX11_miss 42 = .ok (.iadd, 1) := by decide +kernel
theorem dX11_miss_43 : decode cX11_miss 43 = .ok (.iload_n 3, 1) := by decide +kernel
theorem dX11_miss_44 : decode cX11_miss 44 = .ok (.iastore, 1) := by decide +kernel
theorem dX11_miss_45 : decode cX11_miss 45 = .ok (.iconst 1, 1) := by decide +kernel
theorem dX11_miss_46 : decode cX11_miss 46 = .ok (.ireturn, 1) := by decide +kernel
theorem dX11_real_0 : decode cX11_real 0 = .ok (.aload_n 0, 1) := by decide +kernel
theorem dX11_real_1 : decode cX11_real 1 = .ok (.getfield 44, 3) := by decide +kernel
theorem dX11_real_4 : decode cX11_real 4 = .ok (.iload_n 1, 1) := by decide +kernel
theorem dX11_real_5 : decode cX11_real 5 = .ok (.invokevirtual 164, 3) := by decide +kernel
theorem dX11_real_8 : decode cX11_real 8 = .ok (.ifCond .eq 21, 3) := by decide +kernel
theorem dX11_real_11 : decode cX11_real 11 = .ok (.iload_n 2, 1) := by decide +kernel
theorem dX11_real_12 : decode cX11_real 12 = .ok (.invokestatic 214, 3) := by decide +kernel
theorem dX11_real_15 : decode cX11_real 15 = .ok (.ifCond .eq 14, 3) := by decide +kernel
theorem dX11_real_18 : decode cX11_real 18 = .ok (.aload_n 0, 1) := by decide +kernel
theorem dX11_real_19 : decode cX11_real 19 = .ok (.iload_n 1, 1) := by decide +kernel
theorem dX11_real_20 : decode cX11_real 20 = .ok (.iconst 0, 1) := by decide +kernel
theorem dX11_real_21 : decode cX11_real 21 = .ok (.iconst 0, 1) := by decide +kernel
theorem dX11_real_22 : decode cX11_real 22 = .ok (.iload_n 2, 1) := by decide +kernel
theorem dX11_real_23 : decode cX11_real 23 = .ok (.invokevirtual 251, 3) := by decide +kernel
theorem dX11_real_26 : decode cX11_real 26 = .ok (.goto 5, 3) := by decide +kernel
theorem dX11_real_29 : decode cX11_real 29 = .ok (.ldc 217, 2) := by decide +kernel
theorem dX11_real_31 : decode cX11_real 31 = .ok (.ireturn, 1) := by decide +kernel
theorem dX11_seen_0 : decode cX11_seen 0 = .ok (.aload_n 0, 1) := by decide +kernel
theorem dX11_seen_1 : decode cX11_seen 1 = .ok (.getfield 44, 3) := by decide +kernel
theorem dX11_seen_4 : decode cX11_seen 4 = .ok (.iload_n 1, 1) := by decide +kernel
theorem dX11_seen_5 : decode cX11_seen 5 = .ok (.invokevirtual 164, 3) := by decide +kernel
theorem dX11_seen_8 : decode cX11_seen 8 = .ok (.ifCond .eq 16, 3) := by decide +kernel
theorem dX11_seen_11 : decode cX11_seen 11 = .ok (.aload_n 0, 1) := by decide +kernel
theorem dX11_seen_12 : decode cX11_seen 12 = .ok (.getfield 72, 3) := by decide +kernel
theorem dX11_seen_15 : decode cX11_seen 15 = .ok (.iload_n 1, 1) := by decide +kernel
theorem dX11_seen_16 : decode cX11_seen 16 = .ok (.iload_n 2, 1) := by decide +kernel
theorem dX11_seen_17 : decode cX11_seen 17 = .ok (.iload_n 3, 1) := by decide +kernel
theorem dX11_seen_18 : decode cX11_seen 18 = .ok (.invokevirtual 255, 3) := by decide +kernel
theorem dX11_seen_21 : decode cX11_seen 21 = .ok (.goto 4, 3) := by decide +kernel
theorem dX11_seen_24 : decode cX11_seen 24 = .ok (.iconst (-1), 1) := by decide +kernel
theorem dX11_seen_25 : decode cX11_seen 25 = .ok (.ireturn, 1) := by decide +kernel
theorem dX11_forget_0 : decode cX11_forget 0 = .ok (.aload_n 0, 1) := by decide +kernel
theorem dX11_forget_1 : decode cX11_forget 1 = .ok (.getfield 72, 3) := by decide +kernel
theorem dX11_forget_4 : decode cX11_forget 4 = .ok (.invokevirtual 257, 3) := by decide +kernel
theorem dX11_forget_7 : decode cX11_forget 7 = .ok (.ireturn, 1) := by decide +kernel
theorem dX11_found_0 : decode cX11_found 0 = .ok (.iload_n 1, 1) := by decide +kernel
theorem dX11_found_1 : decode cX11_found 1 = .ok (.iconst 0, 1) := by decide +kernel
theorem dX11_found_2 : decode cX11_found 2 = .ok (.sipush 999, 3) := by decide +kernel
theorem dX11_found_5 : decode cX11_found 5 = .ok (.invokestatic 116, 3) := by decide +kernel
theorem dX11_found_8 : decode cX11_found 8 = .ok (.ifCond .ne 5, 3) := by decide +kernel
theorem dX11_found_11 : decode cX11_found 11 = .ok (.iconst (-1), 1) := by decide +kernel
theorem dX11_found_12 : decode cX11_found 12 = .ok (.ireturn, 1) := by decide +kernel
theorem dX11_found_13 : decode cX11_found 13 = .ok (.iload_n 2, 1) := by decide +kernel
theorem dX11_found_14 : decode cX11_found 14 = .ok (.iconst 0, 1) := by decide +kernel
theorem dX11_found_15 : decode cX11_found 15 = .ok (.iconst 2, 1) := by decide +kernel
theorem dX11_found_16 : decode cX11_found 16 = .ok (.aload_n 0, 1) := by decide +kernel
theorem dX11_found_17 : decode cX11_found 17 = .ok (.getfield 72, 3) := by decide +kernel
theorem dX11_found_20 : decode cX11_found 20 = .ok (.getfield 260, 3) := by decide +kernel
theorem dX11_found_23 : decode cX11_found 23 = .ok (.imul, 1) := by decide +kernel
theorem dX11_found_24 : decode cX11_found 24 = .ok (.invokestatic 116, 3) := by decide +kernel
theorem dX11_found_27 : decode cX11_found 27 = .ok (.ifCond .ne 6, 3) := by decide +kernel
theorem dX11_found_30 : decode cX11_found 30 = .ok (.ldc 217, 2) := by decide +kernel
theorem dX11_found_32 : decode cX11_found 32 = .ok (.ireturn, 1) := by decide +kernel
theorem dX11_found_33 : decode cX11_found 33 = .ok (.aload_n 0, 1) := by decide +kernel
theorem dX11_found_34 : decode cX11_found 34 = .ok (.getfield 72, 3) := by decide +kernel
theorem dX11_found_37 : decode cX11_found 37 = .ok (.iload_n 1, 1) := by decide +kernel
theorem dX11_found_38 : decode cX11_found 38 = .ok (.invokevirtual 261, 3) := by decide +kernel
theorem dX11_found_41 : decode cX11_found 41 = .ok (.ifCond .ne 6, 3) := by decide +kernel
theorem dX11_found_44 : decode cX11_found 44 = .ok (.bipush (-2), 2) := by decide +kernel
theorem dX11_found_46 : decode cX11_found 46 = .ok (.ireturn, 1) := by decide +kernel
theorem dX11_found_47 : decode cX11_found 47 = .ok (.iload_n 2, 1) := by decide +kernel
theorem dX11_found_48 : decode cX11_found 48 = .ok (.ifCond .ne 11, 3) := by decide +kernel
theorem dX11_found_51 : decode cX11_found 51 = .ok (.aload_n 0, 1) := by decide +kernel
theorem dX11_found_52 : decode cX11_found 52 = .ok (.getfield 72, 3) := by decide +kernel
theorem dX11_found_55 : decode cX11_found 55 = .ok (.getfield 264, 3) := by decide +kernel
theorem dX11_found_58 : decode cX11_found 58 = .ok (.ireturn, 1) := by decide +kernel
theorem dX11_found_59 : decode cX11_found 59 = .ok (.iload_n 2, 1) := by decide +kernel
theorem dX11_found_60 : decode cX11_found 60 = .ok (.iconst 1, 1) := by decide +kernel
theorem dX11_found_61 : decode cX11_found 61 = .ok (.isub, 1) := by decide +kernel
theorem dX11_found_62 : decode cX11_found 62 = .ok (.iconst 2, 1) := by decide +kernel
theorem dX11_found_63 : decode cX11_found 63 = .ok (.idiv, 1) := by decide +kernel
theorem dX11_found_64 : decode cX11_found 64 = .ok (.istore_n 3, 1) := by decide +kernel
theorem dX11_found_65 : decode cX11_found 65 = .ok (.iload_n 2, 1) := by decide +kernel
theorem dX11_found_66 : decode cX11_found 66 = .ok (.iconst 2, 1) := by decide +kernel
theorem dX11_found_67 : decode cX11_found 67 = .ok (.irem, 1) := by decide +kernel
theorem dX11_found_68 : decode cX11_found 68 = .ok (.iconst 1, 1) := by decide +kernel
theorem dX11_found_69 : decode cX11_found 69 = .ok (.if_icmp .ne 15, 3) := by decide +kernel
theorem dX11_found_72 : decode cX11_found 72 = .ok (.aload_n 0, 1) := by decide +kernel
theorem dX11_found_73 : decode cX11_found 73 = .ok (.getfield 72, 3) := by decide +kernel
theorem dX11_found_76 : decode cX11_found 76 = .ok (.getfield 267, 3) := by decide +kernel
theorem dX11_found_79 : decode cX11_found 79 = .ok (.iload_n 3, 1) := by decide +kernel
theorem dX11_found_80 : decode cX11_found 80 = .ok (.iaload, 1) := by decide +kernel
theorem dX11_found_81 : decode cX11_found 81 = .ok (.goto 12, 3) := by decide +kernel
theorem dX11_found_84 : decode cX11_found 84 = .ok (.aload_n 0, 1) := by decide +kernel
theorem dX11_found_85 : decode cX11_found 85 = .ok (.getfield 72, 3) := by decide +kernel
theorem dX11_found_88 : decode cX11_found 88 = .ok (.getfield 270, 3) := by decide +kernel
theorem dX11_found_91 : decode cX11_found 91 = .ok (.iload_n 3, 1) := by decide +kernel
theorem dX11_found_92 : decode cX11_found 92 = .ok (.iaload, 1) := by decide +kernel
theorem dX11_found_93 : decode cX11_found 93 = .ok (.ireturn, 1) := by decide +kernel
theorem dX11_mended_0 : decode cX11_mended 0 = .ok (.aload_n 0, 1) := by decide +kernel
theorem dX11_mended_1 : decode cX11_mended 1 = .ok (.getfield 44, 3) := by decide +kernel
theorem dX11_mended_4 : decode cX11_mended 4 = .ok (.iload_n 1, 1) := by decide +kernel
theorem dX11_mended_5 : decode cX11_mended 5 = .ok (.invokevirtual 164, 3) := by decide +kernel
theorem dX11_mended_8 : decode cX11_mended 8 = .ok (.ifCond .eq 32, 3) := by decide +kernel
theorem dX11_mended_11 : decode cX11_mended 11 = .ok (.iload_n 2, 1) := by decide +kernel
theorem dX11_mended_12 : decode cX11_mended 12 = .ok (.iconst 0, 1) := by decide +kernel
theorem dX11_mended_13 : decode cX11_mended 13 = .ok (.sipush 999, 3) := by decide +kernel
theorem dX11_mended_16 : decode cX11_mended 16 = .ok (.invokestatic 116, 3) := by decide +kernel
theorem dX11_mended_19 : decode cX11_mended 19 = .ok (.ifCond .eq 21, 3) := by decide +kernel
theorem dX11_mended_22 : decode cX11_mended 22 = .ok (.iload_n 3, 1) := by decide +kernel
theorem dX11_mended_23 : decode cX11_mended 23 = .ok (.invokestatic 214, 3) := by decide +kernel
theorem dX11_mended_26 : decode cX11_mended 26 = .ok (.ifCond .eq 14, 3) := by decide +kernel
theorem dX11_mended_29 : decode cX11_mended 29 = .ok (.aload_n 0, 1) := by decide +kernel
theorem dX11_mended_30 : decode cX11_mended 30 = .ok (.getfield 72, 3) := by decide +kernel
theorem dX11_mended_33 : decode cX11_mended 33 = .ok (.iload_n 2, 1) := by decide +kernel
theorem dX11_mended_34 : decode cX11_mended 34 = .ok (.invokevirtual 261, 3) := by decide +kernel
theorem dX11_mended_37 : decode cX11_mended 37 = .ok (.ifCond .ne 6, 3) := by decide +kernel
theorem dX11_mended_40 : decode cX11_mended 40 = .ok (.ldc 217, 2) := by decide +kernel
theorem dX11_mended_42 : decode cX11_mended 42 = .ok (.ireturn, 1) := by decide +kernel
theorem dX11_mended_43 : decode cX11_mended 43 = .ok (.aload_n 0, 1) := by decide +kernel
theorem dX11_mended_44 : decode cX11_mended 44 = .ok (.getfield 72, 3) := by decide +kernel
theorem dX11_mended_47 : decode cX11_mended 47 = .ok (.iload_n 1, 1) := by decide +kernel
theorem dX11_mended_48 : decode cX11_mended 48 = .ok (.invokevirtual 273, 3) := by decide +kernel
theorem dX11_mended_51 : decode cX11_mended 51 = .ok (.istore 4, 2) := by decide +kernel
theorem dX11_mended_53 : decode cX11_mended 53 = .ok (.iload 4, 2) := by decide +kernel
theorem dX11_mended_55 : decode cX11_mended 55 = .ok (.ifCond .ge 12, 3) := by decide +kernel
theorem dX11_mended_58 : decode cX11_mended 58 = .ok (.aload_n 0, 1) := by decide +kernel
theorem dX11_mended_59 : decode cX11_mended 59 = .ok (.iload_n 1, 1) := by decide +kernel
theorem dX11_mended_60 : decode cX11_mended 60 = .ok (.iconst 0, 1) := by decide +kernel
theorem dX11_mended_61 : decode cX11_mended 61 = .ok (.iconst 0, 1) := by decide +kernel
theorem dX11_mended_62 : decode cX11_mended 62 = .ok (.iload_n 3, 1) := by decide +kernel
theorem dX11_mended_63 : decode cX11_mended 63 = .ok (.invokevirtual 251, 3) := by decide +kernel
theorem dX11_mended_66 : decode cX11_mended 66 = .ok (.ireturn, 1) := by decide +kernel
theorem dX11_mended_67 : decode cX11_mended 67 = .ok (.aload_n 0, 1) := by decide +kernel
theorem dX11_mended_68 : decode cX11_mended 68 = .ok (.iload_n 1, 1) := by decide +kernel
theorem dX11_mended_69 : decode cX11_mended 69 = .ok (.aload_n 0, 1) := by decide +kernel
theorem dX11_mended_70 : decode cX11_mended 70 = .ok (.getfield 72, 3) := by decide +kernel
theorem dX11_mended_73 : decode cX11_mended 73 = .ok (.getfield 267, 3) := by decide +kernel
theorem dX11_mended_76 : decode cX11_mended 76 = .ok (.iload 4, 2) := by decide +kernel
theorem dX11_mended_78 : decode cX11_mended 78 = .ok (.iaload, 1) := by decide +kernel
theorem dX11_mended_79 : decode cX11_mended 79 = .ok (.aload_n 0, 1) := by decide +kernel
theorem dX11_mended_80 : decode cX11_mended 80 = .ok (.getfield 72, 3) := by decide +kernel
theorem dX11_mended_83 : decode cX11_mended 83 = .ok (.getfield 270, 3) := by decide +kernel
theorem dX11_mended_86 : decode cX11_mended 86 = .ok (.iload 4, 2) := by decide +kernel
theorem dX11_mended_88 : decode cX11_mended 88 = .ok (.iaload, 1) := by decide +kernel
theorem dX11_mended_89 : decode cX11_mended 89 = .ok (.iload_n 3, 1) := by decide +kernel
theorem dX11_mended_90 : decode cX11_mended 90 = .ok (.invokevirtual 251, 3) := by decide +kernel
theorem dX11_mended_93 : decode cX11_mended 93 = .ok (.ireturn, 1) := by decide +kernel
theorem dX11_other_0 : decode cX11_other 0 = .ok (.aload_n 0, 1) := by decide +kernel
theorem dX11_other_1 : decode cX11_other 1 = .ok (.getfield 48, 3) := by decide +kernel
theorem dX11_other_4 : decode cX11_other 4 = .ok (.aload_n 0, 1) := by decide +kernel
theorem dX11_other_5 : decode cX11_other 5 = .ok (.getfield 44, 3) := by decide +kernel
theorem dX11_other_8 : decode cX11_other 8 = .ok (.invokevirtual 276, 3) := by decide +kernel
theorem dX11_other_11 : decode cX11_other 11 = .ok (.aload_n 0, 1) := by decide +kernel
theorem dX11_other_12 : decode cX11_other 12 = .ok (.getfield 48, 3) := by decide +kernel
theorem dX11_other_15 : decode cX11_other 15 = .ok (.getfield 155, 3) := by decide +kernel
theorem dX11_other_18 : decode cX11_other 18 = .ok (.ireturn, 1) := by decide +kernel
theorem dX11_clear_0 : decode cX11_clear 0 = .ok (.aload_n 0, 1) := by decide +kernel
theorem dX11_clear_1 : decode cX11_clear 1 = .ok (.iload_n 1, 1) := by decide +kernel
theorem dX11_clear_2 : decode cX11_clear 2 = .ok (.iload_n 2, 1) := by decide +kernel
theorem dX11_clear_3 : decode cX11_clear 3 = .ok (.invokevirtual 279, 3) := by decide +kernel
theorem dX11_clear_6 : decode cX11_clear 6 = .ok (.ifCond .eq 34, 3) := by decide +kernel
theorem dX11_clear_9 : decode cX11_clear 9 = .ok (.iload_n 3, 1) := by decide +kernel
theorem dX11_clear_10 : decode cX11_clear 10 = .ok (.iconst 0, 1) := by decide +kernel
theorem dX11_clear_11 : decode cX11_clear 11 = .ok (.aload_n 0, 1) := by decide +kernel
theorem dX11_clear_12 : decode cX11_clear 12 = .ok (.getfield 44, 3) := by decide +kernel
theorem dX11_clear_15 : decode cX11_clear 15 = .ok (.getfield 155, 3) := by decide +kernel
theorem dX11_clear_18 : decode cX11_clear 18 = .ok (.invokestatic 116, 3) := by decide +kernel
theorem dX11_clear_21 : decode cX11_clear 21 = .ok (.ifCond .eq 19, 3) := by decide +kernel
theorem dX11_clear_24 : decode cX11_clear 24 = .ok (.iload 4, 2) := by decide +kernel
theorem dX11_clear_26 : decode cX11_clear 26 = .ok (.iconst 0, 1) := by decide +kernel
theorem dX11_clear_27 : decode cX11_clear 27 = .ok (.aload_n 0, 1) := by decide +kernel
theorem dX11_clear_28 : decode cX11_clear 28 = .ok (.getfield 48, 3) := by decide +kernel
theorem dX11_clear_31 : decode cX11_clear 31 = .ok (.getfield 155, 3) := by decide +kernel
theorem dX11_clear_34 : decode cX11_clear 34 = .ok (.invokestatic 116, 3) := by decide +kernel
theorem dX11_clear_37 : decode cX11_clear 37 = .ok (.ifCond .ne 5, 3) := by decide +kernel
theorem dX11_clear_40 : decode cX11_clear 40 = .ok (.iconst (-1), 1) := by decide +kernel
theorem dX11_clear_41 : decode cX11_clear 41 = .ok (.ireturn, 1) := by decide +kernel
theorem dX11_clear_42 : decode cX11_clear 42 = .ok (.aload_n 0, 1) := by decide +kernel
theorem dX11_clear_43 : decode cX11_clear 43 = .ok (.getfield 81, 3) := by decide +kernel
theorem dX11_clear_46 : decode cX11_clear 46 = .ok (.iload_n 1, 1) := by decide +kernel
theorem dX11_clear_47 : decode cX11_clear 47 = .ok (.iload_n 2, 1) := by decide +kernel
theorem dX11_clear_48 : decode cX11_clear 48 = .ok (.iload_n 3, 1) := by decide +kernel
theorem dX11_clear_49 : decode cX11_clear 49 = .ok (.iload 4, 2) := by decide +kernel
theorem dX11_clear_51 : decode cX11_clear 51 = .ok (.invokevirtual 282, 3) := by decide +kernel
theorem dX11_clear_54 : decode cX11_clear 54 = .ok (.ifCond .eq 7, 3) := by decide +kernel
theorem dX11_clear_57 : decode cX11_clear 57 = .ok (.iconst 1, 1) := by decide +kernel
theorem dX11_clear_58 : decode cX11_clear 58 = .ok (.goto 4, 3) := by decide +kernel
theorem dX11_clear_61 : decode cX11_clear 61 = .ok (.iconst 0, 1) := by decide +kernel
theorem dX11_clear_62 : decode cX11_clear 62 = .ok (.ireturn, 1) := by decide +kernel
theorem dX11_together_0 : decode cX11_together 0 = .ok (.aload_n 0, 1) := by decide +kernel
theorem dX11_together_1 : decode cX11_together 1 = .ok (.iload_n 1, 1) := by decide +kernel
theorem dX11_together_2 : decode cX11_together 2 = .ok (.iload_n 2, 1) := by decide +kernel
theorem dX11_together_3 : decode cX11_together 3 = .ok (.invokevirtual 279, 3) := by decide +kernel
theorem dX11_together_6 : decode cX11_together 6 = .ok (.ifCond .eq 15, 3) := by decide +kernel
theorem dX11_together_9 : decode cX11_together 9 = .ok (.aload_n 0, 1) := by decide +kernel
theorem dX11_together_10 : decode cX11_together 10 = .ok (.getfield 81, 3) := by decide +kernel
theorem dX11_together_13 : decode cX11_together 13 = .ok (.iload_n 1, 1) := by decide +kernel
theorem dX11_together_14 : decode cX11_together 14 = .ok (.iload_n 2, 1) := by decide +kernel
theorem dX11_together_15 : decode cX11_together 15 = .ok (.invokevirtual 286, 3) := by decide +kernel
theorem dX11_together_18 : decode cX11_together 18 = .ok (.goto 4, 3) := by decide +kernel
theorem dX11_together_21 : decode cX11_together 21 = .ok (.iconst (-1), 1) := by decide +kernel
theorem dX11_together_22 : decode cX11_together 22 = .ok (.ireturn, 1) := by decide +kernel
theorem dX11_joint_0 : decode cX11_joint 0 = .ok (.iload_n 1, 1) := by decide +kernel
theorem dX11_joint_1 : decode cX11_joint 1 = .ok (.iconst 1, 1) := by decide +kernel
theorem dX11_joint_2 : decode cX11_joint 2 = .ok (.aload_n 0, 1) := by decide +kernel
theorem dX11_joint_3 : decode cX11_joint 3 = .ok (.getfield 10, 3) := by decide +kernel
theorem dX11_joint_6 : decode cX11_joint 6 = .ok (.getfield 120, 3) := by decide +kernel
theorem dX11_joint_9 : decode cX11_joint 9 = .ok (.invokestatic 116, 3) := by decide +kernel
theorem dX11_joint_12 : decode cX11_joint 12 = .ok (.ifCond .eq 12, 3) := by decide +kernel
theorem dX11_joint_15 : decode cX11_joint 15 = .ok (.iload_n 3, 1) := by decide +kernel
theorem dX11_joint_16 : decode cX11_joint 16 = .ok (.iconst 0, 1) := by decide +kernel
theorem dX11_joint_17 : decode cX11_joint 17 = .ok (.iconst 3, 1) := by decide +kernel
theorem dX11_joint_18 : decode cX11_joint 18 = .ok (.invokestatic 116, 3) := by decide +kernel
theorem dX11_joint_21 : decode cX11_joint 21 = .ok (.ifCond .ne 5, 3) := by decide +kernel
theorem dX11_joint_24 : decode cX11_joint 24 = .ok (.iconst (-1), 1) := by decide +kernel
theorem dX11_joint_25 : decode cX11_joint 25 = .ok (.ireturn, 1) := by decide +kernel
theorem dX11_joint_26 : decode cX11_joint 26 = .ok (.aload_n 0, 1) := by decide +kernel
theorem dX11_joint_27 : decode cX11_joint 27 = .ok (.getfield 81, 3) := by decide +kernel
theorem dX11_joint_30 : decode cX11_joint 30 = .ok (.iload_n 1, 1) := by decide +kernel
theorem dX11_joint_31 : decode cX11_joint 31 = .ok (.iload_n 2, 1) := by decide +kernel
theorem dX11_joint_32 : decode cX11_joint 32 = .ok (.invokevirtual 289, 3) := by decide +kernel
theorem dX11_joint_35 : decode cX11_joint 35 = .ok (.iload_n 3, 1) := by decide +kernel
theorem dX11_joint_36 : decode cX11_joint 36 = .ok (.tableswitch 52 0 2 #[28, 36, 44], 28) := by decide +kernel
theorem dX11_joint_64 : decode cX11_joint 64 = .ok (.aload_n 0, 1) := by decide +kernel
theorem dX11_joint_65 : decode cX11_joint 65 = .ok (.getfield 81, 3) := by decide +kernel
theorem dX11_joint_68 : decode cX11_joint 68 = .ok (.getfield 293, 3) := by decide +kernel
theorem dX11_joint_71 : decode cX11_joint 71 = .ok (.ireturn, 1) := by decide +kernel
theorem dX11_joint_72 : decode cX11_joint 72 = .ok (.aload_n 0, 1) := by decide +kernel
theorem dX11_joint_73 : decode cX11_joint 73 = .ok (.getfield 81, 3) := by decide +kernel
theorem dX11_joint_76 : decode cX11_joint 76 = .ok (.getfield 296, 3) := by decide +kernel
theorem dX11_joint_79 : decode cX11_joint 79 = .ok (.ireturn, 1) := by decide +kernel
theorem dX11_joint_80 : decode cX11_joint 80 = .ok (.aload_n 0, 1) := by decide +kernel
theorem dX11_joint_81 : decode cX11_joint 81 = .ok (.getfield 81, 3) := by decide +kernel
theorem dX11_joint_84 : decode cX11_joint 84 = .ok (.getfield 299, 3) := by decide +kernel
theorem dX11_joint_87 : decode cX11_joint 87 = .ok (.ireturn, 1) := by decide +kernel
theorem dX11_joint_88 : decode cX11_joint 88 = .ok (.aload_n 0, 1) := by decide +kernel
theorem dX11_joint_89 : decode cX11_joint 89 = .ok (.getfield 81, 3) := by decide +kernel
theorem dX11_joint_92 : decode cX11_joint 92 = .ok (.getfield 302, 3) := by decide +kernel
theorem dX11_joint_95 : decode cX11_joint 95 = .ok (.ireturn, 1) := by decide +kernel
theorem dX11_mark_0 : decode cX11_mark 0 = .ok (.aload_n 0, 1) := by decide +kernel
theorem dX11_mark_1 : decode cX11_mark 1 = .ok (.getfield 88, 3) := by decide +kernel
theorem dX11_mark_4 : decode cX11_mark 4 = .ok (.iload_n 3, 1) := by decide +kernel
theorem dX11_mark_5 : decode cX11_mark 5 = .ok (.i2l, 1) := by decide +kernel
theorem dX11_mark_6 : decode cX11_mark 6 = .ok (.iload_n 1, 1) := by decide +kernel
theorem dX11_mark_7 : decode cX11_mark 7 = .ok (.i2l, 1) := by decide +kernel
theorem dX11_mark_8 : decode cX11_mark 8 = .ok (.lsub, 1) := by decide +kernel
theorem dX11_mark_9 : decode cX11_mark 9 = .ok (.iload 4, 2) := by decide +kernel
theorem dX11_mark_11 : decode cX11_mark 11 = .ok (.i2l, 1) := by decide +kernel
theorem dX11_mark_12 : decode cX11_mark 12 = .ok (.iload_n 2, 1) := by decide +kernel
theorem dX11_mark_13 : decode cX11_mark 13 = .ok (.i2l, 1) := by decide +kernel
theorem dX11_mark_14 : decode cX11_mark 14 = .ok (.lsub, 1) := by decide +kernel
theorem dX11_mark_15 : decode cX11_mark 15 = .ok (.invokevirtual 305, 3) := by decide +kernel
theorem dX11_mark_18 : decode cX11_mark 18 = .ok (.ireturn, 1) := by decide +kernel
theorem dX11_offset_0 : decode cX11_offset 0 = .ok (.iload_n 1, 1) := by decide +kernel
theorem dX11_offset_1 : decode cX11_offset 1 = .ok (.iconst 0, 1) := by decide +kernel
theorem dX11_offset_2 : decode cX11_offset 2 = .ok (.bipush 99, 2) := by decide +kernel
theorem dX11_offset_4 : decode cX11_offset 4 = .ok (.invokestatic 116, 3) := by decide +kernel
theorem dX11_offset_7 : decode cX11_offset 7 = .ok (.ifCond .eq 12, 3) := by decide +kernel
theorem dX11_offset_10 : decode cX11_offset 10 = .ok (.iload_n 2, 1) := by decide +kernel
theorem dX11_offset_11 : decode cX11_offset 11 = .ok (.iconst 0, 1) := by decide +kernel
theorem dX11_offset_12 : decode cX11_offset 12 = .ok (.iconst 2, 1) := by decide +kernel
theorem dX11_offset_13 : decode cX11_offset 13 = .ok (.invokestatic 116, 3) := by decide +kernel
theorem dX11_offset_16 : decode cX11_offset 16 = .ok (.ifCond .ne 6, 3) := by decide +kernel
theorem dX11_offset_19 : decode cX11_offset 19 = .ok (.ldc 217, 2) := by decide +kernel
theorem dX11_offset_21 : decode cX11_offset 21 = .ok (.ireturn, 1) := by decide +kernel
theorem dX11_offset_22 : decode cX11_offset 22 = .ok (.aload_n 0, 1) := by decide +kernel
theorem dX11_offset_23 : decode cX11_offset 23 = .ok (.getfield 88, 3) := by decide +kernel
theorem dX11_offset_26 : decode cX11_offset 26 = .ok (.iload_n 1, 1) := by decide +kernel
theorem dX11_offset_27 : decode cX11_offset 27 = .ok (.invokevirtual 307, 3) := by decide +kernel
theorem dX11_offset_30 : decode cX11_offset 30 = .ok (.iload_n 2, 1) := by decide +kernel
theorem dX11_offset_31 : decode cX11_offset 31 = .ok (.lookupswitch 41 #[(0, 25), (1, 33)], 25) := by decide +kernel
theorem dX11_offset_56 : decode cX11_offset 56 = .ok (.aload_n 0, 1) := by decide +kernel
theorem dX11_offset_57 : decode cX11_offset 57 = .ok (.getfield 88, 3) := by decide +kernel
theorem dX11_offset_60 : decode cX11_offset 60 = .ok (.getfield 310, 3) := by decide +kernel
theorem dX11_offset_63 : decode cX11_offset 63 = .ok (.ireturn, 1) := by decide +kernel
theorem dX11_offset_64 : decode cX11_offset 64 = .ok (.aload_n 0, 1) := by decide +kernel
theorem dX11_offset_65 : decode cX11_offset 65 = .ok (.getfield 88, 3) := by decide +kernel
theorem dX11_offset_68 : decode cX11_offset 68 = .ok (.getfield 313, 3) := by decide +kernel
theorem dX11_offset_71 : decode cX11_offset 71 = .ok (.ireturn, 1) := by decide +kernel
theorem dX11_offset_72 : decode cX11_offset 72 = .ok (.aload_n 0, 1) := by decide +kernel
theorem dX11_offset_73 : decode cX11_offset 73 = .ok (.getfield 88, 3) := by decide +kernel
theorem dX11_offset_76 : decode cX11_offset 76 = .ok (.getfield 316, 3) := by decide +kernel
theorem dX11_offset_79 : decode cX11_offset 79 = .ok (.ireturn, 1) := by decide +kernel
theorem dX11_begin_0 : decode cX11_begin 0 = .ok (.aload_n 0, 1) := by decide +kernel
theorem dX11_begin_1 : decode cX11_begin 1 = .ok (.getfield 97, 3) := by decide +kernel
theorem dX11_begin_4 : decode cX11_begin 4 = .ok (.invokevirtual 319, 3) := by decide +kernel
theorem dX11_begin_7 : decode cX11_begin 7 = .ok (.return_, 1) := by decide +kernel
theorem dX11_tick_0 : decode cX11_tick 0 = .ok (.aload_n 0, 1) := by decide +kernel
theorem dX11_tick_1 : decode cX11_tick 1 = .ok (.getfield 97, 3) := by decide +kernel
theorem dX11_tick_4 : decode cX11_tick 4 = .ok (.getfield 322, 3) := by decide +kernel
theorem dX11_tick_7 : decode cX11_tick 7 = .ok (.ifCond .eq 25, 3) := by decide +kernel
theorem dX11_tick_10 : decode cX11_tick 10 = .ok (.iload_n 1, 1) := by decide +kernel
theorem dX11_tick_11 : decode cX11_tick 11 = .ok (.iconst 0, 1) := by decide +kernel
theorem dX11_tick_12 : decode cX11_tick 12 = .ok (.ldc_w 325, 3) := by decide +kernel
theorem dX11_tick_15 : decode cX11_tick 15 = .ok (.invokestatic 116, 3) := by decide +kernel
theorem dX11_tick_18 : decode cX11_tick 18 = .ok (.ifCond .eq 14, 3) := by decide +kernel
theorem dX11_tick_21 : decode cX11_tick 21 = .ok (.aload_n 0, 1) := by decide +kernel
theorem dX11_tick_22 : decode cX11_tick 22 = .ok (.getfield 97, 3) := by decide +kernel
theorem dX11_tick_25 : decode cX11_tick 25 = .ok (.iload_n 1, 1) := by decide +kernel
theorem dX11_tick_26 : decode cX11_tick 26 = .ok (.invokevirtual 326, 3) := by decide +kernel
theorem dX11_tick_29 : decode cX11_tick 29 = .ok (.goto 4, 3) := by decide +kernel
theorem dX11_tick_32 : decode cX11_tick 32 = .ok (.iconst (-1), 1) := by decide +kernel
theorem dX11_tick_33 : decode cX11_tick 33 = .ok (.ireturn, 1) := by decide +kernel
theorem dX11_run_0 : decode cX11_run 0 = .ok (.aload_n 0, 1) := by decide +kernel
theorem dX11_run_1 : decode cX11_run 1 = .ok (.getfield 97, 3) := by decide +kernel
theorem dX11_run_4 : decode cX11_run 4 = .ok (.getfield 322, 3) := by decide +kernel
theorem dX11_run_7 : decode cX11_run 7 = .ok (.ifCond .ne 6, 3) := by decide +kernel
theorem dX11_run_10 : decode cX11_run 10 = .ok (.ldc 217, 2) := by decide +kernel
theorem dX11_run_12 : decode cX11_run 12 = .ok (.ireturn, 1) := by decide +kernel
theorem dX11_run_13 : decode cX11_run 13 = .ok (.iload_n 1, 1) := by decide +kernel
theorem dX11_run_14 : decode cX11_run 14 = .ok (.tableswitch 117 0 4 #[34, 42, 50, 72, 94], 34) := by decide +kernel
theorem dX11_run_48 : decode cX11_run 48 = .ok (.aload_n 0, 1) := by decide +kernel
theorem dX11_run_49 : decode cX11_run 49 = .ok (.getfield 97, 3) := by decide +kernel
theorem dX11_run_52 : decode cX11_run 52 = .ok (.getfield 329, 3) := by decide +kernel
theorem dX11_run_55 : decode cX11_run 55 = .ok (.ireturn, 1) := by decide +kernel
theorem dX11_run_56 : decode cX11_run 56 = .ok (.aload_n 0, 1) := by decide +kernel
theorem dX11_run_57 : decode cX11_run 57 = .ok (.getfield 97, 3) := by decide +kernel
theorem dX11_run_60 : decode cX11_run 60 = .ok (.getfield 332, 3) := by decide +kernel
theorem dX11_run_63 : decode cX11_run 63 = .ok (.ireturn, 1) := by decide +kernel
theorem dX11_run_64 : decode cX11_run 64 = .ok (.aload_n 0, 1) := by decide +kernel
theorem dX11_run_65 : decode cX11_run 65 = .ok (.aload_n 0, 1) := by decide +kernel
theorem dX11_run_66 : decode cX11_run 66 = .ok (.getfield 97, 3) := by decide +kernel
theorem dX11_run_69 : decode cX11_run 69 = .ok (.iconst 0, 1) := by decide +kernel
theorem dX11_run_70 : decode cX11_run 70 = .ok (.invokevirtual 335, 3) := by decide +kernel
theorem dX11_run_73 : decode cX11_run 73 = .ok (.aload_n 0, 1) := by decide +kernel
theorem dX11_run_74 : decode cX11_run 74 = .ok (.getfield 97, 3) := by decide +kernel
theorem dX11_run_77 : decode cX11_run 77 = .ok (.iconst 1, 1) := by decide +kernel
theorem dX11_run_78 : decode cX11_run 78 = .ok (.invokevirtual 335, 3) := by decide +kernel
theorem dX11_run_81 : decode cX11_run 81 = .ok (.iconst 0, 1) := by decide +kernel
theorem dX11_run_82 : decode cX11_run 82 = .ok (.invokevirtual 218, 3) := by decide +kernel
theorem dX11_run_85 : decode cX11_run 85 = .ok (.ireturn, 1) := by decide +kernel
theorem dX11_run_86 : decode cX11_run 86 = .ok (.aload_n 0, 1) := by decide +kernel
theorem dX11_run_87 : decode cX11_run 87 = .ok (.aload_n 0, 1) := by decide +kernel
theorem dX11_run_88 : decode cX11_run 88 = .ok (.getfield 97, 3) := by decide +kernel
theorem dX11_run_91 : decode cX11_run 91 = .ok (.iconst 0, 1) := by decide +kernel
theorem dX11_run_92 : decode cX11_run 92 = .ok (.invokevirtual 335, 3) := by decide +kernel
theorem dX11_run_95 : decode cX11_run 95 = .ok (.aload_n 0, 1) := by decide +kernel
theorem dX11_run_96 : decode cX11_run 96 = .ok (.getfield 97, 3) := by decide +kernel
theorem dX11_run_99 : decode cX11_run 99 = .ok (.iconst 1, 1) := by decide +kernel
theorem dX11_run_100 : decode cX11_run 100 = .ok (.invokevirtual 335, 3) := by decide +kernel
theorem dX11_run_103 : decode cX11_run 103 = .ok (.iconst 1, 1) := by decide +kernel
theorem dX11_run_104 : decode cX11_run 104 = .ok (.invokevirtual 218, 3) := by decide +kernel
theorem dX11_run_107 : decode cX11_run 107 = .ok (.ireturn, 1) := by decide +kernel
theorem dX11_run_108 : decode cX11_run 108 = .ok (.aload_n 0, 1) := by decide +kernel
theorem dX11_run_109 : decode cX11_run 109 = .ok (.getfield 97, 3) := by decide +kernel
theorem dX11_run_112 : decode cX11_run 112 = .ok (.getfield 329, 3) := by decide +kernel
theorem dX11_run_115 : decode cX11_run 115 = .ok (.aload_n 0, 1) := by decide +kernel
theorem dX11_run_116 : decode cX11_run 116 = .ok (.getfield 44, 3) := by decide +kernel
theorem dX11_run_119 : decode cX11_run 119 = .ok (.getfield 155, 3) := by decide +kernel
theorem dX11_run_122 : decode cX11_run 122 = .ok (.if_icmp .lt 7, 3) := by decide +kernel
theorem dX11_run_125 : decode cX11_run 125 = .ok (.iconst 1, 1) := by decide +kernel
theorem dX11_run_126 : decode cX11_run 126 = .ok (.goto 4, 3) := by decide +kernel
theorem dX11_run_129 : decode cX11_run 129 = .ok (.iconst 0, 1) := by decide +kernel
theorem dX11_run_130 : decode cX11_run 130 = .ok (.ireturn, 1) := by decide +kernel
theorem dX11_run_131 : decode cX11_run 131 = .ok (.ldc 217, 2) := by decide +kernel
theorem dX11_run_133 : decode cX11_run 133 = .ok (.ireturn, 1) := by decide +kernel
theorem dX11_count_0 : decode cX11_count 0 = .ok (.iload_n 1, 1) := by decide +kernel
theorem dX11_count_1 : decode cX11_count 1 = .ok (.tableswitch 135 0 9 #[55, 63, 71, 79, 87, 95, 103, 111, 119, 127], 55) := by decide +kernel
theorem dX11_count_56 : decode cX11_count 56 = .ok (.aload_n 0, 1) := by decide +kernel
theorem dX11_count_57 : decode cX11_count 57 = .ok (.getfield 10, 3) := by decide +kernel
theorem dX11_count_60 : decode cX11_count 60 = .ok (.getfield 120, 3) := by decide +kernel
theorem dX11_count_63 : decode cX11_count 63 = .ok (.ireturn, 1) := by decide +kernel
theorem dX11_count_64 : decode cX11_count 64 = .ok (.aload_n 0, 1) := by decide +kernel
theorem dX11_count_65 : decode cX11_count 65 = .ok (.getfield 10, 3) := by decide +kernel
theorem dX11_count_68 : decode cX11_count 68 = .ok (.getfield 123, 3) := by decide +kernel
theorem dX11_count_71 : decode cX11_count 71 = .ok (.ireturn, 1) := by decide +kernel
theorem dX11_count_72 : decode cX11_count 72 = .ok (.aload_n 0, 1) := by decide +kernel
theorem dX11_count_73 : decode cX11_count 73 = .ok (.getfield 10, 3) := by decide +kernel
theorem dX11_count_76 : decode cX11_count 76 = .ok (.getfield 126, 3) := by decide +kernel
theorem dX11_count_79 : decode cX11_count 79 = .ok (.ireturn, 1) := by decide +kernel
theorem dX11_count_80 : decode cX11_count 80 = .ok (.aload_n 0, 1) := by decide +kernel
theorem dX11_count_81 : decode cX11_count 81 = .ok (.getfield 10, 3) := by decide +kernel
theorem dX11_count_84 : decode cX11_count 84 = .ok (.getfield 135, 3) := by decide +kernel
theorem dX11_count_87 : decode cX11_count 87 = .ok (.ireturn, 1) := by decide +kernel
theorem dX11_count_88 : decode cX11_count 88 = .ok (.aload_n 0, 1) := by decide +kernel
theorem dX11_count_89 : decode cX11_count 89 = .ok (.getfield 10, 3) := by decide +kernel
theorem dX11_count_92 : decode cX11_count 92 = .ok (.getfield 141, 3) := by decide +kernel
theorem dX11_count_95 : decode cX11_count 95 = .ok (.ireturn, 1) := by decide +kernel
theorem dX11_count_96 : decode cX11_count 96 = .ok (.aload_n 0, 1) := by decide +kernel
theorem dX11_count_97 : decode cX11_count 97 = .ok (.getfield 10, 3) := by decide +kernel
theorem dX11_count_100 : decode cX11_count 100 = .ok (.getfield 144, 3) := by decide +kernel
theorem dX11_count_103 : decode cX11_count 103 = .ok (.ireturn, 1) := by decide +kernel
theorem dX11_count_104 : decode cX11_count 104 = .ok (.aload_n 0, 1) := by decide +kernel
theorem dX11_count_105 : decode cX11_count 105 = .ok (.getfield 44, 3) := by decide +kernel
theorem dX11_count_108 : decode cX11_count 108 = .ok (.getfield 155, 3) := by decide +kernel
theorem dX11_count_111 : decode cX11_count 111 = .ok (.ireturn, 1) := by decide +kernel
theorem dX11_count_112 : decode cX11_count 112 = .ok (.aload_n 0, 1) := by decide +kernel
theorem dX11_count_113 : decode cX11_count 113 = .ok (.getfield 48, 3) := by decide +kernel
theorem dX11_count_116 : decode cX11_count 116 = .ok (.getfield 155, 3) := by decide +kernel
theorem dX11_count_119 : decode cX11_count 119 = .ok (.ireturn, 1) := by decide +kernel
theorem dX11_count_120 : decode cX11_count 120 = .ok (.aload_n 0, 1) := by decide +kernel
theorem dX11_count_121 : decode cX11_count 121 = .ok (.getfield 72, 3) := by decide +kernel
theorem dX11_count_124 : decode cX11_count 124 = .ok (.getfield 260, 3) := by decide +kernel
theorem dX11_count_127 : decode cX11_count 127 = .ok (.ireturn, 1) := by decide +kernel
theorem dX11_count_128 : decode cX11_count 128 = .ok (.aload_n 0, 1) := by decide +kernel
theorem dX11_count_129 : decode cX11_count 129 = .ok (.getfield 88, 3) := by decide +kernel
theorem dX11_count_132 : decode cX11_count 132 = .ok (.getfield 338, 3) := by decide +kernel
theorem dX11_count_135 : decode cX11_count 135 = .ok (.ireturn, 1) := by decide +kernel
theorem dX11_count_136 : decode cX11_count 136 = .ok (.iconst (-1), 1) := by decide +kernel
theorem dX11_count_137 : decode cX11_count 137 = .ok (.ireturn, 1) := by decide +kernel
theorem dX11_dropWhatHangsOnMoves_0 : decode cX11_dropWhatHangsOnMoves 0 = .ok (.aload_n 0, 1) := by decide +kernel
theorem dX11_dropWhatHangsOnMoves_1 : decode cX11_dropWhatHangsOnMoves 1 = .ok (.getfield 44, 3) := by decide +kernel
theorem dX11_dropWhatHangsOnMoves_4 : decode cX11_dropWhatHangsOnMoves 4 = .ok (.invokevirtual 339, 3) := by decide +kernel
theorem dX11_dropWhatHangsOnMoves_7 : decode cX11_dropWhatHangsOnMoves 7 = .ok (.aload_n 0, 1) := by decide +kernel
theorem dX11_dropWhatHangsOnMoves_8 : decode cX11_dropWhatHangsOnMoves 8 = .ok (.getfield 72, 3) := by decide +kernel
theorem dX11_dropWhatHangsOnMoves_11 : decode cX11_dropWhatHangsOnMoves 11 = .ok (.invokevirtual 257, 3) := by decide +kernel
theorem dX11_dropWhatHangsOnMoves_14 : decode cX11_dropWhatHangsOnMoves 14 = .ok (.pop, 1) := by decide +kernel
theorem dX11_dropWhatHangsOnMoves_15 : decode cX11_dropWhatHangsOnMoves 15 = .ok (.aload_n 0, 1) := by decide +kernel
theorem dX11_dropWhatHangsOnMoves_16 : decode cX11_dropWhatHangsOnMoves 16 = .ok (.getfield 97, 3) := by decide +kernel
theorem dX11_dropWhatHangsOnMoves_19 : decode cX11_dropWhatHangsOnMoves 19 = .ok (.iconst 0, 1) := by decide +kernel
theorem dX11_dropWhatHangsOnMoves_20 : decode cX11_dropWhatHangsOnMoves 20 = .ok (.putfield 322, 3) := by decide +kernel
theorem dX11_dropWhatHangsOnMoves_23 : decode cX11_dropWhatHangsOnMoves 23 = .ok (.return_, 1) := by decide +kernel
theorem dX11_isPairing_0 : decode cX11_isPairing 0 = .ok (.iload_n 1, 1) := by decide +kernel
theorem dX11_isPairing_1 : decode cX11_isPairing 1 = .ok (.iconst 1, 1) := by decide +kernel
theorem dX11_isPairing_2 : decode cX11_isPairing 2 = .ok (.aload_n 0, 1) := by decide +kernel
theorem dX11_isPairing_3 : decode cX11_isPairing 3 = .ok (.getfield 10, 3) := by decide +kernel
theorem dX11_isPairing_6 : decode cX11_isPairing 6 = .ok (.getfield 120, 3) := by decide +kernel
theorem dX11_isPairing_9 : decode cX11_isPairing 9 = .ok (.invokestatic 116, 3) := by decide +kernel
theorem dX11_isPairing_12 : decode cX11_isPairing 12 = .ok (.ifCond .eq 17, 3) := by decide +kernel
theorem dX11_isPairing_15 : decode cX11_isPairing 15 = .ok (.iload_n 2, 1) := by decide +kernel
theorem dX11_isPairing_16 : decode cX11_isPairing 16 = .ok (.iconst 0, 1) := by decide +kernel
theorem dX11_isPairing_17 : decode cX11_isPairing 17 = .ok (.bipush 50, 2) := by decide +kernel
theorem dX11_isPairing_19 : decode cX11_isPairing 19 = .ok (.invokestatic 116, 3) := by decide +kernel
theorem dX11_isPairing_22 : decode cX11_isPairing 22 = .ok (.ifCond .eq 7, 3) := by decide +kernel
theorem dX11_isPairing_25 : decode cX11_isPairing 25 = .ok (.iconst 1, 1) := by decide +kernel
theorem dX11_isPairing_26 : decode cX11_isPairing 26 = .ok (.goto 4, 3) := by decide +kernel
theorem dX11_isPairing_29 : decode cX11_isPairing 29 = .ok (.iconst 0, 1) := by decide +kernel
theorem dX11_isPairing_30 : decode cX11_isPairing 30 = .ok (.ireturn, 1) := by decide +kernel
theorem dX11_placeNumber_0 : decode cX11_placeNumber 0 = .ok (.aload_n 0, 1) := by decide +kernel
theorem dX11_placeNumber_1 : decode cX11_placeNumber 1 = .ok (.getfield 10, 3) := by decide +kernel
theorem dX11_placeNumber_4 : decode cX11_placeNumber 4 = .ok (.iload_n 1, 1) := by decide +kernel
theorem dX11_placeNumber_5 : decode cX11_placeNumber 5 = .ok (.i2l, 1) := by decide +kernel
theorem dX11_placeNumber_6 : decode cX11_placeNumber 6 = .ok (.iload_n 2, 1) := by decide +kernel
theorem dX11_placeNumber_7 : decode cX11_placeNumber 7 = .ok (.i2l, 1) := by decide +kernel
theorem dX11_placeNumber_8 : decode cX11_placeNumber 8 = .ok (.invokevirtual 342, 3) := by decide +kernel
theorem dX11_placeNumber_11 : decode cX11_placeNumber 11 = .ok (.iload_n 3, 1) := by decide +kernel
theorem dX11_placeNumber_12 : decode cX11_placeNumber 12 = .ok (.ifCond .ne 13, 3) := by decide +kernel
theorem dX11_placeNumber_15 : decode cX11_placeNumber 15 = .ok (.aload_n 0, 1) := by decide +kernel
theorem dX11_placeNumber_16 : decode cX11_placeNumber 16 = .ok (.getfield 10, 3) := by decide +kernel
theorem dX11_placeNumber_19 : decode cX11_placeNumber 19 = .ok (.getfield 346, 3) := by decide +kernel
theorem dX11_placeNumber_22 : decode cX11_placeNumber 22 = .ok (.goto 10, 3) := by decide +kernel
theorem dX11_placeNumber_25 : decode cX11_placeNumber 25 = .ok (.aload_n 0, 1) := by decide +kernel
theorem dX11_placeNumber_26 : decode cX11_placeNumber 26 = .ok (.getfield 10, 3) := by decide +kernel
theorem dX11_placeNumber_29 : decode cX11_placeNumber 29 = .ok (.getfield 350, 3) := by decide +kernel
theorem dX11_placeNumber_32 : decode cX11_placeNumber 32 = .ok (.l2i, 1) := by decide +kernel
theorem dX11_placeNumber_33 : decode cX11_placeNumber 33 = .ok (.ireturn, 1) := by decide +kernel
theorem dX11_realNumber_0 : decode cX11_realNumber 0 = .ok (.aload_n 0, 1) := by decide +kernel
theorem dX11_realNumber_1 : decode cX11_realNumber 1 = .ok (.getfield 44, 3) := by decide +kernel
theorem dX11_realNumber_4 : decode cX11_realNumber 4 = .ok (.getfield 189, 3) := by decide +kernel
theorem dX11_realNumber_7 : decode cX11_realNumber 7 = .ok (.iload_n 1, 1) := by decide +kernel
theorem dX11_realNumber_8 : decode cX11_realNumber 8 = .ok (.iconst 1, 1) := by decide +kernel
theorem dX11_realNumber_9 : decode cX11_realNumber 9 = .ok (.iadd, 1) := by decide +kernel
theorem dX11_realNumber_10 : decode cX11_realNumber 10 = .ok (.iaload, 1) := by decide +kernel
theorem dX11_realNumber_11 : decode cX11_realNumber 11 = .ok (.aload_n 0, 1) := by decide +kernel
theorem dX11_realNumber_12 : decode cX11_realNumber 12 = .ok (.getfield 44, 3) := by decide +kernel
theorem dX11_realNumber_15 : decode cX11_realNumber 15 = .ok (.iload_n 1, 1) := by decide +kernel
theorem dX11_realNumber_16 : decode cX11_realNumber 16 = .ok (.iconst 0, 1) := by decide +kernel
theorem dX11_realNumber_17 : decode cX11_realNumber 17 = .ok (.invokevirtual 353, 3) := by decide +kernel
theorem dX11_realNumber_20 : decode cX11_realNumber 20 = .ok (.iadd, 1) := by decide +kernel
theorem dX11_realNumber_21 : decode cX11_realNumber 21 = .ok (.iload_n 2, 1) := by decide +kernel
theorem dX11_realNumber_22 : decode cX11_realNumber 22 = .ok (.isub, 1) := by decide +kernel
theorem dX11_realNumber_23 : decode cX11_realNumber 23 = .ok (.istore 5, 2) := by decide +kernel
theorem dX11_realNumber_25 : decode cX11_realNumber 25 = .ok (.aload_n 0, 1) := by decide +kernel
theorem dX11_realNumber_26 : decode cX11_realNumber 26 = .ok (.getfield 44, 3) := by decide +kernel
theorem dX11_realNumber_29 : decode cX11_realNumber 29 = .ok (.getfield 192, 3) := by decide +kernel
theorem dX11_realNumber_32 : decode cX11_realNumber 32 = .ok (.iload_n 1, 1) := by decide +kernel
theorem dX11_realNumber_33 : decode cX11_realNumber 33 = .ok (.iconst 1, 1) := by decide +kernel
theorem dX11_realNumber_34 : decode cX11_realNumber 34 = .ok (.iadd, 1) := by decide +kernel
theorem dX11_realNumber_35 : decode cX11_realNumber 35 = .ok (.iaload, 1) := by decide +kernel
theorem dX11_realNumber_36 : decode cX11_realNumber 36 = .ok (.aload_n 0, 1) := by decide +kernel
theorem dX11_realNumber_37 : decode cX11_realNumber 37 = .ok (.getfield 44, 3) := by decide +kernel
theorem dX11_realNumber_40 : decode cX11_realNumber 40 = .ok (.iload_n 1, 1) := by decide +kernel
theorem dX11_realNumber_41 : decode cX11_realNumber 41 = .ok (.iconst 1, 1) := by decide +kernel
theorem dX11_realNumber_42 : decode cX11_realNumber 42 = .ok (.invokevirtual 353, 3) := by decide +kernel
theorem dX11_realNumber_45 : decode cX11_realNumber 45 = .ok (.iadd, 1) := by decide +kernel
theorem dX11_realNumber_46 : decode cX11_realNumber 46 = .ok (.iload_n 3, 1) := by decide +kernel
theorem dX11_realNumber_47 : decode cX11_realNumber 47 = .ok (.isub, 1) := by decide +kernel
theorem dX11_realNumber_48 : decode cX11_realNumber 48 = .ok (.istore 6, 2) := by decide +kernel
theorem dX11_realNumber_50 : decode cX11_realNumber 50 = .ok (.aload_n 0, 1) := by decide +kernel
theorem dX11_realNumber_51 : decode cX11_realNumber 51 = .ok (.iload 5, 2) := by decide +kernel
theorem dX11_realNumber_53 : decode cX11_realNumber 53 = .ok (.iload 6, 2) := by decide +kernel
theorem dX11_realNumber_55 : decode cX11_realNumber 55 = .ok (.iload 4, 2) := by decide +kernel
theorem dX11_realNumber_57 : decode cX11_realNumber 57 = .ok (.invokevirtual 218, 3) := by decide +kernel
theorem dX11_realNumber_60 : decode cX11_realNumber 60 = .ok (.ireturn, 1) := by decide +kernel
theorem dX11_isWithin_0 : decode cX11_isWithin 0 = .ok (.iload_n 0, 1) := by decide +kernel
theorem dX11_isWithin_1 : decode cX11_isWithin 1 = .ok (.iload_n 1, 1) := by decide +kernel
theorem dX11_isWithin_2 : decode cX11_isWithin 2 = .ok (.if_icmp .lt 12, 3) := by decide +kernel
theorem dX11_isWithin_5 : decode cX11_isWithin 5 = .ok (.iload_n 0, 1) := by decide +kernel
theorem dX11_isWithin_6 : decode cX11_isWithin 6 = .ok (.iload_n 2, 1) := by decide +kernel
theorem dX11_isWithin_7 : decode cX11_isWithin 7 = .ok (.if_icmp .gt 7, 3) := by decide +kernel
theorem dX11_isWithin_10 : decode cX11_isWithin 10 = .ok (.iconst 1, 1) := by decide +kernel
theorem dX11_isWithin_11 : decode cX11_isWithin 11 = .ok (.goto 4, 3) := by decide +kernel
theorem dX11_isWithin_14 : decode cX11_isWithin 14 = .ok (.iconst 0, 1) := by decide +kernel
theorem dX11_isWithin_15 : decode cX11_isWithin 15 = .ok (.ireturn, 1) := by decide +kernel
theorem dX11_isCord_0 : decode cX11_isCord 0 = .ok (.iload_n 0, 1) := by decide +kernel
theorem dX11_isCord_1 : decode cX11_isCord 1 = .ok (.ifCond .eq 8, 3) := by decide +kernel
theorem dX11_isCord_4 : decode cX11_isCord 4 = .ok (.iload_n 0, 1) := by decide +kernel
theorem dX11_isCord_5 : decode cX11_isCord 5 = .ok (.iconst 1, 1) := by decide +kernel
theorem dX11_isCord_6 : decode cX11_isCord 6 = .ok (.if_icmp .ne 7, 3) := by decide +kernel
theorem dX11_isCord_9 : decode cX11_isCord 9 = .ok (.iconst 1, 1) := by decide +kernel
theorem dX11_isCord_10 : decode cX11_isCord 10 = .ok (.goto 4, 3) := by decide +kernel
theorem dX11_isCord_13 : decode cX11_isCord 13 = .ok (.iconst 0, 1) := by decide +kernel
theorem dX11_isCord_14 : decode cX11_isCord 14 = .ok (.ireturn, 1) := by decide +kernel
theorem dX11_isAxis_0 : decode cX11_isAxis 0 = .ok (.iload_n 0, 1) := by decide +kernel
theorem dX11_isAxis_1 : decode cX11_isAxis 1 = .ok (.ifCond .eq 8, 3) := by decide +kernel
theorem dX11_isAxis_4 : decode cX11_isAxis 4 = .ok (.iload_n 0, 1) := by decide +kernel
theorem dX11_isAxis_5 : decode cX11_isAxis 5 = .ok (.iconst 1, 1) := by decide +kernel
theorem dX11_isAxis_6 : decode cX11_isAxis 6 = .ok (.if_icmp .ne 7, 3) := by decide +kernel
theorem dX11_isAxis_9 : decode cX11_isAxis 9 = .ok (.iconst 1, 1) := by decide +kernel
theorem dX11_isAxis_10 : decode cX11_isAxis 10 = .ok (.goto 4, 3) := by decide +kernel
theorem dX11_isAxis_13 : decode cX11_isAxis 13 = .ok (.iconst 0, 1) := by decide +kernel
theorem dX11_isAxis_14 : decode cX11_isAxis 14 = .ok (.ireturn, 1) := by decide +kernel
theorem dX11_sizeOf_0 : decode cX11_sizeOf 0 = .ok (.lload_n 0, 1) := by decide +kernel
theorem dX11_sizeOf_1 : decode cX11_sizeOf 1 = .ok (.lconst 0, 1) := by decide +kernel
theorem dX11_sizeOf_2 : decode cX11_sizeOf 2 = .ok (.lcmp, 1) := by decide +kernel
theorem dX11_sizeOf_3 : decode cX11_sizeOf 3 = .ok (.ifCond .ge 8, 3) := by decide +kernel
theorem dX11_sizeOf_6 : decode cX11_sizeOf 6 = .ok (.lload_n 0, 1) := by decide +kernel
theorem dX11_sizeOf_7 : decode cX11_sizeOf 7 = .ok (.lneg, 1) := by decide +kernel
theorem dX11_sizeOf_8 : decode cX11_sizeOf 8 = .ok (.goto 4, 3) := by decide +kernel
theorem dX11_sizeOf_11 : decode cX11_sizeOf 11 = .ok (.lload_n 0, 1) := by decide +kernel
theorem dX11_sizeOf_12 : decode cX11_sizeOf 12 = .ok (.lreturn, 1) := by decide +kernel
theorem dX11_root_0 : decode cX11_root 0 = .ok (.lload_n 0, 1) := by decide +kernel
theorem dX11_root_1 : decode cX11_root 1 = .ok (.lconst 0, 1) := by decide +kernel
theorem dX11_root_2 : decode cX11_root 2 = .ok (.lcmp, 1) := by decide +kernel
theorem dX11_root_3 : decode cX11_root 3 = .ok (.ifCond .gt 5, 3) := by decide +kernel
theorem dX11_root_6 : decode cX11_root 6 = .ok (.lconst 0, 1) := by decide +kernel
theorem dX11_root_7 : decode cX11_root 7 = .ok (.lreturn, 1) := by decide +kernel
theorem dX11_root_8 : decode cX11_root 8 = .ok (.lload_n 2, 1) := by decide +kernel
theorem dX11_root_9 : decode cX11_root 9 = .ok (.lconst 0, 1) := by decide +kernel
theorem dX11_root_10 : decode cX11_root 10 = .ok (.lcmp, 1) := by decide +kernel
theorem dX11_root_11 : decode cX11_root 11 = .ok (.ifCond .le 7, 3) := by decide +kernel
theorem dX11_root_14 : decode cX11_root 14 = .ok (.lload_n 2, 1) := by decide +kernel
theorem dX11_root_15 : decode cX11_root 15 = .ok (.goto 4, 3) := by decide +kernel
theorem dX11_root_18 : decode cX11_root 18 = .ok (.lconst 1, 1) := by decide +kernel
theorem dX11_root_19 : decode cX11_root 19 = .ok (.lstore 4, 2) := by decide +kernel
theorem dX11_root_21 : decode cX11_root 21 = .ok (.lload 4, 2) := by decide +kernel
theorem dX11_root_23 : decode cX11_root 23 = .ok (.lload_n 0, 1) := by decide +kernel
theorem dX11_root_24 : decode cX11_root 24 = .ok (.lload 4, 2) := by decide +kernel
theorem dX11_root_26 : decode cX11_root 26 = .ok (.ldiv, 1) := by decide +kernel
theorem dX11_root_27 : decode cX11_root 27 = .ok (.ladd, 1) := by decide +kernel
theorem dX11_root_28 : decode cX11_root 28 = .ok (.ldc2_w 356, 3) := by decide +kernel
theorem dX11_root_31 : decode cX11_root 31 = .ok (.ldiv, 1) := by decide +kernel
theorem dX11_root_32 : decode cX11_root 32 = .ok (.lstore 6, 2) := by decide +kernel
theorem dX11_root_34 : decode cX11_root 34 = .ok (.iconst 0, 1) := by decide +kernel
theorem dX11_root_35 : decode cX11_root 35 = .ok (.istore 8, 2) := by decide +kernel
theorem dX11_root_37 : decode cX11_root 37 = .ok (.iload 8, 2) := by decide +kernel
theorem dX11_root_39 : decode cX11_root 39 = .ok (.sipush 200, 3) := by decide +kernel
theorem dX11_root_42 : decode cX11_root 42 = .ok (.if_icmp .ge 44, 3) := by decide +kernel
theorem dX11_root_45 : decode cX11_root 45 = .ok (.lload 6, 2) := by decide +kernel
theorem dX11_root_47 : decode cX11_root 47 = .ok (.lconst 0, 1) := by decide +kernel
theorem dX11_root_48 : decode cX11_root 48 = .ok (.lcmp, 1) := by decide +kernel
theorem dX11_root_49 : decode cX11_root 49 = .ok (.ifCond .le 37, 3) := by decide +kernel
theorem dX11_root_52 : decode cX11_root 52 = .ok (.lload 6, 2) := by decide +kernel
theorem dX11_root_54 : decode cX11_root 54 = .ok (.lload_n 0, 1) := by decide +kernel
theorem dX11_root_55 : decode cX11_root 55 = .ok (.lload 6, 2) := by decide +kernel
theorem dX11_root_57 : decode cX11_root 57 = .ok (.ldiv, 1) := by decide +kernel
theorem dX11_root_58 : decode cX11_root 58 = .ok (.ladd, 1) := by decide +kernel
theorem dX11_root_59 : decode cX11_root 59 = .ok (.ldc2_w 356, 3) := by decide +kernel
theorem dX11_root_62 : decode cX11_root 62 = .ok (.ldiv, 1) := by decide +kernel
theorem dX11_root_63 : decode cX11_root 63 = .ok (.lstore 9, 2) := by decide +kernel
theorem dX11_root_65 : decode cX11_root 65 = .ok (.lload 9, 2) := by decide +kernel
theorem dX11_root_67 : decode cX11_root 67 = .ok (.lload 6, 2) := by decide +kernel
theorem dX11_root_69 : decode cX11_root 69 = .ok (.lcmp, 1) := by decide +kernel
theorem dX11_root_70 : decode cX11_root 70 = .ok (.ifCond .lt 6, 3) := by decide +kernel
theorem dX11_root_73 : decode cX11_root 73 = .ok (.lload 6, 2) := by decide +kernel
theorem dX11_root_75 : decode cX11_root 75 = .ok (.lreturn, 1) := by decide +kernel
theorem dX11_root_76 : decode cX11_root 76 = .ok (.lload 9, 2) := by decide +kernel
theorem dX11_root_78 : decode cX11_root 78 = .ok (.lstore 6, 2) := by decide +kernel
theorem dX11_root_80 : decode cX11_root 80 = .ok (.iinc 8 1, 3) := by decide +kernel
theorem dX11_root_83 : decode cX11_root 83 = .ok (.goto (-46), 3) := by decide +kernel
theorem dX11_root_86 : decode cX11_root 86 = .ok (.lload 6, 2) := by decide +kernel
theorem dX11_root_88 : decode cX11_root 88 = .ok (.lreturn, 1) := by decide +kernel
