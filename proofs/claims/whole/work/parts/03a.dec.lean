theorem dJ6_compare_7cf53_0 : decode cJ6_compare_7cf53 0 = .ok (.iload_n 0, 1) := by decide +kernel
theorem dJ6_compare_7cf53_1 : decode cJ6_compare_7cf53 1 = .ok (.iload_n 1, 1) := by decide +kernel
theorem dJ6_compare_7cf53_2 : decode cJ6_compare_7cf53 2 = .ok (.if_icmp .ge 7, 3) := by decide +kernel
theorem dJ6_compare_7cf53_5 : decode cJ6_compare_7cf53 5 = .ok (.iconst (-1), 1) := by decide +kernel
theorem dJ6_compare_7cf53_6 : decode cJ6_compare_7cf53 6 = .ok (.goto 13, 3) := by decide +kernel
theorem dJ6_compare_7cf53_9 : decode cJ6_compare_7cf53 9 = .ok (.iload_n 0, 1) := by decide +kernel
theorem dJ6_compare_7cf53_10 : decode cJ6_compare_7cf53 10 = .ok (.iload_n 1, 1) := by decide +kernel
theorem dJ6_compare_7cf53_11 : decode cJ6_compare_7cf53 11 = .ok (.if_icmp .ne 7, 3) := by decide +kernel
theorem dJ6_compare_7cf53_14 : decode cJ6_compare_7cf53 14 = .ok (.iconst 0, 1) := by decide +kernel
theorem dJ6_compare_7cf53_15 : decode cJ6_compare_7cf53 15 = .ok (.goto 4, 3) := by decide +kernel
theorem dJ6_compare_7cf53_18 : decode cJ6_compare_7cf53 18 = .ok (.iconst 1, 1) := by decide +kernel
theorem dJ6_compare_7cf53_19 : decode cJ6_compare_7cf53 19 = .ok (.ireturn, 1) := by decide +kernel
theorem dJ9_floorMod_f86c9_0 : decode cJ9_floorMod_f86c9 0 = .ok (.lload_n 0, 1) := by decide +kernel
theorem dJ9_floorMod_f86c9_1 : decode cJ9_floorMod_f86c9 1 = .ok (.lload_n 2, 1) := by decide +kernel
theorem dJ9_floorMod_f86c9_2 : decode cJ9_floorMod_f86c9 2 = .ok (.lrem, 1) := by decide +kernel
theorem dJ9_floorMod_f86c9_3 : decode cJ9_floorMod_f86c9 3 = .ok (.lstore 4, 2) := by decide +kernel
theorem dJ9_floorMod_f86c9_5 : decode cJ9_floorMod_f86c9 5 = .ok (.lload_n 0, 1) := by decide +kernel
theorem dJ9_floorMod_f86c9_6 : decode cJ9_floorMod_f86c9 6 = .ok (.lload_n 2, 1) := by decide +kernel
theorem dJ9_floorMod_f86c9_7 : decode cJ9_floorMod_f86c9 7 = .ok (.lxor, 1) := by decide +kernel
theorem dJ9_floorMod_f86c9_8 : decode cJ9_floorMod_f86c9 8 = .ok (.lconst 0, 1) := by decide +kernel
theorem dJ9_floorMod_f86c9_9 : decode cJ9_floorMod_f86c9 9 = .ok (.lcmp, 1) := by decide +kernel
theorem dJ9_floorMod_f86c9_10 : decode cJ9_floorMod_f86c9 10 = .ok (.ifCond .ge 15, 3) := by decide +kernel
theorem dJ9_floorMod_f86c9_13 : decode cJ9_floorMod_f86c9 13 = .ok (.lload 4, 2) := by decide +kernel
theorem dJ9_floorMod_f86c9_15 : decode cJ9_floorMod_f86c9 15 = .ok (.lconst 0, 1) := by decide +kernel
theorem dJ9_floorMod_f86c9_16 : decode cJ9_floorMod_f86c9 16 = .ok (.lcmp, 1) := by decide +kernel
theorem dJ9_floorMod_f86c9_17 : decode cJ9_floorMod_f86c9 17 = .ok (.ifCond .eq 8, 3) := by decide +kernel
theorem dJ9_floorMod_f86c9_20 : decode cJ9_floorMod_f86c9 20 = .ok (.lload 4, 2) := by decide +kernel
theorem dJ9_floorMod_f86c9_22 : decode cJ9_floorMod_f86c9 22 = .ok (.lload_n 2, 1) := by decide +kernel
theorem dJ9_floorMod_f86c9_23 : decode cJ9_floorMod_f86c9 23 = .ok (.ladd, 1) := by decide +kernel
theorem dJ9_floorMod_f86c9_24 : decode cJ9_floorMod_f86c9 24 = .ok (.lreturn, 1) := by decide +kernel
theorem dJ9_floorMod_f86c9_25 : decode cJ9_floorMod_f86c9 25 = .ok (.lload 4, 2) := by decide +kernel
theorem dJ9_floorMod_f86c9_27 : decode cJ9_floorMod_f86c9 27 = .ok (.lreturn, 1) := by decide +kernel
theorem dJ9_abs_0f7a4_0 : decode cJ9_abs_0f7a4 0 = .ok (.iload_n 0, 1) := by decide +kernel
theorem dJ9_abs_0f7a4_1 : decode cJ9_abs_0f7a4 1 = .ok (.ifCond .ge 8, 3) := by decide +kernel
theorem dJ9_abs_0f7a4_4 : decode cJ9_abs_0f7a4 4 = .ok (.iload_n 0, 1) := by decide +kernel
theorem dJ9_abs_0f7a4_5 : decode cJ9_abs_0f7a4 5 = .ok (.ineg, 1) := by decide +kernel
theorem dJ9_abs_0f7a4_6 : decode cJ9_abs_0f7a4 6 = .ok (.goto 4, 3) := by decide +kernel
theorem dJ9_abs_0f7a4_9 : decode cJ9_abs_0f7a4 9 = .ok (.iload_n 0, 1) := by decide +kernel
theorem dJ9_abs_0f7a4_10 : decode cJ9_abs_0f7a4 10 = .ok (.ireturn, 1) := by decide +kernel
theorem dJ9_max_7cf53_0 : decode cJ9_max_7cf53 0 = .ok (.iload_n 0, 1) := by decide +kernel
theorem dJ9_max_7cf53_1 : decode cJ9_max_7cf53 1 = .ok (.iload_n 1, 1) := by decide +kernel
theorem dJ9_max_7cf53_2 : decode cJ9_max_7cf53 2 = .ok (.if_icmp .lt 7, 3) := by decide +kernel
theorem dJ9_max_7cf53_5 : decode cJ9_max_7cf53 5 = .ok (.iload_n 0, 1) := by decide +kernel
theorem dJ9_max_7cf53_6 : decode cJ9_max_7cf53 6 = .ok (.goto 4, 3) := by decide +kernel
theorem dJ9_max_7cf53_9 : decode cJ9_max_7cf53 9 = .ok (.iload_n 1, 1) := by decide +kernel
theorem dJ9_max_7cf53_10 : decode cJ9_max_7cf53 10 = .ok (.ireturn, 1) := by decide +kernel
theorem dJ9_min_7cf53_0 : decode cJ9_min_7cf53 0 = .ok (.iload_n 0, 1) := by decide +kernel
theorem dJ9_min_7cf53_1 : decode cJ9_min_7cf53 1 = .ok (.iload_n 1, 1) := by decide +kernel
theorem dJ9_min_7cf53_2 : decode cJ9_min_7cf53 2 = .ok (.if_icmp .gt 7, 3) := by decide +kernel
theorem dJ9_min_7cf53_5 : decode cJ9_min_7cf53 5 = .ok (.iload_n 0, 1) := by decide +kernel
theorem dJ9_min_7cf53_6 : decode cJ9_min_7cf53 6 = .ok (.goto 4, 3) := by decide +kernel
theorem dJ9_min_7cf53_9 : decode cJ9_min_7cf53 9 = .ok (.iload_n 1, 1) := by decide +kernel
theorem dJ9_min_7cf53_10 : decode cJ9_min_7cf53 10 = .ok (.ireturn, 1) := by decide +kernel
theorem dJ0_length_8abf5_0 : decode cJ0_length_8abf5 0 = .ok (.aload_n 0, 1) := by decide +kernel
theorem dJ0_length_8abf5_1 : decode cJ0_length_8abf5 1 = .ok (.getfield 9, 3) := by decide +kernel
theorem dJ0_length_8abf5_4 : decode cJ0_length_8abf5 4 = .ok (.arraylength, 1) := by decide +kernel
theorem dJ0_length_8abf5_5 : decode cJ0_length_8abf5 5 = .ok (.aload_n 0, 1) := by decide +kernel
theorem dJ0_length_8abf5_6 : decode cJ0_length_8abf5 6 = .ok (.invokevirtual 335, 3) := by decide +kernel
theorem dJ0_length_8abf5_9 : decode cJ0_length_8abf5 9 = .ok (.ishr, 1) := by decide +kernel
theorem dJ0_length_8abf5_10 : decode cJ0_length_8abf5 10 = .ok (.ireturn, 1) := by decide +kernel
theorem dJ0_charAt_5068e_0 : decode cJ0_charAt_5068e 0 = .ok (.aload_n 0, 1) := by decide +kernel
theorem dJ0_charAt_5068e_1 : decode cJ0_charAt_5068e 1 = .ok (.invokevirtual 492, 3) := by decide +kernel
theorem dJ0_charAt_5068e_4 : decode cJ0_charAt_5068e 4 = .ok (.ifCond .eq 12, 3) := by decide +kernel
theorem dJ0_charAt_5068e_7 : decode cJ0_charAt_5068e 7 = .ok (.aload_n 0, 1) := by decide +kernel
theorem dJ0_charAt_5068e_8 : decode cJ0_charAt_5068e 8 = .ok (.getfield 9, 3) := by decide +kernel
theorem dJ0_charAt_5068e_11 : decode cJ0_charAt_5068e 11 = .ok (.iload_n 1, 1) := by decide +kernel
theorem dJ0_charAt_5068e_12 : decode cJ0_charAt_5068e 12 = .ok (.invokestatic 495, 3) := by decide +kernel
theorem dJ0_charAt_5068e_15 : decode cJ0_charAt_5068e 15 = .ok (.ireturn, 1) := by decide +kernel
theorem dJ0_charAt_5068e_16 : decode cJ0_charAt_5068e 16 = .ok (.aload_n 0, 1) := by decide +kernel
theorem dJ0_charAt_5068e_17 : decode cJ0_charAt_5068e 17 = .ok (.getfield 9, 3) := by decide +kernel
theorem dJ0_charAt_5068e_20 : decode cJ0_charAt_5068e 20 = .ok (.iload_n 1, 1) := by decide +kernel
theorem dJ0_charAt_5068e_21 : decode cJ0_charAt_5068e 21 = .ok (.invokestatic 498, 3) := by decide +kernel
theorem dJ0_charAt_5068e_24 : decode cJ0_charAt_5068e 24 = .ok (.ireturn, 1) := by decide +kernel
theorem dJ0_coder_7d493_0 : decode cJ0_coder_7d493 0 = .ok (.getstatic 38, 3) := by decide +kernel
theorem dJ0_coder_7d493_3 : decode cJ0_coder_7d493 3 = .ok (.ifCond .eq 10, 3) := by decide +kernel
theorem dJ0_coder_7d493_6 : decode cJ0_coder_7d493 6 = .ok (.aload_n 0, 1) := by decide +kernel
theorem dJ0_coder_7d493_7 : decode cJ0_coder_7d493 7 = .ok (.getfield 15, 3) := by decide +kernel
theorem dJ0_coder_7d493_10 : decode cJ0_coder_7d493 10 = .ok (.goto 4, 3) := by decide +kernel
theorem dJ0_coder_7d493_13 : decode cJ0_coder_7d493 13 = .ok (.iconst 1, 1) := by decide +kernel
theorem dJ0_coder_7d493_14 : decode cJ0_coder_7d493 14 = .ok (.ireturn, 1) := by decide +kernel
theorem dJ0_isLatin1_aae02_0 : decode cJ0_isLatin1_aae02 0 = .ok (.getstatic 38, 3) := by decide +kernel
theorem dJ0_isLatin1_aae02_3 : decode cJ0_isLatin1_aae02 3 = .ok (.ifCond .eq 14, 3) := by decide +kernel
theorem dJ0_isLatin1_aae02_6 : decode cJ0_isLatin1_aae02 6 = .ok (.aload_n 0, 1) := by decide +kernel
theorem dJ0_isLatin1_aae02_7 : decode cJ0_isLatin1_aae02 7 = .ok (.getfield 15, 3) := by decide +kernel
theorem dJ0_isLatin1_aae02_10 : decode cJ0_isLatin1_aae02 10 = .ok (.ifCond .ne 7, 3) := by decide +kernel
theorem dJ0_isLatin1_aae02_13 : decode cJ0_isLatin1_aae02 13 = .ok (.iconst 1, 1) := by decide +kernel
theorem dJ0_isLatin1_aae02_14 : decode cJ0_isLatin1_aae02 14 = .ok (.goto 4, 3) := by decide +kernel
theorem dJ0_isLatin1_aae02_17 : decode cJ0_isLatin1_aae02 17 = .ok (.iconst 0, 1) := by decide +kernel
theorem dJ0_isLatin1_aae02_18 : decode cJ0_isLatin1_aae02 18 = .ok (.ireturn, 1) := by decide +kernel
theorem dJ0_checkIndex_df160_0 : decode cJ0_checkIndex_df160 0 = .ok (.iload_n 0, 1) := by decide +kernel
theorem dJ0_checkIndex_df160_1 : decode cJ0_checkIndex_df160 1 = .ok (.iload_n 1, 1) := by decide +kernel
theorem dJ0_checkIndex_df160_2 : decode cJ0_checkIndex_df160 2 = .ok (.getstatic 1053, 3) := by decide +kernel
theorem dJ0_checkIndex_df160_5 : decode cJ0_checkIndex_df160 5 = .ok (.invokestatic 1059, 3) := by decide +kernel
theorem dJ0_checkIndex_df160_8 : decode cJ0_checkIndex_df160 8 = .ok (.pop, 1) := by decide +kernel
theorem dJ0_checkIndex_df160_9 : decode cJ0_checkIndex_df160 9 = .ok (.return_, 1) := by decide +kernel
theorem dJ1_charAt_3b067_0 : decode cJ1_charAt_3b067 0 = .ok (.iload_n 1, 1) := by decide +kernel
theorem dJ1_charAt_3b067_1 : decode cJ1_charAt_3b067 1 = .ok (.aload_n 0, 1) := by decide +kernel
theorem dJ1_charAt_3b067_2 : decode cJ1_charAt_3b067 2 = .ok (.arraylength, 1) := by decide +kernel
theorem dJ1_charAt_3b067_3 : decode cJ1_charAt_3b067 3 = .ok (.invokestatic 9, 3) := by decide +kernel
theorem dJ1_charAt_3b067_6 : decode cJ1_charAt_3b067 6 = .ok (.aload_n 0, 1) := by decide +kernel
theorem dJ1_charAt_3b067_7 : decode cJ1_charAt_3b067 7 = .ok (.iload_n 1, 1) := by decide +kernel
theorem dJ1_charAt_3b067_8 : decode cJ1_charAt_3b067 8 = .ok (.baload, 1) := by decide +kernel
theorem dJ1_charAt_3b067_9 : decode cJ1_charAt_3b067 9 = .ok (.sipush 255, 3) := by decide +kernel
theorem dJ1_charAt_3b067_12 : decode cJ1_charAt_3b067 12 = .ok (.iand, 1) := by decide +kernel
theorem dJ1_charAt_3b067_13 : decode cJ1_charAt_3b067 13 = .ok (.i2c, 1) := by decide +kernel
theorem dJ1_charAt_3b067_14 : decode cJ1_charAt_3b067 14 = .ok (.ireturn, 1) := by decide +kernel
theorem dJ2_getChar_3b067_0 : decode cJ2_getChar_3b067 0 = .ok (.getstatic 44, 3) := by decide +kernel
theorem dJ2_getChar_3b067_3 : decode cJ2_getChar_3b067 3 = .ok (.ifCond .ne 25, 3) := by decide +kernel
theorem dJ2_getChar_3b067_6 : decode cJ2_getChar_3b067 6 = .ok (.iload_n 1, 1) := by decide +kernel
theorem dJ2_getChar_3b067_7 : decode cJ2_getChar_3b067 7 = .ok (.ifCond .lt 11, 3) := by decide +kernel
theorem dJ2_getChar_3b067_10 : decode cJ2_getChar_3b067 10 = .ok (.iload_n 1, 1) := by decide +kernel
theorem dJ2_getChar_3b067_11 : decode cJ2_getChar_3b067 11 = .ok (.aload_n 0, 1) := by decide +kernel
theorem dJ2_getChar_3b067_12 : decode cJ2_getChar_3b067 12 = .ok (.invokestatic 48, 3) := by decide +kernel
theorem dJ2_getChar_3b067_15 : decode cJ2_getChar_3b067 15 = .ok (.if_icmp .lt 13, 3) := by decide +kernel
theorem dJ2_getChar_3b067_18 : decode cJ2_getChar_3b067 18 = .ok (.new 52, 3) := by decide +kernel
theorem dJ2_getChar_3b067_21 : decode cJ2_getChar_3b067 21 = .ok (.dup, 1) := by decide +kernel
theorem dJ2_getChar_3b067_22 : decode cJ2_getChar_3b067 22 = .ok (.ldc 54, 2) := by decide +kernel
theorem dJ2_getChar_3b067_24 : decode cJ2_getChar_3b067 24 = .ok (.invokespecial 56, 3) := by decide +kernel
theorem dJ2_getChar_3b067_27 : decode cJ2_getChar_3b067 27 = .ok (.athrow, 1) := by decide +kernel
theorem dJ2_getChar_3b067_28 : decode cJ2_getChar_3b067 28 = .ok (.iload_n 1, 1) := by decide +kernel
theorem dJ2_getChar_3b067_29 : decode cJ2_getChar_3b067 29 = .ok (.iconst 1, 1) := by decide +kernel
theorem dJ2_getChar_3b067_30 : decode cJ2_getChar_3b067 30 = .ok (.ishl, 1) := by decide +kernel
theorem dJ2_getChar_3b067_31 : decode cJ2_getChar_3b067 31 = .ok (.istore_n 1, 1) := by decide +kernel
theorem dJ2_getChar_3b067_32 : decode cJ2_getChar_3b067 32 = .ok (.aload_n 0, 1) := by decide +kernel
theorem dJ2_getChar_3b067_33 : decode cJ2_getChar_3b067 33 = .ok (.iload_n 1, 1) := by decide +kernel
theorem dJ2_getChar_3b067_34 : decode cJ2_getChar_3b067 34 = .ok (.iinc 1 1, 3) := by decide +kernel
theorem dJ2_getChar_3b067_37 : decode cJ2_getChar_3b067 37 = .ok (.baload, 1) := by decide +kernel
theorem dJ2_getChar_3b067_38 : decode cJ2_getChar_3b067 38 = .ok (.sipush 255, 3) := by decide +kernel
theorem dJ2_getChar_3b067_41 : decode cJ2_getChar_3b067 41 = .ok (.iand, 1) := by decide +kernel
theorem dJ2_getChar_3b067_42 : decode cJ2_getChar_3b067 42 = .ok (.getstatic 59, 3) := by decide +kernel
theorem dJ2_getChar_3b067_45 : decode cJ2_getChar_3b067 45 = .ok (.ishl, 1) := by decide +kernel
theorem dJ2_getChar_3b067_46 : decode cJ2_getChar_3b067 46 = .ok (.aload_n 0, 1) := by decide +kernel
theorem dJ2_getChar_3b067_47 : decode cJ2_getChar_3b067 47 = .ok (.iload_n 1, 1) := by decide +kernel
theorem dJ2_getChar_3b067_48 : decode cJ2_getChar_3b067 48 = .ok (.baload, 1) := by decide +kernel
theorem dJ2_getChar_3b067_49 : decode cJ2_getChar_3b067 49 = .ok (.sipush 255, 3) := by decide +kernel
theorem dJ2_getChar_3b067_52 : decode cJ2_getChar_3b067 52 = .ok (.iand, 1) := by decide +kernel
theorem dJ2_getChar_3b067_53 : decode cJ2_getChar_3b067 53 = .ok (.getstatic 63, 3) := by decide +kernel
theorem dJ2_getChar_3b067_56 : decode cJ2_getChar_3b067 56 = .ok (.ishl, 1) := by decide +kernel
theorem dJ2_getChar_3b067_57 : decode cJ2_getChar_3b067 57 = .ok (.ior, 1) := by decide +kernel
theorem dJ2_getChar_3b067_58 : decode cJ2_getChar_3b067 58 = .ok (.i2c, 1) := by decide +kernel
theorem dJ2_getChar_3b067_59 : decode cJ2_getChar_3b067 59 = .ok (.ireturn, 1) := by decide +kernel
theorem dJ2_length_9d52b_0 : decode cJ2_length_9d52b 0 = .ok (.aload_n 0, 1) := by decide +kernel
theorem dJ2_length_9d52b_1 : decode cJ2_length_9d52b 1 = .ok (.arraylength, 1) := by decide +kernel
theorem dJ2_length_9d52b_2 : decode cJ2_length_9d52b 2 = .ok (.iconst 1, 1) := by decide +kernel
theorem dJ2_length_9d52b_3 : decode cJ2_length_9d52b 3 = .ok (.ishr, 1) := by decide +kernel
theorem dJ2_length_9d52b_4 : decode cJ2_length_9d52b 4 = .ok (.ireturn, 1) := by decide +kernel
theorem dJ2_charAt_3b067_0 : decode cJ2_charAt_3b067 0 = .ok (.iload_n 1, 1) := by decide +kernel
theorem dJ2_charAt_3b067_1 : decode cJ2_charAt_3b067 1 = .ok (.aload_n 0, 1) := by decide +kernel
theorem dJ2_charAt_3b067_2 : decode cJ2_charAt_3b067 2 = .ok (.invokestatic 67, 3) := by decide +kernel
theorem dJ2_charAt_3b067_5 : decode cJ2_charAt_3b067 5 = .ok (.aload_n 0, 1) := by decide +kernel
theorem dJ2_charAt_3b067_6 : decode cJ2_charAt_3b067 6 = .ok (.iload_n 1, 1) := by decide +kernel
theorem dJ2_charAt_3b067_7 : decode cJ2_charAt_3b067 7 = .ok (.invokestatic 71, 3) := by decide +kernel
theorem dJ2_charAt_3b067_10 : decode cJ2_charAt_3b067 10 = .ok (.ireturn, 1) := by decide +kernel
theorem dJ2_checkIndex_2214a_0 : decode cJ2_checkIndex_2214a 0 = .ok (.iload_n 0, 1) := by decide +kernel
theorem dJ2_checkIndex_2214a_1 : decode cJ2_checkIndex_2214a 1 = .ok (.aload_n 1, 1) := by decide +kernel
theorem dJ2_checkIndex_2214a_2 : decode cJ2_checkIndex_2214a 2 = .ok (.invokestatic 48, 3) := by decide +kernel
theorem dJ2_checkIndex_2214a_5 : decode cJ2_checkIndex_2214a 5 = .ok (.invokestatic 414, 3) := by decide +kernel
theorem dJ2_checkIndex_2214a_8 : decode cJ2_checkIndex_2214a 8 = .ok (.return_, 1) := by decide +kernel
theorem dJ7_fill_d0a16_0 : decode cJ7_fill_d0a16 0 = .ok (.iconst 0, 1) := by decide +kernel
theorem dJ7_fill_d0a16_1 : decode cJ7_fill_d0a16 1 = .ok (.istore_n 3, 1) := by decide +kernel
theorem dJ7_fill_d0a16_2 : decode cJ7_fill_d0a16 2 = .ok (.aload_n 0, 1) := by decide +kernel
theorem dJ7_fill_d0a16_3 : decode cJ7_fill_d0a16 3 = .ok (.arraylength, 1) := by decide +kernel
theorem dJ7_fill_d0a16_4 : decode cJ7_fill_d0a16 4 = .ok (.istore 4, 2) := by decide +kernel
theorem dJ7_fill_d0a16_6 : decode cJ7_fill_d0a16 6 = .ok (.iload_n 3, 1) := by decide +kernel
theorem dJ7_fill_d0a16_7 : decode cJ7_fill_d0a16 7 = .ok (.iload 4, 2) := by decide +kernel
theorem dJ7_fill_d0a16_9 : decode cJ7_fill_d0a16 9 = .ok (.if_icmp .ge 13, 3) := by decide +kernel
theorem dJ7_fill_d0a16_12 : decode cJ7_fill_d0a16 12 = .ok (.aload_n 0, 1) := by decide +kernel
theorem dJ7_fill_d0a16_13 : decode cJ7_fill_d0a16 13 = .ok (.iload_n 3, 1) := by decide +kernel
theorem dJ7_fill_d0a16_14 : decode cJ7_fill_d0a16 14 = .ok (.lload_n 1, 1) := by decide +kernel
theorem dJ7_fill_d0a16_15 : decode cJ7_fill_d0a16 15 = .ok (.lastore, 1) := by decide +kernel
theorem dJ7_fill_d0a16_16 : decode cJ7_fill_d0a16 16 = .ok (.iinc 3 1, 3) := by decide +kernel
theorem dJ7_fill_d0a16_19 : decode cJ7_fill_d0a16 19 = .ok (.goto (-13), 3) := by decide +kernel
theorem dJ7_fill_d0a16_22 : decode cJ7_fill_d0a16 22 = .ok (.return_, 1) := by decide +kernel
theorem dJ7_fill_53178_0 : decode cJ7_fill_53178 0 = .ok (.iconst 0, 1) := by decide +kernel
theorem dJ7_fill_53178_1 : decode cJ7_fill_53178 1 = .ok (.istore_n 2, 1) := by decide +kernel
theorem dJ7_fill_53178_2 : decode cJ7_fill_53178 2 = .ok (.aload_n 0, 1) := by decide +kernel
theorem dJ7_fill_53178_3 : decode cJ7_fill_53178 3 = .ok (.arraylength, 1) := by decide +kernel
theorem dJ7_fill_53178_4 : decode cJ7_fill_53178 4 = .ok (.istore_n 3, 1) := by decide +kernel
theorem dJ7_fill_53178_5 : decode cJ7_fill_53178 5 = .ok (.iload_n 2, 1) := by decide +kernel
theorem dJ7_fill_53178_6 : decode cJ7_fill_53178 6 = .ok (.iload_n 3, 1) := by decide +kernel
theorem dJ7_fill_53178_7 : decode cJ7_fill_53178 7 = .ok (.if_icmp .ge 13, 3) := by decide +kernel
theorem dJ7_fill_53178_10 : decode cJ7_fill_53178 10 = .ok (.aload_n 0, 1) := by decide +kernel
theorem dJ7_fill_53178_11 : decode cJ7_fill_53178 11 = .ok (.iload_n 2, 1) := by decide +kernel
theorem dJ7_fill_53178_12 : decode cJ7_fill_53178 12 = .ok (.iload_n 1, 1) := by decide +kernel
theorem dJ7_fill_53178_13 : decode cJ7_fill_53178 13 = .ok (.iastore, 1) := by decide +kernel
theorem dJ7_fill_53178_14 : decode cJ7_fill_53178 14 = .ok (.iinc 2 1, 3) := by decide +kernel
theorem dJ7_fill_53178_17 : decode cJ7_fill_53178 17 = .ok (.goto (-12), 3) := by decide +kernel
theorem dJ7_fill_53178_20 : decode cJ7_fill_53178 20 = .ok (.return_, 1) := by decide +kernel
theorem dJ3_checkIndex_8e157_0 : decode cJ3_checkIndex_8e157 0 = .ok (.iload_n 0, 1) := by decide +kernel
theorem dJ3_checkIndex_8e157_1 : decode cJ3_checkIndex_8e157 1 = .ok (.ifCond .lt 8, 3) := by decide +kernel
theorem dJ3_checkIndex_8e157_4 : decode cJ3_checkIndex_8e157 4 = .ok (.iload_n 0, 1) := by decide +kernel
theorem dJ3_checkIndex_8e157_5 : decode cJ3_checkIndex_8e157 5 = .ok (.iload_n 1, 1) := by decide +kernel
theorem dJ3_checkIndex_8e157_6 : decode cJ3_checkIndex_8e157 6 = .ok (.if_icmp .lt 10, 3) := by decide +kernel
theorem dJ3_checkIndex_8e157_9 : decode cJ3_checkIndex_8e157 9 = .ok (.aload_n 2, 1) := by decide +kernel
theorem dJ3_checkIndex_8e157_10 : decode cJ3_checkIndex_8e157 10 = .ok (.iload_n 0, 1) := by decide +kernel
theorem dJ3_checkIndex_8e157_11 : decode cJ3_checkIndex_8e157 11 = .ok (.iload_n 1, 1) := by decide +kernel
theorem dJ3_checkIndex_8e157_12 : decode cJ3_checkIndex_8e157 12 = .ok (.invokestatic 95, 3) := by decide +kernel
theorem dJ3_checkIndex_8e157_15 : decode cJ3_checkIndex_8e157 15 = .ok (.athrow, 1) := by decide +kernel
theorem dJ3_checkIndex_8e157_16 : decode cJ3_checkIndex_8e157 16 = .ok (.iload_n 0, 1) := by decide +kernel
theorem dJ3_checkIndex_8e157_17 : decode cJ3_checkIndex_8e157 17 = .ok (.ireturn, 1) := by decide +kernel
theorem dX0_init_0 : decode cX0_init 0 = .ok (.aload_n 0, 1) := by decide +kernel
theorem dX0_init_1 : decode cX0_init 1 = .ok (.invokespecial 3, 3) := by decide +kernel
theorem dX0_init_4 : decode cX0_init 4 = .ok (.aload_n 0, 1) := by decide +kernel
theorem dX0_init_5 : decode cX0_init 5 = .ok (.bipush 60, 2) := by decide +kernel
theorem dX0_init_7 : decode cX0_init 7 = .ok (.newarray .byte, 2) := by decide +kernel
theorem dX0_init_9 : decode cX0_init 9 = .ok (.putfield 9, 3) := by decide +kernel
theorem dX0_init_12 : decode cX0_init 12 = .ok (.aload_n 0, 1) := by decide +kernel
theorem dX0_init_13 : decode cX0_init 13 = .ok (.iconst 0, 1) := by decide +kernel
theorem dX0_init_14 : decode cX0_init 14 = .ok (.putfield 15, 3) := by decide +kernel
theorem dX0_init_17 : decode cX0_init 17 = .ok (.aload_n 0, 1) := by decide +kernel
theorem dX0_init_18 : decode cX0_init 18 = .ok (.iconst 0, 1) := by decide +kernel
theorem dX0_init_19 : decode cX0_init 19 = .ok (.putfield 19, 3) := by decide +kernel
theorem dX0_init_22 : decode cX0_init 22 = .ok (.return_, 1) := by decide +kernel
theorem dX0_put_0 : decode cX0_put 0 = .ok (.aload_n 0, 1) := by decide +kernel
theorem dX0_put_1 : decode cX0_put 1 = .ok (.getfield 15, 3) := by decide +kernel
theorem dX0_put_4 : decode cX0_put 4 = .ok (.bipush 60, 2) := by decide +kernel
theorem dX0_put_6 : decode cX0_put 6 = .ok (.if_icmp .ge 24, 3) := by decide +kernel
theorem dX0_put_9 : decode cX0_put 9 = .ok (.aload_n 0, 1) := by decide +kernel
theorem dX0_put_10 : decode cX0_put 10 = .ok (.getfield 9, 3) := by decide +kernel
theorem dX0_put_13 : decode cX0_put 13 = .ok (.aload_n 0, 1) := by decide +kernel
theorem dX0_put_14 : decode cX0_put 14 = .ok (.getfield 15, 3) := by decide +kernel
theorem dX0_put_17 : decode cX0_put 17 = .ok (.iload_n 1, 1) := by decide +kernel
theorem dX0_put_18 : decode cX0_put 18 = .ok (.i2b, 1) := by decide +kernel
theorem dX0_put_19 : decode cX0_put 19 = .ok (.bastore, 1) := by decide +kernel
theorem dX0_put_20 : decode cX0_put 20 = .ok (.aload_n 0, 1) := by decide +kernel
theorem dX0_put_21 : decode cX0_put 21 = .ok (.dup, 1) := by decide +kernel
theorem dX0_put_22 : decode cX0_put 22 = .ok (.getfield 15, 3) := by decide +kernel
theorem dX0_put_25 : decode cX0_put 25 = .ok (.iconst 1, 1) := by decide +kernel
theorem dX0_put_26 : decode cX0_put 26 = .ok (.iadd, 1) := by decide +kernel
theorem dX0_put_27 : decode cX0_put 27 = .ok (.putfield 15, 3) := by decide +kernel
theorem dX0_put_30 : decode cX0_put 30 = .ok (.return_, 1) := by decide +kernel
theorem dX0_holds_0 : decode cX0_holds 0 = .ok (.aload_n 1, 1) := by decide +kernel
theorem dX0_holds_1 : decode cX0_holds 1 = .ok (.invokevirtual 22, 3) := by decide +kernel
theorem dX0_holds_4 : decode cX0_holds 4 = .ok (.aload_n 0, 1) := by decide +kernel
theorem dX0_holds_5 : decode cX0_holds 5 = .ok (.getfield 15, 3) := by decide +kernel
theorem dX0_holds_8 : decode cX0_holds 8 = .ok (.if_icmp .eq 5, 3) := by decide +kernel
theorem dX0_holds_11 : decode cX0_holds 11 = .ok (.iconst 0, 1) := by decide +kernel
theorem dX0_holds_12 : decode cX0_holds 12 = .ok (.ireturn, 1) := by decide +kernel
theorem dX0_holds_13 : decode cX0_holds 13 = .ok (.iconst 0, 1) := by decide +kernel
theorem dX0_holds_14 : decode cX0_holds 14 = .ok (.istore_n 2, 1) := by decide +kernel
theorem dX0_holds_15 : decode cX0_holds 15 = .ok (.iload_n 2, 1) := by decide +kernel
theorem dX0_holds_16 : decode cX0_holds 16 = .ok (.aload_n 0, 1) := by decide +kernel
theorem dX0_holds_17 : decode cX0_holds 17 = .ok (.getfield 15, 3) := by decide +kernel
theorem dX0_holds_20 : decode cX0_holds 20 = .ok (.if_icmp .ge 25, 3) := by decide +kernel
theorem dX0_holds_23 : decode cX0_holds 23 = .ok (.aload_n 0, 1) := by decide +kernel
theorem dX0_holds_24 : decode cX0_holds 24 = .ok (.getfield 9, 3) := by decide +kernel
theorem dX0_holds_27 : decode cX0_holds 27 = .ok (.iload_n 2, 1) := by decide +kernel
theorem dX0_holds_28 : decode cX0_holds 28 = .ok (.baload, 1) := by decide +kernel
theorem dX0_holds_29 : decode cX0_holds 29 = .ok (.aload_n 1, 1) := by decide +kernel
theorem dX0_holds_30 : decode cX0_holds 30 = .ok (.iload_n 2, 1) := by decide +kernel
theorem dX0_holds_31 : decode cX0_holds 31 = .ok (.invokevirtual 27, 3) := by decide +kernel
theorem dX0_holds_34 : decode cX0_holds 34 = .ok (.if_icmp .eq 5, 3) := by decide +kernel
theorem dX0_holds_37 : decode cX0_holds 37 = .ok (.iconst 0, 1) := by decide +kernel
theorem dX0_holds_38 : decode cX0_holds 38 = .ok (.ireturn, 1) := by decide +kernel
theorem dX0_holds_39 : decode cX0_holds 39 = .ok (.iinc 2 1, 3) := by decide +kernel
theorem dX0_holds_42 : decode cX0_holds 42 = .ok (.goto (-27), 3) := by decide +kernel
theorem dX0_holds_45 : decode cX0_holds 45 = .ok (.iconst 1, 1) := by decide +kernel
theorem dX0_holds_46 : decode cX0_holds 46 = .ok (.ireturn, 1) := by decide +kernel
theorem dX0_readSeries_0 : decode cX0_readSeries 0 = .ok (.aload_n 0, 1) := by decide +kernel
theorem dX0_readSeries_1 : decode cX0_readSeries 1 = .ok (.iconst 0, 1) := by decide +kernel
theorem dX0_readSeries_2 : decode cX0_readSeries 2 = .ok (.putfield 19, 3) := by decide +kernel
theorem dX0_readSeries_5 : decode cX0_readSeries 5 = .ok (.aload_n 0, 1) := by decide +kernel
theorem dX0_readSeries_6 : decode cX0_readSeries 6 = .ok (.bipush 45, 2) := by decide +kernel
theorem dX0_readSeries_8 : decode cX0_readSeries 8 = .ok (.invokevirtual 31, 3) := by decide +kernel
theorem dX0_readSeries_11 : decode cX0_readSeries 11 = .ok (.istore_n 2, 1) := by decide +kernel
theorem dX0_readSeries_12 : decode cX0_readSeries 12 = .ok (.aload_n 0, 1) := by decide +kernel
theorem dX0_readSeries_13 : decode cX0_readSeries 13 = .ok (.aload_n 1, 1) := by decide +kernel
theorem dX0_readSeries_14 : decode cX0_readSeries 14 = .ok (.iload_n 2, 1) := by decide +kernel
theorem dX0_readSeries_15 : decode cX0_readSeries 15 = .ok (.invokevirtual 35, 3) := by decide +kernel
theorem dX0_readSeries_18 : decode cX0_readSeries 18 = .ok (.ifCond .ne 5, 3) := by decide +kernel
theorem dX0_readSeries_21 : decode cX0_readSeries 21 = .ok (.iconst 0, 1) := by decide +kernel
theorem dX0_readSeries_22 : decode cX0_readSeries 22 = .ok (.ireturn, 1) := by decide +kernel
theorem dX0_readSeries_23 : decode cX0_readSeries 23 = .ok (.iconst 0, 1) := by decide +kernel
theorem dX0_readSeries_24 : decode cX0_readSeries 24 = .ok (.istore_n 3, 1) := by decide +kernel
theorem dX0_readSeries_25 : decode cX0_readSeries 25 = .ok (.iload_n 3, 1) := by decide +kernel
theorem dX0_readSeries_26 : decode cX0_readSeries 26 = .ok (.bipush 60, 2) := by decide +kernel
theorem dX0_readSeries_28 : decode cX0_readSeries 28 = .ok (.if_icmp .ge 53, 3) := by decide +kernel
theorem dX0_readSeries_31 : decode cX0_readSeries 31 = .ok (.aload_n 0, 1) := by decide +kernel
theorem dX0_readSeries_32 : decode cX0_readSeries 32 = .ok (.getfield 19, 3) := by decide +kernel
theorem dX0_readSeries_35 : decode cX0_readSeries 35 = .ok (.aload_n 0, 1) := by decide +kernel
theorem dX0_readSeries_36 : decode cX0_readSeries 36 = .ok (.getfield 15, 3) := by decide +kernel
theorem dX0_readSeries_39 : decode cX0_readSeries 39 = .ok (.if_icmp .ge 42, 3) := by decide +kernel
theorem dX0_readSeries_42 : decode cX0_readSeries 42 = .ok (.aload_n 0, 1) := by decide +kernel
theorem dX0_readSeries_43 : decode cX0_readSeries 43 = .ok (.bipush 45, 2) := by decide +kernel
theorem dX0_readSeries_45 : decode cX0_readSeries 45 = .ok (.invokevirtual 31, 3) := by decide +kernel
theorem dX0_readSeries_48 : decode cX0_readSeries 48 = .ok (.istore_n 2, 1) := by decide +kernel
theorem dX0_readSeries_49 : decode cX0_readSeries 49 = .ok (.iload_n 2, 1) := by decide +kernel
theorem dX0_readSeries_50 : decode cX0_readSeries 50 = .ok (.ifCond .ne 14, 3) := by decide +kernel
theorem dX0_readSeries_53 : decode cX0_readSeries 53 = .ok (.aload_n 0, 1) := by decide +kernel
theorem dX0_readSeries_54 : decode cX0_readSeries 54 = .ok (.bipush 43, 2) := by decide +kernel
theorem dX0_readSeries_56 : decode cX0_readSeries 56 = .ok (.invokevirtual 31, 3) := by decide +kernel
theorem dX0_readSeries_59 : decode cX0_readSeries 59 = .ok (.ifCond .ne 5, 3) := by decide +kernel
theorem dX0_readSeries_62 : decode cX0_readSeries 62 = .ok (.iconst 0, 1) := by decide +kernel
theorem dX0_readSeries_63 : decode cX0_readSeries 63 = .ok (.ireturn, 1) := by decide +kernel
theorem dX0_readSeries_64 : decode cX0_readSeries 64 = .ok (.aload_n 0, 1) := by decide +kernel
theorem dX0_readSeries_65 : decode cX0_readSeries 65 = .ok (.aload_n 1, 1) := by decide +kernel
theorem dX0_readSeries_66 : decode cX0_readSeries 66 = .ok (.iload_n 2, 1) := by decide +kernel
theorem dX0_readSeries_67 : decode cX0_readSeries 67 = .ok (.invokevirtual 35, 3) := by decide +kernel
theorem dX0_readSeries_70 : decode cX0_readSeries 70 = .ok (.ifCond .ne 5, 3) := by decide +kernel
theorem dX0_readSeries_73 : decode cX0_readSeries 73 = .ok (.iconst 0, 1) := by decide +kernel
theorem dX0_readSeries_74 : decode cX0_readSeries 74 = .ok (.ireturn, 1) := by decide +kernel
theorem dX0_readSeries_75 : decode cX0_readSeries 75 = .ok (.iinc 3 1, 3) := by decide +kernel
theorem dX0_readSeries_78 : decode cX0_readSeries 78 = .ok (.goto (-53), 3) := by decide +kernel
theorem dX0_readSeries_81 : decode cX0_readSeries 81 = .ok (.iconst 1, 1) := by decide +kernel
theorem dX0_readSeries_82 : decode cX0_readSeries 82 = .ok (.ireturn, 1) := by decide +kernel
theorem dX0_readTerm_0 : decode cX0_readTerm 0 = .ok (.aload_n 0, 1) := by decide +kernel
theorem dX0_readTerm_1 : decode cX0_readTerm 1 = .ok (.iconst 4, 1) := by decide +kernel
theorem dX0_readTerm_2 : decode cX0_readTerm 2 = .ok (.invokevirtual 39, 3) := by decide +kernel
theorem dX0_readTerm_5 : decode cX0_readTerm 5 = .ok (.istore_n 3, 1) := by decide +kernel
theorem dX0_readTerm_6 : decode cX0_readTerm 6 = .ok (.iconst 0, 1) := by decide +kernel
theorem dX0_readTerm_7 : decode cX0_readTerm 7 = .ok (.istore 4, 2) := by decide +kernel
theorem dX0_readTerm_9 : decode cX0_readTerm 9 = .ok (.aload_n 0, 1) := by decide +kernel
theorem dX0_readTerm_10 : decode cX0_readTerm 10 = .ok (.bipush 113, 2) := by decide +kernel
theorem dX0_readTerm_12 : decode cX0_readTerm 12 = .ok (.invokevirtual 31, 3) := by decide +kernel
theorem dX0_readTerm_15 : decode cX0_readTerm 15 = .ok (.ifCond .eq 12, 3) := by decide +kernel
theorem dX0_readTerm_18 : decode cX0_readTerm 18 = .ok (.aload_n 0, 1) := by decide +kernel
theorem dX0_readTerm_19 : decode cX0_readTerm 19 = .ok (.invokevirtual 43, 3) := by decide +kernel
theorem dX0_readTerm_22 : decode cX0_readTerm 22 = .ok (.istore 4, 2) := by decide +kernel
theorem dX0_readTerm_24 : decode cX0_readTerm 24 = .ok (.goto 9, 3) := by decide +kernel
theorem dX0_readTerm_27 : decode cX0_readTerm 27 = .ok (.iload_n 3, 1) := by decide +kernel
theorem dX0_readTerm_28 : decode cX0_readTerm 28 = .ok (.ifCond .ge 5, 3) := by decide +kernel
theorem dX0_readTerm_31 : decode cX0_readTerm 31 = .ok (.iconst 0, 1) := by decide +kernel
theorem dX0_readTerm_32 : decode cX0_readTerm 32 = .ok (.ireturn, 1) := by decide +kernel
theorem dX0_readTerm_33 : decode cX0_readTerm 33 = .ok (.iload 4, 2) := by decide +kernel
theorem dX0_readTerm_35 : decode cX0_readTerm 35 = .ok (.ifCond .ge 5, 3) := by decide +kernel
theorem dX0_readTerm_38 : decode cX0_readTerm 38 = .ok (.iconst 0, 1) := by decide +kernel
theorem dX0_readTerm_39 : decode cX0_readTerm 39 = .ok (.ireturn, 1) := by decide +kernel
theorem dX0_readTerm_40 : decode cX0_readTerm 40 = .ok (.iload_n 3, 1) := by decide +kernel
theorem dX0_readTerm_41 : decode cX0_readTerm 41 = .ok (.ifCond .ge 7, 3) := by decide +kernel
theorem dX0_readTerm_44 : decode cX0_readTerm 44 = .ok (.iconst 1, 1) := by decide +kernel
theorem dX0_readTerm_45 : decode cX0_readTerm 45 = .ok (.goto 4, 3) := by decide +kernel
theorem dX0_readTerm_48 : decode cX0_readTerm 48 = .ok (.iload_n 3, 1) := by decide +kernel
theorem dX0_readTerm_49 : decode cX0_readTerm 49 = .ok (.istore 5, 2) := by decide +kernel
theorem dX0_readTerm_51 : decode cX0_readTerm 51 = .ok (.aload_n 1, 1) := by decide +kernel
theorem dX0_readTerm_52 : decode cX0_readTerm 52 = .ok (.iload 4, 2) := by decide +kernel
theorem dX0_readTerm_54 : decode cX0_readTerm 54 = .ok (.iload_n 2, 1) := by decide +kernel
theorem dX0_readTerm_55 : decode cX0_readTerm 55 = .ok (.ifCond .eq 9, 3) := by decide +kernel
theorem dX0_readTerm_58 : decode cX0_readTerm 58 = .ok (.iload 5, 2) := by decide +kernel
theorem dX0_readTerm_60 : decode cX0_readTerm 60 = .ok (.ineg, 1) := by decide +kernel
theorem dX0_readTerm_61 : decode cX0_readTerm 61 = .ok (.goto 5, 3) := by decide +kernel
theorem dX0_readTerm_64 : decode cX0_readTerm 64 = .ok (.iload 5, 2) := by decide +kernel
theorem dX0_readTerm_66 : decode cX0_readTerm 66 = .ok (.invokevirtual 46, 3) := by decide +kernel
theorem dX0_readTerm_69 : decode cX0_readTerm 69 = .ok (.iconst 1, 1) := by decide +kernel
theorem dX0_readTerm_70 : decode cX0_readTerm 70 = .ok (.ireturn, 1) := by decide +kernel
theorem dX0_readExponent_0 : decode cX0_readExponent 0 = .ok (.aload_n 0, 1) := by decide +kernel
theorem dX0_readExponent_1 : decode cX0_readExponent 1 = .ok (.bipush 94, 2) := by decide +kernel
theorem dX0_readExponent_3 : decode cX0_readExponent 3 = .ok (.invokevirtual 31, 3) := by decide +kernel
theorem dX0_readExponent_6 : decode cX0_readExponent 6 = .ok (.ifCond .eq 11, 3) := by decide +kernel
theorem dX0_readExponent_9 : decode cX0_readExponent 9 = .ok (.aload_n 0, 1) := by decide +kernel
theorem dX0_readExponent_10 : decode cX0_readExponent 10 = .ok (.iconst 2, 1) := by decide +kernel
theorem dX0_readExponent_11 : decode cX0_readExponent 11 = .ok (.invokevirtual 39, 3) := by decide +kernel
theorem dX0_readExponent_14 : decode cX0_readExponent 14 = .ok (.goto 4, 3) := by decide +kernel
theorem dX0_readExponent_17 : decode cX0_readExponent 17 = .ok (.iconst 1, 1) := by decide +kernel
theorem dX0_readExponent_18 : decode cX0_readExponent 18 = .ok (.ireturn, 1) := by decide +kernel
theorem dX0_readDigits_0 : decode cX0_readDigits 0 = .ok (.iconst (-1), 1) := by decide +kernel
theorem dX0_readDigits_1 : decode cX0_readDigits 1 = .ok (.istore_n 2, 1) := by decide +kernel
theorem dX0_readDigits_2 : decode cX0_readDigits 2 = .ok (.iconst 0, 1) := by decide +kernel
theorem dX0_readDigits_3 : decode cX0_readDigits 3 = .ok (.istore_n 3, 1) := by decide +kernel
theorem dX0_readDigits_4 : decode cX0_readDigits 4 = .ok (.iload_n 3, 1) := by decide +kernel
theorem dX0_readDigits_5 : decode cX0_readDigits 5 = .ok (.iload_n 1, 1) := by decide +kernel
theorem dX0_readDigits_6 : decode cX0_readDigits 6 = .ok (.if_icmp .ge 70, 3) := by decide +kernel
theorem dX0_readDigits_9 : decode cX0_readDigits 9 = .ok (.aload_n 0, 1) := by decide +kernel
theorem dX0_readDigits_10 : decode cX0_readDigits 10 = .ok (.getfield 19, 3) := by decide +kernel
theorem dX0_readDigits_13 : decode cX0_readDigits 13 = .ok (.aload_n 0, 1) := by decide +kernel
theorem dX0_readDigits_14 : decode cX0_readDigits 14 = .ok (.getfield 15, 3) := by decide +kernel
theorem dX0_readDigits_17 : decode cX0_readDigits 17 = .ok (.if_icmp .ge 59, 3) := by decide +kernel
theorem dX0_readDigits_20 : decode cX0_readDigits 20 = .ok (.aload_n 0, 1) := by decide +kernel
theorem dX0_readDigits_21 : decode cX0_readDigits 21 = .ok (.getfield 9, 3) := by decide +kernel
theorem dX0_readDigits_24 : decode cX0_readDigits 24 = .ok (.aload_n 0, 1) := by decide +kernel
theorem dX0_readDigits_25 : decode cX0_readDigits 25 = .ok (.getfield 19, 3) := by decide +kernel
theorem dX0_readDigits_28 : decode cX0_readDigits 28 = .ok (.baload, 1) := by decide +kernel
theorem dX0_readDigits_29 : decode cX0_readDigits 29 = .ok (.bipush 48, 2) := by decide +kernel
theorem dX0_readDigits_31 : decode cX0_readDigits 31 = .ok (.isub, 1) := by decide +kernel
theorem dX0_readDigits_32 : decode cX0_readDigits 32 = .ok (.istore 4, 2) := by decide +kernel
theorem dX0_readDigits_34 : decode cX0_readDigits 34 = .ok (.iload 4, 2) := by decide +kernel
theorem dX0_readDigits_36 : decode cX0_readDigits 36 = .ok (.ifCond .lt 10, 3) := by decide +kernel
theorem dX0_readDigits_39 : decode cX0_readDigits 39 = .ok (.iload 4, 2) := by decide +kernel
theorem dX0_readDigits_41 : decode cX0_readDigits 41 = .ok (.bipush 9, 2) := by decide +kernel
theorem dX0_readDigits_43 : decode cX0_readDigits 43 = .ok (.if_icmp .le 5, 3) := by decide +kernel
theorem dX0_readDigits_46 : decode cX0_readDigits 46 = .ok (.iload_n 2, 1) := by decide +kernel
theorem dX0_readDigits_47 : decode cX0_readDigits 47 = .ok (.ireturn, 1) := by decide +kernel
theorem dX0_readDigits_48 : decode cX0_readDigits 48 = .ok (.iload_n 2, 1) := by decide +kernel
theorem dX0_readDigits_49 : decode cX0_readDigits 49 = .ok (.iconst 0, 1) := by decide +kernel
theorem dX0_readDigits_50 : decode cX0_readDigits 50 = .ok (.invokestatic 52, 3) := by decide +kernel
theorem dX0_readDigits_53 : decode cX0_readDigits 53 = .ok (.bipush 10, 2) := by decide +kernel
theorem dX0_readDigits_55 : decode cX0_readDigits 55 = .ok (.imul, 1) := by decide +kernel
theorem dX0_readDigits_56 : decode cX0_readDigits 56 = .ok (.iload 4, 2) := by decide +kernel
theorem dX0_readDigits_58 : decode cX0_readDigits 58 = .ok (.iadd, 1) := by decide +kernel
theorem dX0_readDigits_59 : decode cX0_readDigits 59 = .ok (.istore_n 2, 1) := by decide +kernel
theorem dX0_readDigits_60 : decode cX0_readDigits 60 = .ok (.aload_n 0, 1) := by decide +kernel
theorem dX0_readDigits_61 : decode cX0_readDigits 61 = .ok (.dup, 1) := by decide +kernel
theorem dX0_readDigits_62 : decode cX0_readDigits 62 = .ok (.getfield 19, 3) := by decide +kernel
theorem dX0_readDigits_65 : decode cX0_readDigits 65 = .ok (.iconst 1, 1) := by decide +kernel
theorem dX0_readDigits_66 : decode cX0_readDigits 66 = .ok (.iadd, 1) := by decide +kernel
theorem dX0_readDigits_67 : decode cX0_readDigits 67 = .ok (.putfield 19, 3) := by decide +kernel
theorem dX0_readDigits_70 : decode cX0_readDigits 70 = .ok (.iinc 3 1, 3) := by decide +kernel
theorem dX0_readDigits_73 : decode cX0_readDigits 73 = .ok (.goto (-69), 3) := by decide +kernel
theorem dX0_readDigits_76 : decode cX0_readDigits 76 = .ok (.iload_n 2, 1) := by decide +kernel
theorem dX0_readDigits_77 : decode cX0_readDigits 77 = .ok (.ireturn, 1) := by decide +kernel
theorem dX0_takes_0 : decode cX0_takes 0 = .ok (.aload_n 0, 1) := by decide +kernel
theorem dX0_takes_1 : decode cX0_takes 1 = .ok (.getfield 19, 3) := by decide +kernel
theorem dX0_takes_4 : decode cX0_takes 4 = .ok (.aload_n 0, 1) := by decide +kernel
theorem dX0_takes_5 : decode cX0_takes 5 = .ok (.getfield 15, 3) := by decide +kernel
theorem dX0_takes_8 : decode cX0_takes 8 = .ok (.if_icmp .ge 28, 3) := by decide +kernel
theorem dX0_takes_11 : decode cX0_takes 11 = .ok (.aload_n 0, 1) := by decide +kernel
theorem dX0_takes_12 : decode cX0_takes 12 = .ok (.getfield 9, 3) := by decide +kernel
theorem dX0_takes_15 : decode cX0_takes 15 = .ok (.aload_n 0, 1) := by decide +kernel
theorem dX0_takes_16 : decode cX0_takes 16 = .ok (.getfield 19, 3) := by decide +kernel
theorem dX0_takes_19 : decode cX0_takes 19 = .ok (.baload, 1) := by decide +kernel
theorem dX0_takes_20 : decode cX0_takes 20 = .ok (.iload_n 1, 1) := by decide +kernel
theorem dX0_takes_21 : decode cX0_takes 21 = .ok (.if_icmp .ne 15, 3) := by decide +kernel
theorem dX0_takes_24 : decode cX0_takes 24 = .ok (.aload_n 0, 1) := by decide +kernel
theorem dX0_takes_25 : decode cX0_takes 25 = .ok (.dup, 1) := by decide +kernel
theorem dX0_takes_26 : decode cX0_takes 26 = .ok (.getfield 19, 3) := by decide +kernel
theorem dX0_takes_29 : decode cX0_takes 29 = .ok (.iconst 1, 1) := by decide +kernel
theorem dX0_takes_30 : decode cX0_takes 30 = .ok (.iadd, 1) := by decide +kernel
theorem dX0_takes_31 : decode cX0_takes 31 = .ok (.putfield 19, 3) := by decide +kernel
theorem dX0_takes_34 : decode cX0_takes 34 = .ok (.iconst 1, 1) := by decide +kernel
theorem dX0_takes_35 : decode cX0_takes 35 = .ok (.ireturn, 1) := by decide +kernel
theorem dX0_takes_36 : decode cX0_takes 36 = .ok (.iconst 0, 1) := by decide +kernel
theorem dX0_takes_37 : decode cX0_takes 37 = .ok (.ireturn, 1) := by decide +kernel
theorem dX1_init_0 : decode cX1_init 0 = .ok (.aload_n 0, 1) := by decide +kernel
theorem dX1_init_1 : decode cX1_init 1 = .ok (.invokespecial 3, 3) := by decide +kernel
theorem dX1_init_4 : decode cX1_init 4 = .ok (.aload_n 0, 1) := by decide +kernel
theorem dX1_init_5 : decode cX1_init 5 = .ok (.sipush 336, 3) := by decide +kernel
theorem dX1_init_8 : decode cX1_init 8 = .ok (.newarray .byte, 2) := by decide +kernel
theorem dX1_init_10 : decode cX1_init 10 = .ok (.putfield 9, 3) := by decide +kernel
theorem dX1_init_13 : decode cX1_init 13 = .ok (.aload_n 0, 1) := by decide +kernel
theorem dX1_init_14 : decode cX1_init 14 = .ok (.iconst 0, 1) := by decide +kernel
theorem dX1_init_15 : decode cX1_init 15 = .ok (.putfield 15, 3) := by decide +kernel
theorem dX1_init_18 : decode cX1_init 18 = .ok (.return_, 1) := by decide +kernel
theorem dX1_writeSeries_0 : decode cX1_writeSeries 0 = .ok (.aload_n 0, 1) := by decide +kernel
theorem dX1_writeSeries_1 : decode cX1_writeSeries 1 = .ok (.iconst 0, 1) := by decide +kernel
theorem dX1_writeSeries_2 : decode cX1_writeSeries 2 = .ok (.putfield 15, 3) := by decide +kernel
theorem dX1_writeSeries_5 : decode cX1_writeSeries 5 = .ok (.iconst 0, 1) := by decide +kernel
theorem dX1_writeSeries_6 : decode cX1_writeSeries 6 = .ok (.istore_n 3, 1) := by decide +kernel
theorem dX1_writeSeries_7 : decode cX1_writeSeries 7 = .ok (.iload_n 3, 1) := by decide +kernel
theorem dX1_writeSeries_8 : decode cX1_writeSeries 8 = .ok (.iload_n 2, 1) := by decide +kernel
theorem dX1_writeSeries_9 : decode cX1_writeSeries 9 = .ok (.if_icmp .ge 23, 3) := by decide +kernel
theorem dX1_writeSeries_12 : decode cX1_writeSeries 12 = .ok (.aload_n 1, 1) := by decide +kernel
theorem dX1_writeSeries_13 : decode cX1_writeSeries 13 = .ok (.iload_n 3, 1) := by decide +kernel
theorem dX1_writeSeries_14 : decode cX1_writeSeries 14 = .ok (.iaload, 1) := by decide +kernel
theorem dX1_writeSeries_15 : decode cX1_writeSeries 15 = .ok (.ifCond .eq 11, 3) := by decide +kernel
theorem dX1_writeSeries_18 : decode cX1_writeSeries 18 = .ok (.aload_n 0, 1) := by decide +kernel
theorem dX1_writeSeries_19 : decode cX1_writeSeries 19 = .ok (.aload_n 1, 1) := by decide +kernel
theorem dX1_writeSeries_20 : decode cX1_writeSeries 20 = .ok (.iload_n 3, 1) := by decide +kernel
theorem dX1_writeSeries_21 : decode cX1_writeSeries 21 = .ok (.iaload, 1) := by decide +kernel
theorem dX1_writeSeries_22 : decode cX1_writeSeries 22 = .ok (.iload_n 3, 1) := by decide +kernel
theorem dX1_writeSeries_23 : decode cX1_writeSeries 23 = .ok (.invokevirtual 19, 3) := by decide +kernel
theorem dX1_writeSeries_26 : decode cX1_writeSeries 26 = .ok (.iinc 3 1, 3) := by decide +kernel
theorem dX1_writeSeries_29 : decode cX1_writeSeries 29 = .ok (.goto (-22), 3) := by decide +kernel
theorem dX1_writeSeries_32 : decode cX1_writeSeries 32 = .ok (.aload_n 0, 1) := by decide +kernel
theorem dX1_writeSeries_33 : decode cX1_writeSeries 33 = .ok (.getfield 15, 3) := by decide +kernel
theorem dX1_writeSeries_36 : decode cX1_writeSeries 36 = .ok (.ifCond .ne 9, 3) := by decide +kernel
theorem dX1_writeSeries_39 : decode cX1_writeSeries 39 = .ok (.aload_n 0, 1) := by decide +kernel
theorem dX1_writeSeries_40 : decode cX1_writeSeries 40 = .ok (.bipush 48, 2) := by decide +kernel
theorem dX1_writeSeries_42 : decode cX1_writeSeries 42 = .ok (.invokevirtual 23, 3) := by decide +kernel
theorem dX1_writeSeries_45 : decode cX1_writeSeries 45 = .ok (.return_, 1) := by decide +kernel
theorem dX1_writeTerm_0 : decode cX1_writeTerm 0 = .ok (.iload_n 1, 1) := by decide +kernel
theorem dX1_writeTerm_1 : decode cX1_writeTerm 1 = .ok (.ifCond .ge 12, 3) := by decide +kernel
theorem dX1_writeTerm_4 : decode cX1_writeTerm 4 = .ok (.aload_n 0, 1) := by decide +kernel
theorem dX1_writeTerm_5 : decode cX1_writeTerm 5 = .ok (.bipush 45, 2) := by decide +kernel
theorem dX1_writeTerm_7 : decode cX1_writeTerm 7 = .ok (.invokevirtual 23, 3) := by decide +kernel
theorem dX1_writeTerm_10 : decode cX1_writeTerm 10 = .ok (.goto 16, 3) := by decide +kernel
theorem dX1_writeTerm_13 : decode cX1_writeTerm 13 = .ok (.aload_n 0, 1) := by decide +kernel
theorem dX1_writeTerm_14 : decode cX1_writeTerm 14 = .ok (.getfield 15, 3) := by decide +kernel
theorem dX1_writeTerm_17 : decode cX1_writeTerm 17 = .ok (.ifCond .le 9, 3) := by decide +kernel
theorem dX1_writeTerm_20 : decode cX1_writeTerm 20 = .ok (.aload_n 0, 1) := by decide +kernel
theorem dX1_writeTerm_21 : decode cX1_writeTerm 21 = .ok (.bipush 43, 2) := by decide +kernel
theorem dX1_writeTerm_23 : decode cX1_writeTerm 23 = .ok (.invokevirtual 23, 3) := by decide +kernel
theorem dX1_writeTerm_26 : decode cX1_writeTerm 26 = .ok (.iload_n 1, 1) := by decide +kernel
theorem dX1_writeTerm_27 : decode cX1_writeTerm 27 = .ok (.invokestatic 27, 3) := by decide +kernel
theorem dX1_writeTerm_30 : decode cX1_writeTerm 30 = .ok (.istore_n 3, 1) := by decide +kernel
theorem dX1_writeTerm_31 : decode cX1_writeTerm 31 = .ok (.iload_n 3, 1) := by decide +kernel
theorem dX1_writeTerm_32 : decode cX1_writeTerm 32 = .ok (.iconst 1, 1) := by decide +kernel
theorem dX1_writeTerm_33 : decode cX1_writeTerm 33 = .ok (.if_icmp .ne 7, 3) := by decide +kernel
theorem dX1_writeTerm_36 : decode cX1_writeTerm 36 = .ok (.iload_n 2, 1) := by decide +kernel
theorem dX1_writeTerm_37 : decode cX1_writeTerm 37 = .ok (.ifCond .ne 8, 3) := by decide +kernel
theorem dX1_writeTerm_40 : decode cX1_writeTerm 40 = .ok (.aload_n 0, 1) := by decide +kernel
theorem dX1_writeTerm_41 : decode cX1_writeTerm 41 = .ok (.iload_n 3, 1) := by decide +kernel
theorem dX1_writeTerm_42 : decode cX1_writeTerm 42 = .ok (.invokevirtual 33, 3) := by decide +kernel
theorem dX1_writeTerm_45 : decode cX1_writeTerm 45 = .ok (.iload_n 2, 1) := by decide +kernel
theorem dX1_writeTerm_46 : decode cX1_writeTerm 46 = .ok (.iconst 1, 1) := by decide +kernel
theorem dX1_writeTerm_47 : decode cX1_writeTerm 47 = .ok (.if_icmp .lt 9, 3) := by decide +kernel
theorem dX1_writeTerm_50 : decode cX1_writeTerm 50 = .ok (.aload_n 0, 1) := by decide +kernel
theorem dX1_writeTerm_51 : decode cX1_writeTerm 51 = .ok (.bipush 113, 2) := by decide +kernel
theorem dX1_writeTerm_53 : decode cX1_writeTerm 53 = .ok (.invokevirtual 23, 3) := by decide +kernel
theorem dX1_writeTerm_56 : decode cX1_writeTerm 56 = .ok (.iload_n 2, 1) := by decide +kernel
theorem dX1_writeTerm_57 : decode cX1_writeTerm 57 = .ok (.iconst 2, 1) := by decide +kernel
theorem dX1_writeTerm_58 : decode cX1_writeTerm 58 = .ok (.if_icmp .lt 14, 3) := by decide +kernel
theorem dX1_writeTerm_61 : decode cX1_writeTerm 61 = .ok (.aload_n 0, 1) := by decide +kernel
theorem dX1_writeTerm_62 : decode cX1_writeTerm 62 = .ok (.bipush 94, 2) := by decide +kernel
theorem dX1_writeTerm_64 : decode cX1_writeTerm 64 = .ok (.invokevirtual 23, 3) := by decide +kernel
theorem dX1_writeTerm_67 : decode cX1_writeTerm 67 = .ok (.aload_n 0, 1) := by decide +kernel
theorem dX1_writeTerm_68 : decode cX1_writeTerm 68 = .ok (.iload_n 2, 1) := by decide +kernel
theorem dX1_writeTerm_69 : decode cX1_writeTerm 69 = .ok (.invokevirtual 33, 3) := by decide +kernel
theorem dX1_writeTerm_72 : decode cX1_writeTerm 72 = .ok (.return_, 1) := by decide +kernel
theorem dX1_writeNumber_0 : decode cX1_writeNumber 0 = .ok (.ldc 36, 2) := by decide +kernel
theorem dX1_writeNumber_2 : decode cX1_writeNumber 2 = .ok (.istore_n 2, 1) := by decide +kernel
theorem dX1_writeNumber_3 : decode cX1_writeNumber 3 = .ok (.iload_n 2, 1) := by decide +kernel
theorem dX1_writeNumber_4 : decode cX1_writeNumber 4 = .ok (.iconst 1, 1) := by decide +kernel
theorem dX1_writeNumber_5 : decode cX1_writeNumber 5 = .ok (.if_icmp .lt 29, 3) := by decide +kernel
theorem dX1_writeNumber_8 : decode cX1_writeNumber 8 = .ok (.iload_n 1, 1) := by decide +kernel
theorem dX1_writeNumber_9 : decode cX1_writeNumber 9 = .ok (.iload_n 2, 1) := by decide +kernel
theorem dX1_writeNumber_10 : decode cX1_writeNumber 10 = .ok (.if_icmp .lt 16, 3) := by decide +kernel
theorem dX1_writeNumber_13 : decode cX1_writeNumber 13 = .ok (.aload_n 0, 1) := by decide +kernel
theorem dX1_writeNumber_14 : decode cX1_writeNumber 14 = .ok (.bipush 48, 2) := by decide +kernel
theorem dX1_writeNumber_16 : decode cX1_writeNumber 16 = .ok (.iload_n 1, 1) := by decide +kernel
theorem dX1_writeNumber_17 : decode cX1_writeNumber 17 = .ok (.iload_n 2, 1) := by decide +kernel
theorem dX1_writeNumber_18 : decode cX1_writeNumber 18 = .ok (.idiv, 1) := by decide +kernel
theorem dX1_writeNumber_19 : decode cX1_writeNumber 19 = .ok (.bipush 10, 2) := by decide +kernel
theorem dX1_writeNumber_21 : decode cX1_writeNumber 21 = .ok (.irem, 1) := by decide +kernel
theorem dX1_writeNumber_22 : decode cX1_writeNumber 22 = .ok (.iadd, 1) := by decide +kernel
theorem dX1_writeNumber_23 : decode cX1_writeNumber 23 = .ok (.invokevirtual 23, 3) := by decide +kernel
theorem dX1_writeNumber_26 : decode cX1_writeNumber 26 = .ok (.iload_n 2, 1) := by decide +kernel
theorem dX1_writeNumber_27 : decode cX1_writeNumber 27 = .ok (.bipush 10, 2) := by decide +kernel
theorem dX1_writeNumber_29 : decode cX1_writeNumber 29 = .ok (.idiv, 1) := by decide +kernel
theorem dX1_writeNumber_30 : decode cX1_writeNumber 30 = .ok (.istore_n 2, 1) := by decide +kernel
theorem dX1_writeNumber_31 : decode cX1_writeNumber 31 = .ok (.goto (-28), 3) := by decide +kernel
theorem dX1_writeNumber_34 : decode cX1_writeNumber 34 = .ok (.return_, 1) := by decide +kernel
theorem dX1_put_0 : decode cX1_put 0 = .ok (.aload_n 0, 1) := by decide +kernel
theorem dX1_put_1 : decode cX1_put 1 = .ok (.getfield 15, 3) := by decide +kernel
theorem dX1_put_4 : decode cX1_put 4 = .ok (.sipush 336, 3) := by decide +kernel
theorem dX1_put_7 : decode cX1_put 7 = .ok (.if_icmp .ge 24, 3) := by decide +kernel
theorem dX1_put_10 : decode cX1_put 10 = .ok (.aload_n 0, 1) := by decide +kernel
theorem dX1_put_11 : decode cX1_put 11 = .ok (.getfield 9, 3) := by decide +kernel
theorem dX1_put_14 : decode cX1_put 14 = .ok (.aload_n 0, 1) := by decide +kernel
theorem dX1_put_15 : decode cX1_put 15 = .ok (.getfield 15, 3) := by decide +kernel
theorem dX1_put_18 : decode cX1_put 18 = .ok (.iload_n 1, 1) := by decide +kernel
theorem dX1_put_19 : decode cX1_put 19 = .ok (.i2b, 1) := by decide +kernel
theorem dX1_put_20 : decode cX1_put 20 = .ok (.bastore, 1) := by decide +kernel
theorem dX1_put_21 : decode cX1_put 21 = .ok (.aload_n 0, 1) := by decide +kernel
theorem dX1_put_22 : decode cX1_put 22 = .ok (.dup, 1) := by decide +kernel
theorem dX1_put_23 : decode cX1_put 23 = .ok (.getfield 15, 3) := by decide +kernel
theorem dX1_put_26 : decode cX1_put 26 = .ok (.iconst 1, 1) := by decide +kernel
theorem dX1_put_27 : decode cX1_put 27 = .ok (.iadd, 1) := by decide +kernel
theorem dX1_put_28 : decode cX1_put 28 = .ok (.putfield 15, 3) := by decide +kernel
theorem dX1_put_31 : decode cX1_put 31 = .ok (.return_, 1) := by decide +kernel
theorem dX2_init_0 : decode cX2_init 0 = .ok (.aload_n 0, 1) := by decide +kernel
theorem dX2_init_1 : decode cX2_init 1 = .ok (.invokespecial 3, 3) := by decide +kernel
theorem dX2_init_4 : decode cX2_init 4 = .ok (.aload_n 0, 1) := by decide +kernel
theorem dX2_init_5 : decode cX2_init 5 = .ok (.iconst 0, 1) := by decide +kernel
theorem dX2_init_6 : decode cX2_init 6 = .ok (.putfield 9, 3) := by decide +kernel
theorem dX2_init_9 : decode cX2_init 9 = .ok (.aload_n 0, 1) := by decide +kernel
theorem dX2_init_10 : decode cX2_init 10 = .ok (.iconst 5, 1) := by decide +kernel
theorem dX2_init_11 : decode cX2_init 11 = .ok (.bipush 24, 2) := by decide +kernel
theorem dX2_init_13 : decode cX2_init 13 = .ok (.multianewarray 15 2, 4) := by decide +kernel
theorem dX2_init_17 : decode cX2_init 17 = .ok (.putfield 17, 3) := by decide +kernel
theorem dX2_init_20 : decode cX2_init 20 = .ok (.aload_n 0, 1) := by decide +kernel
theorem dX2_init_21 : decode cX2_init 21 = .ok (.iconst 5, 1) := by decide +kernel
theorem dX2_init_22 : decode cX2_init 22 = .ok (.bipush 24, 2) := by decide +kernel
theorem dX2_init_24 : decode cX2_init 24 = .ok (.multianewarray 15 2, 4) := by decide +kernel
theorem dX2_init_28 : decode cX2_init 28 = .ok (.putfield 20, 3) := by decide +kernel
theorem dX2_init_31 : decode cX2_init 31 = .ok (.return_, 1) := by decide +kernel
theorem dX2_copyFrom_0 : decode cX2_copyFrom 0 = .ok (.aload_n 0, 1) := by decide +kernel
theorem dX2_copyFrom_1 : decode cX2_copyFrom 1 = .ok (.aload_n 1, 1) := by decide +kernel
theorem dX2_copyFrom_2 : decode cX2_copyFrom 2 = .ok (.getfield 9, 3) := by decide +kernel
theorem dX2_copyFrom_5 : decode cX2_copyFrom 5 = .ok (.putfield 9, 3) := by decide +kernel
theorem dX2_copyFrom_8 : decode cX2_copyFrom 8 = .ok (.iconst 0, 1) := by decide +kernel
theorem dX2_copyFrom_9 : decode cX2_copyFrom 9 = .ok (.istore_n 2, 1) := by decide +kernel
theorem dX2_copyFrom_10 : decode cX2_copyFrom 10 = .ok (.iload_n 2, 1) := by decide +kernel
theorem dX2_copyFrom_11 : decode cX2_copyFrom 11 = .ok (.iconst 5, 1) := by decide +kernel
theorem dX2_copyFrom_12 : decode cX2_copyFrom 12 = .ok (.if_icmp .ge 39, 3) := by decide +kernel
theorem dX2_copyFrom_15 : decode cX2_copyFrom 15 = .ok (.aload_n 1, 1) := by decide +kernel
theorem dX2_copyFrom_16 : decode cX2_copyFrom 16 = .ok (.getfield 17, 3) := by decide +kernel
theorem dX2_copyFrom_19 : decode cX2_copyFrom 19 = .ok (.iload_n 2, 1) := by decide +kernel
theorem dX2_copyFrom_20 : decode cX2_copyFrom 20 = .ok (.aaload, 1) := by decide +kernel
theorem dX2_copyFrom_21 : decode cX2_copyFrom 21 = .ok (.aload_n 0, 1) := by decide +kernel
theorem dX2_copyFrom_22 : decode cX2_copyFrom 22 = .ok (.getfield 17, 3) := by decide +kernel
theorem dX2_copyFrom_25 : decode cX2_copyFrom 25 = .ok (.iload_n 2, 1) := by decide +kernel
theorem dX2_copyFrom_26 : decode cX2_copyFrom 26 = .ok (.aaload, 1) := by decide +kernel
theorem dX2_copyFrom_27 : decode cX2_copyFrom 27 = .ok (.invokestatic 23, 3) := by decide +kernel
theorem dX2_copyFrom_30 : decode cX2_copyFrom 30 = .ok (.aload_n 1, 1) := by decide +kernel
theorem dX2_copyFrom_31 : decode cX2_copyFrom 31 = .ok (.getfield 20, 3) := by decide +kernel
theorem dX2_copyFrom_34 : decode cX2_copyFrom 34 = .ok (.iload_n 2, 1) := by decide +kernel
theorem dX2_copyFrom_35 : decode cX2_copyFrom 35 = .ok (.aaload, 1) := by decide +kernel
theorem dX2_copyFrom_36 : decode cX2_copyFrom 36 = .ok (.aload_n 0, 1) := by decide +kernel
theorem dX2_copyFrom_37 : decode cX2_copyFrom 37 = .ok (.getfield 20, 3) := by decide +kernel
theorem dX2_copyFrom_40 : decode cX2_copyFrom 40 = .ok (.iload_n 2, 1) := by decide +kernel
theorem dX2_copyFrom_41 : decode cX2_copyFrom 41 = .ok (.aaload, 1) := by decide +kernel
theorem dX2_copyFrom_42 : decode cX2_copyFrom 42 = .ok (.invokestatic 23, 3) := by decide +kernel
theorem dX2_copyFrom_45 : decode cX2_copyFrom 45 = .ok (.iinc 2 1, 3) := by decide +kernel
theorem dX2_copyFrom_48 : decode cX2_copyFrom 48 = .ok (.goto (-38), 3) := by decide +kernel
theorem dX2_copyFrom_51 : decode cX2_copyFrom 51 = .ok (.return_, 1) := by decide +kernel
theorem dX2_setUnit_0 : decode cX2_setUnit 0 = .ok (.aload_n 0, 1) := by decide +kernel
theorem dX2_setUnit_1 : decode cX2_setUnit 1 = .ok (.iload_n 1, 1) := by decide +kernel
theorem dX2_setUnit_2 : decode cX2_setUnit 2 = .ok (.putfield 9, 3) := by decide +kernel
theorem dX2_setUnit_5 : decode cX2_setUnit 5 = .ok (.iconst 0, 1) := by decide +kernel
theorem dX2_setUnit_6 : decode cX2_setUnit 6 = .ok (.istore 5, 2) := by decide +kernel
theorem dX2_setUnit_8 : decode cX2_setUnit 8 = .ok (.iload 5, 2) := by decide +kernel
theorem dX2_setUnit_10 : decode cX2_setUnit 10 = .ok (.iconst 5, 1) := by decide +kernel
theorem dX2_setUnit_11 : decode cX2_setUnit 11 = .ok (.if_icmp .ge 20, 3) := by decide +kernel
theorem dX2_setUnit_14 : decode cX2_setUnit 14 = .ok (.aload_n 0, 1) := by decide +kernel
theorem dX2_setUnit_15 : decode cX2_setUnit 15 = .ok (.getfield 20, 3) := by decide +kernel
theorem dX2_setUnit_18 : decode cX2_setUnit 18 = .ok (.iload 5, 2) := by decide +kernel
theorem dX2_setUnit_20 : decode cX2_setUnit 20 = .ok (.aaload, 1) := by decide +kernel
theorem dX2_setUnit_21 : decode cX2_setUnit 21 = .ok (.iconst 0, 1) := by decide +kernel
theorem dX2_setUnit_22 : decode cX2_setUnit 22 = .ok (.invokestatic 27, 3) := by decide +kernel
theorem dX2_setUnit_25 : decode cX2_setUnit 25 = .ok (.iinc 5 1, 3) := by decide +kernel
theorem dX2_setUnit_28 : decode cX2_setUnit 28 = .ok (.goto (-20), 3) := by decide +kernel
theorem dX2_setUnit_31 : decode cX2_setUnit 31 = .ok (.aload_n 0, 1) := by decide +kernel
theorem dX2_setUnit_32 : decode cX2_setUnit 32 = .ok (.getfield 20, 3) := by decide +kernel
theorem dX2_setUnit_35 : decode cX2_setUnit 35 = .ok (.iconst 0, 1) := by decide +kernel
theorem dX2_setUnit_36 : decode cX2_setUnit 36 = .ok (.aaload, 1) := by decide +kernel
theorem dX2_setUnit_37 : decode cX2_setUnit 37 = .ok (.iconst 0, 1) := by decide +kernel
theorem dX2_setUnit_38 : decode cX2_setUnit 38 = .ok (.iconst 1, 1) := by decide +kernel
theorem dX2_setUnit_39 : decode cX2_setUnit 39 = .ok (.iastore, 1) := by decide +kernel
theorem dX2_setUnit_40 : decode cX2_setUnit 40 = .ok (.aload_n 0, 1) := by decide +kernel
theorem dX2_setUnit_41 : decode cX2_setUnit 41 = .ok (.iload_n 2, 1) := by decide +kernel
theorem dX2_setUnit_42 : decode cX2_setUnit 42 = .ok (.aload_n 3, 1) := by decide +kernel
theorem dX2_setUnit_43 : decode cX2_setUnit 43 = .ok (.aload 4, 2) := by decide +kernel
theorem dX2_setUnit_45 : decode cX2_setUnit 45 = .ok (.invokevirtual 33, 3) := by decide +kernel
theorem dX2_setUnit_48 : decode cX2_setUnit 48 = .ok (.pop, 1) := by decide +kernel
theorem dX2_setUnit_49 : decode cX2_setUnit 49 = .ok (.return_, 1) := by decide +kernel
theorem dX2_deriveBeta_0 : decode cX2_deriveBeta 0 = .ok (.iconst 0, 1) := by decide +kernel
theorem dX2_deriveBeta_1 : decode cX2_deriveBeta 1 = .ok (.istore 4, 2) := by decide +kernel
theorem dX2_deriveBeta_3 : decode cX2_deriveBeta 3 = .ok (.iload 4, 2) := by decide +kernel
theorem dX2_deriveBeta_5 : decode cX2_deriveBeta 5 = .ok (.iconst 5, 1) := by decide +kernel
theorem dX2_deriveBeta_6 : decode cX2_deriveBeta 6 = .ok (.if_icmp .ge 66, 3) := by decide +kernel
theorem dX2_deriveBeta_9 : decode cX2_deriveBeta 9 = .ok (.aload_n 2, 1) := by decide +kernel
theorem dX2_deriveBeta_10 : decode cX2_deriveBeta 10 = .ok (.iload_n 1, 1) := by decide +kernel
theorem dX2_deriveBeta_11 : decode cX2_deriveBeta 11 = .ok (.invokevirtual 37, 3) := by decide +kernel
theorem dX2_deriveBeta_14 : decode cX2_deriveBeta 14 = .ok (.iconst 0, 1) := by decide +kernel
theorem dX2_deriveBeta_15 : decode cX2_deriveBeta 15 = .ok (.istore 5, 2) := by decide +kernel
theorem dX2_deriveBeta_17 : decode cX2_deriveBeta 17 = .ok (.iload 5, 2) := by decide +kernel
theorem dX2_deriveBeta_19 : decode cX2_deriveBeta 19 = .ok (.iload 4, 2) := by decide +kernel
theorem dX2_deriveBeta_21 : decode cX2_deriveBeta 21 = .ok (.if_icmp .gt 25, 3) := by decide +kernel
theorem dX2_deriveBeta_24 : decode cX2_deriveBeta 24 = .ok (.aload_n 0, 1) := by decide +kernel
theorem dX2_deriveBeta_25 : decode cX2_deriveBeta 25 = .ok (.aload_n 3, 1) := by decide +kernel
theorem dX2_deriveBeta_26 : decode cX2_deriveBeta 26 = .ok (.iload 4, 2) := by decide +kernel
theorem dX2_deriveBeta_28 : decode cX2_deriveBeta 28 = .ok (.iload 5, 2) := by decide +kernel
theorem dX2_deriveBeta_30 : decode cX2_deriveBeta 30 = .ok (.iload_n 1, 1) := by decide +kernel
theorem dX2_deriveBeta_31 : decode cX2_deriveBeta 31 = .ok (.invokevirtual 43, 3) := by decide +kernel
theorem dX2_deriveBeta_34 : decode cX2_deriveBeta 34 = .ok (.aload_n 2, 1) := by decide +kernel
theorem dX2_deriveBeta_35 : decode cX2_deriveBeta 35 = .ok (.aload_n 3, 1) := by decide +kernel
theorem dX2_deriveBeta_36 : decode cX2_deriveBeta 36 = .ok (.iconst 1, 1) := by decide +kernel
theorem dX2_deriveBeta_37 : decode cX2_deriveBeta 37 = .ok (.invokevirtual 47, 3) := by decide +kernel
theorem dX2_deriveBeta_40 : decode cX2_deriveBeta 40 = .ok (.iinc 5 1, 3) := by decide +kernel
theorem dX2_deriveBeta_43 : decode cX2_deriveBeta 43 = .ok (.goto (-26), 3) := by decide +kernel
theorem dX2_deriveBeta_46 : decode cX2_deriveBeta 46 = .ok (.aload_n 2, 1) := by decide +kernel
theorem dX2_deriveBeta_47 : decode cX2_deriveBeta 47 = .ok (.invokevirtual 51, 3) := by decide +kernel
theorem dX2_deriveBeta_50 : decode cX2_deriveBeta 50 = .ok (.ifCond .ne 5, 3) := by decide +kernel
theorem dX2_deriveBeta_53 : decode cX2_deriveBeta 53 = .ok (.iconst 0, 1) := by decide +kernel
theorem dX2_deriveBeta_54 : decode cX2_deriveBeta 54 = .ok (.ireturn, 1) := by decide +kernel
theorem dX2_deriveBeta_55 : decode cX2_deriveBeta 55 = .ok (.aload_n 2, 1) := by decide +kernel
theorem dX2_deriveBeta_56 : decode cX2_deriveBeta 56 = .ok (.aload_n 0, 1) := by decide +kernel
theorem dX2_deriveBeta_57 : decode cX2_deriveBeta 57 = .ok (.getfield 20, 3) := by decide +kernel
theorem dX2_deriveBeta_60 : decode cX2_deriveBeta 60 = .ok (.iload 4, 2) := by decide +kernel
theorem dX2_deriveBeta_62 : decode cX2_deriveBeta 62 = .ok (.aaload, 1) := by decide +kernel
theorem dX2_deriveBeta_63 : decode cX2_deriveBeta 63 = .ok (.invokevirtual 55, 3) := by decide +kernel
theorem dX2_deriveBeta_66 : decode cX2_deriveBeta 66 = .ok (.iinc 4 1, 3) := by decide +kernel
theorem dX2_deriveBeta_69 : decode cX2_deriveBeta 69 = .ok (.goto (-66), 3) := by decide +kernel
theorem dX2_deriveBeta_72 : decode cX2_deriveBeta 72 = .ok (.iconst 1, 1) := by decide +kernel
theorem dX2_deriveBeta_73 : decode cX2_deriveBeta 73 = .ok (.ireturn, 1) := by decide +kernel
theorem dX2_deriveAlpha_0 : decode cX2_deriveAlpha 0 = .ok (.iconst 0, 1) := by decide +kernel
theorem dX2_deriveAlpha_1 : decode cX2_deriveAlpha 1 = .ok (.istore 4, 2) := by decide +kernel
theorem dX2_deriveAlpha_3 : decode cX2_deriveAlpha 3 = .ok (.iload 4, 2) := by decide +kernel
theorem dX2_deriveAlpha_5 : decode cX2_deriveAlpha 5 = .ok (.iconst 5, 1) := by decide +kernel
theorem dX2_deriveAlpha_6 : decode cX2_deriveAlpha 6 = .ok (.if_icmp .ge 93, 3) := by decide +kernel
theorem dX2_deriveAlpha_9 : decode cX2_deriveAlpha 9 = .ok (.aload_n 2, 1) := by decide +kernel
theorem dX2_deriveAlpha_10 : decode cX2_deriveAlpha 10 = .ok (.iload_n 1, 1) := by decide +kernel
theorem dX2_deriveAlpha_11 : decode cX2_deriveAlpha 11 = .ok (.invokevirtual 37, 3) := by decide +kernel
theorem dX2_deriveAlpha_14 : decode cX2_deriveAlpha 14 = .ok (.aload_n 2, 1) := by decide +kernel
theorem dX2_deriveAlpha_15 : decode cX2_deriveAlpha 15 = .ok (.aload_n 0, 1) := by decide +kernel
theorem dX2_deriveAlpha_16 : decode cX2_deriveAlpha 16 = .ok (.getfield 20, 3) := by decide +kernel
theorem dX2_deriveAlpha_19 : decode cX2_deriveAlpha 19 = .ok (.iload 4, 2) := by decide +kernel
theorem dX2_deriveAlpha_21 : decode cX2_deriveAlpha 21 = .ok (.aaload, 1) := by decide +kernel
theorem dX2_deriveAlpha_22 : decode cX2_deriveAlpha 22 = .ok (.iconst 1, 1) := by decide +kernel
theorem dX2_deriveAlpha_23 : decode cX2_deriveAlpha 23 = .ok (.invokevirtual 59, 3) := by decide +kernel
theorem dX2_deriveAlpha_26 : decode cX2_deriveAlpha 26 = .ok (.iconst 0, 1) := by decide +kernel
theorem dX2_deriveAlpha_27 : decode cX2_deriveAlpha 27 = .ok (.istore 5, 2) := by decide +kernel
theorem dX2_deriveAlpha_29 : decode cX2_deriveAlpha 29 = .ok (.iload 5, 2) := by decide +kernel
theorem dX2_deriveAlpha_31 : decode cX2_deriveAlpha 31 = .ok (.iload 4, 2) := by decide +kernel
theorem dX2_deriveAlpha_33 : decode cX2_deriveAlpha 33 = .ok (.if_icmp .ge 25, 3) := by decide +kernel
theorem dX2_deriveAlpha_36 : decode cX2_deriveAlpha 36 = .ok (.aload_n 0, 1) := by decide +kernel
theorem dX2_deriveAlpha_37 : decode cX2_deriveAlpha 37 = .ok (.aload_n 3, 1) := by decide +kernel
theorem dX2_deriveAlpha_38 : decode cX2_deriveAlpha 38 = .ok (.iload 4, 2) := by decide +kernel
theorem dX2_deriveAlpha_40 : decode cX2_deriveAlpha 40 = .ok (.iload 5, 2) := by decide +kernel
theorem dX2_deriveAlpha_42 : decode cX2_deriveAlpha 42 = .ok (.iload_n 1, 1) := by decide +kernel
theorem dX2_deriveAlpha_43 : decode cX2_deriveAlpha 43 = .ok (.invokevirtual 43, 3) := by decide +kernel
theorem dX2_deriveAlpha_46 : decode cX2_deriveAlpha 46 = .ok (.aload_n 2, 1) := by decide +kernel
theorem dX2_deriveAlpha_47 : decode cX2_deriveAlpha 47 = .ok (.aload_n 3, 1) := by decide +kernel
theorem dX2_deriveAlpha_48 : decode cX2_deriveAlpha 48 = .ok (.iconst (-1), 1) := by decide +kernel
theorem dX2_deriveAlpha_49 : decode cX2_deriveAlpha 49 = .ok (.invokevirtual 47, 3) := by decide +kernel
theorem dX2_deriveAlpha_52 : decode cX2_deriveAlpha 52 = .ok (.iinc 5 1, 3) := by decide +kernel
theorem dX2_deriveAlpha_55 : decode cX2_deriveAlpha 55 = .ok (.goto (-26), 3) := by decide +kernel
theorem dX2_deriveAlpha_58 : decode cX2_deriveAlpha 58 = .ok (.aload_n 2, 1) := by decide +kernel
theorem dX2_deriveAlpha_59 : decode cX2_deriveAlpha 59 = .ok (.aload_n 0, 1) := by decide +kernel
theorem dX2_deriveAlpha_60 : decode cX2_deriveAlpha 60 = .ok (.getfield 9, 3) := by decide +kernel
theorem dX2_deriveAlpha_63 : decode cX2_deriveAlpha 63 = .ok (.iconst 1, 1) := by decide +kernel
theorem dX2_deriveAlpha_64 : decode cX2_deriveAlpha 64 = .ok (.iadd, 1) := by decide +kernel
theorem dX2_deriveAlpha_65 : decode cX2_deriveAlpha 65 = .ok (.iload 4, 2) := by decide +kernel
theorem dX2_deriveAlpha_67 : decode cX2_deriveAlpha 67 = .ok (.iload 4, 2) := by decide +kernel
theorem dX2_deriveAlpha_69 : decode cX2_deriveAlpha 69 = .ok (.iadd, 1) := by decide +kernel
theorem dX2_deriveAlpha_70 : decode cX2_deriveAlpha 70 = .ok (.invokevirtual 62, 3) := by decide +kernel
theorem dX2_deriveAlpha_73 : decode cX2_deriveAlpha 73 = .ok (.aload_n 2, 1) := by decide +kernel
theorem dX2_deriveAlpha_74 : decode cX2_deriveAlpha 74 = .ok (.invokevirtual 51, 3) := by decide +kernel
theorem dX2_deriveAlpha_77 : decode cX2_deriveAlpha 77 = .ok (.ifCond .ne 5, 3) := by decide +kernel
theorem dX2_deriveAlpha_80 : decode cX2_deriveAlpha 80 = .ok (.iconst 0, 1) := by decide +kernel
theorem dX2_deriveAlpha_81 : decode cX2_deriveAlpha 81 = .ok (.ireturn, 1) := by decide +kernel
theorem dX2_deriveAlpha_82 : decode cX2_deriveAlpha 82 = .ok (.aload_n 2, 1) := by decide +kernel
theorem dX2_deriveAlpha_83 : decode cX2_deriveAlpha 83 = .ok (.aload_n 0, 1) := by decide +kernel
theorem dX2_deriveAlpha_84 : decode cX2_deriveAlpha 84 = .ok (.getfield 17, 3) := by decide +kernel
theorem dX2_deriveAlpha_87 : decode cX2_deriveAlpha 87 = .ok (.iload 4, 2) := by decide +kernel
theorem dX2_deriveAlpha_89 : decode cX2_deriveAlpha 89 = .ok (.aaload, 1) := by decide +kernel
theorem dX2_deriveAlpha_90 : decode cX2_deriveAlpha 90 = .ok (.invokevirtual 55, 3) := by decide +kernel
theorem dX2_deriveAlpha_93 : decode cX2_deriveAlpha 93 = .ok (.iinc 4 1, 3) := by decide +kernel
theorem dX2_deriveAlpha_96 : decode cX2_deriveAlpha 96 = .ok (.goto (-93), 3) := by decide +kernel
theorem dX2_deriveAlpha_99 : decode cX2_deriveAlpha 99 = .ok (.iconst 1, 1) := by decide +kernel
theorem dX2_deriveAlpha_100 : decode cX2_deriveAlpha 100 = .ok (.ireturn, 1) := by decide +kernel
theorem dX2_setRelationTerm_0 : decode cX2_setRelationTerm 0 = .ok (.aload_n 1, 1) := by decide +kernel
theorem dX2_setRelationTerm_1 : decode cX2_setRelationTerm 1 = .ok (.iload 4, 2) := by decide +kernel
theorem dX2_setRelationTerm_3 : decode cX2_setRelationTerm 3 = .ok (.invokevirtual 37, 3) := by decide +kernel
theorem dX2_setRelationTerm_6 : decode cX2_setRelationTerm 6 = .ok (.aload_n 1, 1) := by decide +kernel
theorem dX2_setRelationTerm_7 : decode cX2_setRelationTerm 7 = .ok (.aload_n 0, 1) := by decide +kernel
theorem dX2_setRelationTerm_8 : decode cX2_setRelationTerm 8 = .ok (.getfield 17, 3) := by decide +kernel
theorem dX2_setRelationTerm_11 : decode cX2_setRelationTerm 11 = .ok (.iload_n 3, 1) := by decide +kernel
theorem dX2_setRelationTerm_12 : decode cX2_setRelationTerm 12 = .ok (.aaload, 1) := by decide +kernel
theorem dX2_setRelationTerm_13 : decode cX2_setRelationTerm 13 = .ok (.iconst 1, 1) := by decide +kernel
theorem dX2_setRelationTerm_14 : decode cX2_setRelationTerm 14 = .ok (.invokevirtual 59, 3) := by decide +kernel
theorem dX2_setRelationTerm_17 : decode cX2_setRelationTerm 17 = .ok (.aload_n 1, 1) := by decide +kernel
theorem dX2_setRelationTerm_18 : decode cX2_setRelationTerm 18 = .ok (.iconst 1, 1) := by decide +kernel
theorem dX2_setRelationTerm_19 : decode cX2_setRelationTerm 19 = .ok (.iload_n 2, 1) := by decide +kernel
theorem dX2_setRelationTerm_20 : decode cX2_setRelationTerm 20 = .ok (.iload_n 3, 1) := by decide +kernel
theorem dX2_setRelationTerm_21 : decode cX2_setRelationTerm 21 = .ok (.isub, 1) := by decide +kernel
theorem dX2_setRelationTerm_22 : decode cX2_setRelationTerm 22 = .ok (.invokevirtual 66, 3) := by decide +kernel
theorem dX2_setRelationTerm_25 : decode cX2_setRelationTerm 25 = .ok (.aload_n 1, 1) := by decide +kernel
theorem dX2_setRelationTerm_26 : decode cX2_setRelationTerm 26 = .ok (.aload_n 0, 1) := by decide +kernel
theorem dX2_setRelationTerm_27 : decode cX2_setRelationTerm 27 = .ok (.getfield 9, 3) := by decide +kernel
theorem dX2_setRelationTerm_30 : decode cX2_setRelationTerm 30 = .ok (.iconst 1, 1) := by decide +kernel
theorem dX2_setRelationTerm_31 : decode cX2_setRelationTerm 31 = .ok (.iadd, 1) := by decide +kernel
theorem dX2_setRelationTerm_32 : decode cX2_setRelationTerm 32 = .ok (.iload_n 2, 1) := by decide +kernel
theorem dX2_setRelationTerm_33 : decode cX2_setRelationTerm 33 = .ok (.iload_n 3, 1) := by decide +kernel
theorem dX2_setRelationTerm_34 : decode cX2_setRelationTerm 34 = .ok (.iadd, 1) := by decide +kernel
theorem dX2_setRelationTerm_35 : decode cX2_setRelationTerm 35 = .ok (.invokevirtual 66, 3) := by decide +kernel
theorem dX2_setRelationTerm_38 : decode cX2_setRelationTerm 38 = .ok (.return_, 1) := by decide +kernel
theorem dX2_setNextOf_0 : decode cX2_setNextOf 0 = .ok (.aload_n 0, 1) := by decide +kernel
theorem dX2_setNextOf_1 : decode cX2_setNextOf 1 = .ok (.aload_n 1, 1) := by decide +kernel
theorem dX2_setNextOf_2 : decode cX2_setNextOf 2 = .ok (.getfield 9, 3) := by decide +kernel
theorem dX2_setNextOf_5 : decode cX2_setNextOf 5 = .ok (.putfield 9, 3) := by decide +kernel
theorem dX2_setNextOf_8 : decode cX2_setNextOf 8 = .ok (.iconst 0, 1) := by decide +kernel
theorem dX2_setNextOf_9 : decode cX2_setNextOf 9 = .ok (.istore 5, 2) := by decide +kernel
theorem dX2_setNextOf_11 : decode cX2_setNextOf 11 = .ok (.iload 5, 2) := by decide +kernel
theorem dX2_setNextOf_13 : decode cX2_setNextOf 13 = .ok (.iconst 5, 1) := by decide +kernel
theorem dX2_setNextOf_14 : decode cX2_setNextOf 14 = .ok (.if_icmp .ge 131, 3) := by decide +kernel
theorem dX2_setNextOf_17 : decode cX2_setNextOf 17 = .ok (.aload_n 3, 1) := by decide +kernel
theorem dX2_setNextOf_18 : decode cX2_setNextOf 18 = .ok (.iload_n 2, 1) := by decide +kernel
theorem dX2_setNextOf_19 : decode cX2_setNextOf 19 = .ok (.invokevirtual 37, 3) := by decide +kernel
theorem dX2_setNextOf_22 : decode cX2_setNextOf 22 = .ok (.aload_n 3, 1) := by decide +kernel
theorem dX2_setNextOf_23 : decode cX2_setNextOf 23 = .ok (.aload_n 1, 1) := by decide +kernel
theorem dX2_setNextOf_24 : decode cX2_setNextOf 24 = .ok (.getfield 17, 3) := by decide +kernel
theorem dX2_setNextOf_27 : decode cX2_setNextOf 27 = .ok (.iload 5, 2) := by decide +kernel
theorem dX2_setNextOf_29 : decode cX2_setNextOf 29 = .ok (.aaload, 1) := by decide +kernel
theorem dX2_setNextOf_30 : decode cX2_setNextOf 30 = .ok (.aload_n 0, 1) := by decide +kernel
theorem dX2_setNextOf_31 : decode cX2_setNextOf 31 = .ok (.getfield 9, 3) := by decide +kernel
theorem dX2_setNextOf_34 : decode cX2_setNextOf 34 = .ok (.iload 5, 2) := by decide +kernel
theorem dX2_setNextOf_36 : decode cX2_setNextOf 36 = .ok (.invokestatic 69, 3) := by decide +kernel
theorem dX2_setNextOf_39 : decode cX2_setNextOf 39 = .ok (.invokevirtual 73, 3) := by decide +kernel
theorem dX2_setNextOf_42 : decode cX2_setNextOf 42 = .ok (.aload_n 3, 1) := by decide +kernel
theorem dX2_setNextOf_43 : decode cX2_setNextOf 43 = .ok (.aload_n 0, 1) := by decide +kernel
theorem dX2_setNextOf_44 : decode cX2_setNextOf 44 = .ok (.getfield 17, 3) := by decide +kernel
theorem dX2_setNextOf_47 : decode cX2_setNextOf 47 = .ok (.iload 5, 2) := by decide +kernel
theorem dX2_setNextOf_49 : decode cX2_setNextOf 49 = .ok (.aaload, 1) := by decide +kernel
theorem dX2_setNextOf_50 : decode cX2_setNextOf 50 = .ok (.invokevirtual 55, 3) := by decide +kernel
theorem dX2_setNextOf_53 : decode cX2_setNextOf 53 = .ok (.aload_n 3, 1) := by decide +kernel
theorem dX2_setNextOf_54 : decode cX2_setNextOf 54 = .ok (.iload_n 2, 1) := by decide +kernel
theorem dX2_setNextOf_55 : decode cX2_setNextOf 55 = .ok (.invokevirtual 37, 3) := by decide +kernel
theorem dX2_setNextOf_58 : decode cX2_setNextOf 58 = .ok (.iconst 0, 1) := by decide +kernel
theorem dX2_setNextOf_59 : decode cX2_setNextOf 59 = .ok (.istore 6, 2) := by decide +kernel
theorem dX2_setNextOf_61 : decode cX2_setNextOf 61 = .ok (.iload 6, 2) := by decide +kernel
theorem dX2_setNextOf_63 : decode cX2_setNextOf 63 = .ok (.iload 5, 2) := by decide +kernel
theorem dX2_setNextOf_65 : decode cX2_setNextOf 65 = .ok (.if_icmp .gt 54, 3) := by decide +kernel
theorem dX2_setNextOf_68 : decode cX2_setNextOf 68 = .ok (.aload 4, 2) := by decide +kernel
theorem dX2_setNextOf_70 : decode cX2_setNextOf 70 = .ok (.iload_n 2, 1) := by decide +kernel
theorem dX2_setNextOf_71 : decode cX2_setNextOf 71 = .ok (.invokevirtual 37, 3) := by decide +kernel
theorem dX2_setNextOf_74 : decode cX2_setNextOf 74 = .ok (.aload 4, 2) := by decide +kernel
theorem dX2_setNextOf_76 : decode cX2_setNextOf 76 = .ok (.aload_n 1, 1) := by decide +kernel
theorem dX2_setNextOf_77 : decode cX2_setNextOf 77 = .ok (.getfield 20, 3) := by decide +kernel
theorem dX2_setNextOf_80 : decode cX2_setNextOf 80 = .ok (.iload 6, 2) := by decide +kernel
theorem dX2_setNextOf_82 : decode cX2_setNextOf 82 = .ok (.aaload, 1) := by decide +kernel
theorem dX2_setNextOf_83 : decode cX2_setNextOf 83 = .ok (.aload_n 0, 1) := by decide +kernel
theorem dX2_setNextOf_84 : decode cX2_setNextOf 84 = .ok (.getfield 9, 3) := by decide +kernel
theorem dX2_setNextOf_87 : decode cX2_setNextOf 87 = .ok (.iload 6, 2) := by decide +kernel
theorem dX2_setNextOf_89 : decode cX2_setNextOf 89 = .ok (.invokestatic 69, 3) := by decide +kernel
theorem dX2_setNextOf_92 : decode cX2_setNextOf 92 = .ok (.invokevirtual 73, 3) := by decide +kernel
theorem dX2_setNextOf_95 : decode cX2_setNextOf 95 = .ok (.aload 4, 2) := by decide +kernel
theorem dX2_setNextOf_97 : decode cX2_setNextOf 97 = .ok (.iconst 1, 1) := by decide +kernel
theorem dX2_setNextOf_98 : decode cX2_setNextOf 98 = .ok (.iload 5, 2) := by decide +kernel
theorem dX2_setNextOf_100 : decode cX2_setNextOf 100 = .ok (.iload 6, 2) := by decide +kernel
theorem dX2_setNextOf_102 : decode cX2_setNextOf 102 = .ok (.isub, 1) := by decide +kernel
theorem dX2_setNextOf_103 : decode cX2_setNextOf 103 = .ok (.invokevirtual 66, 3) := by decide +kernel
theorem dX2_setNextOf_106 : decode cX2_setNextOf 106 = .ok (.aload_n 3, 1) := by decide +kernel
theorem dX2_setNextOf_107 : decode cX2_setNextOf 107 = .ok (.aload 4, 2) := by decide +kernel
theorem dX2_setNextOf_109 : decode cX2_setNextOf 109 = .ok (.iconst 1, 1) := by decide +kernel
theorem dX2_setNextOf_110 : decode cX2_setNextOf 110 = .ok (.invokevirtual 47, 3) := by decide +kernel
theorem dX2_setNextOf_113 : decode cX2_setNextOf 113 = .ok (.iinc 6 1, 3) := by decide +kernel
theorem dX2_setNextOf_116 : decode cX2_setNextOf 116 = .ok (.goto (-55), 3) := by decide +kernel
theorem dX2_setNextOf_119 : decode cX2_setNextOf 119 = .ok (.aload_n 3, 1) := by decide +kernel
theorem dX2_setNextOf_120 : decode cX2_setNextOf 120 = .ok (.invokevirtual 51, 3) := by decide +kernel
theorem dX2_setNextOf_123 : decode cX2_setNextOf 123 = .ok (.ifCond .ne 5, 3) := by decide +kernel
theorem dX2_setNextOf_126 : decode cX2_setNextOf 126 = .ok (.iconst 0, 1) := by decide +kernel
theorem dX2_setNextOf_127 : decode cX2_setNextOf 127 = .ok (.ireturn, 1) := by decide +kernel
theorem dX2_setNextOf_128 : decode cX2_setNextOf 128 = .ok (.aload_n 3, 1) := by decide +kernel
theorem dX2_setNextOf_129 : decode cX2_setNextOf 129 = .ok (.aload_n 0, 1) := by decide +kernel
theorem dX2_setNextOf_130 : decode cX2_setNextOf 130 = .ok (.getfield 20, 3) := by decide +kernel
theorem dX2_setNextOf_133 : decode cX2_setNextOf 133 = .ok (.iload 5, 2) := by decide +kernel
theorem dX2_setNextOf_135 : decode cX2_setNextOf 135 = .ok (.aaload, 1) := by decide +kernel
theorem dX2_setNextOf_136 : decode cX2_setNextOf 136 = .ok (.invokevirtual 55, 3) := by decide +kernel
theorem dX2_setNextOf_139 : decode cX2_setNextOf 139 = .ok (.iinc 5 1, 3) := by decide +kernel
theorem dX2_setNextOf_142 : decode cX2_setNextOf 142 = .ok (.goto (-131), 3) := by decide +kernel
theorem dX2_setNextOf_145 : decode cX2_setNextOf 145 = .ok (.iconst 1, 1) := by decide +kernel
theorem dX2_setNextOf_146 : decode cX2_setNextOf 146 = .ok (.ireturn, 1) := by decide +kernel
theorem dX3_init_0 : decode cX3_init 0 = .ok (.aload_n 0, 1) := by decide +kernel
theorem dX3_init_1 : decode cX3_init 1 = .ok (.invokespecial 3, 3) := by decide +kernel
theorem dX3_init_4 : decode cX3_init 4 = .ok (.aload_n 0, 1) := by decide +kernel
theorem dX3_init_5 : decode cX3_init 5 = .ok (.sipush 3696, 3) := by decide +kernel
theorem dX3_init_8 : decode cX3_init 8 = .ok (.newarray .byte, 2) := by decide +kernel
theorem dX3_init_10 : decode cX3_init 10 = .ok (.putfield 9, 3) := by decide +kernel
theorem dX3_init_13 : decode cX3_init 13 = .ok (.aload_n 0, 1) := by decide +kernel
theorem dX3_init_14 : decode cX3_init 14 = .ok (.iconst 0, 1) := by decide +kernel
theorem dX3_init_15 : decode cX3_init 15 = .ok (.putfield 15, 3) := by decide +kernel
theorem dX3_init_18 : decode cX3_init 18 = .ok (.return_, 1) := by decide +kernel
theorem dX3_at_0 : decode cX3_at 0 = .ok (.aload_n 0, 1) := by decide +kernel
theorem dX3_at_1 : decode cX3_at 1 = .ok (.getfield 9, 3) := by decide +kernel
theorem dX3_at_4 : decode cX3_at 4 = .ok (.iload_n 1, 1) := by decide +kernel
theorem dX3_at_5 : decode cX3_at 5 = .ok (.bipush 16, 2) := by decide +kernel
theorem dX3_at_7 : decode cX3_at 7 = .ok (.imul, 1) := by decide +kernel
theorem dX3_at_8 : decode cX3_at 8 = .ok (.iload_n 2, 1) := by decide +kernel
theorem dX3_at_9 : decode cX3_at 9 = .ok (.iadd, 1) := by decide +kernel
theorem dX3_at_10 : decode cX3_at 10 = .ok (.baload, 1) := by decide +kernel
theorem dX3_at_11 : decode cX3_at 11 = .ok (.ireturn, 1) := by decide +kernel
theorem dX3_put_0 : decode cX3_put 0 = .ok (.aload_n 0, 1) := by decide +kernel
theorem dX3_put_1 : decode cX3_put 1 = .ok (.getfield 9, 3) := by decide +kernel
theorem dX3_put_4 : decode cX3_put 4 = .ok (.iload_n 1, 1) := by decide +kernel
theorem dX3_put_5 : decode cX3_put 5 = .ok (.bipush 16, 2) := by decide +kernel
theorem dX3_put_7 : decode cX3_put 7 = .ok (.imul, 1) := by decide +kernel
theorem dX3_put_8 : decode cX3_put 8 = .ok (.iload_n 2, 1) := by decide +kernel
theorem dX3_put_9 : decode cX3_put 9 = .ok (.iadd, 1) := by decide +kernel
theorem dX3_put_10 : decode cX3_put 10 = .ok (.iload_n 3, 1) := by decide +kernel
theorem dX3_put_11 : decode cX3_put 11 = .ok (.i2b, 1) := by decide +kernel
theorem dX3_put_12 : decode cX3_put 12 = .ok (.bastore, 1) := by decide +kernel
theorem dX3_put_13 : decode cX3_put 13 = .ok (.return_, 1) := by decide +kernel
theorem dX3_fillWith_0 : decode cX3_fillWith 0 = .ok (.aload_n 0, 1) := by decide +kernel
theorem dX3_fillWith_1 : decode cX3_fillWith 1 = .ok (.iconst 0, 1) := by decide +kernel
theorem dX3_fillWith_2 : decode cX3_fillWith 2 = .ok (.iconst 0, 1) := by decide +kernel
theorem dX3_fillWith_3 : decode cX3_fillWith 3 = .ok (.iload_n 1, 1) := by decide +kernel
theorem dX3_fillWith_4 : decode cX3_fillWith 4 = .ok (.iload_n 1, 1) := by decide +kernel
theorem dX3_fillWith_5 : decode cX3_fillWith 5 = .ok (.invokevirtual 19, 3) := by decide +kernel
theorem dX3_fillWith_8 : decode cX3_fillWith 8 = .ok (.aload_n 0, 1) := by decide +kernel
theorem dX3_fillWith_9 : decode cX3_fillWith 9 = .ok (.iconst 1, 1) := by decide +kernel
theorem dX3_fillWith_10 : decode cX3_fillWith 10 = .ok (.putfield 15, 3) := by decide +kernel
theorem dX3_fillWith_13 : decode cX3_fillWith 13 = .ok (.aload_n 0, 1) := by decide +kernel
theorem dX3_fillWith_14 : decode cX3_fillWith 14 = .ok (.getfield 15, 3) := by decide +kernel
theorem dX3_fillWith_17 : decode cX3_fillWith 17 = .ok (.sipush 231, 3) := by decide +kernel
theorem dX3_fillWith_20 : decode cX3_fillWith 20 = .ok (.if_icmp .ge 27, 3) := by decide +kernel
theorem dX3_fillWith_23 : decode cX3_fillWith 23 = .ok (.aload_n 0, 1) := by decide +kernel
theorem dX3_fillWith_24 : decode cX3_fillWith 24 = .ok (.aload_n 0, 1) := by decide +kernel
theorem dX3_fillWith_25 : decode cX3_fillWith 25 = .ok (.getfield 15, 3) := by decide +kernel
theorem dX3_fillWith_28 : decode cX3_fillWith 28 = .ok (.invokevirtual 23, 3) := by decide +kernel
theorem dX3_fillWith_31 : decode cX3_fillWith 31 = .ok (.ifCond .eq 16, 3) := by decide +kernel
theorem dX3_fillWith_34 : decode cX3_fillWith 34 = .ok (.aload_n 0, 1) := by decide +kernel
theorem dX3_fillWith_35 : decode cX3_fillWith 35 = .ok (.dup, 1) := by decide +kernel
theorem dX3_fillWith_36 : decode cX3_fillWith 36 = .ok (.getfield 15, 3) := by decide +kernel
theorem dX3_fillWith_39 : decode cX3_fillWith 39 = .ok (.iconst 1, 1) := by decide +kernel
theorem dX3_fillWith_40 : decode cX3_fillWith 40 = .ok (.iadd, 1) := by decide +kernel
theorem dX3_fillWith_41 : decode cX3_fillWith 41 = .ok (.putfield 15, 3) := by decide +kernel
theorem dX3_fillWith_44 : decode cX3_fillWith 44 = .ok (.goto (-31), 3) := by decide +kernel
theorem dX3_fillWith_47 : decode cX3_fillWith 47 = .ok (.return_, 1) := by decide +kernel
theorem dX3_fillFrom_0 : decode cX3_fillFrom 0 = .ok (.iload 4, 2) := by decide +kernel
theorem dX3_fillFrom_2 : decode cX3_fillFrom 2 = .ok (.istore 5, 2) := by decide +kernel
theorem dX3_fillFrom_4 : decode cX3_fillFrom 4 = .ok (.iload_n 2, 1) := by decide +kernel
theorem dX3_fillFrom_5 : decode cX3_fillFrom 5 = .ok (.istore 6, 2) := by decide +kernel
theorem dX3_fillFrom_7 : decode cX3_fillFrom 7 = .ok (.iload 6, 2) := by decide +kernel
theorem dX3_fillFrom_9 : decode cX3_fillFrom 9 = .ok (.bipush 16, 2) := by decide +kernel
theorem dX3_fillFrom_11 : decode cX3_fillFrom 11 = .ok (.if_icmp .ge 33, 3) := by decide +kernel
theorem dX3_fillFrom_14 : decode cX3_fillFrom 14 = .ok (.iload_n 3, 1) := by decide +kernel
theorem dX3_fillFrom_15 : decode cX3_fillFrom 15 = .ok (.iload 5, 2) := by decide +kernel
theorem dX3_fillFrom_17 : decode cX3_fillFrom 17 = .ok (.invokestatic 27, 3) := by decide +kernel
theorem dX3_fillFrom_20 : decode cX3_fillFrom 20 = .ok (.istore 7, 2) := by decide +kernel
theorem dX3_fillFrom_22 : decode cX3_fillFrom 22 = .ok (.aload_n 0, 1) := by decide +kernel
theorem dX3_fillFrom_23 : decode cX3_fillFrom 23 = .ok (.iload_n 1, 1) := by decide +kernel
theorem dX3_fillFrom_24 : decode cX3_fillFrom 24 = .ok (.iload 6, 2) := by decide +kernel
theorem dX3_fillFrom_26 : decode cX3_fillFrom 26 = .ok (.iload 7, 2) := by decide +kernel
theorem dX3_fillFrom_28 : decode cX3_fillFrom 28 = .ok (.invokevirtual 33, 3) := by decide +kernel
theorem dX3_fillFrom_31 : decode cX3_fillFrom 31 = .ok (.iload 5, 2) := by decide +kernel
theorem dX3_fillFrom_33 : decode cX3_fillFrom 33 = .ok (.iload 7, 2) := by decide +kernel
theorem dX3_fillFrom_35 : decode cX3_fillFrom 35 = .ok (.isub, 1) := by decide +kernel
theorem dX3_fillFrom_36 : decode cX3_fillFrom 36 = .ok (.istore 5, 2) := by decide +kernel
theorem dX3_fillFrom_38 : decode cX3_fillFrom 38 = .ok (.iinc 6 1, 3) := by decide +kernel
theorem dX3_fillFrom_41 : decode cX3_fillFrom 41 = .ok (.goto (-34), 3) := by decide +kernel
theorem dX3_fillFrom_44 : decode cX3_fillFrom 44 = .ok (.return_, 1) := by decide +kernel
theorem dX3_makeNext_0 : decode cX3_makeNext 0 = .ok (.aload_n 0, 1) := by decide +kernel
theorem dX3_makeNext_1 : decode cX3_makeNext 1 = .ok (.iload_n 1, 1) := by decide +kernel
theorem dX3_makeNext_2 : decode cX3_makeNext 2 = .ok (.iconst 1, 1) := by decide +kernel
theorem dX3_makeNext_3 : decode cX3_makeNext 3 = .ok (.isub, 1) := by decide +kernel
theorem dX3_makeNext_4 : decode cX3_makeNext 4 = .ok (.invokevirtual 37, 3) := by decide +kernel
theorem dX3_makeNext_7 : decode cX3_makeNext 7 = .ok (.istore_n 2, 1) := by decide +kernel
theorem dX3_makeNext_8 : decode cX3_makeNext 8 = .ok (.iload_n 2, 1) := by decide +kernel
theorem dX3_makeNext_9 : decode cX3_makeNext 9 = .ok (.ifCond .ge 5, 3) := by decide +kernel
theorem dX3_makeNext_12 : decode cX3_makeNext 12 = .ok (.iconst 0, 1) := by decide +kernel
theorem dX3_makeNext_13 : decode cX3_makeNext 13 = .ok (.ireturn, 1) := by decide +kernel
theorem dX3_makeNext_14 : decode cX3_makeNext 14 = .ok (.iconst 0, 1) := by decide +kernel
theorem dX3_makeNext_15 : decode cX3_makeNext 15 = .ok (.istore_n 3, 1) := by decide +kernel
theorem dX3_makeNext_16 : decode cX3_makeNext 16 = .ok (.iload_n 3, 1) := by decide +kernel
theorem dX3_makeNext_17 : decode cX3_makeNext 17 = .ok (.iload_n 2, 1) := by decide +kernel
theorem dX3_makeNext_18 : decode cX3_makeNext 18 = .ok (.if_icmp .ge 23, 3) := by decide +kernel
theorem dX3_makeNext_21 : decode cX3_makeNext 21 = .ok (.aload_n 0, 1) := by decide +kernel
theorem dX3_makeNext_22 : decode cX3_makeNext 22 = .ok (.iload_n 1, 1) := by decide +kernel
theorem dX3_makeNext_23 : decode cX3_makeNext 23 = .ok (.iload_n 3, 1) := by decide +kernel
theorem dX3_makeNext_24 : decode cX3_makeNext 24 = .ok (.aload_n 0, 1) := by decide +kernel
theorem dX3_makeNext_25 : decode cX3_makeNext 25 = .ok (.iload_n 1, 1) := by decide +kernel
theorem dX3_makeNext_26 : decode cX3_makeNext 26 = .ok (.iconst 1, 1) := by decide +kernel
theorem dX3_makeNext_27 : decode cX3_makeNext 27 = .ok (.isub, 1) := by decide +kernel
theorem dX3_makeNext_28 : decode cX3_makeNext 28 = .ok (.iload_n 3, 1) := by decide +kernel
theorem dX3_makeNext_29 : decode cX3_makeNext 29 = .ok (.invokevirtual 41, 3) := by decide +kernel
theorem dX3_makeNext_32 : decode cX3_makeNext 32 = .ok (.invokevirtual 33, 3) := by decide +kernel
theorem dX3_makeNext_35 : decode cX3_makeNext 35 = .ok (.iinc 3 1, 3) := by decide +kernel
theorem dX3_makeNext_38 : decode cX3_makeNext 38 = .ok (.goto (-22), 3) := by decide +kernel
theorem dX3_makeNext_41 : decode cX3_makeNext 41 = .ok (.iconst 0, 1) := by decide +kernel
theorem dX3_makeNext_42 : decode cX3_makeNext 42 = .ok (.istore_n 3, 1) := by decide +kernel
theorem dX3_makeNext_43 : decode cX3_makeNext 43 = .ok (.iload_n 2, 1) := by decide +kernel
theorem dX3_makeNext_44 : decode cX3_makeNext 44 = .ok (.istore 4, 2) := by decide +kernel
theorem dX3_makeNext_46 : decode cX3_makeNext 46 = .ok (.iload 4, 2) := by decide +kernel
theorem dX3_makeNext_48 : decode cX3_makeNext 48 = .ok (.bipush 16, 2) := by decide +kernel
theorem dX3_makeNext_50 : decode cX3_makeNext 50 = .ok (.if_icmp .ge 21, 3) := by decide +kernel
theorem dX3_makeNext_53 : decode cX3_makeNext 53 = .ok (.iload_n 3, 1) := by decide +kernel
theorem dX3_makeNext_54 : decode cX3_makeNext 54 = .ok (.aload_n 0, 1) := by decide +kernel
theorem dX3_makeNext_55 : decode cX3_makeNext 55 = .ok (.iload_n 1, 1) := by decide +kernel
theorem dX3_makeNext_56 : decode cX3_makeNext 56 = .ok (.iconst 1, 1) := by decide +kernel
theorem dX3_makeNext_57 : decode cX3_makeNext 57 = .ok (.isub, 1) := by decide +kernel
theorem dX3_makeNext_58 : decode cX3_makeNext 58 = .ok (.iload 4, 2) := by decide +kernel
theorem dX3_makeNext_60 : decode cX3_makeNext 60 = .ok (.invokevirtual 41, 3) := by decide +kernel
theorem dX3_makeNext_63 : decode cX3_makeNext 63 = .ok (.iadd, 1) := by decide +kernel
theorem dX3_makeNext_64 : decode cX3_makeNext 64 = .ok (.istore_n 3, 1) := by decide +kernel
theorem dX3_makeNext_65 : decode cX3_makeNext 65 = .ok (.iinc 4 1, 3) := by decide +kernel
theorem dX3_makeNext_68 : decode cX3_makeNext 68 = .ok (.goto (-22), 3) := by decide +kernel
theorem dX3_makeNext_71 : decode cX3_makeNext 71 = .ok (.aload_n 0, 1) := by decide +kernel
theorem dX3_makeNext_72 : decode cX3_makeNext 72 = .ok (.iload_n 1, 1) := by decide +kernel
theorem dX3_makeNext_73 : decode cX3_makeNext 73 = .ok (.iload_n 2, 1) := by decide +kernel
theorem dX3_makeNext_74 : decode cX3_makeNext 74 = .ok (.aload_n 0, 1) := by decide +kernel
theorem dX3_makeNext_75 : decode cX3_makeNext 75 = .ok (.iload_n 1, 1) := by decide +kernel
theorem dX3_makeNext_76 : decode cX3_makeNext 76 = .ok (.iconst 1, 1) := by decide +kernel
theorem dX3_makeNext_77 : decode cX3_makeNext 77 = .ok (.isub, 1) := by decide +kernel
theorem dX3_makeNext_78 : decode cX3_makeNext 78 = .ok (.iload_n 2, 1) := by decide +kernel
theorem dX3_makeNext_79 : decode cX3_makeNext 79 = .ok (.invokevirtual 41, 3) := by decide +kernel
theorem dX3_makeNext_82 : decode cX3_makeNext 82 = .ok (.iconst 1, 1) := by decide +kernel
theorem dX3_makeNext_83 : decode cX3_makeNext 83 = .ok (.isub, 1) := by decide +kernel
theorem dX3_makeNext_84 : decode cX3_makeNext 84 = .ok (.iload_n 3, 1) := by decide +kernel
theorem dX3_makeNext_85 : decode cX3_makeNext 85 = .ok (.invokevirtual 19, 3) := by decide +kernel
theorem dX3_makeNext_88 : decode cX3_makeNext 88 = .ok (.iconst 1, 1) := by decide +kernel
theorem dX3_makeNext_89 : decode cX3_makeNext 89 = .ok (.ireturn, 1) := by decide +kernel
theorem dX3_lastPlaceAboveOne_0 : decode cX3_lastPlaceAboveOne 0 = .ok (.bipush 15, 2) := by decide +kernel
theorem dX3_lastPlaceAboveOne_2 : decode cX3_lastPlaceAboveOne 2 = .ok (.istore_n 2, 1) := by decide +kernel
theorem dX3_lastPlaceAboveOne_3 : decode cX3_lastPlaceAboveOne 3 = .ok (.iload_n 2, 1) := by decide +kernel
theorem dX3_lastPlaceAboveOne_4 : decode cX3_lastPlaceAboveOne 4 = .ok (.ifCond .lt 21, 3) := by decide +kernel
theorem dX3_lastPlaceAboveOne_7 : decode cX3_lastPlaceAboveOne 7 = .ok (.aload_n 0, 1) := by decide +kernel
theorem dX3_lastPlaceAboveOne_8 : decode cX3_lastPlaceAboveOne 8 = .ok (.iload_n 1, 1) := by decide +kernel
theorem dX3_lastPlaceAboveOne_9 : decode cX3_lastPlaceAboveOne 9 = .ok (.iload_n 2, 1) := by decide +kernel
theorem dX3_lastPlaceAboveOne_10 : decode cX3_lastPlaceAboveOne 10 = .ok (.invokevirtual 41, 3) := by decide +kernel
theorem dX3_lastPlaceAboveOne_13 : decode cX3_lastPlaceAboveOne 13 = .ok (.iconst 1, 1) := by decide +kernel
theorem dX3_lastPlaceAboveOne_14 : decode cX3_lastPlaceAboveOne 14 = .ok (.if_icmp .le 5, 3) := by decide +kernel
theorem dX3_lastPlaceAboveOne_17 : decode cX3_lastPlaceAboveOne 17 = .ok (.iload_n 2, 1) := by decide +kernel
theorem dX3_lastPlaceAboveOne_18 : decode cX3_lastPlaceAboveOne 18 = .ok (.ireturn, 1) := by decide +kernel
theorem dX3_lastPlaceAboveOne_19 : decode cX3_lastPlaceAboveOne 19 = .ok (.iinc 2 (-1), 3) := by decide +kernel
theorem dX3_lastPlaceAboveOne_22 : decode cX3_lastPlaceAboveOne 22 = .ok (.goto (-19), 3) := by decide +kernel
theorem dX3_lastPlaceAboveOne_25 : decode cX3_lastPlaceAboveOne 25 = .ok (.iconst (-1), 1) := by decide +kernel
theorem dX3_lastPlaceAboveOne_26 : decode cX3_lastPlaceAboveOne 26 = .ok (.ireturn, 1) := by decide +kernel
theorem dX3_keepOnly_0 : decode cX3_keepOnly 0 = .ok (.iconst 0, 1) := by decide +kernel
theorem dX3_keepOnly_1 : decode cX3_keepOnly 1 = .ok (.istore_n 2, 1) := by decide +kernel
theorem dX3_keepOnly_2 : decode cX3_keepOnly 2 = .ok (.iconst 0, 1) := by decide +kernel
theorem dX3_keepOnly_3 : decode cX3_keepOnly 3 = .ok (.istore_n 3, 1) := by decide +kernel
theorem dX3_keepOnly_4 : decode cX3_keepOnly 4 = .ok (.iload_n 3, 1) := by decide +kernel
theorem dX3_keepOnly_5 : decode cX3_keepOnly 5 = .ok (.aload_n 0, 1) := by decide +kernel
theorem dX3_keepOnly_6 : decode cX3_keepOnly 6 = .ok (.getfield 15, 3) := by decide +kernel
theorem dX3_keepOnly_9 : decode cX3_keepOnly 9 = .ok (.if_icmp .ge 42, 3) := by decide +kernel
theorem dX3_keepOnly_12 : decode cX3_keepOnly 12 = .ok (.aload_n 0, 1) := by decide +kernel
theorem dX3_keepOnly_13 : decode cX3_keepOnly 13 = .ok (.iload_n 3, 1) := by decide +kernel
theorem dX3_keepOnly_14 : decode cX3_keepOnly 14 = .ok (.iload_n 1, 1) := by decide +kernel
theorem dX3_keepOnly_15 : decode cX3_keepOnly 15 = .ok (.invokevirtual 44, 3) := by decide +kernel
theorem dX3_keepOnly_18 : decode cX3_keepOnly 18 = .ok (.ifCond .eq 27, 3) := by decide +kernel
theorem dX3_keepOnly_21 : decode cX3_keepOnly 21 = .ok (.aload_n 0, 1) := by decide +kernel
theorem dX3_keepOnly_22 : decode cX3_keepOnly 22 = .ok (.getfield 9, 3) := by decide +kernel
theorem dX3_keepOnly_25 : decode cX3_keepOnly 25 = .ok (.iload_n 3, 1) := by decide +kernel
theorem dX3_keepOnly_26 : decode cX3_keepOnly 26 = .ok (.bipush 16, 2) := by decide +kernel
theorem dX3_keepOnly_28 : decode cX3_keepOnly 28 = .ok (.imul, 1) := by decide +kernel
theorem dX3_keepOnly_29 : decode cX3_keepOnly 29 = .ok (.aload_n 0, 1) := by decide +kernel
theorem dX3_keepOnly_30 : decode cX3_keepOnly 30 = .ok (.getfield 9, 3) := by decide +kernel
theorem dX3_keepOnly_33 : decode cX3_keepOnly 33 = .ok (.iload_n 2, 1) := by decide +kernel
theorem dX3_keepOnly_34 : decode cX3_keepOnly 34 = .ok (.bipush 16, 2) := by decide +kernel
theorem dX3_keepOnly_36 : decode cX3_keepOnly 36 = .ok (.imul, 1) := by decide +kernel
theorem dX3_keepOnly_37 : decode cX3_keepOnly 37 = .ok (.bipush 16, 2) := by decide +kernel
theorem dX3_keepOnly_39 : decode cX3_keepOnly 39 = .ok (.invokestatic 48, 3) := by decide +kernel
theorem dX3_keepOnly_42 : decode cX3_keepOnly 42 = .ok (.iinc 2 1, 3) := by decide +kernel
theorem dX3_keepOnly_45 : decode cX3_keepOnly 45 = .ok (.iinc 3 1, 3) := by decide +kernel
theorem dX3_keepOnly_48 : decode cX3_keepOnly 48 = .ok (.goto (-44), 3) := by decide +kernel
theorem dX3_keepOnly_51 : decode cX3_keepOnly 51 = .ok (.aload_n 0, 1) := by decide +kernel
theorem dX3_keepOnly_52 : decode cX3_keepOnly 52 = .ok (.iload_n 2, 1) := by decide +kernel
theorem dX3_keepOnly_53 : decode cX3_keepOnly 53 = .ok (.putfield 15, 3) := by decide +kernel
theorem dX3_keepOnly_56 : decode cX3_keepOnly 56 = .ok (.return_, 1) := by decide +kernel
theorem dX3_passes_0 : decode cX3_passes 0 = .ok (.iload_n 2, 1) := by decide +kernel
theorem dX3_passes_1 : decode cX3_passes 1 = .ok (.tableswitch 103 1 6 #[39, 46, 52, 59, 80, 97], 39) := by decide +kernel
theorem dX3_passes_40 : decode cX3_passes 40 = .ok (.aload_n 0, 1) := by decide +kernel
theorem dX3_passes_41 : decode cX3_passes 41 = .ok (.iload_n 1, 1) := by decide +kernel
theorem dX3_passes_42 : decode cX3_passes 42 = .ok (.iconst 1, 1) := by decide +kernel
theorem dX3_passes_43 : decode cX3_passes 43 = .ok (.invokevirtual 54, 3) := by decide +kernel
theorem dX3_passes_46 : decode cX3_passes 46 = .ok (.ireturn, 1) := by decide +kernel
theorem dX3_passes_47 : decode cX3_passes 47 = .ok (.aload_n 0, 1) := by decide +kernel
theorem dX3_passes_48 : decode cX3_passes 48 = .ok (.iload_n 1, 1) := by decide +kernel
theorem dX3_passes_49 : decode cX3_passes 49 = .ok (.invokevirtual 57, 3) := by decide +kernel
theorem dX3_passes_52 : decode cX3_passes 52 = .ok (.ireturn, 1) := by decide +kernel
theorem dX3_passes_53 : decode cX3_passes 53 = .ok (.aload_n 0, 1) := by decide +kernel
theorem dX3_passes_54 : decode cX3_passes 54 = .ok (.iload_n 1, 1) := by decide +kernel
theorem dX3_passes_55 : decode cX3_passes 55 = .ok (.iconst 2, 1) := by decide +kernel
theorem dX3_passes_56 : decode cX3_passes 56 = .ok (.invokevirtual 54, 3) := by decide +kernel
theorem dX3_passes_59 : decode cX3_passes 59 = .ok (.ireturn, 1) := by decide +kernel
theorem dX3_passes_60 : decode cX3_passes 60 = .ok (.aload_n 0, 1) := by decide +kernel
theorem dX3_passes_61 : decode cX3_passes 61 = .ok (.iload_n 1, 1) := by decide +kernel
theorem dX3_passes_62 : decode cX3_passes 62 = .ok (.iconst 1, 1) := by decide +kernel
theorem dX3_passes_63 : decode cX3_passes 63 = .ok (.invokevirtual 60, 3) := by decide +kernel
theorem dX3_passes_66 : decode cX3_passes 66 = .ok (.aload_n 0, 1) := by decide +kernel
theorem dX3_passes_67 : decode cX3_passes 67 = .ok (.iload_n 1, 1) := by decide +kernel
theorem dX3_passes_68 : decode cX3_passes 68 = .ok (.iconst 2, 1) := by decide +kernel
theorem dX3_passes_69 : decode cX3_passes 69 = .ok (.invokevirtual 60, 3) := by decide +kernel
theorem dX3_passes_72 : decode cX3_passes 72 = .ok (.if_icmp .ne 7, 3) := by decide +kernel
theorem dX3_passes_75 : decode cX3_passes 75 = .ok (.iconst 1, 1) := by decide +kernel
theorem dX3_passes_76 : decode cX3_passes 76 = .ok (.goto 4, 3) := by decide +kernel
theorem dX3_passes_79 : decode cX3_passes 79 = .ok (.iconst 0, 1) := by decide +kernel
theorem dX3_passes_80 : decode cX3_passes 80 = .ok (.ireturn, 1) := by decide +kernel
theorem dX3_passes_81 : decode cX3_passes 81 = .ok (.aload_n 0, 1) := by decide +kernel
theorem dX3_passes_82 : decode cX3_passes 82 = .ok (.iload_n 1, 1) := by decide +kernel
theorem dX3_passes_83 : decode cX3_passes 83 = .ok (.iconst 1, 1) := by decide +kernel
theorem dX3_passes_84 : decode cX3_passes 84 = .ok (.invokevirtual 60, 3) := by decide +kernel
theorem dX3_passes_87 : decode cX3_passes 87 = .ok (.iconst 2, 1) := by decide +kernel
theorem dX3_passes_88 : decode cX3_passes 88 = .ok (.irem, 1) := by decide +kernel
theorem dX3_passes_89 : decode cX3_passes 89 = .ok (.ifCond .ne 7, 3) := by decide +kernel
theorem dX3_passes_92 : decode cX3_passes 92 = .ok (.iconst 1, 1) := by decide +kernel
theorem dX3_passes_93 : decode cX3_passes 93 = .ok (.goto 4, 3) := by decide +kernel
theorem dX3_passes_96 : decode cX3_passes 96 = .ok (.iconst 0, 1) := by decide +kernel
theorem dX3_passes_97 : decode cX3_passes 97 = .ok (.ireturn, 1) := by decide +kernel
theorem dX3_passes_98 : decode cX3_passes 98 = .ok (.aload_n 0, 1) := by decide +kernel
theorem dX3_passes_99 : decode cX3_passes 99 = .ok (.iload_n 1, 1) := by decide +kernel
theorem dX3_passes_100 : decode cX3_passes 100 = .ok (.invokevirtual 63, 3) := by decide +kernel
theorem dX3_passes_103 : decode cX3_passes 103 = .ok (.ireturn, 1) := by decide +kernel
theorem dX3_passes_104 : decode cX3_passes 104 = .ok (.iconst 0, 1) := by decide +kernel
theorem dX3_passes_105 : decode cX3_passes 105 = .ok (.ireturn, 1) := by decide +kernel
theorem dX3_hasGaps_0 : decode cX3_hasGaps 0 = .ok (.iconst 1, 1) := by decide +kernel
theorem dX3_hasGaps_1 : decode cX3_hasGaps 1 = .ok (.istore_n 3, 1) := by decide +kernel
theorem dX3_hasGaps_2 : decode cX3_hasGaps 2 = .ok (.iload_n 3, 1) := by decide +kernel
theorem dX3_hasGaps_3 : decode cX3_hasGaps 3 = .ok (.bipush 16, 2) := by decide +kernel
theorem dX3_hasGaps_5 : decode cX3_hasGaps 5 = .ok (.if_icmp .ge 39, 3) := by decide +kernel
theorem dX3_hasGaps_8 : decode cX3_hasGaps 8 = .ok (.aload_n 0, 1) := by decide +kernel
theorem dX3_hasGaps_9 : decode cX3_hasGaps 9 = .ok (.iload_n 1, 1) := by decide +kernel
theorem dX3_hasGaps_10 : decode cX3_hasGaps 10 = .ok (.iload_n 3, 1) := by decide +kernel
theorem dX3_hasGaps_11 : decode cX3_hasGaps 11 = .ok (.invokevirtual 41, 3) := by decide +kernel
theorem dX3_hasGaps_14 : decode cX3_hasGaps 14 = .ok (.istore 4, 2) := by decide +kernel
theorem dX3_hasGaps_16 : decode cX3_hasGaps 16 = .ok (.iload 4, 2) := by decide +kernel
theorem dX3_hasGaps_18 : decode cX3_hasGaps 18 = .ok (.ifCond .le 20, 3) := by decide +kernel
theorem dX3_hasGaps_21 : decode cX3_hasGaps 21 = .ok (.aload_n 0, 1) := by decide +kernel
theorem dX3_hasGaps_22 : decode cX3_hasGaps 22 = .ok (.iload_n 1, 1) := by decide +kernel
theorem dX3_hasGaps_23 : decode cX3_hasGaps 23 = .ok (.iload_n 3, 1) := by decide +kernel
theorem dX3_hasGaps_24 : decode cX3_hasGaps 24 = .ok (.iconst 1, 1) := by decide +kernel
theorem dX3_hasGaps_25 : decode cX3_hasGaps 25 = .ok (.isub, 1) := by decide +kernel
theorem dX3_hasGaps_26 : decode cX3_hasGaps 26 = .ok (.invokevirtual 41, 3) := by decide +kernel
theorem dX3_hasGaps_29 : decode cX3_hasGaps 29 = .ok (.iload 4, 2) := by decide +kernel
theorem dX3_hasGaps_31 : decode cX3_hasGaps 31 = .ok (.isub, 1) := by decide +kernel
theorem dX3_hasGaps_32 : decode cX3_hasGaps 32 = .ok (.iload_n 2, 1) := by decide +kernel
theorem dX3_hasGaps_33 : decode cX3_hasGaps 33 = .ok (.if_icmp .ge 5, 3) := by decide +kernel
theorem dX3_hasGaps_36 : decode cX3_hasGaps 36 = .ok (.iconst 0, 1) := by decide +kernel
theorem dX3_hasGaps_37 : decode cX3_hasGaps 37 = .ok (.ireturn, 1) := by decide +kernel
theorem dX3_hasGaps_38 : decode cX3_hasGaps 38 = .ok (.iinc 3 1, 3) := by decide +kernel
theorem dX3_hasGaps_41 : decode cX3_hasGaps 41 = .ok (.goto (-39), 3) := by decide +kernel
theorem dX3_hasGaps_44 : decode cX3_hasGaps 44 = .ok (.iconst 1, 1) := by decide +kernel
theorem dX3_hasGaps_45 : decode cX3_hasGaps 45 = .ok (.ireturn, 1) := by decide +kernel
theorem dX3_hasOddPartsOnly_0 : decode cX3_hasOddPartsOnly 0 = .ok (.iconst 0, 1) := by decide +kernel
theorem dX3_hasOddPartsOnly_1 : decode cX3_hasOddPartsOnly 1 = .ok (.istore_n 2, 1) := by decide +kernel
theorem dX3_hasOddPartsOnly_2 : decode cX3_hasOddPartsOnly 2 = .ok (.iload_n 2, 1) := by decide +kernel
theorem dX3_hasOddPartsOnly_3 : decode cX3_hasOddPartsOnly 3 = .ok (.bipush 16, 2) := by decide +kernel
theorem dX3_hasOddPartsOnly_5 : decode cX3_hasOddPartsOnly 5 = .ok (.if_icmp .ge 28, 3) := by decide +kernel
theorem dX3_hasOddPartsOnly_8 : decode cX3_hasOddPartsOnly 8 = .ok (.aload_n 0, 1) := by decide +kernel
theorem dX3_hasOddPartsOnly_9 : decode cX3_hasOddPartsOnly 9 = .ok (.iload_n 1, 1) := by decide +kernel
theorem dX3_hasOddPartsOnly_10 : decode cX3_hasOddPartsOnly 10 = .ok (.iload_n 2, 1) := by decide +kernel
theorem dX3_hasOddPartsOnly_11 : decode cX3_hasOddPartsOnly 11 = .ok (.invokevirtual 41, 3) := by decide +kernel
theorem dX3_hasOddPartsOnly_14 : decode cX3_hasOddPartsOnly 14 = .ok (.istore_n 3, 1) := by decide +kernel
theorem dX3_hasOddPartsOnly_15 : decode cX3_hasOddPartsOnly 15 = .ok (.iload_n 3, 1) := by decide +kernel
theorem dX3_hasOddPartsOnly_16 : decode cX3_hasOddPartsOnly 16 = .ok (.ifCond .le 11, 3) := by decide +kernel
theorem dX3_hasOddPartsOnly_19 : decode cX3_hasOddPartsOnly 19 = .ok (.iload_n 3, 1) := by decide +kernel
theorem dX3_hasOddPartsOnly_20 : decode cX3_hasOddPartsOnly 20 = .ok (.iconst 2, 1) := by decide +kernel
theorem dX3_hasOddPartsOnly_21 : decode cX3_hasOddPartsOnly 21 = .ok (.irem, 1) := by decide +kernel
theorem dX3_hasOddPartsOnly_22 : decode cX3_hasOddPartsOnly 22 = .ok (.ifCond .ne 5, 3) := by decide +kernel
theorem dX3_hasOddPartsOnly_25 : decode cX3_hasOddPartsOnly 25 = .ok (.iconst 0, 1) := by decide +kernel
theorem dX3_hasOddPartsOnly_26 : decode cX3_hasOddPartsOnly 26 = .ok (.ireturn, 1) := by decide +kernel
theorem dX3_hasOddPartsOnly_27 : decode cX3_hasOddPartsOnly 27 = .ok (.iinc 2 1, 3) := by decide +kernel
theorem dX3_hasOddPartsOnly_30 : decode cX3_hasOddPartsOnly 30 = .ok (.goto (-28), 3) := by decide +kernel
theorem dX3_hasOddPartsOnly_33 : decode cX3_hasOddPartsOnly 33 = .ok (.iconst 1, 1) := by decide +kernel
theorem dX3_hasOddPartsOnly_34 : decode cX3_hasOddPartsOnly 34 = .ok (.ireturn, 1) := by decide +kernel
theorem dX3_countAtLeast_0 : decode cX3_countAtLeast 0 = .ok (.iconst 0, 1) := by decide +kernel
theorem dX3_countAtLeast_1 : decode cX3_countAtLeast 1 = .ok (.istore_n 3, 1) := by decide +kernel
theorem dX3_countAtLeast_2 : decode cX3_countAtLeast 2 = .ok (.iconst 0, 1) := by decide +kernel
theorem dX3_countAtLeast_3 : decode cX3_countAtLeast 3 = .ok (.istore 4, 2) := by decide +kernel
theorem dX3_countAtLeast_5 : decode cX3_countAtLeast 5 = .ok (.iload 4, 2) := by decide +kernel
theorem dX3_countAtLeast_7 : decode cX3_countAtLeast 7 = .ok (.bipush 16, 2) := by decide +kernel
theorem dX3_countAtLeast_9 : decode cX3_countAtLeast 9 = .ok (.if_icmp .ge 23, 3) := by decide +kernel
theorem dX3_countAtLeast_12 : decode cX3_countAtLeast 12 = .ok (.aload_n 0, 1) := by decide +kernel
theorem dX3_countAtLeast_13 : decode cX3_countAtLeast 13 = .ok (.iload_n 1, 1) := by decide +kernel
theorem dX3_countAtLeast_14 : decode cX3_countAtLeast 14 = .ok (.iload 4, 2) := by decide +kernel
theorem dX3_countAtLeast_16 : decode cX3_countAtLeast 16 = .ok (.invokevirtual 41, 3) := by decide +kernel
theorem dX3_countAtLeast_19 : decode cX3_countAtLeast 19 = .ok (.iload_n 2, 1) := by decide +kernel
theorem dX3_countAtLeast_20 : decode cX3_countAtLeast 20 = .ok (.if_icmp .lt 6, 3) := by decide +kernel
theorem dX3_countAtLeast_23 : decode cX3_countAtLeast 23 = .ok (.iinc 3 1, 3) := by decide +kernel
theorem dX3_countAtLeast_26 : decode cX3_countAtLeast 26 = .ok (.iinc 4 1, 3) := by decide +kernel
theorem dX3_countAtLeast_29 : decode cX3_countAtLeast 29 = .ok (.goto (-24), 3) := by decide +kernel
theorem dX3_countAtLeast_32 : decode cX3_countAtLeast 32 = .ok (.iload_n 3, 1) := by decide +kernel
theorem dX3_countAtLeast_33 : decode cX3_countAtLeast 33 = .ok (.ireturn, 1) := by decide +kernel
theorem dX3_isSelfConjugate_0 : decode cX3_isSelfConjugate 0 = .ok (.iconst 0, 1) := by decide +kernel
theorem dX3_isSelfConjugate_1 : decode cX3_isSelfConjugate 1 = .ok (.istore_n 2, 1) := by decide +kernel
theorem dX3_isSelfConjugate_2 : decode cX3_isSelfConjugate 2 = .ok (.iload_n 2, 1) := by decide +kernel
theorem dX3_isSelfConjugate_3 : decode cX3_isSelfConjugate 3 = .ok (.bipush 16, 2) := by decide +kernel
theorem dX3_isSelfConjugate_5 : decode cX3_isSelfConjugate 5 = .ok (.if_icmp .ge 28, 3) := by decide +kernel
theorem dX3_isSelfConjugate_8 : decode cX3_isSelfConjugate 8 = .ok (.aload_n 0, 1) := by decide +kernel
theorem dX3_isSelfConjugate_9 : decode cX3_isSelfConjugate 9 = .ok (.iload_n 1, 1) := by decide +kernel
theorem dX3_isSelfConjugate_10 : decode cX3_isSelfConjugate 10 = .ok (.iload_n 2, 1) := by decide +kernel
theorem dX3_isSelfConjugate_11 : decode cX3_isSelfConjugate 11 = .ok (.invokevirtual 41, 3) := by decide +kernel
theorem dX3_isSelfConjugate_14 : decode cX3_isSelfConjugate 14 = .ok (.aload_n 0, 1) := by decide +kernel
theorem dX3_isSelfConjugate_15 : decode cX3_isSelfConjugate 15 = .ok (.iload_n 1, 1) := by decide +kernel
theorem dX3_isSelfConjugate_16 : decode cX3_isSelfConjugate 16 = .ok (.iload_n 2, 1) := by decide +kernel
theorem dX3_isSelfConjugate_17 : decode cX3_isSelfConjugate 17 = .ok (.iconst 1, 1) := by decide +kernel
theorem dX3_isSelfConjugate_18 : decode cX3_isSelfConjugate 18 = .ok (.iadd, 1) := by decide +kernel
theorem dX3_isSelfConjugate_19 : decode cX3_isSelfConjugate 19 = .ok (.invokevirtual 60, 3) := by decide +kernel
theorem dX3_isSelfConjugate_22 : decode cX3_isSelfConjugate 22 = .ok (.if_icmp .eq 5, 3) := by decide +kernel
theorem dX3_isSelfConjugate_25 : decode cX3_isSelfConjugate 25 = .ok (.iconst 0, 1) := by decide +kernel
theorem dX3_isSelfConjugate_26 : decode cX3_isSelfConjugate 26 = .ok (.ireturn, 1) := by decide +kernel
theorem dX3_isSelfConjugate_27 : decode cX3_isSelfConjugate 27 = .ok (.iinc 2 1, 3) := by decide +kernel
theorem dX3_isSelfConjugate_30 : decode cX3_isSelfConjugate 30 = .ok (.goto (-28), 3) := by decide +kernel
theorem dX3_isSelfConjugate_33 : decode cX3_isSelfConjugate 33 = .ok (.iconst 1, 1) := by decide +kernel
theorem dX3_isSelfConjugate_34 : decode cX3_isSelfConjugate 34 = .ok (.ireturn, 1) := by decide +kernel
theorem dX4_init_0 : decode cX4_init 0 = .ok (.aload_n 0, 1) := by decide +kernel
theorem dX4_init_1 : decode cX4_init 1 = .ok (.invokespecial 3, 3) := by decide +kernel
theorem dX4_init_4 : decode cX4_init 4 = .ok (.aload_n 0, 1) := by decide +kernel
theorem dX4_init_5 : decode cX4_init 5 = .ok (.bipush 40, 2) := by decide +kernel
theorem dX4_init_7 : decode cX4_init 7 = .ok (.newarray .long, 2) := by decide +kernel
theorem dX4_init_9 : decode cX4_init 9 = .ok (.putfield 9, 3) := by decide +kernel
theorem dX4_init_12 : decode cX4_init 12 = .ok (.aload_n 0, 1) := by decide +kernel
theorem dX4_init_13 : decode cX4_init 13 = .ok (.iconst 0, 1) := by decide +kernel
theorem dX4_init_14 : decode cX4_init 14 = .ok (.putfield 15, 3) := by decide +kernel
theorem dX4_init_17 : decode cX4_init 17 = .ok (.aload_n 0, 1) := by decide +kernel
theorem dX4_init_18 : decode cX4_init 18 = .ok (.iconst 0, 1) := by decide +kernel
theorem dX4_init_19 : decode cX4_init 19 = .ok (.putfield 19, 3) := by decide +kernel
theorem dX4_init_22 : decode cX4_init 22 = .ok (.aload_n 0, 1) := by decide +kernel
theorem dX4_init_23 : decode cX4_init 23 = .ok (.iconst 0, 1) := by decide +kernel
theorem dX4_init_24 : decode cX4_init 24 = .ok (.putfield 23, 3) := by decide +kernel
theorem dX4_init_27 : decode cX4_init 27 = .ok (.return_, 1) := by decide +kernel
theorem dX4_fillNew_0 : decode cX4_fillNew 0 = .ok (.aload_n 0, 1) := by decide +kernel
theorem dX4_fillNew_1 : decode cX4_fillNew 1 = .ok (.getfield 9, 3) := by decide +kernel
theorem dX4_fillNew_4 : decode cX4_fillNew 4 = .ok (.lconst 0, 1) := by decide +kernel
theorem dX4_fillNew_5 : decode cX4_fillNew 5 = .ok (.invokestatic 26, 3) := by decide +kernel
theorem dX4_fillNew_8 : decode cX4_fillNew 8 = .ok (.aload_n 0, 1) := by decide +kernel
theorem dX4_fillNew_9 : decode cX4_fillNew 9 = .ok (.iconst 1, 1) := by decide +kernel
theorem dX4_fillNew_10 : decode cX4_fillNew 10 = .ok (.putfield 15, 3) := by decide +kernel
theorem dX4_fillNew_13 : decode cX4_fillNew 13 = .ok (.aload_n 0, 1) := by decide +kernel
theorem dX4_fillNew_14 : decode cX4_fillNew 14 = .ok (.iload_n 1, 1) := by decide +kernel
theorem dX4_fillNew_15 : decode cX4_fillNew 15 = .ok (.putfield 19, 3) := by decide +kernel
theorem dX4_fillNew_18 : decode cX4_fillNew 18 = .ok (.aload_n 0, 1) := by decide +kernel
theorem dX4_fillNew_19 : decode cX4_fillNew 19 = .ok (.iload_n 2, 1) := by decide +kernel
theorem dX4_fillNew_20 : decode cX4_fillNew 20 = .ok (.putfield 23, 3) := by decide +kernel
theorem dX4_fillNew_23 : decode cX4_fillNew 23 = .ok (.return_, 1) := by decide +kernel
theorem dX4_hasIndex_0 : decode cX4_hasIndex 0 = .ok (.iload_n 1, 1) := by decide +kernel
theorem dX4_hasIndex_1 : decode cX4_hasIndex 1 = .ok (.ifCond .lt 15, 3) := by decide +kernel
theorem dX4_hasIndex_4 : decode cX4_hasIndex 4 = .ok (.iload_n 1, 1) := by decide +kernel
theorem dX4_hasIndex_5 : decode cX4_hasIndex 5 = .ok (.aload_n 0, 1) := by decide +kernel
theorem dX4_hasIndex_6 : decode cX4_hasIndex 6 = .ok (.getfield 23, 3) := by decide +kernel
theorem dX4_hasIndex_9 : decode cX4_hasIndex 9 = .ok (.if_icmp .ge 7, 3) := by decide +kernel
theorem dX4_hasIndex_12 : decode cX4_hasIndex 12 = .ok (.iconst 1, 1) := by decide +kernel
theorem dX4_hasIndex_13 : decode cX4_hasIndex 13 = .ok (.goto 4, 3) := by decide +kernel
theorem dX4_hasIndex_16 : decode cX4_hasIndex 16 = .ok (.iconst 0, 1) := by decide +kernel
theorem dX4_hasIndex_17 : decode cX4_hasIndex 17 = .ok (.ireturn, 1) := by decide +kernel
theorem dX4_hasRange_0 : decode cX4_hasRange 0 = .ok (.iload_n 1, 1) := by decide +kernel
theorem dX4_hasRange_1 : decode cX4_hasRange 1 = .ok (.ifCond .lt 25, 3) := by decide +kernel
theorem dX4_hasRange_4 : decode cX4_hasRange 4 = .ok (.iload_n 2, 1) := by decide +kernel
theorem dX4_hasRange_5 : decode cX4_hasRange 5 = .ok (.ifCond .lt 21, 3) := by decide +kernel
theorem dX4_hasRange_8 : decode cX4_hasRange 8 = .ok (.iload_n 1, 1) := by decide +kernel
theorem dX4_hasRange_9 : decode cX4_hasRange 9 = .ok (.i2l, 1) := by decide +kernel
theorem dX4_hasRange_10 : decode cX4_hasRange 10 = .ok (.iload_n 2, 1) := by decide +kernel
theorem dX4_hasRange_11 : decode cX4_hasRange 11 = .ok (.i2l, 1) := by decide +kernel
theorem dX4_hasRange_12 : decode cX4_hasRange 12 = .ok (.ladd, 1) := by decide +kernel
theorem dX4_hasRange_13 : decode cX4_hasRange 13 = .ok (.aload_n 0, 1) := by decide +kernel
theorem dX4_hasRange_14 : decode cX4_hasRange 14 = .ok (.getfield 23, 3) := by decide +kernel
theorem dX4_hasRange_17 : decode cX4_hasRange 17 = .ok (.i2l, 1) := by decide +kernel
theorem dX4_hasRange_18 : decode cX4_hasRange 18 = .ok (.lcmp, 1) := by decide +kernel
theorem dX4_hasRange_19 : decode cX4_hasRange 19 = .ok (.ifCond .gt 7, 3) := by decide +kernel
theorem dX4_hasRange_22 : decode cX4_hasRange 22 = .ok (.iconst 1, 1) := by decide +kernel
theorem dX4_hasRange_23 : decode cX4_hasRange 23 = .ok (.goto 4, 3) := by decide +kernel
theorem dX4_hasRange_26 : decode cX4_hasRange 26 = .ok (.iconst 0, 1) := by decide +kernel
theorem dX4_hasRange_27 : decode cX4_hasRange 27 = .ok (.ireturn, 1) := by decide +kernel
theorem dX4_narrowed_0 : decode cX4_narrowed 0 = .ok (.aload_n 0, 1) := by decide +kernel
theorem dX4_narrowed_1 : decode cX4_narrowed 1 = .ok (.getfield 19, 3) := by decide +kernel
theorem dX4_narrowed_4 : decode cX4_narrowed 4 = .ok (.tableswitch 42 0 2 #[28, 33, 38], 28) := by decide +kernel
theorem dX4_narrowed_32 : decode cX4_narrowed 32 = .ok (.lload_n 1, 1) := by decide +kernel
theorem dX4_narrowed_33 : decode cX4_narrowed 33 = .ok (.l2i, 1) := by decide +kernel
theorem dX4_narrowed_34 : decode cX4_narrowed 34 = .ok (.i2b, 1) := by decide +kernel
theorem dX4_narrowed_35 : decode cX4_narrowed 35 = .ok (.i2l, 1) := by decide +kernel
theorem dX4_narrowed_36 : decode cX4_narrowed 36 = .ok (.lreturn, 1) := by decide +kernel
theorem dX4_narrowed_37 : decode cX4_narrowed 37 = .ok (.lload_n 1, 1) := by decide +kernel
theorem dX4_narrowed_38 : decode cX4_narrowed 38 = .ok (.l2i, 1) := by decide +kernel
theorem dX4_narrowed_39 : decode cX4_narrowed 39 = .ok (.i2s, 1) := by decide +kernel
theorem dX4_narrowed_40 : decode cX4_narrowed 40 = .ok (.i2l, 1) := by decide +kernel
theorem dX4_narrowed_41 : decode cX4_narrowed 41 = .ok (.lreturn, 1) := by decide +kernel
theorem dX4_narrowed_42 : decode cX4_narrowed 42 = .ok (.lload_n 1, 1) := by decide +kernel
theorem dX4_narrowed_43 : decode cX4_narrowed 43 = .ok (.l2i, 1) := by decide +kernel
theorem dX4_narrowed_44 : decode cX4_narrowed 44 = .ok (.i2l, 1) := by decide +kernel
theorem dX4_narrowed_45 : decode cX4_narrowed 45 = .ok (.lreturn, 1) := by decide +kernel
theorem dX4_narrowed_46 : decode cX4_narrowed 46 = .ok (.lload_n 1, 1) := by decide +kernel
theorem dX4_narrowed_47 : decode cX4_narrowed 47 = .ok (.lreturn, 1) := by decide +kernel
theorem dX5_init_0 : decode cX5_init 0 = .ok (.aload_n 0, 1) := by decide +kernel
theorem dX5_init_1 : decode cX5_init 1 = .ok (.invokespecial 3, 3) := by decide +kernel
theorem dX5_init_4 : decode cX5_init 4 = .ok (.aload_n 0, 1) := by decide +kernel
theorem dX5_init_5 : decode cX5_init 5 = .ok (.bipush 12, 2) := by decide +kernel
theorem dX5_init_7 : decode cX5_init 7 = .ok (.putfield 9, 3) := by decide +kernel
theorem dX5_init_10 : decode cX5_init 10 = .ok (.aload_n 0, 1) := by decide +kernel
theorem dX5_init_11 : decode cX5_init 11 = .ok (.bipush 6, 2) := by decide +kernel
theorem dX5_init_13 : decode cX5_init 13 = .ok (.bipush 24, 2) := by decide +kernel
theorem dX5_init_15 : decode cX5_init 15 = .ok (.multianewarray 15 2, 4) := by decide +kernel
theorem dX5_init_19 : decode cX5_init 19 = .ok (.putfield 17, 3) := by decide +kernel
theorem dX5_init_22 : decode cX5_init 22 = .ok (.aload_n 0, 1) := by decide +kernel
theorem dX5_init_23 : decode cX5_init 23 = .ok (.new 20, 3) := by decide +kernel
theorem dX5_init_26 : decode cX5_init 26 = .ok (.dup, 1) := by decide +kernel
theorem dX5_init_27 : decode cX5_init 27 = .ok (.invokespecial 22, 3) := by decide +kernel
theorem dX5_init_30 : decode cX5_init 30 = .ok (.putfield 23, 3) := by decide +kernel
theorem dX5_init_33 : decode cX5_init 33 = .ok (.aload_n 0, 1) := by decide +kernel
theorem dX5_init_34 : decode cX5_init 34 = .ok (.iconst 0, 1) := by decide +kernel
theorem dX5_init_35 : decode cX5_init 35 = .ok (.putfield 27, 3) := by decide +kernel
theorem dX5_init_38 : decode cX5_init 38 = .ok (.aload_n 0, 1) := by decide +kernel
theorem dX5_init_39 : decode cX5_init 39 = .ok (.bipush 8, 2) := by decide +kernel
theorem dX5_init_41 : decode cX5_init 41 = .ok (.anewarray 20, 3) := by decide +kernel
theorem dX5_init_44 : decode cX5_init 44 = .ok (.putfield 30, 3) := by decide +kernel
theorem dX5_init_47 : decode cX5_init 47 = .ok (.aload_n 0, 1) := by decide +kernel
theorem dX5_init_48 : decode cX5_init 48 = .ok (.iconst 0, 1) := by decide +kernel
theorem dX5_init_49 : decode cX5_init 49 = .ok (.putfield 34, 3) := by decide +kernel
theorem dX5_init_52 : decode cX5_init 52 = .ok (.iconst 0, 1) := by decide +kernel
theorem dX5_init_53 : decode cX5_init 53 = .ok (.istore_n 1, 1) := by decide +kernel
theorem dX5_init_54 : decode cX5_init 54 = .ok (.iload_n 1, 1) := by decide +kernel
theorem dX5_init_55 : decode cX5_init 55 = .ok (.bipush 8, 2) := by decide +kernel
theorem dX5_init_57 : decode cX5_init 57 = .ok (.if_icmp .ge 22, 3) := by decide +kernel
theorem dX5_init_60 : decode cX5_init 60 = .ok (.aload_n 0, 1) := by decide +kernel
theorem dX5_init_61 : decode cX5_init 61 = .ok (.getfield 30, 3) := by decide +kernel
theorem dX5_init_64 : decode cX5_init 64 = .ok (.iload_n 1, 1) := by decide +kernel
theorem dX5_init_65 : decode cX5_init 65 = .ok (.new 20, 3) := by decide +kernel
theorem dX5_init_68 : decode cX5_init 68 = .ok (.dup, 1) := by decide +kernel
theorem dX5_init_69 : decode cX5_init 69 = .ok (.invokespecial 22, 3) := by decide +kernel
theorem dX5_init_72 : decode cX5_init 72 = .ok (.aastore, 1) := by decide +kernel
theorem dX5_init_73 : decode cX5_init 73 = .ok (.iinc 1 1, 3) := by decide +kernel
theorem dX5_init_76 : decode cX5_init 76 = .ok (.goto (-22), 3) := by decide +kernel
theorem dX5_init_79 : decode cX5_init 79 = .ok (.return_, 1) := by decide +kernel
theorem dX5_copyFrom_0 : decode cX5_copyFrom 0 = .ok (.aload_n 0, 1) := by decide +kernel
theorem dX5_copyFrom_1 : decode cX5_copyFrom 1 = .ok (.aload_n 1, 1) := by decide +kernel
theorem dX5_copyFrom_2 : decode cX5_copyFrom 2 = .ok (.getfield 9, 3) := by decide +kernel
theorem dX5_copyFrom_5 : decode cX5_copyFrom 5 = .ok (.putfield 9, 3) := by decide +kernel
theorem dX5_copyFrom_8 : decode cX5_copyFrom 8 = .ok (.iconst 0, 1) := by decide +kernel
theorem dX5_copyFrom_9 : decode cX5_copyFrom 9 = .ok (.istore_n 2, 1) := by decide +kernel
theorem dX5_copyFrom_10 : decode cX5_copyFrom 10 = .ok (.iload_n 2, 1) := by decide +kernel
theorem dX5_copyFrom_11 : decode cX5_copyFrom 11 = .ok (.bipush 6, 2) := by decide +kernel
theorem dX5_copyFrom_13 : decode cX5_copyFrom 13 = .ok (.if_icmp .ge 24, 3) := by decide +kernel
theorem dX5_copyFrom_16 : decode cX5_copyFrom 16 = .ok (.aload_n 1, 1) := by decide +kernel
theorem dX5_copyFrom_17 : decode cX5_copyFrom 17 = .ok (.getfield 17, 3) := by decide +kernel
theorem dX5_copyFrom_20 : decode cX5_copyFrom 20 = .ok (.iload_n 2, 1) := by decide +kernel
theorem dX5_copyFrom_21 : decode cX5_copyFrom 21 = .ok (.aaload, 1) := by decide +kernel
theorem dX5_copyFrom_22 : decode cX5_copyFrom 22 = .ok (.aload_n 0, 1) := by decide +kernel
theorem dX5_copyFrom_23 : decode cX5_copyFrom 23 = .ok (.getfield 17, 3) := by decide +kernel
theorem dX5_copyFrom_26 : decode cX5_copyFrom 26 = .ok (.iload_n 2, 1) := by decide +kernel
theorem dX5_copyFrom_27 : decode cX5_copyFrom 27 = .ok (.aaload, 1) := by decide +kernel
theorem dX5_copyFrom_28 : decode cX5_copyFrom 28 = .ok (.invokestatic 37, 3) := by decide +kernel
theorem dX5_copyFrom_31 : decode cX5_copyFrom 31 = .ok (.iinc 2 1, 3) := by decide +kernel
theorem dX5_copyFrom_34 : decode cX5_copyFrom 34 = .ok (.goto (-24), 3) := by decide +kernel
theorem dX5_copyFrom_37 : decode cX5_copyFrom 37 = .ok (.aload_n 0, 1) := by decide +kernel
theorem dX5_copyFrom_38 : decode cX5_copyFrom 38 = .ok (.getfield 23, 3) := by decide +kernel
theorem dX5_copyFrom_41 : decode cX5_copyFrom 41 = .ok (.aload_n 1, 1) := by decide +kernel
theorem dX5_copyFrom_42 : decode cX5_copyFrom 42 = .ok (.getfield 23, 3) := by decide +kernel
theorem dX5_copyFrom_45 : decode cX5_copyFrom 45 = .ok (.invokevirtual 41, 3) := by decide +kernel
theorem dX5_copyFrom_48 : decode cX5_copyFrom 48 = .ok (.aload_n 0, 1) := by decide +kernel
theorem dX5_copyFrom_49 : decode cX5_copyFrom 49 = .ok (.aload_n 1, 1) := by decide +kernel
theorem dX5_copyFrom_50 : decode cX5_copyFrom 50 = .ok (.getfield 27, 3) := by decide +kernel
theorem dX5_copyFrom_53 : decode cX5_copyFrom 53 = .ok (.putfield 27, 3) := by decide +kernel
theorem dX5_copyFrom_56 : decode cX5_copyFrom 56 = .ok (.aload_n 0, 1) := by decide +kernel
theorem dX5_copyFrom_57 : decode cX5_copyFrom 57 = .ok (.aload_n 1, 1) := by decide +kernel
theorem dX5_copyFrom_58 : decode cX5_copyFrom 58 = .ok (.getfield 34, 3) := by decide +kernel
theorem dX5_copyFrom_61 : decode cX5_copyFrom 61 = .ok (.putfield 34, 3) := by decide +kernel
theorem dX5_copyFrom_64 : decode cX5_copyFrom 64 = .ok (.iconst 0, 1) := by decide +kernel
theorem dX5_copyFrom_65 : decode cX5_copyFrom 65 = .ok (.istore_n 2, 1) := by decide +kernel
theorem dX5_copyFrom_66 : decode cX5_copyFrom 66 = .ok (.iload_n 2, 1) := by decide +kernel
theorem dX5_copyFrom_67 : decode cX5_copyFrom 67 = .ok (.aload_n 0, 1) := by decide +kernel
theorem dX5_copyFrom_68 : decode cX5_copyFrom 68 = .ok (.getfield 34, 3) := by decide +kernel
theorem dX5_copyFrom_71 : decode cX5_copyFrom 71 = .ok (.if_icmp .ge 24, 3) := by decide +kernel
theorem dX5_copyFrom_74 : decode cX5_copyFrom 74 = .ok (.aload_n 0, 1) := by decide +kernel
theorem dX5_copyFrom_75 : decode cX5_copyFrom 75 = .ok (.getfield 30, 3) := by decide +kernel
theorem dX5_copyFrom_78 : decode cX5_copyFrom 78 = .ok (.iload_n 2, 1) := by decide +kernel
theorem dX5_copyFrom_79 : decode cX5_copyFrom 79 = .ok (.aaload, 1) := by decide +kernel
theorem dX5_copyFrom_80 : decode cX5_copyFrom 80 = .ok (.aload_n 1, 1) := by decide +kernel
theorem dX5_copyFrom_81 : decode cX5_copyFrom 81 = .ok (.getfield 30, 3) := by decide +kernel
theorem dX5_copyFrom_84 : decode cX5_copyFrom 84 = .ok (.iload_n 2, 1) := by decide +kernel
theorem dX5_copyFrom_85 : decode cX5_copyFrom 85 = .ok (.aaload, 1) := by decide +kernel
theorem dX5_copyFrom_86 : decode cX5_copyFrom 86 = .ok (.invokevirtual 41, 3) := by decide +kernel
theorem dX5_copyFrom_89 : decode cX5_copyFrom 89 = .ok (.iinc 2 1, 3) := by decide +kernel
theorem dX5_copyFrom_92 : decode cX5_copyFrom 92 = .ok (.goto (-26), 3) := by decide +kernel
theorem dX5_copyFrom_95 : decode cX5_copyFrom 95 = .ok (.return_, 1) := by decide +kernel
theorem dX5_setPair_0 : decode cX5_setPair 0 = .ok (.aload_n 0, 1) := by decide +kernel
theorem dX5_setPair_1 : decode cX5_setPair 1 = .ok (.getfield 23, 3) := by decide +kernel
theorem dX5_setPair_4 : decode cX5_setPair 4 = .ok (.aload_n 1, 1) := by decide +kernel
theorem dX5_setPair_5 : decode cX5_setPair 5 = .ok (.invokevirtual 41, 3) := by decide +kernel
theorem dX5_setPair_8 : decode cX5_setPair 8 = .ok (.aload_n 0, 1) := by decide +kernel
theorem dX5_setPair_9 : decode cX5_setPair 9 = .ok (.iconst 0, 1) := by decide +kernel
theorem dX5_setPair_10 : decode cX5_setPair 10 = .ok (.putfield 27, 3) := by decide +kernel
theorem dX5_setPair_13 : decode cX5_setPair 13 = .ok (.aload_n 0, 1) := by decide +kernel
theorem dX5_setPair_14 : decode cX5_setPair 14 = .ok (.iconst 0, 1) := by decide +kernel
theorem dX5_setPair_15 : decode cX5_setPair 15 = .ok (.putfield 34, 3) := by decide +kernel
theorem dX5_setPair_18 : decode cX5_setPair 18 = .ok (.return_, 1) := by decide +kernel
theorem dX5_goOnTo_0 : decode cX5_goOnTo 0 = .ok (.aload_n 0, 1) := by decide +kernel
theorem dX5_goOnTo_1 : decode cX5_goOnTo 1 = .ok (.getfield 34, 3) := by decide +kernel
theorem dX5_goOnTo_4 : decode cX5_goOnTo 4 = .ok (.bipush 8, 2) := by decide +kernel
theorem dX5_goOnTo_6 : decode cX5_goOnTo 6 = .ok (.if_icmp .ne 7, 3) := by decide +kernel
theorem dX5_goOnTo_9 : decode cX5_goOnTo 9 = .ok (.aload_n 0, 1) := by decide +kernel
theorem dX5_goOnTo_10 : decode cX5_goOnTo 10 = .ok (.invokevirtual 45, 3) := by decide +kernel
theorem dX5_goOnTo_13 : decode cX5_goOnTo 13 = .ok (.aload_n 0, 1) := by decide +kernel
theorem dX5_goOnTo_14 : decode cX5_goOnTo 14 = .ok (.getfield 30, 3) := by decide +kernel
theorem dX5_goOnTo_17 : decode cX5_goOnTo 17 = .ok (.aload_n 0, 1) := by decide +kernel
theorem dX5_goOnTo_18 : decode cX5_goOnTo 18 = .ok (.getfield 34, 3) := by decide +kernel
theorem dX5_goOnTo_21 : decode cX5_goOnTo 21 = .ok (.aaload, 1) := by decide +kernel
theorem dX5_goOnTo_22 : decode cX5_goOnTo 22 = .ok (.aload_n 0, 1) := by decide +kernel
theorem dX5_goOnTo_23 : decode cX5_goOnTo 23 = .ok (.getfield 23, 3) := by decide +kernel
theorem dX5_goOnTo_26 : decode cX5_goOnTo 26 = .ok (.invokevirtual 41, 3) := by decide +kernel
theorem dX5_goOnTo_29 : decode cX5_goOnTo 29 = .ok (.aload_n 0, 1) := by decide +kernel
theorem dX5_goOnTo_30 : decode cX5_goOnTo 30 = .ok (.dup, 1) := by decide +kernel
theorem dX5_goOnTo_31 : decode cX5_goOnTo 31 = .ok (.getfield 34, 3) := by decide +kernel
theorem dX5_goOnTo_34 : decode cX5_goOnTo 34 = .ok (.iconst 1, 1) := by decide +kernel
theorem dX5_goOnTo_35 : decode cX5_goOnTo 35 = .ok (.iadd, 1) := by decide +kernel
theorem dX5_goOnTo_36 : decode cX5_goOnTo 36 = .ok (.putfield 34, 3) := by decide +kernel
theorem dX5_goOnTo_39 : decode cX5_goOnTo 39 = .ok (.aload_n 0, 1) := by decide +kernel
theorem dX5_goOnTo_40 : decode cX5_goOnTo 40 = .ok (.getfield 23, 3) := by decide +kernel
theorem dX5_goOnTo_43 : decode cX5_goOnTo 43 = .ok (.aload_n 1, 1) := by decide +kernel
theorem dX5_goOnTo_44 : decode cX5_goOnTo 44 = .ok (.invokevirtual 41, 3) := by decide +kernel
theorem dX5_goOnTo_47 : decode cX5_goOnTo 47 = .ok (.aload_n 0, 1) := by decide +kernel
theorem dX5_goOnTo_48 : decode cX5_goOnTo 48 = .ok (.dup, 1) := by decide +kernel
theorem dX5_goOnTo_49 : decode cX5_goOnTo 49 = .ok (.getfield 27, 3) := by decide +kernel
theorem dX5_goOnTo_52 : decode cX5_goOnTo 52 = .ok (.iconst 1, 1) := by decide +kernel
theorem dX5_goOnTo_53 : decode cX5_goOnTo 53 = .ok (.iadd, 1) := by decide +kernel
theorem dX5_goOnTo_54 : decode cX5_goOnTo 54 = .ok (.putfield 27, 3) := by decide +kernel
theorem dX5_goOnTo_57 : decode cX5_goOnTo 57 = .ok (.return_, 1) := by decide +kernel
theorem dX5_forgetOldest_0 : decode cX5_forgetOldest 0 = .ok (.aload_n 0, 1) := by decide +kernel
theorem dX5_forgetOldest_1 : decode cX5_forgetOldest 1 = .ok (.getfield 30, 3) := by decide +kernel
theorem dX5_forgetOldest_4 : decode cX5_forgetOldest 4 = .ok (.iconst 0, 1) := by decide +kernel
theorem dX5_forgetOldest_5 : decode cX5_forgetOldest 5 = .ok (.aaload, 1) := by decide +kernel
theorem dX5_forgetOldest_6 : decode cX5_forgetOldest 6 = .ok (.astore_n 1, 1) := by decide +kernel
theorem dX5_forgetOldest_7 : decode cX5_forgetOldest 7 = .ok (.iconst 1, 1) := by decide +kernel
theorem dX5_forgetOldest_8 : decode cX5_forgetOldest 8 = .ok (.istore_n 2, 1) := by decide +kernel
theorem dX5_forgetOldest_9 : decode cX5_forgetOldest 9 = .ok (.iload_n 2, 1) := by decide +kernel
theorem dX5_forgetOldest_10 : decode cX5_forgetOldest 10 = .ok (.bipush 8, 2) := by decide +kernel
theorem dX5_forgetOldest_12 : decode cX5_forgetOldest 12 = .ok (.if_icmp .ge 23, 3) := by decide +kernel
theorem dX5_forgetOldest_15 : decode cX5_forgetOldest 15 = .ok (.aload_n 0, 1) := by decide +kernel
theorem dX5_forgetOldest_16 : decode cX5_forgetOldest 16 = .ok (.getfield 30, 3) := by decide +kernel
theorem dX5_forgetOldest_19 : decode cX5_forgetOldest 19 = .ok (.iload_n 2, 1) := by decide +kernel
theorem dX5_forgetOldest_20 : decode cX5_forgetOldest 20 = .ok (.iconst 1, 1) := by decide +kernel
theorem dX5_forgetOldest_21 : decode cX5_forgetOldest 21 = .ok (.isub, 1) := by decide +kernel
theorem dX5_forgetOldest_22 : decode cX5_forgetOldest 22 = .ok (.aload_n 0, 1) := by decide +kernel
theorem dX5_forgetOldest_23 : decode cX5_forgetOldest 23 = .ok (.getfield 30, 3) := by decide +kernel
theorem dX5_forgetOldest_26 : decode cX5_forgetOldest 26 = .ok (.iload_n 2, 1) := by decide +kernel
theorem dX5_forgetOldest_27 : decode cX5_forgetOldest 27 = .ok (.aaload, 1) := by decide +kernel
theorem dX5_forgetOldest_28 : decode cX5_forgetOldest 28 = .ok (.aastore, 1) := by decide +kernel
theorem dX5_forgetOldest_29 : decode cX5_forgetOldest 29 = .ok (.iinc 2 1, 3) := by decide +kernel
theorem dX5_forgetOldest_32 : decode cX5_forgetOldest 32 = .ok (.goto (-23), 3) := by decide +kernel
theorem dX5_forgetOldest_35 : decode cX5_forgetOldest 35 = .ok (.aload_n 0, 1) := by decide +kernel
theorem dX5_forgetOldest_36 : decode cX5_forgetOldest 36 = .ok (.getfield 30, 3) := by decide +kernel
theorem dX5_forgetOldest_39 : decode cX5_forgetOldest 39 = .ok (.bipush 7, 2) := by decide +kernel
theorem dX5_forgetOldest_41 : decode cX5_forgetOldest 41 = .ok (.aload_n 1, 1) := by decide +kernel
theorem dX5_forgetOldest_42 : decode cX5_forgetOldest 42 = .ok (.aastore, 1) := by decide +kernel
theorem dX5_forgetOldest_43 : decode cX5_forgetOldest 43 = .ok (.aload_n 0, 1) := by decide +kernel
theorem dX5_forgetOldest_44 : decode cX5_forgetOldest 44 = .ok (.bipush 7, 2) := by decide +kernel
theorem dX5_forgetOldest_46 : decode cX5_forgetOldest 46 = .ok (.putfield 34, 3) := by decide +kernel
theorem dX5_forgetOldest_49 : decode cX5_forgetOldest 49 = .ok (.return_, 1) := by decide +kernel
theorem dX5_goBack_0 : decode cX5_goBack 0 = .ok (.aload_n 0, 1) := by decide +kernel
theorem dX5_goBack_1 : decode cX5_goBack 1 = .ok (.getfield 34, 3) := by decide +kernel
theorem dX5_goBack_4 : decode cX5_goBack 4 = .ok (.ifCond .le 39, 3) := by decide +kernel
theorem dX5_goBack_7 : decode cX5_goBack 7 = .ok (.aload_n 0, 1) := by decide +kernel
theorem dX5_goBack_8 : decode cX5_goBack 8 = .ok (.dup, 1) := by decide +kernel
theorem dX5_goBack_9 : decode cX5_goBack 9 = .ok (.getfield 34, 3) := by decide +kernel
theorem dX5_goBack_12 : decode cX5_goBack 12 = .ok (.iconst 1, 1) := by decide +kernel
theorem dX5_goBack_13 : decode cX5_goBack 13 = .ok (.isub, 1) := by decide +kernel
theorem dX5_goBack_14 : decode cX5_goBack 14 = .ok (.putfield 34, 3) := by decide +kernel
theorem dX5_goBack_17 : decode cX5_goBack 17 = .ok (.aload_n 0, 1) := by decide +kernel
theorem dX5_goBack_18 : decode cX5_goBack 18 = .ok (.getfield 23, 3) := by decide +kernel
theorem dX5_goBack_21 : decode cX5_goBack 21 = .ok (.aload_n 0, 1) := by decide +kernel
theorem dX5_goBack_22 : decode cX5_goBack 22 = .ok (.getfield 30, 3) := by decide +kernel
theorem dX5_goBack_25 : decode cX5_goBack 25 = .ok (.aload_n 0, 1) := by decide +kernel
theorem dX5_goBack_26 : decode cX5_goBack 26 = .ok (.getfield 34, 3) := by decide +kernel
theorem dX5_goBack_29 : decode cX5_goBack 29 = .ok (.aaload, 1) := by decide +kernel
theorem dX5_goBack_30 : decode cX5_goBack 30 = .ok (.invokevirtual 41, 3) := by decide +kernel
theorem dX5_goBack_33 : decode cX5_goBack 33 = .ok (.aload_n 0, 1) := by decide +kernel
theorem dX5_goBack_34 : decode cX5_goBack 34 = .ok (.dup, 1) := by decide +kernel
theorem dX5_goBack_35 : decode cX5_goBack 35 = .ok (.getfield 27, 3) := by decide +kernel
theorem dX5_goBack_38 : decode cX5_goBack 38 = .ok (.iconst 1, 1) := by decide +kernel
theorem dX5_goBack_39 : decode cX5_goBack 39 = .ok (.isub, 1) := by decide +kernel
theorem dX5_goBack_40 : decode cX5_goBack 40 = .ok (.putfield 27, 3) := by decide +kernel
theorem dX5_goBack_43 : decode cX5_goBack 43 = .ok (.return_, 1) := by decide +kernel
theorem dX6_init_0 : decode cX6_init 0 = .ok (.aload_n 0, 1) := by decide +kernel
theorem dX6_init_1 : decode cX6_init 1 = .ok (.invokespecial 3, 3) := by decide +kernel
theorem dX6_init_4 : decode cX6_init 4 = .ok (.aload_n 0, 1) := by decide +kernel
theorem dX6_init_5 : decode cX6_init 5 = .ok (.bipush 24, 2) := by decide +kernel
theorem dX6_init_7 : decode cX6_init 7 = .ok (.newarray .long, 2) := by decide +kernel
theorem dX6_init_9 : decode cX6_init 9 = .ok (.putfield 9, 3) := by decide +kernel
theorem dX6_init_12 : decode cX6_init 12 = .ok (.aload_n 0, 1) := by decide +kernel
theorem dX6_init_13 : decode cX6_init 13 = .ok (.iconst 4, 1) := by decide +kernel
theorem dX6_init_14 : decode cX6_init 14 = .ok (.putfield 15, 3) := by decide +kernel
theorem dX6_init_17 : decode cX6_init 17 = .ok (.return_, 1) := by decide +kernel
theorem dX6_setZero_0 : decode cX6_setZero 0 = .ok (.aload_n 0, 1) := by decide +kernel
theorem dX6_setZero_1 : decode cX6_setZero 1 = .ok (.iload_n 1, 1) := by decide +kernel
theorem dX6_setZero_2 : decode cX6_setZero 2 = .ok (.putfield 15, 3) := by decide +kernel
theorem dX6_setZero_5 : decode cX6_setZero 5 = .ok (.aload_n 0, 1) := by decide +kernel
theorem dX6_setZero_6 : decode cX6_setZero 6 = .ok (.getfield 9, 3) := by decide +kernel
theorem dX6_setZero_9 : decode cX6_setZero 9 = .ok (.lconst 0, 1) := by decide +kernel
theorem dX6_setZero_10 : decode cX6_setZero 10 = .ok (.invokestatic 19, 3) := by decide +kernel
theorem dX6_setZero_13 : decode cX6_setZero 13 = .ok (.return_, 1) := by decide +kernel
theorem dX6_plusTerm_0 : decode cX6_plusTerm 0 = .ok (.iload_n 1, 1) := by decide +kernel
theorem dX6_plusTerm_1 : decode cX6_plusTerm 1 = .ok (.ifCond .lt 22, 3) := by decide +kernel
theorem dX6_plusTerm_4 : decode cX6_plusTerm 4 = .ok (.iload_n 1, 1) := by decide +kernel
theorem dX6_plusTerm_5 : decode cX6_plusTerm 5 = .ok (.aload_n 0, 1) := by decide +kernel
theorem dX6_plusTerm_6 : decode cX6_plusTerm 6 = .ok (.getfield 15, 3) := by decide +kernel
theorem dX6_plusTerm_9 : decode cX6_plusTerm 9 = .ok (.if_icmp .ge 14, 3) := by decide +kernel
theorem dX6_plusTerm_12 : decode cX6_plusTerm 12 = .ok (.aload_n 0, 1) := by decide +kernel
theorem dX6_plusTerm_13 : decode cX6_plusTerm 13 = .ok (.getfield 9, 3) := by decide +kernel
theorem dX6_plusTerm_16 : decode cX6_plusTerm 16 = .ok (.iload_n 1, 1) := by decide +kernel
theorem dX6_plusTerm_17 : decode cX6_plusTerm 17 = .ok (.dup2, 1) := by decide +kernel
theorem dX6_plusTerm_18 : decode cX6_plusTerm 18 = .ok (.laload, 1) := by decide +kernel
theorem dX6_plusTerm_19 : decode cX6_plusTerm 19 = .ok (.iload_n 2, 1) := by decide +kernel
theorem dX6_plusTerm_20 : decode cX6_plusTerm 20 = .ok (.i2l, 1) := by decide +kernel
theorem dX6_plusTerm_21 : decode cX6_plusTerm 21 = .ok (.ladd, 1) := by decide +kernel
theorem dX6_plusTerm_22 : decode cX6_plusTerm 22 = .ok (.lastore, 1) := by decide +kernel
theorem dX6_plusTerm_23 : decode cX6_plusTerm 23 = .ok (.return_, 1) := by decide +kernel
theorem dX6_plusRow_0 : decode cX6_plusRow 0 = .ok (.iconst 0, 1) := by decide +kernel
theorem dX6_plusRow_1 : decode cX6_plusRow 1 = .ok (.istore_n 3, 1) := by decide +kernel
theorem dX6_plusRow_2 : decode cX6_plusRow 2 = .ok (.iload_n 3, 1) := by decide +kernel
theorem dX6_plusRow_3 : decode cX6_plusRow 3 = .ok (.aload_n 0, 1) := by decide +kernel
theorem dX6_plusRow_4 : decode cX6_plusRow 4 = .ok (.getfield 15, 3) := by decide +kernel
theorem dX6_plusRow_7 : decode cX6_plusRow 7 = .ok (.if_icmp .ge 25, 3) := by decide +kernel
theorem dX6_plusRow_10 : decode cX6_plusRow 10 = .ok (.aload_n 0, 1) := by decide +kernel
theorem dX6_plusRow_11 : decode cX6_plusRow 11 = .ok (.getfield 9, 3) := by decide +kernel
theorem dX6_plusRow_14 : decode cX6_plusRow 14 = .ok (.iload_n 3, 1) := by decide +kernel
theorem dX6_plusRow_15 : decode cX6_plusRow 15 = .ok (.dup2, 1) := by decide +kernel
theorem dX6_plusRow_16 : decode cX6_plusRow 16 = .ok (.laload, 1) := by decide +kernel
theorem dX6_plusRow_17 : decode cX6_plusRow 17 = .ok (.iload_n 2, 1) := by decide +kernel
theorem dX6_plusRow_18 : decode cX6_plusRow 18 = .ok (.i2l, 1) := by decide +kernel
theorem dX6_plusRow_19 : decode cX6_plusRow 19 = .ok (.aload_n 1, 1) := by decide +kernel
theorem dX6_plusRow_20 : decode cX6_plusRow 20 = .ok (.iload_n 3, 1) := by decide +kernel
theorem dX6_plusRow_21 : decode cX6_plusRow 21 = .ok (.iaload, 1) := by decide +kernel
theorem dX6_plusRow_22 : decode cX6_plusRow 22 = .ok (.i2l, 1) := by decide +kernel
theorem dX6_plusRow_23 : decode cX6_plusRow 23 = .ok (.lmul, 1) := by decide +kernel
theorem dX6_plusRow_24 : decode cX6_plusRow 24 = .ok (.ladd, 1) := by decide +kernel
theorem dX6_plusRow_25 : decode cX6_plusRow 25 = .ok (.lastore, 1) := by decide +kernel
theorem dX6_plusRow_26 : decode cX6_plusRow 26 = .ok (.iinc 3 1, 3) := by decide +kernel
theorem dX6_plusRow_29 : decode cX6_plusRow 29 = .ok (.goto (-27), 3) := by decide +kernel
theorem dX6_plusRow_32 : decode cX6_plusRow 32 = .ok (.return_, 1) := by decide +kernel
theorem dX6_plusShifted_0 : decode cX6_plusShifted 0 = .ok (.iconst 0, 1) := by decide +kernel
theorem dX6_plusShifted_1 : decode cX6_plusShifted 1 = .ok (.istore_n 3, 1) := by decide +kernel
theorem dX6_plusShifted_2 : decode cX6_plusShifted 2 = .ok (.iload_n 3, 1) := by decide +kernel
theorem dX6_plusShifted_3 : decode cX6_plusShifted 3 = .ok (.iload_n 2, 1) := by decide +kernel
theorem dX6_plusShifted_4 : decode cX6_plusShifted 4 = .ok (.iadd, 1) := by decide +kernel
theorem dX6_plusShifted_5 : decode cX6_plusShifted 5 = .ok (.aload_n 0, 1) := by decide +kernel
theorem dX6_plusShifted_6 : decode cX6_plusShifted 6 = .ok (.getfield 15, 3) := by decide +kernel
theorem dX6_plusShifted_9 : decode cX6_plusShifted 9 = .ok (.if_icmp .ge 24, 3) := by decide +kernel
theorem dX6_plusShifted_12 : decode cX6_plusShifted 12 = .ok (.aload_n 0, 1) := by decide +kernel
theorem dX6_plusShifted_13 : decode cX6_plusShifted 13 = .ok (.getfield 9, 3) := by decide +kernel
theorem dX6_plusShifted_16 : decode cX6_plusShifted 16 = .ok (.iload_n 3, 1) := by decide +kernel
theorem dX6_plusShifted_17 : decode cX6_plusShifted 17 = .ok (.iload_n 2, 1) := by decide +kernel
theorem dX6_plusShifted_18 : decode cX6_plusShifted 18 = .ok (.iadd, 1) := by decide +kernel
theorem dX6_plusShifted_19 : decode cX6_plusShifted 19 = .ok (.dup2, 1) := by decide +kernel
theorem dX6_plusShifted_20 : decode cX6_plusShifted 20 = .ok (.laload, 1) := by decide +kernel
theorem dX6_plusShifted_21 : decode cX6_plusShifted 21 = .ok (.aload_n 1, 1) := by decide +kernel
theorem dX6_plusShifted_22 : decode cX6_plusShifted 22 = .ok (.iload_n 3, 1) := by decide +kernel
theorem dX6_plusShifted_23 : decode cX6_plusShifted 23 = .ok (.iaload, 1) := by decide +kernel
theorem dX6_plusShifted_24 : decode cX6_plusShifted 24 = .ok (.i2l, 1) := by decide +kernel
theorem dX6_plusShifted_25 : decode cX6_plusShifted 25 = .ok (.ladd, 1) := by decide +kernel
theorem dX6_plusShifted_26 : decode cX6_plusShifted 26 = .ok (.lastore, 1) := by decide +kernel
theorem dX6_plusShifted_27 : decode cX6_plusShifted 27 = .ok (.iinc 3 1, 3) := by decide +kernel
theorem dX6_plusShifted_30 : decode cX6_plusShifted 30 = .ok (.goto (-28), 3) := by decide +kernel
theorem dX6_plusShifted_33 : decode cX6_plusShifted 33 = .ok (.return_, 1) := by decide +kernel
theorem dX6_plusWide_0 : decode cX6_plusWide 0 = .ok (.iconst 0, 1) := by decide +kernel
theorem dX6_plusWide_1 : decode cX6_plusWide 1 = .ok (.istore_n 3, 1) := by decide +kernel
theorem dX6_plusWide_2 : decode cX6_plusWide 2 = .ok (.iload_n 3, 1) := by decide +kernel
theorem dX6_plusWide_3 : decode cX6_plusWide 3 = .ok (.aload_n 0, 1) := by decide +kernel
theorem dX6_plusWide_4 : decode cX6_plusWide 4 = .ok (.getfield 15, 3) := by decide +kernel
theorem dX6_plusWide_7 : decode cX6_plusWide 7 = .ok (.if_icmp .ge 27, 3) := by decide +kernel
theorem dX6_plusWide_10 : decode cX6_plusWide 10 = .ok (.aload_n 0, 1) := by decide +kernel
theorem dX6_plusWide_11 : decode cX6_plusWide 11 = .ok (.getfield 9, 3) := by decide +kernel
theorem dX6_plusWide_14 : decode cX6_plusWide 14 = .ok (.iload_n 3, 1) := by decide +kernel
theorem dX6_plusWide_15 : decode cX6_plusWide 15 = .ok (.dup2, 1) := by decide +kernel
theorem dX6_plusWide_16 : decode cX6_plusWide 16 = .ok (.laload, 1) := by decide +kernel
theorem dX6_plusWide_17 : decode cX6_plusWide 17 = .ok (.iload_n 2, 1) := by decide +kernel
theorem dX6_plusWide_18 : decode cX6_plusWide 18 = .ok (.i2l, 1) := by decide +kernel
theorem dX6_plusWide_19 : decode cX6_plusWide 19 = .ok (.aload_n 1, 1) := by decide +kernel
theorem dX6_plusWide_20 : decode cX6_plusWide 20 = .ok (.getfield 9, 3) := by decide +kernel
theorem dX6_plusWide_23 : decode cX6_plusWide 23 = .ok (.iload_n 3, 1) := by decide +kernel
theorem dX6_plusWide_24 : decode cX6_plusWide 24 = .ok (.laload, 1) := by decide +kernel
theorem dX6_plusWide_25 : decode cX6_plusWide 25 = .ok (.lmul, 1) := by decide +kernel
theorem dX6_plusWide_26 : decode cX6_plusWide 26 = .ok (.ladd, 1) := by decide +kernel
theorem dX6_plusWide_27 : decode cX6_plusWide 27 = .ok (.lastore, 1) := by decide +kernel
theorem dX6_plusWide_28 : decode cX6_plusWide 28 = .ok (.iinc 3 1, 3) := by decide +kernel
theorem dX6_plusWide_31 : decode cX6_plusWide 31 = .ok (.goto (-29), 3) := by decide +kernel
theorem dX6_plusWide_34 : decode cX6_plusWide 34 = .ok (.return_, 1) := by decide +kernel
theorem dX6_setProduct_0 : decode cX6_setProduct 0 = .ok (.aload_n 0, 1) := by decide +kernel
theorem dX6_setProduct_1 : decode cX6_setProduct 1 = .ok (.iload_n 3, 1) := by decide +kernel
theorem dX6_setProduct_2 : decode cX6_setProduct 2 = .ok (.invokevirtual 25, 3) := by decide +kernel
theorem dX6_setProduct_5 : decode cX6_setProduct 5 = .ok (.iconst 0, 1) := by decide +kernel
theorem dX6_setProduct_6 : decode cX6_setProduct 6 = .ok (.istore 4, 2) := by decide +kernel
theorem dX6_setProduct_8 : decode cX6_setProduct 8 = .ok (.iload 4, 2) := by decide +kernel
theorem dX6_setProduct_10 : decode cX6_setProduct 10 = .ok (.aload_n 0, 1) := by decide +kernel
theorem dX6_setProduct_11 : decode cX6_setProduct 11 = .ok (.getfield 15, 3) := by decide +kernel
theorem dX6_setProduct_14 : decode cX6_setProduct 14 = .ok (.if_icmp .ge 52, 3) := by decide +kernel
theorem dX6_setProduct_17 : decode cX6_setProduct 17 = .ok (.iload 4, 2) := by decide +kernel
theorem dX6_setProduct_19 : decode cX6_setProduct 19 = .ok (.istore 5, 2) := by decide +kernel
theorem dX6_setProduct_21 : decode cX6_setProduct 21 = .ok (.iload 5, 2) := by decide +kernel
theorem dX6_setProduct_23 : decode cX6_setProduct 23 = .ok (.aload_n 0, 1) := by decide +kernel
theorem dX6_setProduct_24 : decode cX6_setProduct 24 = .ok (.getfield 15, 3) := by decide +kernel
theorem dX6_setProduct_27 : decode cX6_setProduct 27 = .ok (.if_icmp .ge 33, 3) := by decide +kernel
theorem dX6_setProduct_30 : decode cX6_setProduct 30 = .ok (.aload_n 0, 1) := by decide +kernel
theorem dX6_setProduct_31 : decode cX6_setProduct 31 = .ok (.getfield 9, 3) := by decide +kernel
theorem dX6_setProduct_34 : decode cX6_setProduct 34 = .ok (.iload 5, 2) := by decide +kernel
theorem dX6_setProduct_36 : decode cX6_setProduct 36 = .ok (.dup2, 1) := by decide +kernel
theorem dX6_setProduct_37 : decode cX6_setProduct 37 = .ok (.laload, 1) := by decide +kernel
theorem dX6_setProduct_38 : decode cX6_setProduct 38 = .ok (.aload_n 1, 1) := by decide +kernel
theorem dX6_setProduct_39 : decode cX6_setProduct 39 = .ok (.iload 4, 2) := by decide +kernel
theorem dX6_setProduct_41 : decode cX6_setProduct 41 = .ok (.iaload, 1) := by decide +kernel
theorem dX6_setProduct_42 : decode cX6_setProduct 42 = .ok (.i2l, 1) := by decide +kernel
theorem dX6_setProduct_43 : decode cX6_setProduct 43 = .ok (.aload_n 2, 1) := by decide +kernel
theorem dX6_setProduct_44 : decode cX6_setProduct 44 = .ok (.iload 5, 2) := by decide +kernel
theorem dX6_setProduct_46 : decode cX6_setProduct 46 = .ok (.iload 4, 2) := by decide +kernel
theorem dX6_setProduct_48 : decode cX6_setProduct 48 = .ok (.isub, 1) := by decide +kernel
theorem dX6_setProduct_49 : decode cX6_setProduct 49 = .ok (.iaload, 1) := by decide +kernel
theorem dX6_setProduct_50 : decode cX6_setProduct 50 = .ok (.i2l, 1) := by decide +kernel
theorem dX6_setProduct_51 : decode cX6_setProduct 51 = .ok (.lmul, 1) := by decide +kernel
theorem dX6_setProduct_52 : decode cX6_setProduct 52 = .ok (.ladd, 1) := by decide +kernel
theorem dX6_setProduct_53 : decode cX6_setProduct 53 = .ok (.lastore, 1) := by decide +kernel
theorem dX6_setProduct_54 : decode cX6_setProduct 54 = .ok (.iinc 5 1, 3) := by decide +kernel
theorem dX6_setProduct_57 : decode cX6_setProduct 57 = .ok (.goto (-36), 3) := by decide +kernel
theorem dX6_setProduct_60 : decode cX6_setProduct 60 = .ok (.iinc 4 1, 3) := by decide +kernel
theorem dX6_setProduct_63 : decode cX6_setProduct 63 = .ok (.goto (-55), 3) := by decide +kernel
theorem dX6_setProduct_66 : decode cX6_setProduct 66 = .ok (.return_, 1) := by decide +kernel
theorem dX6_setQuotient_0 : decode cX6_setQuotient 0 = .ok (.aload_n 0, 1) := by decide +kernel
theorem dX6_setQuotient_1 : decode cX6_setQuotient 1 = .ok (.iload_n 3, 1) := by decide +kernel
theorem dX6_setQuotient_2 : decode cX6_setQuotient 2 = .ok (.invokevirtual 25, 3) := by decide +kernel
theorem dX6_setQuotient_5 : decode cX6_setQuotient 5 = .ok (.iconst 0, 1) := by decide +kernel
theorem dX6_setQuotient_6 : decode cX6_setQuotient 6 = .ok (.istore 4, 2) := by decide +kernel
theorem dX6_setQuotient_8 : decode cX6_setQuotient 8 = .ok (.iload 4, 2) := by decide +kernel
theorem dX6_setQuotient_10 : decode cX6_setQuotient 10 = .ok (.aload_n 0, 1) := by decide +kernel
theorem dX6_setQuotient_11 : decode cX6_setQuotient 11 = .ok (.getfield 15, 3) := by decide +kernel
theorem dX6_setQuotient_14 : decode cX6_setQuotient 14 = .ok (.if_icmp .ge 82, 3) := by decide +kernel
theorem dX6_setQuotient_17 : decode cX6_setQuotient 17 = .ok (.aload_n 1, 1) := by decide +kernel
theorem dX6_setQuotient_18 : decode cX6_setQuotient 18 = .ok (.iload 4, 2) := by decide +kernel
theorem dX6_setQuotient_20 : decode cX6_setQuotient 20 = .ok (.iaload, 1) := by decide +kernel
theorem dX6_setQuotient_21 : decode cX6_setQuotient 21 = .ok (.i2l, 1) := by decide +kernel
theorem dX6_setQuotient_22 : decode cX6_setQuotient 22 = .ok (.lstore 5, 2) := by decide +kernel
theorem dX6_setQuotient_24 : decode cX6_setQuotient 24 = .ok (.iconst 1, 1) := by decide +kernel
theorem dX6_setQuotient_25 : decode cX6_setQuotient 25 = .ok (.istore 7, 2) := by decide +kernel
theorem dX6_setQuotient_27 : decode cX6_setQuotient 27 = .ok (.iload 7, 2) := by decide +kernel
theorem dX6_setQuotient_29 : decode cX6_setQuotient 29 = .ok (.iload 4, 2) := by decide +kernel
theorem dX6_setQuotient_31 : decode cX6_setQuotient 31 = .ok (.if_icmp .gt 30, 3) := by decide +kernel
theorem dX6_setQuotient_34 : decode cX6_setQuotient 34 = .ok (.lload 5, 2) := by decide +kernel
theorem dX6_setQuotient_36 : decode cX6_setQuotient 36 = .ok (.aload_n 2, 1) := by decide +kernel
theorem dX6_setQuotient_37 : decode cX6_setQuotient 37 = .ok (.iload 7, 2) := by decide +kernel
theorem dX6_setQuotient_39 : decode cX6_setQuotient 39 = .ok (.iaload, 1) := by decide +kernel
theorem dX6_setQuotient_40 : decode cX6_setQuotient 40 = .ok (.i2l, 1) := by decide +kernel
theorem dX6_setQuotient_41 : decode cX6_setQuotient 41 = .ok (.aload_n 0, 1) := by decide +kernel
theorem dX6_setQuotient_42 : decode cX6_setQuotient 42 = .ok (.getfield 9, 3) := by decide +kernel
theorem dX6_setQuotient_45 : decode cX6_setQuotient 45 = .ok (.iload 4, 2) := by decide +kernel
theorem dX6_setQuotient_47 : decode cX6_setQuotient 47 = .ok (.iload 7, 2) := by decide +kernel
theorem dX6_setQuotient_49 : decode cX6_setQuotient 49 = .ok (.isub, 1) := by decide +kernel
theorem dX6_setQuotient_50 : decode cX6_setQuotient 50 = .ok (.laload, 1) := by decide +kernel
theorem dX6_setQuotient_51 : decode cX6_setQuotient 51 = .ok (.lmul, 1) := by decide +kernel
theorem dX6_setQuotient_52 : decode cX6_setQuotient 52 = .ok (.lsub, 1) := by decide +kernel
theorem dX6_setQuotient_53 : decode cX6_setQuotient 53 = .ok (.lstore 5, 2) := by decide +kernel
theorem dX6_setQuotient_55 : decode cX6_setQuotient 55 = .ok (.iinc 7 1, 3) := by decide +kernel
theorem dX6_setQuotient_58 : decode cX6_setQuotient 58 = .ok (.goto (-31), 3) := by decide +kernel
theorem dX6_setQuotient_61 : decode cX6_setQuotient 61 = .ok (.aload_n 0, 1) := by decide +kernel
theorem dX6_setQuotient_62 : decode cX6_setQuotient 62 = .ok (.getfield 9, 3) := by decide +kernel
theorem dX6_setQuotient_65 : decode cX6_setQuotient 65 = .ok (.iload 4, 2) := by decide +kernel
theorem dX6_setQuotient_67 : decode cX6_setQuotient 67 = .ok (.lload 5, 2) := by decide +kernel
theorem dX6_setQuotient_69 : decode cX6_setQuotient 69 = .ok (.aload_n 2, 1) := by decide +kernel
theorem dX6_setQuotient_70 : decode cX6_setQuotient 70 = .ok (.iconst 0, 1) := by decide +kernel
theorem dX6_setQuotient_71 : decode cX6_setQuotient 71 = .ok (.iaload, 1) := by decide +kernel
theorem dX6_setQuotient_72 : decode cX6_setQuotient 72 = .ok (.i2l, 1) := by decide +kernel
theorem dX6_setQuotient_73 : decode cX6_setQuotient 73 = .ok (.lmul, 1) := by decide +kernel
theorem dX6_setQuotient_74 : decode cX6_setQuotient 74 = .ok (.lastore, 1) := by decide +kernel
theorem dX6_setQuotient_75 : decode cX6_setQuotient 75 = .ok (.aload_n 0, 1) := by decide +kernel
theorem dX6_setQuotient_76 : decode cX6_setQuotient 76 = .ok (.getfield 9, 3) := by decide +kernel
theorem dX6_setQuotient_79 : decode cX6_setQuotient 79 = .ok (.iload 4, 2) := by decide +kernel
theorem dX6_setQuotient_81 : decode cX6_setQuotient 81 = .ok (.laload, 1) := by decide +kernel
theorem dX6_setQuotient_82 : decode cX6_setQuotient 82 = .ok (.invokestatic 29, 3) := by decide +kernel
theorem dX6_setQuotient_85 : decode cX6_setQuotient 85 = .ok (.ifCond .ne 5, 3) := by decide +kernel
theorem dX6_setQuotient_88 : decode cX6_setQuotient 88 = .ok (.iconst 0, 1) := by decide +kernel
theorem dX6_setQuotient_89 : decode cX6_setQuotient 89 = .ok (.ireturn, 1) := by decide +kernel
theorem dX6_setQuotient_90 : decode cX6_setQuotient 90 = .ok (.iinc 4 1, 3) := by decide +kernel
theorem dX6_setQuotient_93 : decode cX6_setQuotient 93 = .ok (.goto (-85), 3) := by decide +kernel
theorem dX6_setQuotient_96 : decode cX6_setQuotient 96 = .ok (.iconst 1, 1) := by decide +kernel
theorem dX6_setQuotient_97 : decode cX6_setQuotient 97 = .ok (.ireturn, 1) := by decide +kernel
theorem dX6_timesFactor_0 : decode cX6_timesFactor 0 = .ok (.aload_n 0, 1) := by decide +kernel
theorem dX6_timesFactor_1 : decode cX6_timesFactor 1 = .ok (.getfield 15, 3) := by decide +kernel
theorem dX6_timesFactor_4 : decode cX6_timesFactor 4 = .ok (.iconst 1, 1) := by decide +kernel
theorem dX6_timesFactor_5 : decode cX6_timesFactor 5 = .ok (.isub, 1) := by decide +kernel
theorem dX6_timesFactor_6 : decode cX6_timesFactor 6 = .ok (.istore_n 2, 1) := by decide +kernel
theorem dX6_timesFactor_7 : decode cX6_timesFactor 7 = .ok (.iload_n 2, 1) := by decide +kernel
theorem dX6_timesFactor_8 : decode cX6_timesFactor 8 = .ok (.iload_n 1, 1) := by decide +kernel
theorem dX6_timesFactor_9 : decode cX6_timesFactor 9 = .ok (.if_icmp .lt 26, 3) := by decide +kernel
theorem dX6_timesFactor_12 : decode cX6_timesFactor 12 = .ok (.aload_n 0, 1) := by decide +kernel
theorem dX6_timesFactor_13 : decode cX6_timesFactor 13 = .ok (.getfield 9, 3) := by decide +kernel
theorem dX6_timesFactor_16 : decode cX6_timesFactor 16 = .ok (.iload_n 2, 1) := by decide +kernel
theorem dX6_timesFactor_17 : decode cX6_timesFactor 17 = .ok (.dup2, 1) := by decide +kernel
theorem dX6_timesFactor_18 : decode cX6_timesFactor 18 = .ok (.laload, 1) := by decide +kernel
theorem dX6_timesFactor_19 : decode cX6_timesFactor 19 = .ok (.aload_n 0, 1) := by decide +kernel
theorem dX6_timesFactor_20 : decode cX6_timesFactor 20 = .ok (.getfield 9, 3) := by decide +kernel
theorem dX6_timesFactor_23 : decode cX6_timesFactor 23 = .ok (.iload_n 2, 1) := by decide +kernel
theorem dX6_timesFactor_24 : decode cX6_timesFactor 24 = .ok (.iload_n 1, 1) := by decide +kernel
theorem dX6_timesFactor_25 : decode cX6_timesFactor 25 = .ok (.isub, 1) := by decide +kernel
theorem dX6_timesFactor_26 : decode cX6_timesFactor 26 = .ok (.laload, 1) := by decide +kernel
theorem dX6_timesFactor_27 : decode cX6_timesFactor 27 = .ok (.lsub, 1) := by decide +kernel
theorem dX6_timesFactor_28 : decode cX6_timesFactor 28 = .ok (.lastore, 1) := by decide +kernel
theorem dX6_timesFactor_29 : decode cX6_timesFactor 29 = .ok (.iinc 2 (-1), 3) := by decide +kernel
theorem dX6_timesFactor_32 : decode cX6_timesFactor 32 = .ok (.goto (-25), 3) := by decide +kernel
theorem dX6_timesFactor_35 : decode cX6_timesFactor 35 = .ok (.return_, 1) := by decide +kernel
theorem dX6_overFactor_0 : decode cX6_overFactor 0 = .ok (.iload_n 1, 1) := by decide +kernel
theorem dX6_overFactor_1 : decode cX6_overFactor 1 = .ok (.istore_n 2, 1) := by decide +kernel
theorem dX6_overFactor_2 : decode cX6_overFactor 2 = .ok (.iload_n 2, 1) := by decide +kernel
theorem dX6_overFactor_3 : decode cX6_overFactor 3 = .ok (.aload_n 0, 1) := by decide +kernel
theorem dX6_overFactor_4 : decode cX6_overFactor 4 = .ok (.getfield 15, 3) := by decide +kernel
theorem dX6_overFactor_7 : decode cX6_overFactor 7 = .ok (.if_icmp .ge 26, 3) := by decide +kernel
theorem dX6_overFactor_10 : decode cX6_overFactor 10 = .ok (.aload_n 0, 1) := by decide +kernel
theorem dX6_overFactor_11 : decode cX6_overFactor 11 = .ok (.getfield 9, 3) := by decide +kernel
theorem dX6_overFactor_14 : decode cX6_overFactor 14 = .ok (.iload_n 2, 1) := by decide +kernel
theorem dX6_overFactor_15 : decode cX6_overFactor 15 = .ok (.dup2, 1) := by decide +kernel
theorem dX6_overFactor_16 : decode cX6_overFactor 16 = .ok (.laload, 1) := by decide +kernel
theorem dX6_overFactor_17 : decode cX6_overFactor 17 = .ok (.aload_n 0, 1) := by decide +kernel
theorem dX6_overFactor_18 : decode cX6_overFactor 18 = .ok (.getfield 9, 3) := by decide +kernel
theorem dX6_overFactor_21 : decode cX6_overFactor 21 = .ok (.iload_n 2, 1) := by decide +kernel
theorem dX6_overFactor_22 : decode cX6_overFactor 22 = .ok (.iload_n 1, 1) := by decide +kernel
theorem dX6_overFactor_23 : decode cX6_overFactor 23 = .ok (.isub, 1) := by decide +kernel
theorem dX6_overFactor_24 : decode cX6_overFactor 24 = .ok (.laload, 1) := by decide +kernel
theorem dX6_overFactor_25 : decode cX6_overFactor 25 = .ok (.ladd, 1) := by decide +kernel
theorem dX6_overFactor_26 : decode cX6_overFactor 26 = .ok (.lastore, 1) := by decide +kernel
theorem dX6_overFactor_27 : decode cX6_overFactor 27 = .ok (.iinc 2 1, 3) := by decide +kernel
theorem dX6_overFactor_30 : decode cX6_overFactor 30 = .ok (.goto (-28), 3) := by decide +kernel
theorem dX6_overFactor_33 : decode cX6_overFactor 33 = .ok (.return_, 1) := by decide +kernel
theorem dX6_timesFactorToThe_0 : decode cX6_timesFactorToThe 0 = .ok (.iconst 0, 1) := by decide +kernel
theorem dX6_timesFactorToThe_1 : decode cX6_timesFactorToThe 1 = .ok (.istore_n 3, 1) := by decide +kernel
theorem dX6_timesFactorToThe_2 : decode cX6_timesFactorToThe 2 = .ok (.iload_n 3, 1) := by decide +kernel
theorem dX6_timesFactorToThe_3 : decode cX6_timesFactorToThe 3 = .ok (.iload_n 2, 1) := by decide +kernel
theorem dX6_timesFactorToThe_4 : decode cX6_timesFactorToThe 4 = .ok (.if_icmp .ge 14, 3) := by decide +kernel
theorem dX6_timesFactorToThe_7 : decode cX6_timesFactorToThe 7 = .ok (.aload_n 0, 1) := by decide +kernel
theorem dX6_timesFactorToThe_8 : decode cX6_timesFactorToThe 8 = .ok (.iload_n 1, 1) := by decide +kernel
theorem dX6_timesFactorToThe_9 : decode cX6_timesFactorToThe 9 = .ok (.invokevirtual 33, 3) := by decide +kernel
theorem dX6_timesFactorToThe_12 : decode cX6_timesFactorToThe 12 = .ok (.iinc 3 1, 3) := by decide +kernel
theorem dX6_timesFactorToThe_15 : decode cX6_timesFactorToThe 15 = .ok (.goto (-13), 3) := by decide +kernel
theorem dX6_timesFactorToThe_18 : decode cX6_timesFactorToThe 18 = .ok (.iconst 0, 1) := by decide +kernel
theorem dX6_timesFactorToThe_19 : decode cX6_timesFactorToThe 19 = .ok (.istore_n 3, 1) := by decide +kernel
theorem dX6_timesFactorToThe_20 : decode cX6_timesFactorToThe 20 = .ok (.iload_n 3, 1) := by decide +kernel
theorem dX6_timesFactorToThe_21 : decode cX6_timesFactorToThe 21 = .ok (.iload_n 2, 1) := by decide +kernel
theorem dX6_timesFactorToThe_22 : decode cX6_timesFactorToThe 22 = .ok (.if_icmp .le 14, 3) := by decide +kernel
theorem dX6_timesFactorToThe_25 : decode cX6_timesFactorToThe 25 = .ok (.aload_n 0, 1) := by decide +kernel
theorem dX6_timesFactorToThe_26 : decode cX6_timesFactorToThe 26 = .ok (.iload_n 1, 1) := by decide +kernel
theorem dX6_timesFactorToThe_27 : decode cX6_timesFactorToThe 27 = .ok (.invokevirtual 36, 3) := by decide +kernel
theorem dX6_timesFactorToThe_30 : decode cX6_timesFactorToThe 30 = .ok (.iinc 3 (-1), 3) := by decide +kernel
theorem dX6_timesFactorToThe_33 : decode cX6_timesFactorToThe 33 = .ok (.goto (-13), 3) := by decide +kernel
theorem dX6_timesFactorToThe_36 : decode cX6_timesFactorToThe 36 = .ok (.return_, 1) := by decide +kernel
theorem dX6_timesFactors_0 : decode cX6_timesFactors 0 = .ok (.iconst 0, 1) := by decide +kernel
theorem dX6_timesFactors_1 : decode cX6_timesFactors 1 = .ok (.istore_n 3, 1) := by decide +kernel
theorem dX6_timesFactors_2 : decode cX6_timesFactors 2 = .ok (.iload_n 3, 1) := by decide +kernel
theorem dX6_timesFactors_3 : decode cX6_timesFactors 3 = .ok (.iload_n 2, 1) := by decide +kernel
theorem dX6_timesFactors_4 : decode cX6_timesFactors 4 = .ok (.if_icmp .ge 16, 3) := by decide +kernel
theorem dX6_timesFactors_7 : decode cX6_timesFactors 7 = .ok (.aload_n 0, 1) := by decide +kernel
theorem dX6_timesFactors_8 : decode cX6_timesFactors 8 = .ok (.iload_n 1, 1) := by decide +kernel
theorem dX6_timesFactors_9 : decode cX6_timesFactors 9 = .ok (.iload_n 3, 1) := by decide +kernel
theorem dX6_timesFactors_10 : decode cX6_timesFactors 10 = .ok (.iadd, 1) := by decide +kernel
theorem dX6_timesFactors_11 : decode cX6_timesFactors 11 = .ok (.invokevirtual 33, 3) := by decide +kernel
theorem dX6_timesFactors_14 : decode cX6_timesFactors 14 = .ok (.iinc 3 1, 3) := by decide +kernel
theorem dX6_timesFactors_17 : decode cX6_timesFactors 17 = .ok (.goto (-15), 3) := by decide +kernel
theorem dX6_timesFactors_20 : decode cX6_timesFactors 20 = .ok (.return_, 1) := by decide +kernel
theorem dX6_overFactors_0 : decode cX6_overFactors 0 = .ok (.iconst 0, 1) := by decide +kernel
theorem dX6_overFactors_1 : decode cX6_overFactors 1 = .ok (.istore_n 3, 1) := by decide +kernel
theorem dX6_overFactors_2 : decode cX6_overFactors 2 = .ok (.iload_n 3, 1) := by decide +kernel
theorem dX6_overFactors_3 : decode cX6_overFactors 3 = .ok (.iload_n 2, 1) := by decide +kernel
theorem dX6_overFactors_4 : decode cX6_overFactors 4 = .ok (.if_icmp .ge 16, 3) := by decide +kernel
theorem dX6_overFactors_7 : decode cX6_overFactors 7 = .ok (.aload_n 0, 1) := by decide +kernel
theorem dX6_overFactors_8 : decode cX6_overFactors 8 = .ok (.iload_n 1, 1) := by decide +kernel
theorem dX6_overFactors_9 : decode cX6_overFactors 9 = .ok (.iload_n 3, 1) := by decide +kernel
theorem dX6_overFactors_10 : decode cX6_overFactors 10 = .ok (.iadd, 1) := by decide +kernel
theorem dX6_overFactors_11 : decode cX6_overFactors 11 = .ok (.invokevirtual 36, 3) := by decide +kernel
theorem dX6_overFactors_14 : decode cX6_overFactors 14 = .ok (.iinc 3 1, 3) := by decide +kernel
theorem dX6_overFactors_17 : decode cX6_overFactors 17 = .ok (.goto (-15), 3) := by decide +kernel
theorem dX6_overFactors_20 : decode cX6_overFactors 20 = .ok (.return_, 1) := by decide +kernel
theorem dX6_fits_0 : decode cX6_fits 0 = .ok (.iconst 0, 1) := by decide +kernel
theorem dX6_fits_1 : decode cX6_fits 1 = .ok (.istore_n 1, 1) := by decide +kernel
theorem dX6_fits_2 : decode cX6_fits 2 = .ok (.iload_n 1, 1) := by decide +kernel
theorem dX6_fits_3 : decode cX6_fits 3 = .ok (.aload_n 0, 1) := by decide +kernel
theorem dX6_fits_4 : decode cX6_fits 4 = .ok (.getfield 15, 3) := by decide +kernel
theorem dX6_fits_7 : decode cX6_fits 7 = .ok (.if_icmp .ge 23, 3) := by decide +kernel
theorem dX6_fits_10 : decode cX6_fits 10 = .ok (.aload_n 0, 1) := by decide +kernel
theorem dX6_fits_11 : decode cX6_fits 11 = .ok (.getfield 9, 3) := by decide +kernel
theorem dX6_fits_14 : decode cX6_fits 14 = .ok (.iload_n 1, 1) := by decide +kernel
theorem dX6_fits_15 : decode cX6_fits 15 = .ok (.laload, 1) := by decide +kernel
theorem dX6_fits_16 : decode cX6_fits 16 = .ok (.invokestatic 29, 3) := by decide +kernel
theorem dX6_fits_19 : decode cX6_fits 19 = .ok (.ifCond .ne 5, 3) := by decide +kernel
theorem dX6_fits_22 : decode cX6_fits 22 = .ok (.iconst 0, 1) := by decide +kernel
theorem dX6_fits_23 : decode cX6_fits 23 = .ok (.ireturn, 1) := by decide +kernel
theorem dX6_fits_24 : decode cX6_fits 24 = .ok (.iinc 1 1, 3) := by decide +kernel
theorem dX6_fits_27 : decode cX6_fits 27 = .ok (.goto (-25), 3) := by decide +kernel
theorem dX6_fits_30 : decode cX6_fits 30 = .ok (.iconst 1, 1) := by decide +kernel
theorem dX6_fits_31 : decode cX6_fits 31 = .ok (.ireturn, 1) := by decide +kernel
theorem dX6_isInRange_0 : decode cX6_isInRange 0 = .ok (.lload_n 0, 1) := by decide +kernel
theorem dX6_isInRange_1 : decode cX6_isInRange 1 = .ok (.ldc2_w 39, 3) := by decide +kernel
theorem dX6_isInRange_4 : decode cX6_isInRange 4 = .ok (.lcmp, 1) := by decide +kernel
theorem dX6_isInRange_5 : decode cX6_isInRange 5 = .ok (.ifCond .lt 15, 3) := by decide +kernel
theorem dX6_isInRange_8 : decode cX6_isInRange 8 = .ok (.lload_n 0, 1) := by decide +kernel
theorem dX6_isInRange_9 : decode cX6_isInRange 9 = .ok (.ldc2_w 41, 3) := by decide +kernel
theorem dX6_isInRange_12 : decode cX6_isInRange 12 = .ok (.lcmp, 1) := by decide +kernel
theorem dX6_isInRange_13 : decode cX6_isInRange 13 = .ok (.ifCond .gt 7, 3) := by decide +kernel
theorem dX6_isInRange_16 : decode cX6_isInRange 16 = .ok (.iconst 1, 1) := by decide +kernel
theorem dX6_isInRange_17 : decode cX6_isInRange 17 = .ok (.goto 4, 3) := by decide +kernel
theorem dX6_isInRange_20 : decode cX6_isInRange 20 = .ok (.iconst 0, 1) := by decide +kernel
theorem dX6_isInRange_21 : decode cX6_isInRange 21 = .ok (.ireturn, 1) := by decide +kernel
theorem dX6_writeTo_0 : decode cX6_writeTo 0 = .ok (.iconst 0, 1) := by decide +kernel
theorem dX6_writeTo_1 : decode cX6_writeTo 1 = .ok (.istore_n 2, 1) := by decide +kernel
theorem dX6_writeTo_2 : decode cX6_writeTo 2 = .ok (.iload_n 2, 1) := by decide +kernel
theorem dX6_writeTo_3 : decode cX6_writeTo 3 = .ok (.bipush 24, 2) := by decide +kernel
theorem dX6_writeTo_5 : decode cX6_writeTo 5 = .ok (.if_icmp .ge 31, 3) := by decide +kernel
theorem dX6_writeTo_8 : decode cX6_writeTo 8 = .ok (.aload_n 1, 1) := by decide +kernel
theorem dX6_writeTo_9 : decode cX6_writeTo 9 = .ok (.iload_n 2, 1) := by decide +kernel
theorem dX6_writeTo_10 : decode cX6_writeTo 10 = .ok (.iload_n 2, 1) := by decide +kernel
theorem dX6_writeTo_11 : decode cX6_writeTo 11 = .ok (.aload_n 0, 1) := by decide +kernel
theorem dX6_writeTo_12 : decode cX6_writeTo 12 = .ok (.getfield 15, 3) := by decide +kernel
theorem dX6_writeTo_15 : decode cX6_writeTo 15 = .ok (.if_icmp .ge 13, 3) := by decide +kernel
theorem dX6_writeTo_18 : decode cX6_writeTo 18 = .ok (.aload_n 0, 1) := by decide +kernel
theorem dX6_writeTo_19 : decode cX6_writeTo 19 = .ok (.getfield 9, 3) := by decide +kernel
theorem dX6_writeTo_22 : decode cX6_writeTo 22 = .ok (.iload_n 2, 1) := by decide +kernel
theorem dX6_writeTo_23 : decode cX6_writeTo 23 = .ok (.laload, 1) := by decide +kernel
theorem dX6_writeTo_24 : decode cX6_writeTo 24 = .ok (.l2i, 1) := by decide +kernel
theorem dX6_writeTo_25 : decode cX6_writeTo 25 = .ok (.goto 4, 3) := by decide +kernel
theorem dX6_writeTo_28 : decode cX6_writeTo 28 = .ok (.iconst 0, 1) := by decide +kernel
theorem dX6_writeTo_29 : decode cX6_writeTo 29 = .ok (.iastore, 1) := by decide +kernel
theorem dX6_writeTo_30 : decode cX6_writeTo 30 = .ok (.iinc 2 1, 3) := by decide +kernel
theorem dX6_writeTo_33 : decode cX6_writeTo 33 = .ok (.goto (-31), 3) := by decide +kernel
theorem dX6_writeTo_36 : decode cX6_writeTo 36 = .ok (.return_, 1) := by decide +kernel
