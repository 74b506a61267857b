theorem dJ0_charAt_5068e_0 : decode cJ0_charAt_5068e 0 = .ok (.aload_n 0, 1) := by decide +kernel
theorem dJ0_charAt_5068e_1 : decode cJ0_charAt_5068e 1 = .ok (.invokevirtual 492, 3) := by decide +kernel
theorem dJ0_charAt_5068e_4 : decode cJ0_charAt_5068e 4 = .ok (.ifCond .eq 12, 3) := by decide +kernel
theorem dJ0_charAt_5068e_7 : decode cJ0_charAt_5068e 7 = .ok (.aload_n 0, 1) := by decide +kernel
theorem dJ0_charAt_5068e_8 : decode cJ0_charAt_5068e 8 = .ok (.getfield 9, 3) := by decide +kernel
theorem dJ0_charAt_5068e_11 : decode cJ0_charAt_5068e 11 = .ok (.iload_n 1, 1) := by decide +kernel
theorem dJ0_charAt_5068e_12 : decode cJ0_charAt_5068e 12 = .ok (.invokestatic 495, 3) := by decide +kernel
theorem dJ0_charAt_5068e_15 : decode cJ0_charAt_5068e 15 = .ok (.ireturn, 1) := by decide +kernel
theorem dJ0_charAt_5068e_16 : decode cJ0_charAt_5068e 16 = .ok (.aload_n 0, 1) := by decide +kernel
theorem dJ0_charAt_5068e_17 : decode cJ0_charAt_5068e 17 = .ok (.getfield 9, 3) := by decide +kernel
theorem dJ0_charAt_5068e_20 : decode cJ0_charAt_5068e 20 = .ok (.iload_n 1, 1) := by decide +kernel
theorem dJ0_charAt_5068e_21 : decode cJ0_charAt_5068e 21 = .ok (.invokestatic 498, 3) := by decide +kernel
theorem dJ0_charAt_5068e_24 : decode cJ0_charAt_5068e 24 = .ok (.ireturn, 1) := by decide +kernel
theorem dJ0_checkBoundsBeginEnd_23922_0 : decode cJ0_checkBoundsBeginEnd_23922 0 = .ok (.iload_n 0, 1) := by decide +kernel
theorem dJ0_checkBoundsBeginEnd_23922_1 : decode cJ0_checkBoundsBeginEnd_23922 1 = .ok (.iload_n 1, 1) := by decide +kernel
theorem dJ0_checkBoundsBeginEnd_23922_2 : decode cJ0_checkBoundsBeginEnd_23922 2 = .ok (.iload_n 2, 1) := by decide +kernel
theorem dJ0_checkBoundsBeginEnd_23922_3 : decode cJ0_checkBoundsBeginEnd_23922 3 = .ok (.getstatic 1053, 3) := by decide +kernel
theorem dJ0_checkBoundsBeginEnd_23922_6 : decode cJ0_checkBoundsBeginEnd_23922 6 = .ok (.invokestatic 1062, 3) := by decide +kernel
theorem dJ0_checkBoundsBeginEnd_23922_9 : decode cJ0_checkBoundsBeginEnd_23922 9 = .ok (.pop, 1) := by decide +kernel
theorem dJ0_checkBoundsBeginEnd_23922_10 : decode cJ0_checkBoundsBeginEnd_23922 10 = .ok (.return_, 1) := by decide +kernel
theorem dJ0_checkIndex_df160_0 : decode cJ0_checkIndex_df160 0 = .ok (.iload_n 0, 1) := by decide +kernel
theorem dJ0_checkIndex_df160_1 : decode cJ0_checkIndex_df160 1 = .ok (.iload_n 1, 1) := by decide +kernel
theorem dJ0_checkIndex_df160_2 : decode cJ0_checkIndex_df160 2 = .ok (.getstatic 1053, 3) := by decide +kernel
theorem dJ0_checkIndex_df160_5 : decode cJ0_checkIndex_df160 5 = .ok (.invokestatic 1059, 3) := by decide +kernel
theorem dJ0_checkIndex_df160_8 : decode cJ0_checkIndex_df160 8 = .ok (.pop, 1) := by decide +kernel
theorem dJ0_checkIndex_df160_9 : decode cJ0_checkIndex_df160 9 = .ok (.return_, 1) := by decide +kernel
theorem dJ0_coder_7d493_0 : decode cJ0_coder_7d493 0 = .ok (.getstatic 38, 3) := by decide +kernel
theorem dJ0_coder_7d493_3 : decode cJ0_coder_7d493 3 = .ok (.ifCond .eq 10, 3) := by decide +kernel
theorem dJ0_coder_7d493_6 : decode cJ0_coder_7d493 6 = .ok (.aload_n 0, 1) := by decide +kernel
theorem dJ0_coder_7d493_7 : decode cJ0_coder_7d493 7 = .ok (.getfield 15, 3) := by decide +kernel
theorem dJ0_coder_7d493_10 : decode cJ0_coder_7d493 10 = .ok (.goto 4, 3) := by decide +kernel
theorem dJ0_coder_7d493_13 : decode cJ0_coder_7d493 13 = .ok (.iconst 1, 1) := by decide +kernel
theorem dJ0_coder_7d493_14 : decode cJ0_coder_7d493 14 = .ok (.ireturn, 1) := by decide +kernel
theorem dJ0_indexOf_0f7a4_0 : decode cJ0_indexOf_0f7a4 0 = .ok (.aload_n 0, 1) := by decide +kernel
theorem dJ0_indexOf_0f7a4_1 : decode cJ0_indexOf_0f7a4 1 = .ok (.iload_n 1, 1) := by decide +kernel
theorem dJ0_indexOf_0f7a4_2 : decode cJ0_indexOf_0f7a4 2 = .ok (.iconst 0, 1) := by decide +kernel
theorem dJ0_indexOf_0f7a4_3 : decode cJ0_indexOf_0f7a4 3 = .ok (.invokevirtual 633, 3) := by decide +kernel
theorem dJ0_indexOf_0f7a4_6 : decode cJ0_indexOf_0f7a4 6 = .ok (.ireturn, 1) := by decide +kernel
theorem dJ0_indexOf_7cf53_0 : decode cJ0_indexOf_7cf53 0 = .ok (.aload_n 0, 1) := by decide +kernel
theorem dJ0_indexOf_7cf53_1 : decode cJ0_indexOf_7cf53 1 = .ok (.invokevirtual 492, 3) := by decide +kernel
theorem dJ0_indexOf_7cf53_4 : decode cJ0_indexOf_7cf53 4 = .ok (.ifCond .eq 19, 3) := by decide +kernel
theorem dJ0_indexOf_7cf53_7 : decode cJ0_indexOf_7cf53 7 = .ok (.aload_n 0, 1) := by decide +kernel
theorem dJ0_indexOf_7cf53_8 : decode cJ0_indexOf_7cf53 8 = .ok (.getfield 9, 3) := by decide +kernel
theorem dJ0_indexOf_7cf53_11 : decode cJ0_indexOf_7cf53 11 = .ok (.iload_n 1, 1) := by decide +kernel
theorem dJ0_indexOf_7cf53_12 : decode cJ0_indexOf_7cf53 12 = .ok (.iload_n 2, 1) := by decide +kernel
theorem dJ0_indexOf_7cf53_13 : decode cJ0_indexOf_7cf53 13 = .ok (.aload_n 0, 1) := by decide +kernel
theorem dJ0_indexOf_7cf53_14 : decode cJ0_indexOf_7cf53 14 = .ok (.invokevirtual 505, 3) := by decide +kernel
theorem dJ0_indexOf_7cf53_17 : decode cJ0_indexOf_7cf53 17 = .ok (.invokestatic 637, 3) := by decide +kernel
theorem dJ0_indexOf_7cf53_20 : decode cJ0_indexOf_7cf53 20 = .ok (.goto 16, 3) := by decide +kernel
theorem dJ0_indexOf_7cf53_23 : decode cJ0_indexOf_7cf53 23 = .ok (.aload_n 0, 1) := by decide +kernel
theorem dJ0_indexOf_7cf53_24 : decode cJ0_indexOf_7cf53 24 = .ok (.getfield 9, 3) := by decide +kernel
theorem dJ0_indexOf_7cf53_27 : decode cJ0_indexOf_7cf53 27 = .ok (.iload_n 1, 1) := by decide +kernel
theorem dJ0_indexOf_7cf53_28 : decode cJ0_indexOf_7cf53 28 = .ok (.iload_n 2, 1) := by decide +kernel
theorem dJ0_indexOf_7cf53_29 : decode cJ0_indexOf_7cf53 29 = .ok (.aload_n 0, 1) := by decide +kernel
theorem dJ0_indexOf_7cf53_30 : decode cJ0_indexOf_7cf53 30 = .ok (.invokevirtual 505, 3) := by decide +kernel
theorem dJ0_indexOf_7cf53_33 : decode cJ0_indexOf_7cf53 33 = .ok (.invokestatic 640, 3) := by decide +kernel
theorem dJ0_indexOf_7cf53_36 : decode cJ0_indexOf_7cf53 36 = .ok (.ireturn, 1) := by decide +kernel
theorem dJ0_isLatin1_aae02_0 : decode cJ0_isLatin1_aae02 0 = .ok (.getstatic 38, 3) := by decide +kernel
theorem dJ0_isLatin1_aae02_3 : decode cJ0_isLatin1_aae02 3 = .ok (.ifCond .eq 14, 3) := by decide +kernel
theorem dJ0_isLatin1_aae02_6 : decode cJ0_isLatin1_aae02 6 = .ok (.aload_n 0, 1) := by decide +kernel
theorem dJ0_isLatin1_aae02_7 : decode cJ0_isLatin1_aae02 7 = .ok (.getfield 15, 3) := by decide +kernel
theorem dJ0_isLatin1_aae02_10 : decode cJ0_isLatin1_aae02 10 = .ok (.ifCond .ne 7, 3) := by decide +kernel
theorem dJ0_isLatin1_aae02_13 : decode cJ0_isLatin1_aae02 13 = .ok (.iconst 1, 1) := by decide +kernel
theorem dJ0_isLatin1_aae02_14 : decode cJ0_isLatin1_aae02 14 = .ok (.goto 4, 3) := by decide +kernel
theorem dJ0_isLatin1_aae02_17 : decode cJ0_isLatin1_aae02 17 = .ok (.iconst 0, 1) := by decide +kernel
theorem dJ0_isLatin1_aae02_18 : decode cJ0_isLatin1_aae02 18 = .ok (.ireturn, 1) := by decide +kernel
theorem dJ0_length_8abf5_0 : decode cJ0_length_8abf5 0 = .ok (.aload_n 0, 1) := by decide +kernel
theorem dJ0_length_8abf5_1 : decode cJ0_length_8abf5 1 = .ok (.getfield 9, 3) := by decide +kernel
theorem dJ0_length_8abf5_4 : decode cJ0_length_8abf5 4 = .ok (.arraylength, 1) := by decide +kernel
theorem dJ0_length_8abf5_5 : decode cJ0_length_8abf5 5 = .ok (.aload_n 0, 1) := by decide +kernel
theorem dJ0_length_8abf5_6 : decode cJ0_length_8abf5 6 = .ok (.invokevirtual 335, 3) := by decide +kernel
theorem dJ0_length_8abf5_9 : decode cJ0_length_8abf5 9 = .ok (.ishr, 1) := by decide +kernel
theorem dJ0_length_8abf5_10 : decode cJ0_length_8abf5 10 = .ok (.ireturn, 1) := by decide +kernel
theorem dJ11_highSurrogate_5068e_0 : decode cJ11_highSurrogate_5068e 0 = .ok (.iload_n 0, 1) := by decide +kernel
theorem dJ11_highSurrogate_5068e_1 : decode cJ11_highSurrogate_5068e 1 = .ok (.bipush 10, 2) := by decide +kernel
theorem dJ11_highSurrogate_5068e_3 : decode cJ11_highSurrogate_5068e 3 = .ok (.iushr, 1) := by decide +kernel
theorem dJ11_highSurrogate_5068e_4 : decode cJ11_highSurrogate_5068e 4 = .ok (.ldc 110, 2) := by decide +kernel
theorem dJ11_highSurrogate_5068e_6 : decode cJ11_highSurrogate_5068e 6 = .ok (.iadd, 1) := by decide +kernel
theorem dJ11_highSurrogate_5068e_7 : decode cJ11_highSurrogate_5068e 7 = .ok (.i2c, 1) := by decide +kernel
theorem dJ11_highSurrogate_5068e_8 : decode cJ11_highSurrogate_5068e 8 = .ok (.ireturn, 1) := by decide +kernel
theorem dJ11_isValidCodePoint_9a6ad_0 : decode cJ11_isValidCodePoint_9a6ad 0 = .ok (.iload_n 0, 1) := by decide +kernel
theorem dJ11_isValidCodePoint_9a6ad_1 : decode cJ11_isValidCodePoint_9a6ad 1 = .ok (.bipush 16, 2) := by decide +kernel
theorem dJ11_isValidCodePoint_9a6ad_3 : decode cJ11_isValidCodePoint_9a6ad 3 = .ok (.iushr, 1) := by decide +kernel
theorem dJ11_isValidCodePoint_9a6ad_4 : decode cJ11_isValidCodePoint_9a6ad 4 = .ok (.istore_n 1, 1) := by decide +kernel
theorem dJ11_isValidCodePoint_9a6ad_5 : decode cJ11_isValidCodePoint_9a6ad 5 = .ok (.iload_n 1, 1) := by decide +kernel
theorem dJ11_isValidCodePoint_9a6ad_6 : decode cJ11_isValidCodePoint_9a6ad 6 = .ok (.bipush 17, 2) := by decide +kernel
theorem dJ11_isValidCodePoint_9a6ad_8 : decode cJ11_isValidCodePoint_9a6ad 8 = .ok (.if_icmp .ge 7, 3) := by decide +kernel
theorem dJ11_isValidCodePoint_9a6ad_11 : decode cJ11_isValidCodePoint_9a6ad 11 = .ok (.iconst 1, 1) := by decide +kernel
theorem dJ11_isValidCodePoint_9a6ad_12 : decode cJ11_isValidCodePoint_9a6ad 12 = .ok (.goto 4, 3) := by decide +kernel
theorem dJ11_isValidCodePoint_9a6ad_15 : decode cJ11_isValidCodePoint_9a6ad 15 = .ok (.iconst 0, 1) := by decide +kernel
theorem dJ11_isValidCodePoint_9a6ad_16 : decode cJ11_isValidCodePoint_9a6ad 16 = .ok (.ireturn, 1) := by decide +kernel
theorem dJ11_lowSurrogate_5068e_0 : decode cJ11_lowSurrogate_5068e 0 = .ok (.iload_n 0, 1) := by decide +kernel
theorem dJ11_lowSurrogate_5068e_1 : decode cJ11_lowSurrogate_5068e 1 = .ok (.sipush 1023, 3) := by decide +kernel
theorem dJ11_lowSurrogate_5068e_4 : decode cJ11_lowSurrogate_5068e 4 = .ok (.iand, 1) := by decide +kernel
theorem dJ11_lowSurrogate_5068e_5 : decode cJ11_lowSurrogate_5068e 5 = .ok (.ldc 76, 2) := by decide +kernel
theorem dJ11_lowSurrogate_5068e_7 : decode cJ11_lowSurrogate_5068e 7 = .ok (.iadd, 1) := by decide +kernel
theorem dJ11_lowSurrogate_5068e_8 : decode cJ11_lowSurrogate_5068e 8 = .ok (.i2c, 1) := by decide +kernel
theorem dJ11_lowSurrogate_5068e_9 : decode cJ11_lowSurrogate_5068e 9 = .ok (.ireturn, 1) := by decide +kernel
theorem dJ1_canEncode_9a6ad_0 : decode cJ1_canEncode_9a6ad 0 = .ok (.iload_n 0, 1) := by decide +kernel
theorem dJ1_canEncode_9a6ad_1 : decode cJ1_canEncode_9a6ad 1 = .ok (.ifCond .lt 14, 3) := by decide +kernel
theorem dJ1_canEncode_9a6ad_4 : decode cJ1_canEncode_9a6ad 4 = .ok (.iload_n 0, 1) := by decide +kernel
theorem dJ1_canEncode_9a6ad_5 : decode cJ1_canEncode_9a6ad 5 = .ok (.sipush 255, 3) := by decide +kernel
theorem dJ1_canEncode_9a6ad_8 : decode cJ1_canEncode_9a6ad 8 = .ok (.if_icmp .gt 7, 3) := by decide +kernel
theorem dJ1_canEncode_9a6ad_11 : decode cJ1_canEncode_9a6ad 11 = .ok (.iconst 1, 1) := by decide +kernel
theorem dJ1_canEncode_9a6ad_12 : decode cJ1_canEncode_9a6ad 12 = .ok (.goto 4, 3) := by decide +kernel
theorem dJ1_canEncode_9a6ad_15 : decode cJ1_canEncode_9a6ad 15 = .ok (.iconst 0, 1) := by decide +kernel
theorem dJ1_canEncode_9a6ad_16 : decode cJ1_canEncode_9a6ad 16 = .ok (.ireturn, 1) := by decide +kernel
theorem dJ1_charAt_3b067_0 : decode cJ1_charAt_3b067 0 = .ok (.iload_n 1, 1) := by decide +kernel
theorem dJ1_charAt_3b067_1 : decode cJ1_charAt_3b067 1 = .ok (.aload_n 0, 1) := by decide +kernel
theorem dJ1_charAt_3b067_2 : decode cJ1_charAt_3b067 2 = .ok (.arraylength, 1) := by decide +kernel
theorem dJ1_charAt_3b067_3 : decode cJ1_charAt_3b067 3 = .ok (.invokestatic 9, 3) := by decide +kernel
theorem dJ1_charAt_3b067_6 : decode cJ1_charAt_3b067 6 = .ok (.aload_n 0, 1) := by decide +kernel
theorem dJ1_charAt_3b067_7 : decode cJ1_charAt_3b067 7 = .ok (.iload_n 1, 1) := by decide +kernel
theorem dJ1_charAt_3b067_8 : decode cJ1_charAt_3b067 8 = .ok (.baload, 1) := by decide +kernel
theorem dJ1_charAt_3b067_9 : decode cJ1_charAt_3b067 9 = .ok (.sipush 255, 3) := by decide +kernel
theorem dJ1_charAt_3b067_12 : decode cJ1_charAt_3b067 12 = .ok (.iand, 1) := by decide +kernel
theorem dJ1_charAt_3b067_13 : decode cJ1_charAt_3b067 13 = .ok (.i2c, 1) := by decide +kernel
theorem dJ1_charAt_3b067_14 : decode cJ1_charAt_3b067 14 = .ok (.ireturn, 1) := by decide +kernel
theorem dJ1_indexOfChar_4cfef_0 : decode cJ1_indexOfChar_4cfef 0 = .ok (.iload_n 1, 1) := by decide +kernel
theorem dJ1_indexOfChar_4cfef_1 : decode cJ1_indexOfChar_4cfef 1 = .ok (.i2b, 1) := by decide +kernel
theorem dJ1_indexOfChar_4cfef_2 : decode cJ1_indexOfChar_4cfef 2 = .ok (.istore 4, 2) := by decide +kernel
theorem dJ1_indexOfChar_4cfef_4 : decode cJ1_indexOfChar_4cfef 4 = .ok (.iload_n 2, 1) := by decide +kernel
theorem dJ1_indexOfChar_4cfef_5 : decode cJ1_indexOfChar_4cfef 5 = .ok (.istore 5, 2) := by decide +kernel
theorem dJ1_indexOfChar_4cfef_7 : decode cJ1_indexOfChar_4cfef 7 = .ok (.iload 5, 2) := by decide +kernel
theorem dJ1_indexOfChar_4cfef_9 : decode cJ1_indexOfChar_4cfef 9 = .ok (.iload_n 3, 1) := by decide +kernel
theorem dJ1_indexOfChar_4cfef_10 : decode cJ1_indexOfChar_4cfef 10 = .ok (.if_icmp .ge 21, 3) := by decide +kernel
theorem dJ1_indexOfChar_4cfef_13 : decode cJ1_indexOfChar_4cfef 13 = .ok (.aload_n 0, 1) := by decide +kernel
theorem dJ1_indexOfChar_4cfef_14 : decode cJ1_indexOfChar_4cfef 14 = .ok (.iload 5, 2) := by decide +kernel
theorem dJ1_indexOfChar_4cfef_16 : decode cJ1_indexOfChar_4cfef 16 = .ok (.baload, 1) := by decide +kernel
theorem dJ1_indexOfChar_4cfef_17 : decode cJ1_indexOfChar_4cfef 17 = .ok (.iload 4, 2) := by decide +kernel
theorem dJ1_indexOfChar_4cfef_19 : decode cJ1_indexOfChar_4cfef 19 = .ok (.if_icmp .ne 6, 3) := by decide +kernel
theorem dJ1_indexOfChar_4cfef_22 : decode cJ1_indexOfChar_4cfef 22 = .ok (.iload 5, 2) := by decide +kernel
theorem dJ1_indexOfChar_4cfef_24 : decode cJ1_indexOfChar_4cfef 24 = .ok (.ireturn, 1) := by decide +kernel
theorem dJ1_indexOfChar_4cfef_25 : decode cJ1_indexOfChar_4cfef 25 = .ok (.iinc 5 1, 3) := by decide +kernel
theorem dJ1_indexOfChar_4cfef_28 : decode cJ1_indexOfChar_4cfef 28 = .ok (.goto (-21), 3) := by decide +kernel
theorem dJ1_indexOfChar_4cfef_31 : decode cJ1_indexOfChar_4cfef 31 = .ok (.iconst (-1), 1) := by decide +kernel
theorem dJ1_indexOfChar_4cfef_32 : decode cJ1_indexOfChar_4cfef 32 = .ok (.ireturn, 1) := by decide +kernel
theorem dJ1_indexOf_4cfef_0 : decode cJ1_indexOf_4cfef 0 = .ok (.iload_n 1, 1) := by decide +kernel
theorem dJ1_indexOf_4cfef_1 : decode cJ1_indexOf_4cfef 1 = .ok (.invokestatic 88, 3) := by decide +kernel
theorem dJ1_indexOf_4cfef_4 : decode cJ1_indexOf_4cfef 4 = .ok (.ifCond .ne 5, 3) := by decide +kernel
theorem dJ1_indexOf_4cfef_7 : decode cJ1_indexOf_4cfef 7 = .ok (.iconst (-1), 1) := by decide +kernel
theorem dJ1_indexOf_4cfef_8 : decode cJ1_indexOf_4cfef 8 = .ok (.ireturn, 1) := by decide +kernel
theorem dJ1_indexOf_4cfef_9 : decode cJ1_indexOf_4cfef 9 = .ok (.iload_n 2, 1) := by decide +kernel
theorem dJ1_indexOf_4cfef_10 : decode cJ1_indexOf_4cfef 10 = .ok (.iconst 0, 1) := by decide +kernel
theorem dJ1_indexOf_4cfef_11 : decode cJ1_indexOf_4cfef 11 = .ok (.invokestatic 92, 3) := by decide +kernel
theorem dJ1_indexOf_4cfef_14 : decode cJ1_indexOf_4cfef 14 = .ok (.istore_n 2, 1) := by decide +kernel
theorem dJ1_indexOf_4cfef_15 : decode cJ1_indexOf_4cfef 15 = .ok (.iload_n 3, 1) := by decide +kernel
theorem dJ1_indexOf_4cfef_16 : decode cJ1_indexOf_4cfef 16 = .ok (.aload_n 0, 1) := by decide +kernel
theorem dJ1_indexOf_4cfef_17 : decode cJ1_indexOf_4cfef 17 = .ok (.arraylength, 1) := by decide +kernel
theorem dJ1_indexOf_4cfef_18 : decode cJ1_indexOf_4cfef 18 = .ok (.invokestatic 38, 3) := by decide +kernel
theorem dJ1_indexOf_4cfef_21 : decode cJ1_indexOf_4cfef 21 = .ok (.istore_n 3, 1) := by decide +kernel
theorem dJ1_indexOf_4cfef_22 : decode cJ1_indexOf_4cfef 22 = .ok (.iload_n 2, 1) := by decide +kernel
theorem dJ1_indexOf_4cfef_23 : decode cJ1_indexOf_4cfef 23 = .ok (.iload_n 3, 1) := by decide +kernel
theorem dJ1_indexOf_4cfef_24 : decode cJ1_indexOf_4cfef 24 = .ok (.if_icmp .lt 5, 3) := by decide +kernel
theorem dJ1_indexOf_4cfef_27 : decode cJ1_indexOf_4cfef 27 = .ok (.iconst (-1), 1) := by decide +kernel
theorem dJ1_indexOf_4cfef_28 : decode cJ1_indexOf_4cfef 28 = .ok (.ireturn, 1) := by decide +kernel
theorem dJ1_indexOf_4cfef_29 : decode cJ1_indexOf_4cfef 29 = .ok (.aload_n 0, 1) := by decide +kernel
theorem dJ1_indexOf_4cfef_30 : decode cJ1_indexOf_4cfef 30 = .ok (.iload_n 1, 1) := by decide +kernel
theorem dJ1_indexOf_4cfef_31 : decode cJ1_indexOf_4cfef 31 = .ok (.iload_n 2, 1) := by decide +kernel
theorem dJ1_indexOf_4cfef_32 : decode cJ1_indexOf_4cfef 32 = .ok (.iload_n 3, 1) := by decide +kernel
theorem dJ1_indexOf_4cfef_33 : decode cJ1_indexOf_4cfef 33 = .ok (.invokestatic 95, 3) := by decide +kernel
theorem dJ1_indexOf_4cfef_36 : decode cJ1_indexOf_4cfef 36 = .ok (.ireturn, 1) := by decide +kernel
theorem dJ2_charAt_3b067_0 : decode cJ2_charAt_3b067 0 = .ok (.iload_n 1, 1) := by decide +kernel
theorem dJ2_charAt_3b067_1 : decode cJ2_charAt_3b067 1 = .ok (.aload_n 0, 1) := by decide +kernel
theorem dJ2_charAt_3b067_2 : decode cJ2_charAt_3b067 2 = .ok (.invokestatic 67, 3) := by decide +kernel
theorem dJ2_charAt_3b067_5 : decode cJ2_charAt_3b067 5 = .ok (.aload_n 0, 1) := by decide +kernel
theorem dJ2_charAt_3b067_6 : decode cJ2_charAt_3b067 6 = .ok (.iload_n 1, 1) := by decide +kernel
theorem dJ2_charAt_3b067_7 : decode cJ2_charAt_3b067 7 = .ok (.invokestatic 71, 3) := by decide +kernel
theorem dJ2_charAt_3b067_10 : decode cJ2_charAt_3b067 10 = .ok (.ireturn, 1) := by decide +kernel
theorem dJ2_checkBoundsBeginEnd_d044e_0 : decode cJ2_checkBoundsBeginEnd_d044e 0 = .ok (.iload_n 0, 1) := by decide +kernel
theorem dJ2_checkBoundsBeginEnd_d044e_1 : decode cJ2_checkBoundsBeginEnd_d044e 1 = .ok (.iload_n 1, 1) := by decide +kernel
theorem dJ2_checkBoundsBeginEnd_d044e_2 : decode cJ2_checkBoundsBeginEnd_d044e 2 = .ok (.aload_n 2, 1) := by decide +kernel
theorem dJ2_checkBoundsBeginEnd_d044e_3 : decode cJ2_checkBoundsBeginEnd_d044e 3 = .ok (.invokestatic 48, 3) := by decide +kernel
theorem dJ2_checkBoundsBeginEnd_d044e_6 : decode cJ2_checkBoundsBeginEnd_d044e 6 = .ok (.invokestatic 241, 3) := by decide +kernel
theorem dJ2_checkBoundsBeginEnd_d044e_9 : decode cJ2_checkBoundsBeginEnd_d044e 9 = .ok (.return_, 1) := by decide +kernel
theorem dJ2_checkIndex_2214a_0 : decode cJ2_checkIndex_2214a 0 = .ok (.iload_n 0, 1) := by decide +kernel
theorem dJ2_checkIndex_2214a_1 : decode cJ2_checkIndex_2214a 1 = .ok (.aload_n 1, 1) := by decide +kernel
theorem dJ2_checkIndex_2214a_2 : decode cJ2_checkIndex_2214a 2 = .ok (.invokestatic 48, 3) := by decide +kernel
theorem dJ2_checkIndex_2214a_5 : decode cJ2_checkIndex_2214a 5 = .ok (.invokestatic 414, 3) := by decide +kernel
theorem dJ2_checkIndex_2214a_8 : decode cJ2_checkIndex_2214a 8 = .ok (.return_, 1) := by decide +kernel
theorem dJ2_getChar_3b067_0 : decode cJ2_getChar_3b067 0 = .ok (.getstatic 44, 3) := by decide +kernel
theorem dJ2_getChar_3b067_3 : decode cJ2_getChar_3b067 3 = .ok (.ifCond .ne 25, 3) := by decide +kernel
theorem dJ2_getChar_3b067_6 : decode cJ2_getChar_3b067 6 = .ok (.iload_n 1, 1) := by decide +kernel
theorem dJ2_getChar_3b067_7 : decode cJ2_getChar_3b067 7 = .ok (.ifCond .lt 11, 3) := by decide +kernel
theorem dJ2_getChar_3b067_10 : decode cJ2_getChar_3b067 10 = .ok (.iload_n 1, 1) := by decide +kernel
theorem dJ2_getChar_3b067_11 : decode cJ2_getChar_3b067 11 = .ok (.aload_n 0, 1) := by decide +kernel
theorem dJ2_getChar_3b067_12 : decode cJ2_getChar_3b067 12 = .ok (.invokestatic 48, 3) := by decide +kernel
theorem dJ2_getChar_3b067_15 : decode cJ2_getChar_3b067 15 = .ok (.if_icmp .lt 13, 3) := by decide +kernel
theorem dJ2_getChar_3b067_18 : decode cJ2_getChar_3b067 18 = .ok (.new 52, 3) := by decide +kernel
theorem dJ2_getChar_3b067_21 : decode cJ2_getChar_3b067 21 = .ok (.dup, 1) := by decide +kernel
theorem dJ2_getChar_3b067_22 : decode cJ2_getChar_3b067 22 = .ok (.ldc 54, 2) := by decide +kernel
theorem dJ2_getChar_3b067_24 : decode cJ2_getChar_3b067 24 = .ok (.invokespecial 56, 3) := by decide +kernel
theorem dJ2_getChar_3b067_27 : decode cJ2_getChar_3b067 27 = .ok (.athrow, 1) := by decide +kernel
theorem dJ2_getChar_3b067_28 : decode cJ2_getChar_3b067 28 = .ok (.iload_n 1, 1) := by decide +kernel
theorem dJ2_getChar_3b067_29 : decode cJ2_getChar_3b067 29 = .ok (.iconst 1, 1) := by decide +kernel
theorem dJ2_getChar_3b067_30 : decode cJ2_getChar_3b067 30 = .ok (.ishl, 1) := by decide +kernel
theorem dJ2_getChar_3b067_31 : decode cJ2_getChar_3b067 31 = .ok (.istore_n 1, 1) := by decide +kernel
theorem dJ2_getChar_3b067_32 : decode cJ2_getChar_3b067 32 = .ok (.aload_n 0, 1) := by decide +kernel
theorem dJ2_getChar_3b067_33 : decode cJ2_getChar_3b067 33 = .ok (.iload_n 1, 1) := by decide +kernel
theorem dJ2_getChar_3b067_34 : decode cJ2_getChar_3b067 34 = .ok (.iinc 1 1, 3) := by decide +kernel
theorem dJ2_getChar_3b067_37 : decode cJ2_getChar_3b067 37 = .ok (.baload, 1) := by decide +kernel
theorem dJ2_getChar_3b067_38 : decode cJ2_getChar_3b067 38 = .ok (.sipush 255, 3) := by decide +kernel
theorem dJ2_getChar_3b067_41 : decode cJ2_getChar_3b067 41 = .ok (.iand, 1) := by decide +kernel
theorem dJ2_getChar_3b067_42 : decode cJ2_getChar_3b067 42 = .ok (.getstatic 59, 3) := by decide +kernel
theorem dJ2_getChar_3b067_45 : decode cJ2_getChar_3b067 45 = .ok (.ishl, 1) := by decide +kernel
theorem dJ2_getChar_3b067_46 : decode cJ2_getChar_3b067 46 = .ok (.aload_n 0, 1) := by decide +kernel
theorem dJ2_getChar_3b067_47 : decode cJ2_getChar_3b067 47 = .ok (.iload_n 1, 1) := by decide +kernel
theorem dJ2_getChar_3b067_48 : decode cJ2_getChar_3b067 48 = .ok (.baload, 1) := by decide +kernel
theorem dJ2_getChar_3b067_49 : decode cJ2_getChar_3b067 49 = .ok (.sipush 255, 3) := by decide +kernel
theorem dJ2_getChar_3b067_52 : decode cJ2_getChar_3b067 52 = .ok (.iand, 1) := by decide +kernel
theorem dJ2_getChar_3b067_53 : decode cJ2_getChar_3b067 53 = .ok (.getstatic 63, 3) := by decide +kernel
theorem dJ2_getChar_3b067_56 : decode cJ2_getChar_3b067 56 = .ok (.ishl, 1) := by decide +kernel
theorem dJ2_getChar_3b067_57 : decode cJ2_getChar_3b067 57 = .ok (.ior, 1) := by decide +kernel
theorem dJ2_getChar_3b067_58 : decode cJ2_getChar_3b067 58 = .ok (.i2c, 1) := by decide +kernel
theorem dJ2_getChar_3b067_59 : decode cJ2_getChar_3b067 59 = .ok (.ireturn, 1) := by decide +kernel
theorem dJ2_indexOfCharUnsafe_4cfef_0 : decode cJ2_indexOfCharUnsafe_4cfef 0 = .ok (.iload_n 2, 1) := by decide +kernel
theorem dJ2_indexOfCharUnsafe_4cfef_1 : decode cJ2_indexOfCharUnsafe_4cfef 1 = .ok (.istore 4, 2) := by decide +kernel
theorem dJ2_indexOfCharUnsafe_4cfef_3 : decode cJ2_indexOfCharUnsafe_4cfef 3 = .ok (.iload 4, 2) := by decide +kernel
theorem dJ2_indexOfCharUnsafe_4cfef_5 : decode cJ2_indexOfCharUnsafe_4cfef 5 = .ok (.iload_n 3, 1) := by decide +kernel
theorem dJ2_indexOfCharUnsafe_4cfef_6 : decode cJ2_indexOfCharUnsafe_4cfef 6 = .ok (.if_icmp .ge 22, 3) := by decide +kernel
theorem dJ2_indexOfCharUnsafe_4cfef_9 : decode cJ2_indexOfCharUnsafe_4cfef 9 = .ok (.aload_n 0, 1) := by decide +kernel
theorem dJ2_indexOfCharUnsafe_4cfef_10 : decode cJ2_indexOfCharUnsafe_4cfef 10 = .ok (.iload 4, 2) := by decide +kernel
theorem dJ2_indexOfCharUnsafe_4cfef_12 : decode cJ2_indexOfCharUnsafe_4cfef 12 = .ok (.invokestatic 71, 3) := by decide +kernel
theorem dJ2_indexOfCharUnsafe_4cfef_15 : decode cJ2_indexOfCharUnsafe_4cfef 15 = .ok (.iload_n 1, 1) := by decide +kernel
theorem dJ2_indexOfCharUnsafe_4cfef_16 : decode cJ2_indexOfCharUnsafe_4cfef 16 = .ok (.if_icmp .ne 6, 3) := by decide +kernel
theorem dJ2_indexOfCharUnsafe_4cfef_19 : decode cJ2_indexOfCharUnsafe_4cfef 19 = .ok (.iload 4, 2) := by decide +kernel
theorem dJ2_indexOfCharUnsafe_4cfef_21 : decode cJ2_indexOfCharUnsafe_4cfef 21 = .ok (.ireturn, 1) := by decide +kernel
theorem dJ2_indexOfCharUnsafe_4cfef_22 : decode cJ2_indexOfCharUnsafe_4cfef 22 = .ok (.iinc 4 1, 3) := by decide +kernel
theorem dJ2_indexOfCharUnsafe_4cfef_25 : decode cJ2_indexOfCharUnsafe_4cfef 25 = .ok (.goto (-22), 3) := by decide +kernel
theorem dJ2_indexOfCharUnsafe_4cfef_28 : decode cJ2_indexOfCharUnsafe_4cfef 28 = .ok (.iconst (-1), 1) := by decide +kernel
theorem dJ2_indexOfCharUnsafe_4cfef_29 : decode cJ2_indexOfCharUnsafe_4cfef 29 = .ok (.ireturn, 1) := by decide +kernel
theorem dJ2_indexOfChar_4cfef_0 : decode cJ2_indexOfChar_4cfef 0 = .ok (.iload_n 2, 1) := by decide +kernel
theorem dJ2_indexOfChar_4cfef_1 : decode cJ2_indexOfChar_4cfef 1 = .ok (.iload_n 3, 1) := by decide +kernel
theorem dJ2_indexOfChar_4cfef_2 : decode cJ2_indexOfChar_4cfef 2 = .ok (.aload_n 0, 1) := by decide +kernel
theorem dJ2_indexOfChar_4cfef_3 : decode cJ2_indexOfChar_4cfef 3 = .ok (.invokestatic 96, 3) := by decide +kernel
theorem dJ2_indexOfChar_4cfef_6 : decode cJ2_indexOfChar_4cfef 6 = .ok (.aload_n 0, 1) := by decide +kernel
theorem dJ2_indexOfChar_4cfef_7 : decode cJ2_indexOfChar_4cfef 7 = .ok (.iload_n 1, 1) := by decide +kernel
theorem dJ2_indexOfChar_4cfef_8 : decode cJ2_indexOfChar_4cfef 8 = .ok (.iload_n 2, 1) := by decide +kernel
theorem dJ2_indexOfChar_4cfef_9 : decode cJ2_indexOfChar_4cfef 9 = .ok (.iload_n 3, 1) := by decide +kernel
theorem dJ2_indexOfChar_4cfef_10 : decode cJ2_indexOfChar_4cfef 10 = .ok (.invokestatic 244, 3) := by decide +kernel
theorem dJ2_indexOfChar_4cfef_13 : decode cJ2_indexOfChar_4cfef 13 = .ok (.ireturn, 1) := by decide +kernel
theorem dJ2_indexOfSupplementary_4cfef_0 : decode cJ2_indexOfSupplementary_4cfef 0 = .ok (.iload_n 1, 1) := by decide +kernel
theorem dJ2_indexOfSupplementary_4cfef_1 : decode cJ2_indexOfSupplementary_4cfef 1 = .ok (.invokestatic 164, 3) := by decide +kernel
theorem dJ2_indexOfSupplementary_4cfef_4 : decode cJ2_indexOfSupplementary_4cfef 4 = .ok (.ifCond .eq 65, 3) := by decide +kernel
theorem dJ2_indexOfSupplementary_4cfef_7 : decode cJ2_indexOfSupplementary_4cfef 7 = .ok (.iload_n 1, 1) := by decide +kernel
theorem dJ2_indexOfSupplementary_4cfef_8 : decode cJ2_indexOfSupplementary_4cfef 8 = .ok (.invokestatic 157, 3) := by decide +kernel
theorem dJ2_indexOfSupplementary_4cfef_11 : decode cJ2_indexOfSupplementary_4cfef 11 = .ok (.istore 4, 2) := by decide +kernel
theorem dJ2_indexOfSupplementary_4cfef_13 : decode cJ2_indexOfSupplementary_4cfef 13 = .ok (.iload_n 1, 1) := by decide +kernel
theorem dJ2_indexOfSupplementary_4cfef_14 : decode cJ2_indexOfSupplementary_4cfef 14 = .ok (.invokestatic 161, 3) := by decide +kernel
theorem dJ2_indexOfSupplementary_4cfef_17 : decode cJ2_indexOfSupplementary_4cfef 17 = .ok (.istore 5, 2) := by decide +kernel
theorem dJ2_indexOfSupplementary_4cfef_19 : decode cJ2_indexOfSupplementary_4cfef 19 = .ok (.iload_n 2, 1) := by decide +kernel
theorem dJ2_indexOfSupplementary_4cfef_20 : decode cJ2_indexOfSupplementary_4cfef 20 = .ok (.iload_n 3, 1) := by decide +kernel
theorem dJ2_indexOfSupplementary_4cfef_21 : decode cJ2_indexOfSupplementary_4cfef 21 = .ok (.aload_n 0, 1) := by decide +kernel
theorem dJ2_indexOfSupplementary_4cfef_22 : decode cJ2_indexOfSupplementary_4cfef 22 = .ok (.invokestatic 96, 3) := by decide +kernel
theorem dJ2_indexOfSupplementary_4cfef_25 : decode cJ2_indexOfSupplementary_4cfef 25 = .ok (.iload_n 2, 1) := by decide +kernel
theorem dJ2_indexOfSupplementary_4cfef_26 : decode cJ2_indexOfSupplementary_4cfef 26 = .ok (.istore 6, 2) := by decide +kernel
theorem dJ2_indexOfSupplementary_4cfef_28 : decode cJ2_indexOfSupplementary_4cfef 28 = .ok (.iload 6, 2) := by decide +kernel
theorem dJ2_indexOfSupplementary_4cfef_30 : decode cJ2_indexOfSupplementary_4cfef 30 = .ok (.iload_n 3, 1) := by decide +kernel
theorem dJ2_indexOfSupplementary_4cfef_31 : decode cJ2_indexOfSupplementary_4cfef 31 = .ok (.iconst 1, 1) := by decide +kernel
theorem dJ2_indexOfSupplementary_4cfef_32 : decode cJ2_indexOfSupplementary_4cfef 32 = .ok (.isub, 1) := by decide +kernel
theorem dJ2_indexOfSupplementary_4cfef_33 : decode cJ2_indexOfSupplementary_4cfef 33 = .ok (.if_icmp .ge 36, 3) := by decide +kernel
theorem dJ2_indexOfSupplementary_4cfef_36 : decode cJ2_indexOfSupplementary_4cfef 36 = .ok (.aload_n 0, 1) := by decide +kernel
theorem dJ2_indexOfSupplementary_4cfef_37 : decode cJ2_indexOfSupplementary_4cfef 37 = .ok (.iload 6, 2) := by decide +kernel
theorem dJ2_indexOfSupplementary_4cfef_39 : decode cJ2_indexOfSupplementary_4cfef 39 = .ok (.invokestatic 71, 3) := by decide +kernel
theorem dJ2_indexOfSupplementary_4cfef_42 : decode cJ2_indexOfSupplementary_4cfef 42 = .ok (.iload 4, 2) := by decide +kernel
theorem dJ2_indexOfSupplementary_4cfef_44 : decode cJ2_indexOfSupplementary_4cfef 44 = .ok (.if_icmp .ne 19, 3) := by decide +kernel
theorem dJ2_indexOfSupplementary_4cfef_47 : decode cJ2_indexOfSupplementary_4cfef 47 = .ok (.aload_n 0, 1) := by decide +kernel
theorem dJ2_indexOfSupplementary_4cfef_48 : decode cJ2_indexOfSupplementary_4cfef 48 = .ok (.iload 6, 2) := by decide +kernel
theorem dJ2_indexOfSupplementary_4cfef_50 : decode cJ2_indexOfSupplementary_4cfef 50 = .ok (.iconst 1, 1) := by decide +kernel
theorem dJ2_indexOfSupplementary_4cfef_51 : decode cJ2_indexOfSupplementary_4cfef 51 = .ok (.iadd, 1) := by decide +kernel
theorem dJ2_indexOfSupplementary_4cfef_52 : decode cJ2_indexOfSupplementary_4cfef 52 = .ok (.invokestatic 71, 3) := by decide +kernel
theorem dJ2_indexOfSupplementary_4cfef_55 : decode cJ2_indexOfSupplementary_4cfef 55 = .ok (.iload 5, 2) := by decide +kernel
theorem dJ2_indexOfSupplementary_4cfef_57 : decode cJ2_indexOfSupplementary_4cfef 57 = .ok (.if_icmp .ne 6, 3) := by decide +kernel
theorem dJ2_indexOfSupplementary_4cfef_60 : decode cJ2_indexOfSupplementary_4cfef 60 = .ok (.iload 6, 2) := by decide +kernel
theorem dJ2_indexOfSupplementary_4cfef_62 : decode cJ2_indexOfSupplementary_4cfef 62 = .ok (.ireturn, 1) := by decide +kernel
theorem dJ2_indexOfSupplementary_4cfef_63 : decode cJ2_indexOfSupplementary_4cfef 63 = .ok (.iinc 6 1, 3) := by decide +kernel
theorem dJ2_indexOfSupplementary_4cfef_66 : decode cJ2_indexOfSupplementary_4cfef 66 = .ok (.goto (-38), 3) := by decide +kernel
theorem dJ2_indexOfSupplementary_4cfef_69 : decode cJ2_indexOfSupplementary_4cfef 69 = .ok (.iconst (-1), 1) := by decide +kernel
theorem dJ2_indexOfSupplementary_4cfef_70 : decode cJ2_indexOfSupplementary_4cfef 70 = .ok (.ireturn, 1) := by decide +kernel
theorem dJ2_indexOf_4cfef_0 : decode cJ2_indexOf_4cfef 0 = .ok (.iload_n 2, 1) := by decide +kernel
theorem dJ2_indexOf_4cfef_1 : decode cJ2_indexOf_4cfef 1 = .ok (.iconst 0, 1) := by decide +kernel
theorem dJ2_indexOf_4cfef_2 : decode cJ2_indexOf_4cfef 2 = .ok (.invokestatic 224, 3) := by decide +kernel
theorem dJ2_indexOf_4cfef_5 : decode cJ2_indexOf_4cfef 5 = .ok (.istore_n 2, 1) := by decide +kernel
theorem dJ2_indexOf_4cfef_6 : decode cJ2_indexOf_4cfef 6 = .ok (.iload_n 3, 1) := by decide +kernel
theorem dJ2_indexOf_4cfef_7 : decode cJ2_indexOf_4cfef 7 = .ok (.aload_n 0, 1) := by decide +kernel
theorem dJ2_indexOf_4cfef_8 : decode cJ2_indexOf_4cfef 8 = .ok (.arraylength, 1) := by decide +kernel
theorem dJ2_indexOf_4cfef_9 : decode cJ2_indexOf_4cfef 9 = .ok (.iconst 1, 1) := by decide +kernel
theorem dJ2_indexOf_4cfef_10 : decode cJ2_indexOf_4cfef 10 = .ok (.ishr, 1) := by decide +kernel
theorem dJ2_indexOf_4cfef_11 : decode cJ2_indexOf_4cfef 11 = .ok (.invokestatic 183, 3) := by decide +kernel
theorem dJ2_indexOf_4cfef_14 : decode cJ2_indexOf_4cfef 14 = .ok (.istore_n 3, 1) := by decide +kernel
theorem dJ2_indexOf_4cfef_15 : decode cJ2_indexOf_4cfef 15 = .ok (.iload_n 2, 1) := by decide +kernel
theorem dJ2_indexOf_4cfef_16 : decode cJ2_indexOf_4cfef 16 = .ok (.iload_n 3, 1) := by decide +kernel
theorem dJ2_indexOf_4cfef_17 : decode cJ2_indexOf_4cfef 17 = .ok (.if_icmp .lt 5, 3) := by decide +kernel
theorem dJ2_indexOf_4cfef_20 : decode cJ2_indexOf_4cfef 20 = .ok (.iconst (-1), 1) := by decide +kernel
theorem dJ2_indexOf_4cfef_21 : decode cJ2_indexOf_4cfef 21 = .ok (.ireturn, 1) := by decide +kernel
theorem dJ2_indexOf_4cfef_22 : decode cJ2_indexOf_4cfef 22 = .ok (.iload_n 1, 1) := by decide +kernel
theorem dJ2_indexOf_4cfef_23 : decode cJ2_indexOf_4cfef 23 = .ok (.ldc 227, 2) := by decide +kernel
theorem dJ2_indexOf_4cfef_25 : decode cJ2_indexOf_4cfef 25 = .ok (.if_icmp .ge 11, 3) := by decide +kernel
theorem dJ2_indexOf_4cfef_28 : decode cJ2_indexOf_4cfef 28 = .ok (.aload_n 0, 1) := by decide +kernel
theorem dJ2_indexOf_4cfef_29 : decode cJ2_indexOf_4cfef 29 = .ok (.iload_n 1, 1) := by decide +kernel
theorem dJ2_indexOf_4cfef_30 : decode cJ2_indexOf_4cfef 30 = .ok (.iload_n 2, 1) := by decide +kernel
theorem dJ2_indexOf_4cfef_31 : decode cJ2_indexOf_4cfef 31 = .ok (.iload_n 3, 1) := by decide +kernel
theorem dJ2_indexOf_4cfef_32 : decode cJ2_indexOf_4cfef 32 = .ok (.invokestatic 228, 3) := by decide +kernel
theorem dJ2_indexOf_4cfef_35 : decode cJ2_indexOf_4cfef 35 = .ok (.ireturn, 1) := by decide +kernel
theorem dJ2_indexOf_4cfef_36 : decode cJ2_indexOf_4cfef 36 = .ok (.aload_n 0, 1) := by decide +kernel
theorem dJ2_indexOf_4cfef_37 : decode cJ2_indexOf_4cfef 37 = .ok (.iload_n 1, 1) := by decide +kernel
theorem dJ2_indexOf_4cfef_38 : decode cJ2_indexOf_4cfef 38 = .ok (.iload_n 2, 1) := by decide +kernel
theorem dJ2_indexOf_4cfef_39 : decode cJ2_indexOf_4cfef 39 = .ok (.iload_n 3, 1) := by decide +kernel
theorem dJ2_indexOf_4cfef_40 : decode cJ2_indexOf_4cfef 40 = .ok (.invokestatic 232, 3) := by decide +kernel
theorem dJ2_indexOf_4cfef_43 : decode cJ2_indexOf_4cfef 43 = .ok (.ireturn, 1) := by decide +kernel
theorem dJ2_length_9d52b_0 : decode cJ2_length_9d52b 0 = .ok (.aload_n 0, 1) := by decide +kernel
theorem dJ2_length_9d52b_1 : decode cJ2_length_9d52b 1 = .ok (.arraylength, 1) := by decide +kernel
theorem dJ2_length_9d52b_2 : decode cJ2_length_9d52b 2 = .ok (.iconst 1, 1) := by decide +kernel
theorem dJ2_length_9d52b_3 : decode cJ2_length_9d52b 3 = .ok (.ishr, 1) := by decide +kernel
theorem dJ2_length_9d52b_4 : decode cJ2_length_9d52b 4 = .ok (.ireturn, 1) := by decide +kernel
theorem dJ3_checkFromToIndex_8c36e_0 : decode cJ3_checkFromToIndex_8c36e 0 = .ok (.iload_n 0, 1) := by decide +kernel
theorem dJ3_checkFromToIndex_8c36e_1 : decode cJ3_checkFromToIndex_8c36e 1 = .ok (.ifCond .lt 13, 3) := by decide +kernel
theorem dJ3_checkFromToIndex_8c36e_4 : decode cJ3_checkFromToIndex_8c36e 4 = .ok (.iload_n 0, 1) := by decide +kernel
theorem dJ3_checkFromToIndex_8c36e_5 : decode cJ3_checkFromToIndex_8c36e 5 = .ok (.iload_n 1, 1) := by decide +kernel
theorem dJ3_checkFromToIndex_8c36e_6 : decode cJ3_checkFromToIndex_8c36e 6 = .ok (.if_icmp .gt 8, 3) := by decide +kernel
theorem dJ3_checkFromToIndex_8c36e_9 : decode cJ3_checkFromToIndex_8c36e 9 = .ok (.iload_n 1, 1) := by decide +kernel
theorem dJ3_checkFromToIndex_8c36e_10 : decode cJ3_checkFromToIndex_8c36e 10 = .ok (.iload_n 2, 1) := by decide +kernel
theorem dJ3_checkFromToIndex_8c36e_11 : decode cJ3_checkFromToIndex_8c36e 11 = .ok (.if_icmp .le 11, 3) := by decide +kernel
theorem dJ3_checkFromToIndex_8c36e_14 : decode cJ3_checkFromToIndex_8c36e 14 = .ok (.aload_n 3, 1) := by decide +kernel
theorem dJ3_checkFromToIndex_8c36e_15 : decode cJ3_checkFromToIndex_8c36e 15 = .ok (.iload_n 0, 1) := by decide +kernel
theorem dJ3_checkFromToIndex_8c36e_16 : decode cJ3_checkFromToIndex_8c36e 16 = .ok (.iload_n 1, 1) := by decide +kernel
theorem dJ3_checkFromToIndex_8c36e_17 : decode cJ3_checkFromToIndex_8c36e 17 = .ok (.iload_n 2, 1) := by decide +kernel
theorem dJ3_checkFromToIndex_8c36e_18 : decode cJ3_checkFromToIndex_8c36e 18 = .ok (.invokestatic 99, 3) := by decide +kernel
theorem dJ3_checkFromToIndex_8c36e_21 : decode cJ3_checkFromToIndex_8c36e 21 = .ok (.athrow, 1) := by decide +kernel
theorem dJ3_checkFromToIndex_8c36e_22 : decode cJ3_checkFromToIndex_8c36e 22 = .ok (.iload_n 0, 1) := by decide +kernel
theorem dJ3_checkFromToIndex_8c36e_23 : decode cJ3_checkFromToIndex_8c36e 23 = .ok (.ireturn, 1) := by decide +kernel
theorem dJ3_checkIndex_8e157_0 : decode cJ3_checkIndex_8e157 0 = .ok (.iload_n 0, 1) := by decide +kernel
theorem dJ3_checkIndex_8e157_1 : decode cJ3_checkIndex_8e157 1 = .ok (.ifCond .lt 8, 3) := by decide +kernel
theorem dJ3_checkIndex_8e157_4 : decode cJ3_checkIndex_8e157 4 = .ok (.iload_n 0, 1) := by decide +kernel
theorem dJ3_checkIndex_8e157_5 : decode cJ3_checkIndex_8e157 5 = .ok (.iload_n 1, 1) := by decide +kernel
theorem dJ3_checkIndex_8e157_6 : decode cJ3_checkIndex_8e157 6 = .ok (.if_icmp .lt 10, 3) := by decide +kernel
theorem dJ3_checkIndex_8e157_9 : decode cJ3_checkIndex_8e157 9 = .ok (.aload_n 2, 1) := by decide +kernel
theorem dJ3_checkIndex_8e157_10 : decode cJ3_checkIndex_8e157 10 = .ok (.iload_n 0, 1) := by decide +kernel
theorem dJ3_checkIndex_8e157_11 : decode cJ3_checkIndex_8e157 11 = .ok (.iload_n 1, 1) := by decide +kernel
theorem dJ3_checkIndex_8e157_12 : decode cJ3_checkIndex_8e157 12 = .ok (.invokestatic 95, 3) := by decide +kernel
theorem dJ3_checkIndex_8e157_15 : decode cJ3_checkIndex_8e157 15 = .ok (.athrow, 1) := by decide +kernel
theorem dJ3_checkIndex_8e157_16 : decode cJ3_checkIndex_8e157 16 = .ok (.iload_n 0, 1) := by decide +kernel
theorem dJ3_checkIndex_8e157_17 : decode cJ3_checkIndex_8e157 17 = .ok (.ireturn, 1) := by decide +kernel
theorem dJ6_bitCount_0f7a4_0 : decode cJ6_bitCount_0f7a4 0 = .ok (.iload_n 0, 1) := by decide +kernel
theorem dJ6_bitCount_0f7a4_1 : decode cJ6_bitCount_0f7a4 1 = .ok (.iload_n 0, 1) := by decide +kernel
theorem dJ6_bitCount_0f7a4_2 : decode cJ6_bitCount_0f7a4 2 = .ok (.iconst 1, 1) := by decide +kernel
theorem dJ6_bitCount_0f7a4_3 : decode cJ6_bitCount_0f7a4 3 = .ok (.iushr, 1) := by decide +kernel
theorem dJ6_bitCount_0f7a4_4 : decode cJ6_bitCount_0f7a4 4 = .ok (.ldc_w 265, 3) := by decide +kernel
theorem dJ6_bitCount_0f7a4_7 : decode cJ6_bitCount_0f7a4 7 = .ok (.iand, 1) := by decide +kernel
theorem dJ6_bitCount_0f7a4_8 : decode cJ6_bitCount_0f7a4 8 = .ok (.isub, 1) := by decide +kernel
theorem dJ6_bitCount_0f7a4_9 : decode cJ6_bitCount_0f7a4 9 = .ok (.istore_n 0, 1) := by decide +kernel
theorem dJ6_bitCount_0f7a4_10 : decode cJ6_bitCount_0f7a4 10 = .ok (.iload_n 0, 1) := by decide +kernel
theorem dJ6_bitCount_0f7a4_11 : decode cJ6_bitCount_0f7a4 11 = .ok (.ldc_w 266, 3) := by decide +kernel
theorem dJ6_bitCount_0f7a4_14 : decode cJ6_bitCount_0f7a4 14 = .ok (.iand, 1) := by decide +kernel
theorem dJ6_bitCount_0f7a4_15 : decode cJ6_bitCount_0f7a4 15 = .ok (.iload_n 0, 1) := by decide +kernel
theorem dJ6_bitCount_0f7a4_16 : decode cJ6_bitCount_0f7a4 16 = .ok (.iconst 2, 1) := by decide +kernel
theorem dJ6_bitCount_0f7a4_17 : decode cJ6_bitCount_0f7a4 17 = .ok (.iushr, 1) := by decide +kernel
theorem dJ6_bitCount_0f7a4_18 : decode cJ6_bitCount_0f7a4 18 = .ok (.ldc_w 266, 3) := by decide +kernel
theorem dJ6_bitCount_0f7a4_21 : decode cJ6_bitCount_0f7a4 21 = .ok (.iand, 1) := by decide +kernel
theorem dJ6_bitCount_0f7a4_22 : decode cJ6_bitCount_0f7a4 22 = .ok (.iadd, 1) := by decide +kernel
theorem dJ6_bitCount_0f7a4_23 : decode cJ6_bitCount_0f7a4 23 = .ok (.istore_n 0, 1) := by decide +kernel
theorem dJ6_bitCount_0f7a4_24 : decode cJ6_bitCount_0f7a4 24 = .ok (.iload_n 0, 1) := by decide +kernel
theorem dJ6_bitCount_0f7a4_25 : decode cJ6_bitCount_0f7a4 25 = .ok (.iload_n 0, 1) := by decide +kernel
theorem dJ6_bitCount_0f7a4_26 : decode cJ6_bitCount_0f7a4 26 = .ok (.iconst 4, 1) := by decide +kernel
theorem dJ6_bitCount_0f7a4_27 : decode cJ6_bitCount_0f7a4 27 = .ok (.iushr, 1) := by decide +kernel
theorem dJ6_bitCount_0f7a4_28 : decode cJ6_bitCount_0f7a4 28 = .ok (.iadd, 1) := by decide +kernel
theorem dJ6_bitCount_0f7a4_29 : decode cJ6_bitCount_0f7a4 29 = .ok (.ldc_w 267, 3) := by decide +kernel
theorem dJ6_bitCount_0f7a4_32 : decode cJ6_bitCount_0f7a4 32 = .ok (.iand, 1) := by decide +kernel
theorem dJ6_bitCount_0f7a4_33 : decode cJ6_bitCount_0f7a4 33 = .ok (.istore_n 0, 1) := by decide +kernel
theorem dJ6_bitCount_0f7a4_34 : decode cJ6_bitCount_0f7a4 34 = .ok (.iload_n 0, 1) := by decide +kernel
theorem dJ6_bitCount_0f7a4_35 : decode cJ6_bitCount_0f7a4 35 = .ok (.iload_n 0, 1) := by decide +kernel
theorem dJ6_bitCount_0f7a4_36 : decode cJ6_bitCount_0f7a4 36 = .ok (.bipush 8, 2) := by decide +kernel
theorem dJ6_bitCount_0f7a4_38 : decode cJ6_bitCount_0f7a4 38 = .ok (.iushr, 1) := by decide +kernel
theorem dJ6_bitCount_0f7a4_39 : decode cJ6_bitCount_0f7a4 39 = .ok (.iadd, 1) := by decide +kernel
theorem dJ6_bitCount_0f7a4_40 : decode cJ6_bitCount_0f7a4 40 = .ok (.istore_n 0, 1) := by decide +kernel
theorem dJ6_bitCount_0f7a4_41 : decode cJ6_bitCount_0f7a4 41 = .ok (.iload_n 0, 1) := by decide +kernel
theorem dJ6_bitCount_0f7a4_42 : decode cJ6_bitCount_0f7a4 42 = .ok (.iload_n 0, 1) := by decide +kernel
theorem dJ6_bitCount_0f7a4_43 : decode cJ6_bitCount_0f7a4 43 = .ok (.bipush 16, 2) := by decide +kernel
theorem dJ6_bitCount_0f7a4_45 : decode cJ6_bitCount_0f7a4 45 = .ok (.iushr, 1) := by decide +kernel
theorem dJ6_bitCount_0f7a4_46 : decode cJ6_bitCount_0f7a4 46 = .ok (.iadd, 1) := by decide +kernel
theorem dJ6_bitCount_0f7a4_47 : decode cJ6_bitCount_0f7a4 47 = .ok (.istore_n 0, 1) := by decide +kernel
theorem dJ6_bitCount_0f7a4_48 : decode cJ6_bitCount_0f7a4 48 = .ok (.iload_n 0, 1) := by decide +kernel
theorem dJ6_bitCount_0f7a4_49 : decode cJ6_bitCount_0f7a4 49 = .ok (.bipush 63, 2) := by decide +kernel
theorem dJ6_bitCount_0f7a4_51 : decode cJ6_bitCount_0f7a4 51 = .ok (.iand, 1) := by decide +kernel
theorem dJ6_bitCount_0f7a4_52 : decode cJ6_bitCount_0f7a4 52 = .ok (.ireturn, 1) := by decide +kernel
theorem dJ6_numberOfTrailingZeros_0f7a4_0 : decode cJ6_numberOfTrailingZeros_0f7a4 0 = .ok (.iload_n 0, 1) := by decide +kernel
theorem dJ6_numberOfTrailingZeros_0f7a4_1 : decode cJ6_numberOfTrailingZeros_0f7a4 1 = .ok (.iconst (-1), 1) := by decide +kernel
theorem dJ6_numberOfTrailingZeros_0f7a4_2 : decode cJ6_numberOfTrailingZeros_0f7a4 2 = .ok (.ixor, 1) := by decide +kernel
theorem dJ6_numberOfTrailingZeros_0f7a4_3 : decode cJ6_numberOfTrailingZeros_0f7a4 3 = .ok (.iload_n 0, 1) := by decide +kernel
theorem dJ6_numberOfTrailingZeros_0f7a4_4 : decode cJ6_numberOfTrailingZeros_0f7a4 4 = .ok (.iconst 1, 1) := by decide +kernel
theorem dJ6_numberOfTrailingZeros_0f7a4_5 : decode cJ6_numberOfTrailingZeros_0f7a4 5 = .ok (.isub, 1) := by decide +kernel
theorem dJ6_numberOfTrailingZeros_0f7a4_6 : decode cJ6_numberOfTrailingZeros_0f7a4 6 = .ok (.iand, 1) := by decide +kernel
theorem dJ6_numberOfTrailingZeros_0f7a4_7 : decode cJ6_numberOfTrailingZeros_0f7a4 7 = .ok (.istore_n 0, 1) := by decide +kernel
theorem dJ6_numberOfTrailingZeros_0f7a4_8 : decode cJ6_numberOfTrailingZeros_0f7a4 8 = .ok (.iload_n 0, 1) := by decide +kernel
theorem dJ6_numberOfTrailingZeros_0f7a4_9 : decode cJ6_numberOfTrailingZeros_0f7a4 9 = .ok (.ifCond .gt 8, 3) := by decide +kernel
theorem dJ6_numberOfTrailingZeros_0f7a4_12 : decode cJ6_numberOfTrailingZeros_0f7a4 12 = .ok (.iload_n 0, 1) := by decide +kernel
theorem dJ6_numberOfTrailingZeros_0f7a4_13 : decode cJ6_numberOfTrailingZeros_0f7a4 13 = .ok (.bipush 32, 2) := by decide +kernel
theorem dJ6_numberOfTrailingZeros_0f7a4_15 : decode cJ6_numberOfTrailingZeros_0f7a4 15 = .ok (.iand, 1) := by decide +kernel
theorem dJ6_numberOfTrailingZeros_0f7a4_16 : decode cJ6_numberOfTrailingZeros_0f7a4 16 = .ok (.ireturn, 1) := by decide +kernel
theorem dJ6_numberOfTrailingZeros_0f7a4_17 : decode cJ6_numberOfTrailingZeros_0f7a4 17 = .ok (.iconst 1, 1) := by decide +kernel
theorem dJ6_numberOfTrailingZeros_0f7a4_18 : decode cJ6_numberOfTrailingZeros_0f7a4 18 = .ok (.istore_n 1, 1) := by decide +kernel
theorem dJ6_numberOfTrailingZeros_0f7a4_19 : decode cJ6_numberOfTrailingZeros_0f7a4 19 = .ok (.iload_n 0, 1) := by decide +kernel
theorem dJ6_numberOfTrailingZeros_0f7a4_20 : decode cJ6_numberOfTrailingZeros_0f7a4 20 = .ok (.ldc_w 264, 3) := by decide +kernel
theorem dJ6_numberOfTrailingZeros_0f7a4_23 : decode cJ6_numberOfTrailingZeros_0f7a4 23 = .ok (.if_icmp .le 11, 3) := by decide +kernel
theorem dJ6_numberOfTrailingZeros_0f7a4_26 : decode cJ6_numberOfTrailingZeros_0f7a4 26 = .ok (.iinc 1 16, 3) := by decide +kernel
theorem dJ6_numberOfTrailingZeros_0f7a4_29 : decode cJ6_numberOfTrailingZeros_0f7a4 29 = .ok (.iload_n 0, 1) := by decide +kernel
theorem dJ6_numberOfTrailingZeros_0f7a4_30 : decode cJ6_numberOfTrailingZeros_0f7a4 30 = .ok (.bipush 16, 2) := by decide +kernel
theorem dJ6_numberOfTrailingZeros_0f7a4_32 : decode cJ6_numberOfTrailingZeros_0f7a4 32 = .ok (.iushr, 1) := by decide +kernel
theorem dJ6_numberOfTrailingZeros_0f7a4_33 : decode cJ6_numberOfTrailingZeros_0f7a4 33 = .ok (.istore_n 0, 1) := by decide +kernel
theorem dJ6_numberOfTrailingZeros_0f7a4_34 : decode cJ6_numberOfTrailingZeros_0f7a4 34 = .ok (.iload_n 0, 1) := by decide +kernel
theorem dJ6_numberOfTrailingZeros_0f7a4_35 : decode cJ6_numberOfTrailingZeros_0f7a4 35 = .ok (.sipush 256, 3) := by decide +kernel
theorem dJ6_numberOfTrailingZeros_0f7a4_38 : decode cJ6_numberOfTrailingZeros_0f7a4 38 = .ok (.if_icmp .le 11, 3) := by decide +kernel
theorem dJ6_numberOfTrailingZeros_0f7a4_41 : decode cJ6_numberOfTrailingZeros_0f7a4 41 = .ok (.iinc 1 8, 3) := by decide +kernel
theorem dJ6_numberOfTrailingZeros_0f7a4_44 : decode cJ6_numberOfTrailingZeros_0f7a4 44 = .ok (.iload_n 0, 1) := by decide +kernel
theorem dJ6_numberOfTrailingZeros_0f7a4_45 : decode cJ6_numberOfTrailingZeros_0f7a4 45 = .ok (.bipush 8, 2) := by decide +kernel
theorem dJ6_numberOfTrailingZeros_0f7a4_47 : decode cJ6_numberOfTrailingZeros_0f7a4 47 = .ok (.iushr, 1) := by decide +kernel
theorem dJ6_numberOfTrailingZeros_0f7a4_48 : decode cJ6_numberOfTrailingZeros_0f7a4 48 = .ok (.istore_n 0, 1) := by decide +kernel
theorem dJ6_numberOfTrailingZeros_0f7a4_49 : decode cJ6_numberOfTrailingZeros_0f7a4 49 = .ok (.iload_n 0, 1) := by decide +kernel
theorem dJ6_numberOfTrailingZeros_0f7a4_50 : decode cJ6_numberOfTrailingZeros_0f7a4 50 = .ok (.bipush 16, 2) := by decide +kernel
theorem dJ6_numberOfTrailingZeros_0f7a4_52 : decode cJ6_numberOfTrailingZeros_0f7a4 52 = .ok (.if_icmp .le 10, 3) := by decide +kernel
theorem dJ6_numberOfTrailingZeros_0f7a4_55 : decode cJ6_numberOfTrailingZeros_0f7a4 55 = .ok (.iinc 1 4, 3) := by decide +kernel
theorem dJ6_numberOfTrailingZeros_0f7a4_58 : decode cJ6_numberOfTrailingZeros_0f7a4 58 = .ok (.iload_n 0, 1) := by decide +kernel
theorem dJ6_numberOfTrailingZeros_0f7a4_59 : decode cJ6_numberOfTrailingZeros_0f7a4 59 = .ok (.iconst 4, 1) := by decide +kernel
theorem dJ6_numberOfTrailingZeros_0f7a4_60 : decode cJ6_numberOfTrailingZeros_0f7a4 60 = .ok (.iushr, 1) := by decide +kernel
theorem dJ6_numberOfTrailingZeros_0f7a4_61 : decode cJ6_numberOfTrailingZeros_0f7a4 61 = .ok (.istore_n 0, 1) := by decide +kernel
theorem dJ6_numberOfTrailingZeros_0f7a4_62 : decode cJ6_numberOfTrailingZeros_0f7a4 62 = .ok (.iload_n 0, 1) := by decide +kernel
theorem dJ6_numberOfTrailingZeros_0f7a4_63 : decode cJ6_numberOfTrailingZeros_0f7a4 63 = .ok (.iconst 4, 1) := by decide +kernel
theorem dJ6_numberOfTrailingZeros_0f7a4_64 : decode cJ6_numberOfTrailingZeros_0f7a4 64 = .ok (.if_icmp .le 10, 3) := by decide +kernel
theorem dJ6_numberOfTrailingZeros_0f7a4_67 : decode cJ6_numberOfTrailingZeros_0f7a4 67 = .ok (.iinc 1 2, 3) := by decide +kernel
theorem dJ6_numberOfTrailingZeros_0f7a4_70 : decode cJ6_numberOfTrailingZeros_0f7a4 70 = .ok (.iload_n 0, 1) := by decide +kernel
theorem dJ6_numberOfTrailingZeros_0f7a4_71 : decode cJ6_numberOfTrailingZeros_0f7a4 71 = .ok (.iconst 2, 1) := by decide +kernel
theorem dJ6_numberOfTrailingZeros_0f7a4_72 : decode cJ6_numberOfTrailingZeros_0f7a4 72 = .ok (.iushr, 1) := by decide +kernel
theorem dJ6_numberOfTrailingZeros_0f7a4_73 : decode cJ6_numberOfTrailingZeros_0f7a4 73 = .ok (.istore_n 0, 1) := by decide +kernel
theorem dJ6_numberOfTrailingZeros_0f7a4_74 : decode cJ6_numberOfTrailingZeros_0f7a4 74 = .ok (.iload_n 1, 1) := by decide +kernel
theorem dJ6_numberOfTrailingZeros_0f7a4_75 : decode cJ6_numberOfTrailingZeros_0f7a4 75 = .ok (.iload_n 0, 1) := by decide +kernel
theorem dJ6_numberOfTrailingZeros_0f7a4_76 : decode cJ6_numberOfTrailingZeros_0f7a4 76 = .ok (.iconst 1, 1) := by decide +kernel
theorem dJ6_numberOfTrailingZeros_0f7a4_77 : decode cJ6_numberOfTrailingZeros_0f7a4 77 = .ok (.iushr, 1) := by decide +kernel
theorem dJ6_numberOfTrailingZeros_0f7a4_78 : decode cJ6_numberOfTrailingZeros_0f7a4 78 = .ok (.iadd, 1) := by decide +kernel
theorem dJ6_numberOfTrailingZeros_0f7a4_79 : decode cJ6_numberOfTrailingZeros_0f7a4 79 = .ok (.ireturn, 1) := by decide +kernel
theorem dJ7_fill_53178_0 : decode cJ7_fill_53178 0 = .ok (.iconst 0, 1) := by decide +kernel
theorem dJ7_fill_53178_1 : decode cJ7_fill_53178 1 = .ok (.istore_n 2, 1) := by decide +kernel
theorem dJ7_fill_53178_2 : decode cJ7_fill_53178 2 = .ok (.aload_n 0, 1) := by decide +kernel
theorem dJ7_fill_53178_3 : decode cJ7_fill_53178 3 = .ok (.arraylength, 1) := by decide +kernel
theorem dJ7_fill_53178_4 : decode cJ7_fill_53178 4 = .ok (.istore_n 3, 1) := by decide +kernel
theorem dJ7_fill_53178_5 : decode cJ7_fill_53178 5 = .ok (.iload_n 2, 1) := by decide +kernel
theorem dJ7_fill_53178_6 : decode cJ7_fill_53178 6 = .ok (.iload_n 3, 1) := by decide +kernel
theorem dJ7_fill_53178_7 : decode cJ7_fill_53178 7 = .ok (.if_icmp .ge 13, 3) := by decide +kernel
theorem dJ7_fill_53178_10 : decode cJ7_fill_53178 10 = .ok (.aload_n 0, 1) := by decide +kernel
theorem dJ7_fill_53178_11 : decode cJ7_fill_53178 11 = .ok (.iload_n 2, 1) := by decide +kernel
theorem dJ7_fill_53178_12 : decode cJ7_fill_53178 12 = .ok (.iload_n 1, 1) := by decide +kernel
theorem dJ7_fill_53178_13 : decode cJ7_fill_53178 13 = .ok (.iastore, 1) := by decide +kernel
theorem dJ7_fill_53178_14 : decode cJ7_fill_53178 14 = .ok (.iinc 2 1, 3) := by decide +kernel
theorem dJ7_fill_53178_17 : decode cJ7_fill_53178 17 = .ok (.goto (-12), 3) := by decide +kernel
theorem dJ7_fill_53178_20 : decode cJ7_fill_53178 20 = .ok (.return_, 1) := by decide +kernel
theorem dJ9_abs_0f7a4_0 : decode cJ9_abs_0f7a4 0 = .ok (.iload_n 0, 1) := by decide +kernel
theorem dJ9_abs_0f7a4_1 : decode cJ9_abs_0f7a4 1 = .ok (.ifCond .ge 8, 3) := by decide +kernel
theorem dJ9_abs_0f7a4_4 : decode cJ9_abs_0f7a4 4 = .ok (.iload_n 0, 1) := by decide +kernel
theorem dJ9_abs_0f7a4_5 : decode cJ9_abs_0f7a4 5 = .ok (.ineg, 1) := by decide +kernel
theorem dJ9_abs_0f7a4_6 : decode cJ9_abs_0f7a4 6 = .ok (.goto 4, 3) := by decide +kernel
theorem dJ9_abs_0f7a4_9 : decode cJ9_abs_0f7a4 9 = .ok (.iload_n 0, 1) := by decide +kernel
theorem dJ9_abs_0f7a4_10 : decode cJ9_abs_0f7a4 10 = .ok (.ireturn, 1) := by decide +kernel
theorem dJ9_floorMod_7cf53_0 : decode cJ9_floorMod_7cf53 0 = .ok (.iload_n 0, 1) := by decide +kernel
theorem dJ9_floorMod_7cf53_1 : decode cJ9_floorMod_7cf53 1 = .ok (.iload_n 1, 1) := by decide +kernel
theorem dJ9_floorMod_7cf53_2 : decode cJ9_floorMod_7cf53 2 = .ok (.irem, 1) := by decide +kernel
theorem dJ9_floorMod_7cf53_3 : decode cJ9_floorMod_7cf53 3 = .ok (.istore_n 2, 1) := by decide +kernel
theorem dJ9_floorMod_7cf53_4 : decode cJ9_floorMod_7cf53 4 = .ok (.iload_n 0, 1) := by decide +kernel
theorem dJ9_floorMod_7cf53_5 : decode cJ9_floorMod_7cf53 5 = .ok (.iload_n 1, 1) := by decide +kernel
theorem dJ9_floorMod_7cf53_6 : decode cJ9_floorMod_7cf53 6 = .ok (.ixor, 1) := by decide +kernel
theorem dJ9_floorMod_7cf53_7 : decode cJ9_floorMod_7cf53 7 = .ok (.ifCond .ge 11, 3) := by decide +kernel
theorem dJ9_floorMod_7cf53_10 : decode cJ9_floorMod_7cf53 10 = .ok (.iload_n 2, 1) := by decide +kernel
theorem dJ9_floorMod_7cf53_11 : decode cJ9_floorMod_7cf53 11 = .ok (.ifCond .eq 7, 3) := by decide +kernel
theorem dJ9_floorMod_7cf53_14 : decode cJ9_floorMod_7cf53 14 = .ok (.iload_n 2, 1) := by decide +kernel
theorem dJ9_floorMod_7cf53_15 : decode cJ9_floorMod_7cf53 15 = .ok (.iload_n 1, 1) := by decide +kernel
theorem dJ9_floorMod_7cf53_16 : decode cJ9_floorMod_7cf53 16 = .ok (.iadd, 1) := by decide +kernel
theorem dJ9_floorMod_7cf53_17 : decode cJ9_floorMod_7cf53 17 = .ok (.ireturn, 1) := by decide +kernel
theorem dJ9_floorMod_7cf53_18 : decode cJ9_floorMod_7cf53 18 = .ok (.iload_n 2, 1) := by decide +kernel
theorem dJ9_floorMod_7cf53_19 : decode cJ9_floorMod_7cf53 19 = .ok (.ireturn, 1) := by decide +kernel
theorem dJ9_max_7cf53_0 : decode cJ9_max_7cf53 0 = .ok (.iload_n 0, 1) := by decide +kernel
theorem dJ9_max_7cf53_1 : decode cJ9_max_7cf53 1 = .ok (.iload_n 1, 1) := by decide +kernel
theorem dJ9_max_7cf53_2 : decode cJ9_max_7cf53 2 = .ok (.if_icmp .lt 7, 3) := by decide +kernel
theorem dJ9_max_7cf53_5 : decode cJ9_max_7cf53 5 = .ok (.iload_n 0, 1) := by decide +kernel
theorem dJ9_max_7cf53_6 : decode cJ9_max_7cf53 6 = .ok (.goto 4, 3) := by decide +kernel
theorem dJ9_max_7cf53_9 : decode cJ9_max_7cf53 9 = .ok (.iload_n 1, 1) := by decide +kernel
theorem dJ9_max_7cf53_10 : decode cJ9_max_7cf53 10 = .ok (.ireturn, 1) := by decide +kernel
theorem dJ9_min_7cf53_0 : decode cJ9_min_7cf53 0 = .ok (.iload_n 0, 1) := by decide +kernel
theorem dJ9_min_7cf53_1 : decode cJ9_min_7cf53 1 = .ok (.iload_n 1, 1) := by decide +kernel
theorem dJ9_min_7cf53_2 : decode cJ9_min_7cf53 2 = .ok (.if_icmp .gt 7, 3) := by decide +kernel
theorem dJ9_min_7cf53_5 : decode cJ9_min_7cf53 5 = .ok (.iload_n 0, 1) := by decide +kernel
theorem dJ9_min_7cf53_6 : decode cJ9_min_7cf53 6 = .ok (.goto 4, 3) := by decide +kernel
theorem dJ9_min_7cf53_9 : decode cJ9_min_7cf53 9 = .ok (.iload_n 1, 1) := by decide +kernel
theorem dJ9_min_7cf53_10 : decode cJ9_min_7cf53 10 = .ok (.ireturn, 1) := by decide +kernel
theorem dX0_append_0 : decode cX0_append 0 = .ok (.aload_n 0, 1) := by decide +kernel
theorem dX0_append_1 : decode cX0_append 1 = .ok (.getfield 13, 3) := by decide +kernel
theorem dX0_append_4 : decode cX0_append 4 = .ok (.ifCond .lt 43, 3) := by decide +kernel
theorem dX0_append_7 : decode cX0_append 7 = .ok (.aload_n 0, 1) := by decide +kernel
theorem dX0_append_8 : decode cX0_append 8 = .ok (.getfield 13, 3) := by decide +kernel
theorem dX0_append_11 : decode cX0_append 11 = .ok (.sipush 270, 3) := by decide +kernel
theorem dX0_append_14 : decode cX0_append 14 = .ok (.if_icmp .ge 33, 3) := by decide +kernel
theorem dX0_append_17 : decode cX0_append 17 = .ok (.aload_n 0, 1) := by decide +kernel
theorem dX0_append_18 : decode cX0_append 18 = .ok (.getfield 16, 3) := by decide +kernel
theorem dX0_append_21 : decode cX0_append 21 = .ok (.aload_n 0, 1) := by decide +kernel
theorem dX0_append_22 : decode cX0_append 22 = .ok (.getfield 13, 3) := by decide +kernel
theorem dX0_append_25 : decode cX0_append 25 = .ok (.iload_n 1, 1) := by decide +kernel
theorem dX0_append_26 : decode cX0_append 26 = .ok (.iastore, 1) := by decide +kernel
theorem dX0_append_27 : decode cX0_append 27 = .ok (.aload_n 0, 1) := by decide +kernel
theorem dX0_append_28 : decode cX0_append 28 = .ok (.getfield 20, 3) := by decide +kernel
theorem dX0_append_31 : decode cX0_append 31 = .ok (.aload_n 0, 1) := by decide +kernel
theorem dX0_append_32 : decode cX0_append 32 = .ok (.getfield 13, 3) := by decide +kernel
theorem dX0_append_35 : decode cX0_append 35 = .ok (.iload_n 2, 1) := by decide +kernel
theorem dX0_append_36 : decode cX0_append 36 = .ok (.iastore, 1) := by decide +kernel
theorem dX0_append_37 : decode cX0_append 37 = .ok (.aload_n 0, 1) := by decide +kernel
theorem dX0_append_38 : decode cX0_append 38 = .ok (.dup, 1) := by decide +kernel
theorem dX0_append_39 : decode cX0_append 39 = .ok (.getfield 13, 3) := by decide +kernel
theorem dX0_append_42 : decode cX0_append 42 = .ok (.iconst 1, 1) := by decide +kernel
theorem dX0_append_43 : decode cX0_append 43 = .ok (.iadd, 1) := by decide +kernel
theorem dX0_append_44 : decode cX0_append 44 = .ok (.putfield 13, 3) := by decide +kernel
theorem dX0_append_47 : decode cX0_append 47 = .ok (.return_, 1) := by decide +kernel
theorem dX0_clear_0 : decode cX0_clear 0 = .ok (.aload_n 0, 1) := by decide +kernel
theorem dX0_clear_1 : decode cX0_clear 1 = .ok (.iconst 0, 1) := by decide +kernel
theorem dX0_clear_2 : decode cX0_clear 2 = .ok (.putfield 9, 3) := by decide +kernel
theorem dX0_clear_5 : decode cX0_clear 5 = .ok (.aload_n 0, 1) := by decide +kernel
theorem dX0_clear_6 : decode cX0_clear 6 = .ok (.iconst 0, 1) := by decide +kernel
theorem dX0_clear_7 : decode cX0_clear 7 = .ok (.putfield 13, 3) := by decide +kernel
theorem dX0_clear_10 : decode cX0_clear 10 = .ok (.return_, 1) := by decide +kernel
theorem dX0_copyFrom_0 : decode cX0_copyFrom 0 = .ok (.aload_n 0, 1) := by decide +kernel
theorem dX0_copyFrom_1 : decode cX0_copyFrom 1 = .ok (.aload_n 1, 1) := by decide +kernel
theorem dX0_copyFrom_2 : decode cX0_copyFrom 2 = .ok (.getfield 9, 3) := by decide +kernel
theorem dX0_copyFrom_5 : decode cX0_copyFrom 5 = .ok (.putfield 9, 3) := by decide +kernel
theorem dX0_copyFrom_8 : decode cX0_copyFrom 8 = .ok (.aload_n 0, 1) := by decide +kernel
theorem dX0_copyFrom_9 : decode cX0_copyFrom 9 = .ok (.aload_n 1, 1) := by decide +kernel
theorem dX0_copyFrom_10 : decode cX0_copyFrom 10 = .ok (.getfield 13, 3) := by decide +kernel
theorem dX0_copyFrom_13 : decode cX0_copyFrom 13 = .ok (.putfield 13, 3) := by decide +kernel
theorem dX0_copyFrom_16 : decode cX0_copyFrom 16 = .ok (.aload_n 1, 1) := by decide +kernel
theorem dX0_copyFrom_17 : decode cX0_copyFrom 17 = .ok (.getfield 16, 3) := by decide +kernel
theorem dX0_copyFrom_20 : decode cX0_copyFrom 20 = .ok (.iconst 0, 1) := by decide +kernel
theorem dX0_copyFrom_21 : decode cX0_copyFrom 21 = .ok (.aload_n 0, 1) := by decide +kernel
theorem dX0_copyFrom_22 : decode cX0_copyFrom 22 = .ok (.getfield 16, 3) := by decide +kernel
theorem dX0_copyFrom_25 : decode cX0_copyFrom 25 = .ok (.iconst 0, 1) := by decide +kernel
theorem dX0_copyFrom_26 : decode cX0_copyFrom 26 = .ok (.sipush 270, 3) := by decide +kernel
theorem dX0_copyFrom_29 : decode cX0_copyFrom 29 = .ok (.invokestatic 26, 3) := by decide +kernel
theorem dX0_copyFrom_32 : decode cX0_copyFrom 32 = .ok (.aload_n 1, 1) := by decide +kernel
theorem dX0_copyFrom_33 : decode cX0_copyFrom 33 = .ok (.getfield 20, 3) := by decide +kernel
theorem dX0_copyFrom_36 : decode cX0_copyFrom 36 = .ok (.iconst 0, 1) := by decide +kernel
theorem dX0_copyFrom_37 : decode cX0_copyFrom 37 = .ok (.aload_n 0, 1) := by decide +kernel
theorem dX0_copyFrom_38 : decode cX0_copyFrom 38 = .ok (.getfield 20, 3) := by decide +kernel
theorem dX0_copyFrom_41 : decode cX0_copyFrom 41 = .ok (.iconst 0, 1) := by decide +kernel
theorem dX0_copyFrom_42 : decode cX0_copyFrom 42 = .ok (.sipush 270, 3) := by decide +kernel
theorem dX0_copyFrom_45 : decode cX0_copyFrom 45 = .ok (.invokestatic 26, 3) := by decide +kernel
theorem dX0_copyFrom_48 : decode cX0_copyFrom 48 = .ok (.return_, 1) := by decide +kernel
theorem dX0_init_0 : decode cX0_init 0 = .ok (.aload_n 0, 1) := by decide +kernel
theorem dX0_init_1 : decode cX0_init 1 = .ok (.invokespecial 3, 3) := by decide +kernel
theorem dX0_init_4 : decode cX0_init 4 = .ok (.aload_n 0, 1) := by decide +kernel
theorem dX0_init_5 : decode cX0_init 5 = .ok (.iconst 0, 1) := by decide +kernel
theorem dX0_init_6 : decode cX0_init 6 = .ok (.putfield 9, 3) := by decide +kernel
theorem dX0_init_9 : decode cX0_init 9 = .ok (.aload_n 0, 1) := by decide +kernel
theorem dX0_init_10 : decode cX0_init 10 = .ok (.iconst 0, 1) := by decide +kernel
theorem dX0_init_11 : decode cX0_init 11 = .ok (.putfield 13, 3) := by decide +kernel
theorem dX0_init_14 : decode cX0_init 14 = .ok (.aload_n 0, 1) := by decide +kernel
theorem dX0_init_15 : decode cX0_init 15 = .ok (.sipush 270, 3) := by decide +kernel
theorem dX0_init_18 : decode cX0_init 18 = .ok (.newarray .int, 2) := by decide +kernel
theorem dX0_init_20 : decode cX0_init 20 = .ok (.putfield 16, 3) := by decide +kernel
theorem dX0_init_23 : decode cX0_init 23 = .ok (.aload_n 0, 1) := by decide +kernel
theorem dX0_init_24 : decode cX0_init 24 = .ok (.sipush 270, 3) := by decide +kernel
theorem dX0_init_27 : decode cX0_init 27 = .ok (.newarray .int, 2) := by decide +kernel
theorem dX0_init_29 : decode cX0_init 29 = .ok (.putfield 20, 3) := by decide +kernel
theorem dX0_init_32 : decode cX0_init 32 = .ok (.aload_n 0, 1) := by decide +kernel
theorem dX0_init_33 : decode cX0_init 33 = .ok (.bipush 31, 2) := by decide +kernel
theorem dX0_init_35 : decode cX0_init 35 = .ok (.newarray .int, 2) := by decide +kernel
theorem dX0_init_37 : decode cX0_init 37 = .ok (.putfield 23, 3) := by decide +kernel
theorem dX0_init_40 : decode cX0_init 40 = .ok (.return_, 1) := by decide +kernel
theorem dX0_joined_0 : decode cX0_joined 0 = .ok (.iload_n 0, 1) := by decide +kernel
theorem dX0_joined_1 : decode cX0_joined 1 = .ok (.tableswitch 167 6 15 #[55, 72, 89, 103, 117, 131, 135, 139, 143, 155], 55) := by decide +kernel
theorem dX0_joined_56 : decode cX0_joined 56 = .ok (.iload_n 1, 1) := by decide +kernel
theorem dX0_joined_57 : decode cX0_joined 57 = .ok (.ifCond .ne 7, 3) := by decide +kernel
theorem dX0_joined_60 : decode cX0_joined 60 = .ok (.iload_n 2, 1) := by decide +kernel
theorem dX0_joined_61 : decode cX0_joined 61 = .ok (.ifCond .eq 7, 3) := by decide +kernel
theorem dX0_joined_64 : decode cX0_joined 64 = .ok (.iconst 1, 1) := by decide +kernel
theorem dX0_joined_65 : decode cX0_joined 65 = .ok (.goto 4, 3) := by decide +kernel
theorem dX0_joined_68 : decode cX0_joined 68 = .ok (.iconst 0, 1) := by decide +kernel
theorem dX0_joined_69 : decode cX0_joined 69 = .ok (.invokestatic 36, 3) := by decide +kernel
theorem dX0_joined_72 : decode cX0_joined 72 = .ok (.ireturn, 1) := by decide +kernel
theorem dX0_joined_73 : decode cX0_joined 73 = .ok (.iload_n 1, 1) := by decide +kernel
theorem dX0_joined_74 : decode cX0_joined 74 = .ok (.ifCond .eq 11, 3) := by decide +kernel
theorem dX0_joined_77 : decode cX0_joined 77 = .ok (.iload_n 2, 1) := by decide +kernel
theorem dX0_joined_78 : decode cX0_joined 78 = .ok (.ifCond .eq 7, 3) := by decide +kernel
theorem dX0_joined_81 : decode cX0_joined 81 = .ok (.iconst 1, 1) := by decide +kernel
theorem dX0_joined_82 : decode cX0_joined 82 = .ok (.goto 4, 3) := by decide +kernel
theorem dX0_joined_85 : decode cX0_joined 85 = .ok (.iconst 0, 1) := by decide +kernel
theorem dX0_joined_86 : decode cX0_joined 86 = .ok (.invokestatic 36, 3) := by decide +kernel
theorem dX0_joined_89 : decode cX0_joined 89 = .ok (.ireturn, 1) := by decide +kernel
theorem dX0_joined_90 : decode cX0_joined 90 = .ok (.iload_n 1, 1) := by decide +kernel
theorem dX0_joined_91 : decode cX0_joined 91 = .ok (.iload_n 2, 1) := by decide +kernel
theorem dX0_joined_92 : decode cX0_joined 92 = .ok (.if_icmp .ge 7, 3) := by decide +kernel
theorem dX0_joined_95 : decode cX0_joined 95 = .ok (.iconst 1, 1) := by decide +kernel
theorem dX0_joined_96 : decode cX0_joined 96 = .ok (.goto 4, 3) := by decide +kernel
theorem dX0_joined_99 : decode cX0_joined 99 = .ok (.iconst 0, 1) := by decide +kernel
theorem dX0_joined_100 : decode cX0_joined 100 = .ok (.invokestatic 36, 3) := by decide +kernel
theorem dX0_joined_103 : decode cX0_joined 103 = .ok (.ireturn, 1) := by decide +kernel
theorem dX0_joined_104 : decode cX0_joined 104 = .ok (.iload_n 1, 1) := by decide +kernel
theorem dX0_joined_105 : decode cX0_joined 105 = .ok (.iload_n 2, 1) := by decide +kernel
theorem dX0_joined_106 : decode cX0_joined 106 = .ok (.if_icmp .le 7, 3) := by decide +kernel
theorem dX0_joined_109 : decode cX0_joined 109 = .ok (.iconst 1, 1) := by decide +kernel
theorem dX0_joined_110 : decode cX0_joined 110 = .ok (.goto 4, 3) := by decide +kernel
theorem dX0_joined_113 : decode cX0_joined 113 = .ok (.iconst 0, 1) := by decide +kernel
theorem dX0_joined_114 : decode cX0_joined 114 = .ok (.invokestatic 36, 3) := by decide +kernel
theorem dX0_joined_117 : decode cX0_joined 117 = .ok (.ireturn, 1) := by decide +kernel
theorem dX0_joined_118 : decode cX0_joined 118 = .ok (.iload_n 1, 1) := by decide +kernel
theorem dX0_joined_119 : decode cX0_joined 119 = .ok (.iload_n 2, 1) := by decide +kernel
theorem dX0_joined_120 : decode cX0_joined 120 = .ok (.if_icmp .ne 7, 3) := by decide +kernel
theorem dX0_joined_123 : decode cX0_joined 123 = .ok (.iconst 1, 1) := by decide +kernel
theorem dX0_joined_124 : decode cX0_joined 124 = .ok (.goto 4, 3) := by decide +kernel
theorem dX0_joined_127 : decode cX0_joined 127 = .ok (.iconst 0, 1) := by decide +kernel
theorem dX0_joined_128 : decode cX0_joined 128 = .ok (.invokestatic 36, 3) := by decide +kernel
theorem dX0_joined_131 : decode cX0_joined 131 = .ok (.ireturn, 1) := by decide +kernel
theorem dX0_joined_132 : decode cX0_joined 132 = .ok (.iload_n 1, 1) := by decide +kernel
theorem dX0_joined_133 : decode cX0_joined 133 = .ok (.iload_n 2, 1) := by decide +kernel
theorem dX0_joined_134 : decode cX0_joined 134 = .ok (.iadd, 1) := by decide +kernel
theorem dX0_joined_135 : decode cX0_joined 135 = .ok (.ireturn, 1) := by decide +kernel
theorem dX0_joined_136 : decode cX0_joined 136 = .ok (.iload_n 1, 1) := by decide +kernel
theorem dX0_joined_137 : decode cX0_joined 137 = .ok (.iload_n 2, 1) := by decide +kernel
theorem dX0_joined_138 : decode cX0_joined 138 = .ok (.isub, 1) := by decide +kernel
theorem dX0_joined_139 : decode cX0_joined 139 = .ok (.ireturn, 1) := by decide +kernel
theorem dX0_joined_140 : decode cX0_joined 140 = .ok (.iload_n 1, 1) := by decide +kernel
theorem dX0_joined_141 : decode cX0_joined 141 = .ok (.iload_n 2, 1) := by decide +kernel
theorem dX0_joined_142 : decode cX0_joined 142 = .ok (.imul, 1) := by decide +kernel
theorem dX0_joined_143 : decode cX0_joined 143 = .ok (.ireturn, 1) := by decide +kernel
theorem dX0_joined_144 : decode cX0_joined 144 = .ok (.iload_n 2, 1) := by decide +kernel
theorem dX0_joined_145 : decode cX0_joined 145 = .ok (.ifCond .ne 7, 3) := by decide +kernel
theorem dX0_joined_148 : decode cX0_joined 148 = .ok (.iconst 0, 1) := by decide +kernel
theorem dX0_joined_149 : decode cX0_joined 149 = .ok (.goto 6, 3) := by decide +kernel
theorem dX0_joined_152 : decode cX0_joined 152 = .ok (.iload_n 1, 1) := by decide +kernel
theorem dX0_joined_153 : decode cX0_joined 153 = .ok (.iload_n 2, 1) := by decide +kernel
theorem dX0_joined_154 : decode cX0_joined 154 = .ok (.idiv, 1) := by decide +kernel
theorem dX0_joined_155 : decode cX0_joined 155 = .ok (.ireturn, 1) := by decide +kernel
theorem dX0_joined_156 : decode cX0_joined 156 = .ok (.iload_n 2, 1) := by decide +kernel
theorem dX0_joined_157 : decode cX0_joined 157 = .ok (.ifCond .ne 7, 3) := by decide +kernel
theorem dX0_joined_160 : decode cX0_joined 160 = .ok (.iconst 0, 1) := by decide +kernel
theorem dX0_joined_161 : decode cX0_joined 161 = .ok (.goto 6, 3) := by decide +kernel
theorem dX0_joined_164 : decode cX0_joined 164 = .ok (.iload_n 1, 1) := by decide +kernel
theorem dX0_joined_165 : decode cX0_joined 165 = .ok (.iload_n 2, 1) := by decide +kernel
theorem dX0_joined_166 : decode cX0_joined 166 = .ok (.irem, 1) := by decide +kernel
theorem dX0_joined_167 : decode cX0_joined 167 = .ok (.ireturn, 1) := by decide +kernel
theorem dX0_joined_168 : decode cX0_joined 168 = .ok (.iconst 0, 1) := by decide +kernel
theorem dX0_joined_169 : decode cX0_joined 169 = .ok (.ireturn, 1) := by decide +kernel
theorem dX0_truth_0 : decode cX0_truth 0 = .ok (.iload_n 0, 1) := by decide +kernel
theorem dX0_truth_1 : decode cX0_truth 1 = .ok (.ifCond .eq 7, 3) := by decide +kernel
theorem dX0_truth_4 : decode cX0_truth 4 = .ok (.iconst 1, 1) := by decide +kernel
theorem dX0_truth_5 : decode cX0_truth 5 = .ok (.goto 4, 3) := by decide +kernel
theorem dX0_truth_8 : decode cX0_truth 8 = .ok (.iconst 0, 1) := by decide +kernel
theorem dX0_truth_9 : decode cX0_truth 9 = .ok (.ireturn, 1) := by decide +kernel
theorem dX0_unitValue_0 : decode cX0_unitValue 0 = .ok (.iload_n 0, 1) := by decide +kernel
theorem dX0_unitValue_1 : decode cX0_unitValue 1 = .ok (.tableswitch 41 1 4 #[31, 33, 35, 38], 31) := by decide +kernel
theorem dX0_unitValue_32 : decode cX0_unitValue 32 = .ok (.iload_n 2, 1) := by decide +kernel
theorem dX0_unitValue_33 : decode cX0_unitValue 33 = .ok (.ireturn, 1) := by decide +kernel
theorem dX0_unitValue_34 : decode cX0_unitValue 34 = .ok (.iload_n 3, 1) := by decide +kernel
theorem dX0_unitValue_35 : decode cX0_unitValue 35 = .ok (.ireturn, 1) := by decide +kernel
theorem dX0_unitValue_36 : decode cX0_unitValue 36 = .ok (.iload 4, 2) := by decide +kernel
theorem dX0_unitValue_38 : decode cX0_unitValue 38 = .ok (.ireturn, 1) := by decide +kernel
theorem dX0_unitValue_39 : decode cX0_unitValue 39 = .ok (.iload 5, 2) := by decide +kernel
theorem dX0_unitValue_41 : decode cX0_unitValue 41 = .ok (.ireturn, 1) := by decide +kernel
theorem dX0_unitValue_42 : decode cX0_unitValue 42 = .ok (.iload_n 1, 1) := by decide +kernel
theorem dX0_unitValue_43 : decode cX0_unitValue 43 = .ok (.ireturn, 1) := by decide +kernel
theorem dX0_value_0 : decode cX0_value 0 = .ok (.iconst 0, 1) := by decide +kernel
theorem dX0_value_1 : decode cX0_value 1 = .ok (.istore 5, 2) := by decide +kernel
theorem dX0_value_3 : decode cX0_value 3 = .ok (.iconst 0, 1) := by decide +kernel
theorem dX0_value_4 : decode cX0_value 4 = .ok (.istore 6, 2) := by decide +kernel
theorem dX0_value_6 : decode cX0_value 6 = .ok (.iload 6, 2) := by decide +kernel
theorem dX0_value_8 : decode cX0_value 8 = .ok (.aload_n 0, 1) := by decide +kernel
theorem dX0_value_9 : decode cX0_value 9 = .ok (.getfield 13, 3) := by decide +kernel
theorem dX0_value_12 : decode cX0_value 12 = .ok (.if_icmp .ge 161, 3) := by decide +kernel
theorem dX0_value_15 : decode cX0_value 15 = .ok (.iload 6, 2) := by decide +kernel
theorem dX0_value_17 : decode cX0_value 17 = .ok (.sipush 270, 3) := by decide +kernel
theorem dX0_value_20 : decode cX0_value 20 = .ok (.if_icmp .ge 153, 3) := by decide +kernel
theorem dX0_value_23 : decode cX0_value 23 = .ok (.aload_n 0, 1) := by decide +kernel
theorem dX0_value_24 : decode cX0_value 24 = .ok (.getfield 16, 3) := by decide +kernel
theorem dX0_value_27 : decode cX0_value 27 = .ok (.iload 6, 2) := by decide +kernel
theorem dX0_value_29 : decode cX0_value 29 = .ok (.iaload, 1) := by decide +kernel
theorem dX0_value_30 : decode cX0_value 30 = .ok (.istore 7, 2) := by decide +kernel
theorem dX0_value_32 : decode cX0_value 32 = .ok (.iload 7, 2) := by decide +kernel
theorem dX0_value_34 : decode cX0_value 34 = .ok (.iconst 5, 1) := by decide +kernel
theorem dX0_value_35 : decode cX0_value 35 = .ok (.if_icmp .le 45, 3) := by decide +kernel
theorem dX0_value_38 : decode cX0_value 38 = .ok (.iload 5, 2) := by decide +kernel
theorem dX0_value_40 : decode cX0_value 40 = .ok (.iconst 2, 1) := by decide +kernel
theorem dX0_value_41 : decode cX0_value 41 = .ok (.if_icmp .lt 39, 3) := by decide +kernel
theorem dX0_value_44 : decode cX0_value 44 = .ok (.iinc 5 (-1), 3) := by decide +kernel
theorem dX0_value_47 : decode cX0_value 47 = .ok (.aload_n 0, 1) := by decide +kernel
theorem dX0_value_48 : decode cX0_value 48 = .ok (.getfield 23, 3) := by decide +kernel
theorem dX0_value_51 : decode cX0_value 51 = .ok (.iload 5, 2) := by decide +kernel
theorem dX0_value_53 : decode cX0_value 53 = .ok (.iconst 1, 1) := by decide +kernel
theorem dX0_value_54 : decode cX0_value 54 = .ok (.isub, 1) := by decide +kernel
theorem dX0_value_55 : decode cX0_value 55 = .ok (.iload 7, 2) := by decide +kernel
theorem dX0_value_57 : decode cX0_value 57 = .ok (.aload_n 0, 1) := by decide +kernel
theorem dX0_value_58 : decode cX0_value 58 = .ok (.getfield 23, 3) := by decide +kernel
theorem dX0_value_61 : decode cX0_value 61 = .ok (.iload 5, 2) := by decide +kernel
theorem dX0_value_63 : decode cX0_value 63 = .ok (.iconst 1, 1) := by decide +kernel
theorem dX0_value_64 : decode cX0_value 64 = .ok (.isub, 1) := by decide +kernel
theorem dX0_value_65 : decode cX0_value 65 = .ok (.iaload, 1) := by decide +kernel
theorem dX0_value_66 : decode cX0_value 66 = .ok (.aload_n 0, 1) := by decide +kernel
theorem dX0_value_67 : decode cX0_value 67 = .ok (.getfield 23, 3) := by decide +kernel
theorem dX0_value_70 : decode cX0_value 70 = .ok (.iload 5, 2) := by decide +kernel
theorem dX0_value_72 : decode cX0_value 72 = .ok (.iaload, 1) := by decide +kernel
theorem dX0_value_73 : decode cX0_value 73 = .ok (.invokestatic 32, 3) := by decide +kernel
theorem dX0_value_76 : decode cX0_value 76 = .ok (.iastore, 1) := by decide +kernel
theorem dX0_value_77 : decode cX0_value 77 = .ok (.goto 90, 3) := by decide +kernel
theorem dX0_value_80 : decode cX0_value 80 = .ok (.iload 7, 2) := by decide +kernel
theorem dX0_value_82 : decode cX0_value 82 = .ok (.iconst 5, 1) := by decide +kernel
theorem dX0_value_83 : decode cX0_value 83 = .ok (.if_icmp .ne 41, 3) := by decide +kernel
theorem dX0_value_86 : decode cX0_value 86 = .ok (.iload 5, 2) := by decide +kernel
theorem dX0_value_88 : decode cX0_value 88 = .ok (.iconst 1, 1) := by decide +kernel
theorem dX0_value_89 : decode cX0_value 89 = .ok (.if_icmp .lt 35, 3) := by decide +kernel
theorem dX0_value_92 : decode cX0_value 92 = .ok (.aload_n 0, 1) := by decide +kernel
theorem dX0_value_93 : decode cX0_value 93 = .ok (.getfield 23, 3) := by decide +kernel
theorem dX0_value_96 : decode cX0_value 96 = .ok (.iload 5, 2) := by decide +kernel
theorem dX0_value_98 : decode cX0_value 98 = .ok (.iconst 1, 1) := by decide +kernel
theorem dX0_value_99 : decode cX0_value 99 = .ok (.isub, 1) := by decide +kernel
theorem dX0_value_100 : decode cX0_value 100 = .ok (.aload_n 0, 1) := by decide +kernel
theorem dX0_value_101 : decode cX0_value 101 = .ok (.getfield 23, 3) := by decide +kernel
theorem dX0_value_104 : decode cX0_value 104 = .ok (.iload 5, 2) := by decide +kernel
theorem dX0_value_106 : decode cX0_value 106 = .ok (.iconst 1, 1) := by decide +kernel
theorem dX0_value_107 : decode cX0_value 107 = .ok (.isub, 1) := by decide +kernel
theorem dX0_value_108 : decode cX0_value 108 = .ok (.iaload, 1) := by decide +kernel
theorem dX0_value_109 : decode cX0_value 109 = .ok (.ifCond .ne 7, 3) := by decide +kernel
theorem dX0_value_112 : decode cX0_value 112 = .ok (.iconst 1, 1) := by decide +kernel
theorem dX0_value_113 : decode cX0_value 113 = .ok (.goto 4, 3) := by decide +kernel
theorem dX0_value_116 : decode cX0_value 116 = .ok (.iconst 0, 1) := by decide +kernel
theorem dX0_value_117 : decode cX0_value 117 = .ok (.invokestatic 36, 3) := by decide +kernel
theorem dX0_value_120 : decode cX0_value 120 = .ok (.iastore, 1) := by decide +kernel
theorem dX0_value_121 : decode cX0_value 121 = .ok (.goto 46, 3) := by decide +kernel
theorem dX0_value_124 : decode cX0_value 124 = .ok (.iload 7, 2) := by decide +kernel
theorem dX0_value_126 : decode cX0_value 126 = .ok (.iconst 5, 1) := by decide +kernel
theorem dX0_value_127 : decode cX0_value 127 = .ok (.if_icmp .ge 40, 3) := by decide +kernel
theorem dX0_value_130 : decode cX0_value 130 = .ok (.iload 5, 2) := by decide +kernel
theorem dX0_value_132 : decode cX0_value 132 = .ok (.aload_n 0, 1) := by decide +kernel
theorem dX0_value_133 : decode cX0_value 133 = .ok (.getfield 23, 3) := by decide +kernel
theorem dX0_value_136 : decode cX0_value 136 = .ok (.arraylength, 1) := by decide +kernel
theorem dX0_value_137 : decode cX0_value 137 = .ok (.if_icmp .ge 30, 3) := by decide +kernel
theorem dX0_value_140 : decode cX0_value 140 = .ok (.aload_n 0, 1) := by decide +kernel
theorem dX0_value_141 : decode cX0_value 141 = .ok (.getfield 23, 3) := by decide +kernel
theorem dX0_value_144 : decode cX0_value 144 = .ok (.iload 5, 2) := by decide +kernel
theorem dX0_value_146 : decode cX0_value 146 = .ok (.iload 7, 2) := by decide +kernel
theorem dX0_value_148 : decode cX0_value 148 = .ok (.aload_n 0, 1) := by decide +kernel
theorem dX0_value_149 : decode cX0_value 149 = .ok (.getfield 20, 3) := by decide +kernel
theorem dX0_value_152 : decode cX0_value 152 = .ok (.iload 6, 2) := by decide +kernel
theorem dX0_value_154 : decode cX0_value 154 = .ok (.iaload, 1) := by decide +kernel
theorem dX0_value_155 : decode cX0_value 155 = .ok (.iload_n 1, 1) := by decide +kernel
theorem dX0_value_156 : decode cX0_value 156 = .ok (.iload_n 2, 1) := by decide +kernel
theorem dX0_value_157 : decode cX0_value 157 = .ok (.iload_n 3, 1) := by decide +kernel
theorem dX0_value_158 : decode cX0_value 158 = .ok (.iload 4, 2) := by decide +kernel
theorem dX0_value_160 : decode cX0_value 160 = .ok (.invokestatic 40, 3) := by decide +kernel
theorem dX0_value_163 : decode cX0_value 163 = .ok (.iastore, 1) := by decide +kernel
theorem dX0_value_164 : decode cX0_value 164 = .ok (.iinc 5 1, 3) := by decide +kernel
theorem dX0_value_167 : decode cX0_value 167 = .ok (.iinc 6 1, 3) := by decide +kernel
theorem dX0_value_170 : decode cX0_value 170 = .ok (.goto (-164), 3) := by decide +kernel
theorem dX0_value_173 : decode cX0_value 173 = .ok (.iload 5, 2) := by decide +kernel
theorem dX0_value_175 : decode cX0_value 175 = .ok (.ifCond .le 15, 3) := by decide +kernel
theorem dX0_value_178 : decode cX0_value 178 = .ok (.aload_n 0, 1) := by decide +kernel
theorem dX0_value_179 : decode cX0_value 179 = .ok (.getfield 23, 3) := by decide +kernel
theorem dX0_value_182 : decode cX0_value 182 = .ok (.iload 5, 2) := by decide +kernel
theorem dX0_value_184 : decode cX0_value 184 = .ok (.iconst 1, 1) := by decide +kernel
theorem dX0_value_185 : decode cX0_value 185 = .ok (.isub, 1) := by decide +kernel
theorem dX0_value_186 : decode cX0_value 186 = .ok (.iaload, 1) := by decide +kernel
theorem dX0_value_187 : decode cX0_value 187 = .ok (.goto 4, 3) := by decide +kernel
theorem dX0_value_190 : decode cX0_value 190 = .ok (.iconst 0, 1) := by decide +kernel
theorem dX0_value_191 : decode cX0_value 191 = .ok (.ireturn, 1) := by decide +kernel
theorem dX10_forget_0 : decode cX10_forget 0 = .ok (.aload_n 0, 1) := by decide +kernel
theorem dX10_forget_1 : decode cX10_forget 1 = .ok (.iconst 0, 1) := by decide +kernel
theorem dX10_forget_2 : decode cX10_forget 2 = .ok (.putfield 25, 3) := by decide +kernel
theorem dX10_forget_5 : decode cX10_forget 5 = .ok (.return_, 1) := by decide +kernel
theorem dX10_goOn_0 : decode cX10_goOn 0 = .ok (.iload_n 1, 1) := by decide +kernel
theorem dX10_goOn_1 : decode cX10_goOn 1 = .ok (.ifCond .lt 21, 3) := by decide +kernel
theorem dX10_goOn_4 : decode cX10_goOn 4 = .ok (.iload_n 1, 1) := by decide +kernel
theorem dX10_goOn_5 : decode cX10_goOn 5 = .ok (.sipush 1000, 3) := by decide +kernel
theorem dX10_goOn_8 : decode cX10_goOn 8 = .ok (.if_icmp .gt 14, 3) := by decide +kernel
theorem dX10_goOn_11 : decode cX10_goOn 11 = .ok (.aload_n 0, 1) := by decide +kernel
theorem dX10_goOn_12 : decode cX10_goOn 12 = .ok (.getfield 29, 3) := by decide +kernel
theorem dX10_goOn_15 : decode cX10_goOn 15 = .ok (.iload_n 1, 1) := by decide +kernel
theorem dX10_goOn_16 : decode cX10_goOn 16 = .ok (.iadd, 1) := by decide +kernel
theorem dX10_goOn_17 : decode cX10_goOn 17 = .ok (.ldc 32, 2) := by decide +kernel
theorem dX10_goOn_19 : decode cX10_goOn 19 = .ok (.if_icmp .le 5, 3) := by decide +kernel
theorem dX10_goOn_22 : decode cX10_goOn 22 = .ok (.iconst (-1), 1) := by decide +kernel
theorem dX10_goOn_23 : decode cX10_goOn 23 = .ok (.ireturn, 1) := by decide +kernel
theorem dX10_goOn_24 : decode cX10_goOn 24 = .ok (.aload_n 0, 1) := by decide +kernel
theorem dX10_goOn_25 : decode cX10_goOn 25 = .ok (.dup, 1) := by decide +kernel
theorem dX10_goOn_26 : decode cX10_goOn 26 = .ok (.getfield 29, 3) := by decide +kernel
theorem dX10_goOn_29 : decode cX10_goOn 29 = .ok (.iload_n 1, 1) := by decide +kernel
theorem dX10_goOn_30 : decode cX10_goOn 30 = .ok (.iadd, 1) := by decide +kernel
theorem dX10_goOn_31 : decode cX10_goOn 31 = .ok (.putfield 29, 3) := by decide +kernel
theorem dX10_goOn_34 : decode cX10_goOn 34 = .ok (.aload_n 0, 1) := by decide +kernel
theorem dX10_goOn_35 : decode cX10_goOn 35 = .ok (.getfield 29, 3) := by decide +kernel
theorem dX10_goOn_38 : decode cX10_goOn 38 = .ok (.ireturn, 1) := by decide +kernel
theorem dX10_init_0 : decode cX10_init 0 = .ok (.aload_n 0, 1) := by decide +kernel
theorem dX10_init_1 : decode cX10_init 1 = .ok (.invokespecial 3, 3) := by decide +kernel
theorem dX10_init_4 : decode cX10_init 4 = .ok (.aload_n 0, 1) := by decide +kernel
theorem dX10_init_5 : decode cX10_init 5 = .ok (.bipush 30, 2) := by decide +kernel
theorem dX10_init_7 : decode cX10_init 7 = .ok (.newarray .int, 2) := by decide +kernel
theorem dX10_init_9 : decode cX10_init 9 = .ok (.putfield 11, 3) := by decide +kernel
theorem dX10_init_12 : decode cX10_init 12 = .ok (.aload_n 0, 1) := by decide +kernel
theorem dX10_init_13 : decode cX10_init 13 = .ok (.bipush 30, 2) := by decide +kernel
theorem dX10_init_15 : decode cX10_init 15 = .ok (.newarray .boolean, 2) := by decide +kernel
theorem dX10_init_17 : decode cX10_init 17 = .ok (.putfield 15, 3) := by decide +kernel
theorem dX10_init_20 : decode cX10_init 20 = .ok (.aload_n 0, 1) := by decide +kernel
theorem dX10_init_21 : decode cX10_init 21 = .ok (.bipush 30, 2) := by decide +kernel
theorem dX10_init_23 : decode cX10_init 23 = .ok (.newarray .int, 2) := by decide +kernel
theorem dX10_init_25 : decode cX10_init 25 = .ok (.putfield 19, 3) := by decide +kernel
theorem dX10_init_28 : decode cX10_init 28 = .ok (.aload_n 0, 1) := by decide +kernel
theorem dX10_init_29 : decode cX10_init 29 = .ok (.bipush 30, 2) := by decide +kernel
theorem dX10_init_31 : decode cX10_init 31 = .ok (.newarray .int, 2) := by decide +kernel
theorem dX10_init_33 : decode cX10_init 33 = .ok (.putfield 22, 3) := by decide +kernel
theorem dX10_init_36 : decode cX10_init 36 = .ok (.aload_n 0, 1) := by decide +kernel
theorem dX10_init_37 : decode cX10_init 37 = .ok (.iconst 0, 1) := by decide +kernel
theorem dX10_init_38 : decode cX10_init 38 = .ok (.putfield 25, 3) := by decide +kernel
theorem dX10_init_41 : decode cX10_init 41 = .ok (.aload_n 0, 1) := by decide +kernel
theorem dX10_init_42 : decode cX10_init 42 = .ok (.iconst 0, 1) := by decide +kernel
theorem dX10_init_43 : decode cX10_init 43 = .ok (.putfield 29, 3) := by decide +kernel
theorem dX10_init_46 : decode cX10_init 46 = .ok (.return_, 1) := by decide +kernel
theorem dX10_knownAt_0 : decode cX10_knownAt 0 = .ok (.iconst 0, 1) := by decide +kernel
theorem dX10_knownAt_1 : decode cX10_knownAt 1 = .ok (.istore_n 3, 1) := by decide +kernel
theorem dX10_knownAt_2 : decode cX10_knownAt 2 = .ok (.iconst 0, 1) := by decide +kernel
theorem dX10_knownAt_3 : decode cX10_knownAt 3 = .ok (.istore 4, 2) := by decide +kernel
theorem dX10_knownAt_5 : decode cX10_knownAt 5 = .ok (.iload 4, 2) := by decide +kernel
theorem dX10_knownAt_7 : decode cX10_knownAt 7 = .ok (.aload_n 0, 1) := by decide +kernel
theorem dX10_knownAt_8 : decode cX10_knownAt 8 = .ok (.getfield 25, 3) := by decide +kernel
theorem dX10_knownAt_11 : decode cX10_knownAt 11 = .ok (.if_icmp .ge 84, 3) := by decide +kernel
theorem dX10_knownAt_14 : decode cX10_knownAt 14 = .ok (.iload 4, 2) := by decide +kernel
theorem dX10_knownAt_16 : decode cX10_knownAt 16 = .ok (.bipush 30, 2) := by decide +kernel
theorem dX10_knownAt_18 : decode cX10_knownAt 18 = .ok (.if_icmp .ge 77, 3) := by decide +kernel
theorem dX10_knownAt_21 : decode cX10_knownAt 21 = .ok (.aload_n 0, 1) := by decide +kernel
theorem dX10_knownAt_22 : decode cX10_knownAt 22 = .ok (.getfield 22, 3) := by decide +kernel
theorem dX10_knownAt_25 : decode cX10_knownAt 25 = .ok (.iload 4, 2) := by decide +kernel
theorem dX10_knownAt_27 : decode cX10_knownAt 27 = .ok (.iaload, 1) := by decide +kernel
theorem dX10_knownAt_28 : decode cX10_knownAt 28 = .ok (.iconst (-1), 1) := by decide +kernel
theorem dX10_knownAt_29 : decode cX10_knownAt 29 = .ok (.if_icmp .eq 18, 3) := by decide +kernel
theorem dX10_knownAt_32 : decode cX10_knownAt 32 = .ok (.aload_n 0, 1) := by decide +kernel
theorem dX10_knownAt_33 : decode cX10_knownAt 33 = .ok (.getfield 22, 3) := by decide +kernel
theorem dX10_knownAt_36 : decode cX10_knownAt 36 = .ok (.iload 4, 2) := by decide +kernel
theorem dX10_knownAt_38 : decode cX10_knownAt 38 = .ok (.iaload, 1) := by decide +kernel
theorem dX10_knownAt_39 : decode cX10_knownAt 39 = .ok (.iload_n 1, 1) := by decide +kernel
theorem dX10_knownAt_40 : decode cX10_knownAt 40 = .ok (.if_icmp .gt 7, 3) := by decide +kernel
theorem dX10_knownAt_43 : decode cX10_knownAt 43 = .ok (.iconst 1, 1) := by decide +kernel
theorem dX10_knownAt_44 : decode cX10_knownAt 44 = .ok (.goto 4, 3) := by decide +kernel
theorem dX10_knownAt_47 : decode cX10_knownAt 47 = .ok (.iconst 0, 1) := by decide +kernel
theorem dX10_knownAt_48 : decode cX10_knownAt 48 = .ok (.istore 5, 2) := by decide +kernel
theorem dX10_knownAt_50 : decode cX10_knownAt 50 = .ok (.aload_n 0, 1) := by decide +kernel
theorem dX10_knownAt_51 : decode cX10_knownAt 51 = .ok (.getfield 15, 3) := by decide +kernel
theorem dX10_knownAt_54 : decode cX10_knownAt 54 = .ok (.iload 4, 2) := by decide +kernel
theorem dX10_knownAt_56 : decode cX10_knownAt 56 = .ok (.baload, 1) := by decide +kernel
theorem dX10_knownAt_57 : decode cX10_knownAt 57 = .ok (.iload_n 2, 1) := by decide +kernel
theorem dX10_knownAt_58 : decode cX10_knownAt 58 = .ok (.if_icmp .ne 31, 3) := by decide +kernel
theorem dX10_knownAt_61 : decode cX10_knownAt 61 = .ok (.aload_n 0, 1) := by decide +kernel
theorem dX10_knownAt_62 : decode cX10_knownAt 62 = .ok (.getfield 19, 3) := by decide +kernel
theorem dX10_knownAt_65 : decode cX10_knownAt 65 = .ok (.iload 4, 2) := by decide +kernel
theorem dX10_knownAt_67 : decode cX10_knownAt 67 = .ok (.iaload, 1) := by decide +kernel
theorem dX10_knownAt_68 : decode cX10_knownAt 68 = .ok (.iload_n 1, 1) := by decide +kernel
theorem dX10_knownAt_69 : decode cX10_knownAt 69 = .ok (.if_icmp .gt 20, 3) := by decide +kernel
theorem dX10_knownAt_72 : decode cX10_knownAt 72 = .ok (.iload 5, 2) := by decide +kernel
theorem dX10_knownAt_74 : decode cX10_knownAt 74 = .ok (.ifCond .ne 15, 3) := by decide +kernel
theorem dX10_knownAt_77 : decode cX10_knownAt 77 = .ok (.iload_n 3, 1) := by decide +kernel
theorem dX10_knownAt_78 : decode cX10_knownAt 78 = .ok (.iconst 1, 1) := by decide +kernel
theorem dX10_knownAt_79 : decode cX10_knownAt 79 = .ok (.aload_n 0, 1) := by decide +kernel
theorem dX10_knownAt_80 : decode cX10_knownAt 80 = .ok (.getfield 11, 3) := by decide +kernel
theorem dX10_knownAt_83 : decode cX10_knownAt 83 = .ok (.iload 4, 2) := by decide +kernel
theorem dX10_knownAt_85 : decode cX10_knownAt 85 = .ok (.iaload, 1) := by decide +kernel
theorem dX10_knownAt_86 : decode cX10_knownAt 86 = .ok (.ishl, 1) := by decide +kernel
theorem dX10_knownAt_87 : decode cX10_knownAt 87 = .ok (.ior, 1) := by decide +kernel
theorem dX10_knownAt_88 : decode cX10_knownAt 88 = .ok (.istore_n 3, 1) := by decide +kernel
theorem dX10_knownAt_89 : decode cX10_knownAt 89 = .ok (.iinc 4 1, 3) := by decide +kernel
theorem dX10_knownAt_92 : decode cX10_knownAt 92 = .ok (.goto (-87), 3) := by decide +kernel
theorem dX10_knownAt_95 : decode cX10_knownAt 95 = .ok (.iload_n 3, 1) := by decide +kernel
theorem dX10_knownAt_96 : decode cX10_knownAt 96 = .ok (.ireturn, 1) := by decide +kernel
theorem dX10_takeBack_0 : decode cX10_takeBack 0 = .ok (.iload_n 1, 1) := by decide +kernel
theorem dX10_takeBack_1 : decode cX10_takeBack 1 = .ok (.ifCond .lt 27, 3) := by decide +kernel
theorem dX10_takeBack_4 : decode cX10_takeBack 4 = .ok (.iload_n 1, 1) := by decide +kernel
theorem dX10_takeBack_5 : decode cX10_takeBack 5 = .ok (.aload_n 0, 1) := by decide +kernel
theorem dX10_takeBack_6 : decode cX10_takeBack 6 = .ok (.getfield 25, 3) := by decide +kernel
theorem dX10_takeBack_9 : decode cX10_takeBack 9 = .ok (.if_icmp .ge 19, 3) := by decide +kernel
theorem dX10_takeBack_12 : decode cX10_takeBack 12 = .ok (.iload_n 1, 1) := by decide +kernel
theorem dX10_takeBack_13 : decode cX10_takeBack 13 = .ok (.bipush 30, 2) := by decide +kernel
theorem dX10_takeBack_15 : decode cX10_takeBack 15 = .ok (.if_icmp .ge 13, 3) := by decide +kernel
theorem dX10_takeBack_18 : decode cX10_takeBack 18 = .ok (.aload_n 0, 1) := by decide +kernel
theorem dX10_takeBack_19 : decode cX10_takeBack 19 = .ok (.getfield 22, 3) := by decide +kernel
theorem dX10_takeBack_22 : decode cX10_takeBack 22 = .ok (.iload_n 1, 1) := by decide +kernel
theorem dX10_takeBack_23 : decode cX10_takeBack 23 = .ok (.iaload, 1) := by decide +kernel
theorem dX10_takeBack_24 : decode cX10_takeBack 24 = .ok (.iconst (-1), 1) := by decide +kernel
theorem dX10_takeBack_25 : decode cX10_takeBack 25 = .ok (.if_icmp .eq 5, 3) := by decide +kernel
theorem dX10_takeBack_28 : decode cX10_takeBack 28 = .ok (.iconst 0, 1) := by decide +kernel
theorem dX10_takeBack_29 : decode cX10_takeBack 29 = .ok (.ireturn, 1) := by decide +kernel
theorem dX10_takeBack_30 : decode cX10_takeBack 30 = .ok (.aload_n 0, 1) := by decide +kernel
theorem dX10_takeBack_31 : decode cX10_takeBack 31 = .ok (.getfield 22, 3) := by decide +kernel
theorem dX10_takeBack_34 : decode cX10_takeBack 34 = .ok (.iload_n 1, 1) := by decide +kernel
theorem dX10_takeBack_35 : decode cX10_takeBack 35 = .ok (.aload_n 0, 1) := by decide +kernel
theorem dX10_takeBack_36 : decode cX10_takeBack 36 = .ok (.getfield 29, 3) := by decide +kernel
theorem dX10_takeBack_39 : decode cX10_takeBack 39 = .ok (.iastore, 1) := by decide +kernel
theorem dX10_takeBack_40 : decode cX10_takeBack 40 = .ok (.iconst 1, 1) := by decide +kernel
theorem dX10_takeBack_41 : decode cX10_takeBack 41 = .ok (.ireturn, 1) := by decide +kernel
theorem dX10_tell_0 : decode cX10_tell 0 = .ok (.aload_n 0, 1) := by decide +kernel
theorem dX10_tell_1 : decode cX10_tell 1 = .ok (.getfield 25, 3) := by decide +kernel
theorem dX10_tell_4 : decode cX10_tell 4 = .ok (.ifCond .lt 12, 3) := by decide +kernel
theorem dX10_tell_7 : decode cX10_tell 7 = .ok (.aload_n 0, 1) := by decide +kernel
theorem dX10_tell_8 : decode cX10_tell 8 = .ok (.getfield 25, 3) := by decide +kernel
theorem dX10_tell_11 : decode cX10_tell 11 = .ok (.bipush 30, 2) := by decide +kernel
theorem dX10_tell_13 : decode cX10_tell 13 = .ok (.if_icmp .lt 5, 3) := by decide +kernel
theorem dX10_tell_16 : decode cX10_tell 16 = .ok (.iconst (-1), 1) := by decide +kernel
theorem dX10_tell_17 : decode cX10_tell 17 = .ok (.ireturn, 1) := by decide +kernel
theorem dX10_tell_18 : decode cX10_tell 18 = .ok (.aload_n 0, 1) := by decide +kernel
theorem dX10_tell_19 : decode cX10_tell 19 = .ok (.getfield 11, 3) := by decide +kernel
theorem dX10_tell_22 : decode cX10_tell 22 = .ok (.aload_n 0, 1) := by decide +kernel
theorem dX10_tell_23 : decode cX10_tell 23 = .ok (.getfield 25, 3) := by decide +kernel
theorem dX10_tell_26 : decode cX10_tell 26 = .ok (.iload_n 1, 1) := by decide +kernel
theorem dX10_tell_27 : decode cX10_tell 27 = .ok (.iastore, 1) := by decide +kernel
theorem dX10_tell_28 : decode cX10_tell 28 = .ok (.aload_n 0, 1) := by decide +kernel
theorem dX10_tell_29 : decode cX10_tell 29 = .ok (.getfield 15, 3) := by decide +kernel
theorem dX10_tell_32 : decode cX10_tell 32 = .ok (.aload_n 0, 1) := by decide +kernel
theorem dX10_tell_33 : decode cX10_tell 33 = .ok (.getfield 25, 3) := by decide +kernel
theorem dX10_tell_36 : decode cX10_tell 36 = .ok (.iload_n 2, 1) := by decide +kernel
theorem dX10_tell_37 : decode cX10_tell 37 = .ok (.bastore, 1) := by decide +kernel
theorem dX10_tell_38 : decode cX10_tell 38 = .ok (.aload_n 0, 1) := by decide +kernel
theorem dX10_tell_39 : decode cX10_tell 39 = .ok (.getfield 19, 3) := by decide +kernel
theorem dX10_tell_42 : decode cX10_tell 42 = .ok (.aload_n 0, 1) := by decide +kernel
theorem dX10_tell_43 : decode cX10_tell 43 = .ok (.getfield 25, 3) := by decide +kernel
theorem dX10_tell_46 : decode cX10_tell 46 = .ok (.aload_n 0, 1) := by decide +kernel
theorem dX10_tell_47 : decode cX10_tell 47 = .ok (.getfield 29, 3) := by decide +kernel
theorem dX10_tell_50 : decode cX10_tell 50 = .ok (.iastore, 1) := by decide +kernel
theorem dX10_tell_51 : decode cX10_tell 51 = .ok (.aload_n 0, 1) := by decide +kernel
theorem dX10_tell_52 : decode cX10_tell 52 = .ok (.getfield 22, 3) := by decide +kernel
theorem dX10_tell_55 : decode cX10_tell 55 = .ok (.aload_n 0, 1) := by decide +kernel
theorem dX10_tell_56 : decode cX10_tell 56 = .ok (.getfield 25, 3) := by decide +kernel
theorem dX10_tell_59 : decode cX10_tell 59 = .ok (.iconst (-1), 1) := by decide +kernel
theorem dX10_tell_60 : decode cX10_tell 60 = .ok (.iastore, 1) := by decide +kernel
theorem dX10_tell_61 : decode cX10_tell 61 = .ok (.aload_n 0, 1) := by decide +kernel
theorem dX10_tell_62 : decode cX10_tell 62 = .ok (.dup, 1) := by decide +kernel
theorem dX10_tell_63 : decode cX10_tell 63 = .ok (.getfield 25, 3) := by decide +kernel
theorem dX10_tell_66 : decode cX10_tell 66 = .ok (.iconst 1, 1) := by decide +kernel
theorem dX10_tell_67 : decode cX10_tell 67 = .ok (.iadd, 1) := by decide +kernel
theorem dX10_tell_68 : decode cX10_tell 68 = .ok (.putfield 25, 3) := by decide +kernel
theorem dX10_tell_71 : decode cX10_tell 71 = .ok (.aload_n 0, 1) := by decide +kernel
theorem dX10_tell_72 : decode cX10_tell 72 = .ok (.getfield 25, 3) := by decide +kernel
theorem dX10_tell_75 : decode cX10_tell 75 = .ok (.iconst 1, 1) := by decide +kernel
theorem dX10_tell_76 : decode cX10_tell 76 = .ok (.isub, 1) := by decide +kernel
theorem dX10_tell_77 : decode cX10_tell 77 = .ok (.ireturn, 1) := by decide +kernel
theorem dX11_about_0 : decode cX11_about 0 = .ok (.iload_n 1, 1) := by decide +kernel
theorem dX11_about_1 : decode cX11_about 1 = .ok (.tableswitch 207 0 15 #[79, 87, 95, 103, 111, 119, 127, 135, 143, 151, 159, 167, 175, 183, 188, 199], 79) := by decide +kernel
theorem dX11_about_80 : decode cX11_about 80 = .ok (.aload_n 0, 1) := by decide +kernel
theorem dX11_about_81 : decode cX11_about 81 = .ok (.getfield 29, 3) := by decide +kernel
theorem dX11_about_84 : decode cX11_about 84 = .ok (.getfield 128, 3) := by decide +kernel
theorem dX11_about_87 : decode cX11_about 87 = .ok (.ireturn, 1) := by decide +kernel
theorem dX11_about_88 : decode cX11_about 88 = .ok (.aload_n 0, 1) := by decide +kernel
theorem dX11_about_89 : decode cX11_about 89 = .ok (.getfield 29, 3) := by decide +kernel
theorem dX11_about_92 : decode cX11_about 92 = .ok (.getfield 392, 3) := by decide +kernel
theorem dX11_about_95 : decode cX11_about 95 = .ok (.ireturn, 1) := by decide +kernel
theorem dX11_about_96 : decode cX11_about 96 = .ok (.aload_n 0, 1) := by decide +kernel
theorem dX11_about_97 : decode cX11_about 97 = .ok (.getfield 29, 3) := by decide +kernel
theorem dX11_about_100 : decode cX11_about 100 = .ok (.getfield 421, 3) := by decide +kernel
theorem dX11_about_103 : decode cX11_about 103 = .ok (.ireturn, 1) := by decide +kernel
theorem dX11_about_104 : decode cX11_about 104 = .ok (.aload_n 0, 1) := by decide +kernel
theorem dX11_about_105 : decode cX11_about 105 = .ok (.getfield 29, 3) := by decide +kernel
theorem dX11_about_108 : decode cX11_about 108 = .ok (.getfield 424, 3) := by decide +kernel
theorem dX11_about_111 : decode cX11_about 111 = .ok (.ireturn, 1) := by decide +kernel
theorem dX11_about_112 : decode cX11_about 112 = .ok (.aload_n 0, 1) := by decide +kernel
theorem dX11_about_113 : decode cX11_about 113 = .ok (.getfield 29, 3) := by decide +kernel
theorem dX11_about_116 : decode cX11_about 116 = .ok (.getfield 368, 3) := by decide +kernel
theorem dX11_about_119 : decode cX11_about 119 = .ok (.ireturn, 1) := by decide +kernel
theorem dX11_about_120 : decode cX11_about 120 = .ok (.aload_n 0, 1) := by decide +kernel
theorem dX11_about_121 : decode cX11_about 121 = .ok (.getfield 37, 3) := by decide +kernel
theorem dX11_about_124 : decode cX11_about 124 = .ok (.getfield 243, 3) := by decide +kernel
theorem dX11_about_127 : decode cX11_about 127 = .ok (.ireturn, 1) := by decide +kernel
theorem dX11_about_128 : decode cX11_about 128 = .ok (.aload_n 0, 1) := by decide +kernel
theorem dX11_about_129 : decode cX11_about 129 = .ok (.getfield 37, 3) := by decide +kernel
theorem dX11_about_132 : decode cX11_about 132 = .ok (.getfield 427, 3) := by decide +kernel
theorem dX11_about_135 : decode cX11_about 135 = .ok (.ireturn, 1) := by decide +kernel
theorem dX11_about_136 : decode cX11_about 136 = .ok (.aload_n 0, 1) := by decide +kernel
theorem dX11_about_137 : decode cX11_about 137 = .ok (.getfield 37, 3) := by decide +kernel
theorem dX11_about_140 : decode cX11_about 140 = .ok (.getfield 304, 3) := by decide +kernel
theorem dX11_about_143 : decode cX11_about 143 = .ok (.ireturn, 1) := by decide +kernel
theorem dX11_about_144 : decode cX11_about 144 = .ok (.aload_n 0, 1) := by decide +kernel
theorem dX11_about_145 : decode cX11_about 145 = .ok (.getfield 41, 3) := by decide +kernel
theorem dX11_about_148 : decode cX11_about 148 = .ok (.invokevirtual 236, 3) := by decide +kernel
theorem dX11_about_151 : decode cX11_about 151 = .ok (.ireturn, 1) := by decide +kernel
theorem dX11_about_152 : decode cX11_about 152 = .ok (.aload_n 0, 1) := by decide +kernel
theorem dX11_about_153 : decode cX11_about 153 = .ok (.getfield 51, 3) := by decide +kernel
theorem dX11_about_156 : decode cX11_about 156 = .ok (.invokevirtual 430, 3) := by decide +kernel
theorem dX11_about_159 : decode cX11_about 159 = .ok (.ireturn, 1) := by decide +kernel
theorem dX11_about_160 : decode cX11_about 160 = .ok (.aload_n 0, 1) := by decide +kernel
theorem dX11_about_161 : decode cX11_about 161 = .ok (.getfield 51, 3) := by decide +kernel
theorem dX11_about_164 : decode cX11_about 164 = .ok (.invokevirtual 433, 3) := by decide +kernel
theorem dX11_about_167 : decode cX11_about 167 = .ok (.ireturn, 1) := by decide +kernel
theorem dX11_about_168 : decode cX11_about 168 = .ok (.aload_n 0, 1) := by decide +kernel
theorem dX11_about_169 : decode cX11_about 169 = .ok (.getfield 93, 3) := by decide +kernel
theorem dX11_about_172 : decode cX11_about 172 = .ok (.getfield 436, 3) := by decide +kernel
theorem dX11_about_175 : decode cX11_about 175 = .ok (.ireturn, 1) := by decide +kernel
theorem dX11_about_176 : decode cX11_about 176 = .ok (.aload_n 0, 1) := by decide +kernel
theorem dX11_about_177 : decode cX11_about 177 = .ok (.getfield 93, 3) := by decide +kernel
theorem dX11_about_180 : decode cX11_about 180 = .ok (.getfield 439, 3) := by decide +kernel
theorem dX11_about_183 : decode cX11_about 183 = .ok (.ireturn, 1) := by decide +kernel
theorem dX11_about_184 : decode cX11_about 184 = .ok (.aload_n 0, 1) := by decide +kernel
theorem dX11_about_185 : decode cX11_about 185 = .ok (.getfield 13, 3) := by decide +kernel
theorem dX11_about_188 : decode cX11_about 188 = .ok (.ireturn, 1) := by decide +kernel
theorem dX11_about_189 : decode cX11_about 189 = .ok (.aload_n 0, 1) := by decide +kernel
theorem dX11_about_190 : decode cX11_about 190 = .ok (.getfield 29, 3) := by decide +kernel
theorem dX11_about_193 : decode cX11_about 193 = .ok (.getfield 251, 3) := by decide +kernel
theorem dX11_about_196 : decode cX11_about 196 = .ok (.getfield 442, 3) := by decide +kernel
theorem dX11_about_199 : decode cX11_about 199 = .ok (.ireturn, 1) := by decide +kernel
theorem dX11_about_200 : decode cX11_about 200 = .ok (.aload_n 0, 1) := by decide +kernel
theorem dX11_about_201 : decode cX11_about 201 = .ok (.getfield 79, 3) := by decide +kernel
theorem dX11_about_204 : decode cX11_about 204 = .ok (.getfield 445, 3) := by decide +kernel
theorem dX11_about_207 : decode cX11_about 207 = .ok (.ireturn, 1) := by decide +kernel
theorem dX11_about_208 : decode cX11_about 208 = .ok (.iconst (-1), 1) := by decide +kernel
theorem dX11_about_209 : decode cX11_about 209 = .ok (.ireturn, 1) := by decide +kernel
theorem dX11_ask_0 : decode cX11_ask 0 = .ok (.iload_n 1, 1) := by decide +kernel
theorem dX11_ask_1 : decode cX11_ask 1 = .ok (.ifCond .lt 8, 3) := by decide +kernel
theorem dX11_ask_4 : decode cX11_ask 4 = .ok (.iload_n 1, 1) := by decide +kernel
theorem dX11_ask_5 : decode cX11_ask 5 = .ok (.iconst 1, 1) := by decide +kernel
theorem dX11_ask_6 : decode cX11_ask 6 = .ok (.if_icmp .le 5, 3) := by decide +kernel
theorem dX11_ask_9 : decode cX11_ask 9 = .ok (.iconst (-1), 1) := by decide +kernel
theorem dX11_ask_10 : decode cX11_ask 10 = .ok (.ireturn, 1) := by decide +kernel
theorem dX11_ask_11 : decode cX11_ask 11 = .ok (.aload_n 0, 1) := by decide +kernel
theorem dX11_ask_12 : decode cX11_ask 12 = .ok (.iload_n 2, 1) := by decide +kernel
theorem dX11_ask_13 : decode cX11_ask 13 = .ok (.invokevirtual 415, 3) := by decide +kernel
theorem dX11_ask_16 : decode cX11_ask 16 = .ok (.istore_n 3, 1) := by decide +kernel
theorem dX11_ask_17 : decode cX11_ask 17 = .ok (.iload_n 3, 1) := by decide +kernel
theorem dX11_ask_18 : decode cX11_ask 18 = .ok (.ifCond .ne 5, 3) := by decide +kernel
theorem dX11_ask_21 : decode cX11_ask 21 = .ok (.iconst (-1), 1) := by decide +kernel
theorem dX11_ask_22 : decode cX11_ask 22 = .ok (.ireturn, 1) := by decide +kernel
theorem dX11_ask_23 : decode cX11_ask 23 = .ok (.aload_n 0, 1) := by decide +kernel
theorem dX11_ask_24 : decode cX11_ask 24 = .ok (.getfield 93, 3) := by decide +kernel
theorem dX11_ask_27 : decode cX11_ask 27 = .ok (.iload_n 2, 1) := by decide +kernel
theorem dX11_ask_28 : decode cX11_ask 28 = .ok (.iconst 1, 1) := by decide +kernel
theorem dX11_ask_29 : decode cX11_ask 29 = .ok (.invokevirtual 412, 3) := by decide +kernel
theorem dX11_ask_32 : decode cX11_ask 32 = .ok (.istore 4, 2) := by decide +kernel
theorem dX11_ask_34 : decode cX11_ask 34 = .ok (.aload_n 0, 1) := by decide +kernel
theorem dX11_ask_35 : decode cX11_ask 35 = .ok (.getfield 93, 3) := by decide +kernel
theorem dX11_ask_38 : decode cX11_ask 38 = .ok (.iload_n 2, 1) := by decide +kernel
theorem dX11_ask_39 : decode cX11_ask 39 = .ok (.iconst 0, 1) := by decide +kernel
theorem dX11_ask_40 : decode cX11_ask 40 = .ok (.invokevirtual 412, 3) := by decide +kernel
theorem dX11_ask_43 : decode cX11_ask 43 = .ok (.istore 5, 2) := by decide +kernel
theorem dX11_ask_45 : decode cX11_ask 45 = .ok (.iconst (-1), 1) := by decide +kernel
theorem dX11_ask_46 : decode cX11_ask 46 = .ok (.istore 6, 2) := by decide +kernel
theorem dX11_ask_48 : decode cX11_ask 48 = .ok (.iconst 0, 1) := by decide +kernel
theorem dX11_ask_49 : decode cX11_ask 49 = .ok (.istore 7, 2) := by decide +kernel
theorem dX11_ask_51 : decode cX11_ask 51 = .ok (.iconst 0, 1) := by decide +kernel
theorem dX11_ask_52 : decode cX11_ask 52 = .ok (.istore 8, 2) := by decide +kernel
theorem dX11_ask_54 : decode cX11_ask 54 = .ok (.iload 8, 2) := by decide +kernel
theorem dX11_ask_56 : decode cX11_ask 56 = .ok (.aload_n 0, 1) := by decide +kernel
theorem dX11_ask_57 : decode cX11_ask 57 = .ok (.getfield 29, 3) := by decide +kernel
theorem dX11_ask_60 : decode cX11_ask 60 = .ok (.getfield 392, 3) := by decide +kernel
theorem dX11_ask_63 : decode cX11_ask 63 = .ok (.if_icmp .ge 59, 3) := by decide +kernel
theorem dX11_ask_66 : decode cX11_ask 66 = .ok (.aload_n 0, 1) := by decide +kernel
theorem dX11_ask_67 : decode cX11_ask 67 = .ok (.getfield 71, 3) := by decide +kernel
theorem dX11_ask_70 : decode cX11_ask 70 = .ok (.iload 4, 2) := by decide +kernel
theorem dX11_ask_72 : decode cX11_ask 72 = .ok (.iconst 1, 1) := by decide +kernel
theorem dX11_ask_73 : decode cX11_ask 73 = .ok (.iload 8, 2) := by decide +kernel
theorem dX11_ask_75 : decode cX11_ask 75 = .ok (.ishl, 1) := by decide +kernel
theorem dX11_ask_76 : decode cX11_ask 76 = .ok (.ior, 1) := by decide +kernel
theorem dX11_ask_77 : decode cX11_ask 77 = .ok (.iload 5, 2) := by decide +kernel
theorem dX11_ask_79 : decode cX11_ask 79 = .ok (.invokevirtual 328, 3) := by decide +kernel
theorem dX11_ask_82 : decode cX11_ask 82 = .ok (.istore 9, 2) := by decide +kernel
theorem dX11_ask_84 : decode cX11_ask 84 = .ok (.iload 9, 2) := by decide +kernel
theorem dX11_ask_86 : decode cX11_ask 86 = .ok (.iload_n 3, 1) := by decide +kernel
theorem dX11_ask_87 : decode cX11_ask 87 = .ok (.iload 9, 2) := by decide +kernel
theorem dX11_ask_89 : decode cX11_ask 89 = .ok (.isub, 1) := by decide +kernel
theorem dX11_ask_90 : decode cX11_ask 90 = .ok (.invokestatic 246, 3) := by decide +kernel
theorem dX11_ask_93 : decode cX11_ask 93 = .ok (.istore 10, 2) := by decide +kernel
theorem dX11_ask_95 : decode cX11_ask 95 = .ok (.iload 6, 2) := by decide +kernel
theorem dX11_ask_97 : decode cX11_ask 97 = .ok (.iconst (-1), 1) := by decide +kernel
theorem dX11_ask_98 : decode cX11_ask 98 = .ok (.if_icmp .eq 10, 3) := by decide +kernel
theorem dX11_ask_101 : decode cX11_ask 101 = .ok (.iload 10, 2) := by decide +kernel
theorem dX11_ask_103 : decode cX11_ask 103 = .ok (.iload 7, 2) := by decide +kernel
theorem dX11_ask_105 : decode cX11_ask 105 = .ok (.if_icmp .ge 11, 3) := by decide +kernel
theorem dX11_ask_108 : decode cX11_ask 108 = .ok (.iload 8, 2) := by decide +kernel
theorem dX11_ask_110 : decode cX11_ask 110 = .ok (.istore 6, 2) := by decide +kernel
theorem dX11_ask_112 : decode cX11_ask 112 = .ok (.iload 10, 2) := by decide +kernel
theorem dX11_ask_114 : decode cX11_ask 114 = .ok (.istore 7, 2) := by decide +kernel
theorem dX11_ask_116 : decode cX11_ask 116 = .ok (.iinc 8 1, 3) := by decide +kernel
theorem dX11_ask_119 : decode cX11_ask 119 = .ok (.goto (-65), 3) := by decide +kernel
theorem dX11_ask_122 : decode cX11_ask 122 = .ok (.iload_n 1, 1) := by decide +kernel
theorem dX11_ask_123 : decode cX11_ask 123 = .ok (.ifCond .eq 9, 3) := by decide +kernel
theorem dX11_ask_126 : decode cX11_ask 126 = .ok (.iload 6, 2) := by decide +kernel
theorem dX11_ask_128 : decode cX11_ask 128 = .ok (.iconst (-1), 1) := by decide +kernel
theorem dX11_ask_129 : decode cX11_ask 129 = .ok (.if_icmp .ne 8, 3) := by decide +kernel
theorem dX11_ask_132 : decode cX11_ask 132 = .ok (.iload 6, 2) := by decide +kernel
theorem dX11_ask_134 : decode cX11_ask 134 = .ok (.goto 5, 3) := by decide +kernel
theorem dX11_ask_137 : decode cX11_ask 137 = .ok (.iload 7, 2) := by decide +kernel
theorem dX11_ask_139 : decode cX11_ask 139 = .ok (.ireturn, 1) := by decide +kernel
theorem dX11_back_0 : decode cX11_back 0 = .ok (.iload_n 1, 1) := by decide +kernel
theorem dX11_back_1 : decode cX11_back 1 = .ok (.ifCond .lt 19, 3) := by decide +kernel
theorem dX11_back_4 : decode cX11_back 4 = .ok (.iload_n 1, 1) := by decide +kernel
theorem dX11_back_5 : decode cX11_back 5 = .ok (.iconst 3, 1) := by decide +kernel
theorem dX11_back_6 : decode cX11_back 6 = .ok (.if_icmp .ge 14, 3) := by decide +kernel
theorem dX11_back_9 : decode cX11_back 9 = .ok (.aload_n 0, 1) := by decide +kernel
theorem dX11_back_10 : decode cX11_back 10 = .ok (.getfield 59, 3) := by decide +kernel
theorem dX11_back_13 : decode cX11_back 13 = .ok (.iload_n 1, 1) := by decide +kernel
theorem dX11_back_14 : decode cX11_back 14 = .ok (.ishr, 1) := by decide +kernel
theorem dX11_back_15 : decode cX11_back 15 = .ok (.iconst 1, 1) := by decide +kernel
theorem dX11_back_16 : decode cX11_back 16 = .ok (.iand, 1) := by decide +kernel
theorem dX11_back_17 : decode cX11_back 17 = .ok (.ifCond .ne 5, 3) := by decide +kernel
theorem dX11_back_20 : decode cX11_back 20 = .ok (.iconst (-1), 1) := by decide +kernel
theorem dX11_back_21 : decode cX11_back 21 = .ok (.ireturn, 1) := by decide +kernel
theorem dX11_back_22 : decode cX11_back 22 = .ok (.aload_n 0, 1) := by decide +kernel
theorem dX11_back_23 : decode cX11_back 23 = .ok (.getfield 41, 3) := by decide +kernel
theorem dX11_back_26 : decode cX11_back 26 = .ok (.aload_n 0, 1) := by decide +kernel
theorem dX11_back_27 : decode cX11_back 27 = .ok (.getfield 55, 3) := by decide +kernel
theorem dX11_back_30 : decode cX11_back 30 = .ok (.iload_n 1, 1) := by decide +kernel
theorem dX11_back_31 : decode cX11_back 31 = .ok (.aaload, 1) := by decide +kernel
theorem dX11_back_32 : decode cX11_back 32 = .ok (.invokevirtual 118, 3) := by decide +kernel
theorem dX11_back_35 : decode cX11_back 35 = .ok (.aload_n 0, 1) := by decide +kernel
theorem dX11_back_36 : decode cX11_back 36 = .ok (.getfield 51, 3) := by decide +kernel
theorem dX11_back_39 : decode cX11_back 39 = .ok (.invokevirtual 121, 3) := by decide +kernel
theorem dX11_back_42 : decode cX11_back 42 = .ok (.aload_n 0, 1) := by decide +kernel
theorem dX11_back_43 : decode cX11_back 43 = .ok (.getfield 41, 3) := by decide +kernel
theorem dX11_back_46 : decode cX11_back 46 = .ok (.bipush (-2), 2) := by decide +kernel
theorem dX11_back_48 : decode cX11_back 48 = .ok (.aload_n 0, 1) := by decide +kernel
theorem dX11_back_49 : decode cX11_back 49 = .ok (.getfield 29, 3) := by decide +kernel
theorem dX11_back_52 : decode cX11_back 52 = .ok (.getfield 128, 3) := by decide +kernel
theorem dX11_back_55 : decode cX11_back 55 = .ok (.invokevirtual 206, 3) := by decide +kernel
theorem dX11_back_58 : decode cX11_back 58 = .ok (.invokestatic 171, 3) := by decide +kernel
theorem dX11_back_61 : decode cX11_back 61 = .ok (.ireturn, 1) := by decide +kernel
theorem dX11_barred_0 : decode cX11_barred 0 = .ok (.aload_n 0, 1) := by decide +kernel
theorem dX11_barred_1 : decode cX11_barred 1 = .ok (.getfield 29, 3) := by decide +kernel
theorem dX11_barred_4 : decode cX11_barred 4 = .ok (.invokevirtual 389, 3) := by decide +kernel
theorem dX11_barred_7 : decode cX11_barred 7 = .ok (.istore_n 1, 1) := by decide +kernel
theorem dX11_barred_8 : decode cX11_barred 8 = .ok (.iconst 0, 1) := by decide +kernel
theorem dX11_barred_9 : decode cX11_barred 9 = .ok (.istore_n 2, 1) := by decide +kernel
theorem dX11_barred_10 : decode cX11_barred 10 = .ok (.iload_n 2, 1) := by decide +kernel
theorem dX11_barred_11 : decode cX11_barred 11 = .ok (.aload_n 0, 1) := by decide +kernel
theorem dX11_barred_12 : decode cX11_barred 12 = .ok (.getfield 29, 3) := by decide +kernel
theorem dX11_barred_15 : decode cX11_barred 15 = .ok (.getfield 368, 3) := by decide +kernel
theorem dX11_barred_18 : decode cX11_barred 18 = .ok (.if_icmp .ge 22, 3) := by decide +kernel
theorem dX11_barred_21 : decode cX11_barred 21 = .ok (.iload_n 1, 1) := by decide +kernel
theorem dX11_barred_22 : decode cX11_barred 22 = .ok (.aload_n 0, 1) := by decide +kernel
theorem dX11_barred_23 : decode cX11_barred 23 = .ok (.getfield 79, 3) := by decide +kernel
theorem dX11_barred_26 : decode cX11_barred 26 = .ok (.iload_n 2, 1) := by decide +kernel
theorem dX11_barred_27 : decode cX11_barred 27 = .ok (.invokevirtual 209, 3) := by decide +kernel
theorem dX11_barred_30 : decode cX11_barred 30 = .ok (.iconst (-1), 1) := by decide +kernel
theorem dX11_barred_31 : decode cX11_barred 31 = .ok (.ixor, 1) := by decide +kernel
theorem dX11_barred_32 : decode cX11_barred 32 = .ok (.iand, 1) := by decide +kernel
theorem dX11_barred_33 : decode cX11_barred 33 = .ok (.istore_n 1, 1) := by decide +kernel
theorem dX11_barred_34 : decode cX11_barred 34 = .ok (.iinc 2 1, 3) := by decide +kernel
theorem dX11_barred_37 : decode cX11_barred 37 = .ok (.goto (-27), 3) := by decide +kernel
theorem dX11_barred_40 : decode cX11_barred 40 = .ok (.iload_n 1, 1) := by decide +kernel
theorem dX11_barred_41 : decode cX11_barred 41 = .ok (.ireturn, 1) := by decide +kernel
theorem dX11_best_0 : decode cX11_best 0 = .ok (.iconst (-1), 1) := by decide +kernel
theorem dX11_best_1 : decode cX11_best 1 = .ok (.istore_n 1, 1) := by decide +kernel
theorem dX11_best_2 : decode cX11_best 2 = .ok (.iconst 0, 1) := by decide +kernel
theorem dX11_best_3 : decode cX11_best 3 = .ok (.istore_n 2, 1) := by decide +kernel
theorem dX11_best_4 : decode cX11_best 4 = .ok (.iconst 0, 1) := by decide +kernel
theorem dX11_best_5 : decode cX11_best 5 = .ok (.istore_n 3, 1) := by decide +kernel
theorem dX11_best_6 : decode cX11_best 6 = .ok (.iload_n 3, 1) := by decide +kernel
theorem dX11_best_7 : decode cX11_best 7 = .ok (.aload_n 0, 1) := by decide +kernel
theorem dX11_best_8 : decode cX11_best 8 = .ok (.getfield 29, 3) := by decide +kernel
theorem dX11_best_11 : decode cX11_best 11 = .ok (.getfield 128, 3) := by decide +kernel
theorem dX11_best_14 : decode cX11_best 14 = .ok (.if_icmp .ge 40, 3) := by decide +kernel
theorem dX11_best_17 : decode cX11_best 17 = .ok (.aload_n 0, 1) := by decide +kernel
theorem dX11_best_18 : decode cX11_best 18 = .ok (.getfield 79, 3) := by decide +kernel
theorem dX11_best_21 : decode cX11_best 21 = .ok (.iconst 1, 1) := by decide +kernel
theorem dX11_best_22 : decode cX11_best 22 = .ok (.iload_n 3, 1) := by decide +kernel
theorem dX11_best_23 : decode cX11_best 23 = .ok (.ishl, 1) := by decide +kernel
theorem dX11_best_24 : decode cX11_best 24 = .ok (.invokevirtual 155, 3) := by decide +kernel
theorem dX11_best_27 : decode cX11_best 27 = .ok (.invokestatic 171, 3) := by decide +kernel
theorem dX11_best_30 : decode cX11_best 30 = .ok (.istore 4, 2) := by decide +kernel
theorem dX11_best_32 : decode cX11_best 32 = .ok (.iload_n 1, 1) := by decide +kernel
theorem dX11_best_33 : decode cX11_best 33 = .ok (.iconst (-1), 1) := by decide +kernel
theorem dX11_best_34 : decode cX11_best 34 = .ok (.if_icmp .eq 9, 3) := by decide +kernel
theorem dX11_best_37 : decode cX11_best 37 = .ok (.iload 4, 2) := by decide +kernel
theorem dX11_best_39 : decode cX11_best 39 = .ok (.iload_n 2, 1) := by decide +kernel
theorem dX11_best_40 : decode cX11_best 40 = .ok (.if_icmp .le 8, 3) := by decide +kernel
theorem dX11_best_43 : decode cX11_best 43 = .ok (.iload_n 3, 1) := by decide +kernel
theorem dX11_best_44 : decode cX11_best 44 = .ok (.istore_n 1, 1) := by decide +kernel
theorem dX11_best_45 : decode cX11_best 45 = .ok (.iload 4, 2) := by decide +kernel
theorem dX11_best_47 : decode cX11_best 47 = .ok (.istore_n 2, 1) := by decide +kernel
theorem dX11_best_48 : decode cX11_best 48 = .ok (.iinc 3 1, 3) := by decide +kernel
theorem dX11_best_51 : decode cX11_best 51 = .ok (.goto (-45), 3) := by decide +kernel
theorem dX11_best_54 : decode cX11_best 54 = .ok (.iload_n 1, 1) := by decide +kernel
theorem dX11_best_55 : decode cX11_best 55 = .ok (.ireturn, 1) := by decide +kernel
theorem dX11_bitting_0 : decode cX11_bitting 0 = .ok (.aload_n 0, 1) := by decide +kernel
theorem dX11_bitting_1 : decode cX11_bitting 1 = .ok (.getfield 37, 3) := by decide +kernel
theorem dX11_bitting_4 : decode cX11_bitting 4 = .ok (.aload_n 0, 1) := by decide +kernel
theorem dX11_bitting_5 : decode cX11_bitting 5 = .ok (.getfield 37, 3) := by decide +kernel
theorem dX11_bitting_8 : decode cX11_bitting 8 = .ok (.aload_n 0, 1) := by decide +kernel
theorem dX11_bitting_9 : decode cX11_bitting 9 = .ok (.getfield 37, 3) := by decide +kernel
theorem dX11_bitting_12 : decode cX11_bitting 12 = .ok (.invokevirtual 301, 3) := by decide +kernel
theorem dX11_bitting_15 : decode cX11_bitting 15 = .ok (.iload_n 1, 1) := by decide +kernel
theorem dX11_bitting_16 : decode cX11_bitting 16 = .ok (.invokevirtual 310, 3) := by decide +kernel
theorem dX11_bitting_19 : decode cX11_bitting 19 = .ok (.invokevirtual 144, 3) := by decide +kernel
theorem dX11_bitting_22 : decode cX11_bitting 22 = .ok (.ireturn, 1) := by decide +kernel
theorem dX11_blanks_0 : decode cX11_blanks 0 = .ok (.aload_n 0, 1) := by decide +kernel
theorem dX11_blanks_1 : decode cX11_blanks 1 = .ok (.getfield 67, 3) := by decide +kernel
theorem dX11_blanks_4 : decode cX11_blanks 4 = .ok (.aload_n 0, 1) := by decide +kernel
theorem dX11_blanks_5 : decode cX11_blanks 5 = .ok (.getfield 41, 3) := by decide +kernel
theorem dX11_blanks_8 : decode cX11_blanks 8 = .ok (.invokevirtual 325, 3) := by decide +kernel
theorem dX11_blanks_11 : decode cX11_blanks 11 = .ok (.aload_n 0, 1) := by decide +kernel
theorem dX11_blanks_12 : decode cX11_blanks 12 = .ok (.getfield 67, 3) := by decide +kernel
theorem dX11_blanks_15 : decode cX11_blanks 15 = .ok (.iconst 0, 1) := by decide +kernel
theorem dX11_blanks_16 : decode cX11_blanks 16 = .ok (.aload_n 0, 1) := by decide +kernel
theorem dX11_blanks_17 : decode cX11_blanks 17 = .ok (.getfield 29, 3) := by decide +kernel
theorem dX11_blanks_20 : decode cX11_blanks 20 = .ok (.invokevirtual 383, 3) := by decide +kernel
theorem dX11_blanks_23 : decode cX11_blanks 23 = .ok (.invokevirtual 328, 3) := by decide +kernel
theorem dX11_blanks_26 : decode cX11_blanks 26 = .ok (.ireturn, 1) := by decide +kernel
theorem dX11_book_0 : decode cX11_book 0 = .ok (.iload_n 1, 1) := by decide +kernel
theorem dX11_book_1 : decode cX11_book 1 = .ok (.ifCond .lt 9, 3) := by decide +kernel
theorem dX11_book_4 : decode cX11_book 4 = .ok (.iload_n 1, 1) := by decide +kernel
theorem dX11_book_5 : decode cX11_book 5 = .ok (.bipush 60, 2) := by decide +kernel
theorem dX11_book_7 : decode cX11_book 7 = .ok (.if_icmp .lt 5, 3) := by decide +kernel
theorem dX11_book_10 : decode cX11_book 10 = .ok (.iconst (-1), 1) := by decide +kernel
theorem dX11_book_11 : decode cX11_book 11 = .ok (.ireturn, 1) := by decide +kernel
theorem dX11_book_12 : decode cX11_book 12 = .ok (.iconst 0, 1) := by decide +kernel
theorem dX11_book_13 : decode cX11_book 13 = .ok (.istore_n 2, 1) := by decide +kernel
theorem dX11_book_14 : decode cX11_book 14 = .ok (.aload_n 0, 1) := by decide +kernel
theorem dX11_book_15 : decode cX11_book 15 = .ok (.getfield 37, 3) := by decide +kernel
theorem dX11_book_18 : decode cX11_book 18 = .ok (.invokevirtual 374, 3) := by decide +kernel
theorem dX11_book_21 : decode cX11_book 21 = .ok (.istore_n 3, 1) := by decide +kernel
theorem dX11_book_22 : decode cX11_book 22 = .ok (.iconst 0, 1) := by decide +kernel
theorem dX11_book_23 : decode cX11_book 23 = .ok (.istore 4, 2) := by decide +kernel
theorem dX11_book_25 : decode cX11_book 25 = .ok (.iload 4, 2) := by decide +kernel
theorem dX11_book_27 : decode cX11_book 27 = .ok (.sipush 7776, 3) := by decide +kernel
theorem dX11_book_30 : decode cX11_book 30 = .ok (.if_icmp .ge 46, 3) := by decide +kernel
theorem dX11_book_33 : decode cX11_book 33 = .ok (.iload_n 3, 1) := by decide +kernel
theorem dX11_book_34 : decode cX11_book 34 = .ok (.ifCond .eq 42, 3) := by decide +kernel
theorem dX11_book_37 : decode cX11_book 37 = .ok (.iload_n 2, 1) := by decide +kernel
theorem dX11_book_38 : decode cX11_book 38 = .ok (.iload_n 1, 1) := by decide +kernel
theorem dX11_book_39 : decode cX11_book 39 = .ok (.if_icmp .gt 37, 3) := by decide +kernel
theorem dX11_book_42 : decode cX11_book 42 = .ok (.aload_n 0, 1) := by decide +kernel
theorem dX11_book_43 : decode cX11_book 43 = .ok (.iload_n 3, 1) := by decide +kernel
theorem dX11_book_44 : decode cX11_book 44 = .ok (.iload_n 2, 1) := by decide +kernel
theorem dX11_book_45 : decode cX11_book 45 = .ok (.invokevirtual 377, 3) := by decide +kernel
theorem dX11_book_48 : decode cX11_book 48 = .ok (.ifCond .eq 13, 3) := by decide +kernel
theorem dX11_book_51 : decode cX11_book 51 = .ok (.aload_n 0, 1) := by decide +kernel
theorem dX11_book_52 : decode cX11_book 52 = .ok (.getfield 97, 3) := by decide +kernel
theorem dX11_book_55 : decode cX11_book 55 = .ok (.iload_n 2, 1) := by decide +kernel
theorem dX11_book_56 : decode cX11_book 56 = .ok (.iload_n 3, 1) := by decide +kernel
theorem dX11_book_57 : decode cX11_book 57 = .ok (.iastore, 1) := by decide +kernel
theorem dX11_book_58 : decode cX11_book 58 = .ok (.iinc 2 1, 3) := by decide +kernel
theorem dX11_book_61 : decode cX11_book 61 = .ok (.aload_n 0, 1) := by decide +kernel
theorem dX11_book_62 : decode cX11_book 62 = .ok (.getfield 37, 3) := by decide +kernel
theorem dX11_book_65 : decode cX11_book 65 = .ok (.iload_n 3, 1) := by decide +kernel
theorem dX11_book_66 : decode cX11_book 66 = .ok (.invokevirtual 380, 3) := by decide +kernel
theorem dX11_book_69 : decode cX11_book 69 = .ok (.istore_n 3, 1) := by decide +kernel
theorem dX11_book_70 : decode cX11_book 70 = .ok (.iinc 4 1, 3) := by decide +kernel
theorem dX11_book_73 : decode cX11_book 73 = .ok (.goto (-48), 3) := by decide +kernel
theorem dX11_book_76 : decode cX11_book 76 = .ok (.iload_n 2, 1) := by decide +kernel
theorem dX11_book_77 : decode cX11_book 77 = .ok (.iload_n 1, 1) := by decide +kernel
theorem dX11_book_78 : decode cX11_book 78 = .ok (.if_icmp .le 19, 3) := by decide +kernel
theorem dX11_book_81 : decode cX11_book 81 = .ok (.aload_n 0, 1) := by decide +kernel
theorem dX11_book_82 : decode cX11_book 82 = .ok (.getfield 37, 3) := by decide +kernel
theorem dX11_book_85 : decode cX11_book 85 = .ok (.aload_n 0, 1) := by decide +kernel
theorem dX11_book_86 : decode cX11_book 86 = .ok (.getfield 97, 3) := by decide +kernel
theorem dX11_book_89 : decode cX11_book 89 = .ok (.iload_n 1, 1) := by decide +kernel
theorem dX11_book_90 : decode cX11_book 90 = .ok (.iaload, 1) := by decide +kernel
theorem dX11_book_91 : decode cX11_book 91 = .ok (.invokevirtual 144, 3) := by decide +kernel
theorem dX11_book_94 : decode cX11_book 94 = .ok (.goto 4, 3) := by decide +kernel
theorem dX11_book_97 : decode cX11_book 97 = .ok (.iconst (-1), 1) := by decide +kernel
theorem dX11_book_98 : decode cX11_book 98 = .ok (.ireturn, 1) := by decide +kernel
theorem dX11_broken_0 : decode cX11_broken 0 = .ok (.aload_n 0, 1) := by decide +kernel
theorem dX11_broken_1 : decode cX11_broken 1 = .ok (.getfield 86, 3) := by decide +kernel
theorem dX11_broken_4 : decode cX11_broken 4 = .ok (.iload_n 1, 1) := by decide +kernel
theorem dX11_broken_5 : decode cX11_broken 5 = .ok (.iconst 0, 1) := by decide +kernel
theorem dX11_broken_6 : decode cX11_broken 6 = .ok (.invokevirtual 346, 3) := by decide +kernel
theorem dX11_broken_9 : decode cX11_broken 9 = .ok (.ireturn, 1) := by decide +kernel
theorem dX11_bunch_0 : decode cX11_bunch 0 = .ok (.aload_n 0, 1) := by decide +kernel
theorem dX11_bunch_1 : decode cX11_bunch 1 = .ok (.getfield 29, 3) := by decide +kernel
theorem dX11_bunch_4 : decode cX11_bunch 4 = .ok (.iload_n 1, 1) := by decide +kernel
theorem dX11_bunch_5 : decode cX11_bunch 5 = .ok (.invokevirtual 356, 3) := by decide +kernel
theorem dX11_bunch_8 : decode cX11_bunch 8 = .ok (.ifCond .eq 14, 3) := by decide +kernel
theorem dX11_bunch_11 : decode cX11_bunch 11 = .ok (.aload_n 0, 1) := by decide +kernel
theorem dX11_bunch_12 : decode cX11_bunch 12 = .ok (.getfield 29, 3) := by decide +kernel
theorem dX11_bunch_15 : decode cX11_bunch 15 = .ok (.iload_n 2, 1) := by decide +kernel
theorem dX11_bunch_16 : decode cX11_bunch 16 = .ok (.invokevirtual 356, 3) := by decide +kernel
theorem dX11_bunch_19 : decode cX11_bunch 19 = .ok (.ifCond .ne 5, 3) := by decide +kernel
theorem dX11_bunch_22 : decode cX11_bunch 22 = .ok (.iconst (-1), 1) := by decide +kernel
theorem dX11_bunch_23 : decode cX11_bunch 23 = .ok (.ireturn, 1) := by decide +kernel
theorem dX11_bunch_24 : decode cX11_bunch 24 = .ok (.aload_n 0, 1) := by decide +kernel
theorem dX11_bunch_25 : decode cX11_bunch 25 = .ok (.getfield 79, 3) := by decide +kernel
theorem dX11_bunch_28 : decode cX11_bunch 28 = .ok (.iload_n 1, 1) := by decide +kernel
theorem dX11_bunch_29 : decode cX11_bunch 29 = .ok (.iload_n 2, 1) := by decide +kernel
theorem dX11_bunch_30 : decode cX11_bunch 30 = .ok (.invokevirtual 362, 3) := by decide +kernel
theorem dX11_bunch_33 : decode cX11_bunch 33 = .ok (.istore 4, 2) := by decide +kernel
theorem dX11_bunch_35 : decode cX11_bunch 35 = .ok (.iload 4, 2) := by decide +kernel
theorem dX11_bunch_37 : decode cX11_bunch 37 = .ok (.iconst (-1), 1) := by decide +kernel
theorem dX11_bunch_38 : decode cX11_bunch 38 = .ok (.if_icmp .ne 5, 3) := by decide +kernel
theorem dX11_bunch_41 : decode cX11_bunch 41 = .ok (.iconst (-1), 1) := by decide +kernel
theorem dX11_bunch_42 : decode cX11_bunch 42 = .ok (.ireturn, 1) := by decide +kernel
theorem dX11_bunch_43 : decode cX11_bunch 43 = .ok (.iload_n 3, 1) := by decide +kernel
theorem dX11_bunch_44 : decode cX11_bunch 44 = .ok (.lookupswitch 37 #[(0, 28), (1, 34)], 28) := by decide +kernel
theorem dX11_bunch_72 : decode cX11_bunch 72 = .ok (.iload 4, 2) := by decide +kernel
theorem dX11_bunch_74 : decode cX11_bunch 74 = .ok (.invokestatic 171, 3) := by decide +kernel
theorem dX11_bunch_77 : decode cX11_bunch 77 = .ok (.ireturn, 1) := by decide +kernel
theorem dX11_bunch_78 : decode cX11_bunch 78 = .ok (.iload 4, 2) := by decide +kernel
theorem dX11_bunch_80 : decode cX11_bunch 80 = .ok (.ireturn, 1) := by decide +kernel
theorem dX11_bunch_81 : decode cX11_bunch 81 = .ok (.iconst (-1), 1) := by decide +kernel
theorem dX11_bunch_82 : decode cX11_bunch 82 = .ok (.ireturn, 1) := by decide +kernel
theorem dX11_comers_0 : decode cX11_comers 0 = .ok (.aload_n 0, 1) := by decide +kernel
theorem dX11_comers_1 : decode cX11_comers 1 = .ok (.getfield 29, 3) := by decide +kernel
theorem dX11_comers_4 : decode cX11_comers 4 = .ok (.iload_n 1, 1) := by decide +kernel
theorem dX11_comers_5 : decode cX11_comers 5 = .ok (.invokevirtual 356, 3) := by decide +kernel
theorem dX11_comers_8 : decode cX11_comers 8 = .ok (.ifCond .ne 5, 3) := by decide +kernel
theorem dX11_comers_11 : decode cX11_comers 11 = .ok (.iconst (-1), 1) := by decide +kernel
theorem dX11_comers_12 : decode cX11_comers 12 = .ok (.ireturn, 1) := by decide +kernel
theorem dX11_comers_13 : decode cX11_comers 13 = .ok (.iconst 0, 1) := by decide +kernel
theorem dX11_comers_14 : decode cX11_comers 14 = .ok (.istore_n 2, 1) := by decide +kernel
theorem dX11_comers_15 : decode cX11_comers 15 = .ok (.iconst 0, 1) := by decide +kernel
theorem dX11_comers_16 : decode cX11_comers 16 = .ok (.istore_n 3, 1) := by decide +kernel
theorem dX11_comers_17 : decode cX11_comers 17 = .ok (.iload_n 3, 1) := by decide +kernel
theorem dX11_comers_18 : decode cX11_comers 18 = .ok (.aload_n 0, 1) := by decide +kernel
theorem dX11_comers_19 : decode cX11_comers 19 = .ok (.getfield 29, 3) := by decide +kernel
theorem dX11_comers_22 : decode cX11_comers 22 = .ok (.getfield 368, 3) := by decide +kernel
theorem dX11_comers_25 : decode cX11_comers 25 = .ok (.if_icmp .ge 30, 3) := by decide +kernel
theorem dX11_comers_28 : decode cX11_comers 28 = .ok (.aload_n 0, 1) := by decide +kernel
theorem dX11_comers_29 : decode cX11_comers 29 = .ok (.getfield 79, 3) := by decide +kernel
theorem dX11_comers_32 : decode cX11_comers 32 = .ok (.iload_n 3, 1) := by decide +kernel
theorem dX11_comers_33 : decode cX11_comers 33 = .ok (.invokevirtual 209, 3) := by decide +kernel
theorem dX11_comers_36 : decode cX11_comers 36 = .ok (.iload_n 1, 1) := by decide +kernel
theorem dX11_comers_37 : decode cX11_comers 37 = .ok (.ishr, 1) := by decide +kernel
theorem dX11_comers_38 : decode cX11_comers 38 = .ok (.iconst 1, 1) := by decide +kernel
theorem dX11_comers_39 : decode cX11_comers 39 = .ok (.iand, 1) := by decide +kernel
theorem dX11_comers_40 : decode cX11_comers 40 = .ok (.ifCond .eq 9, 3) := by decide +kernel
theorem dX11_comers_43 : decode cX11_comers 43 = .ok (.iload_n 2, 1) := by decide +kernel
theorem dX11_comers_44 : decode cX11_comers 44 = .ok (.iconst 1, 1) := by decide +kernel
theorem dX11_comers_45 : decode cX11_comers 45 = .ok (.iload_n 3, 1) := by decide +kernel
theorem dX11_comers_46 : decode cX11_comers 46 = .ok (.ishl, 1) := by decide +kernel
theorem dX11_comers_47 : decode cX11_comers 47 = .ok (.ior, 1) := by decide +kernel
theorem dX11_comers_48 : decode cX11_comers 48 = .ok (.istore_n 2, 1) := by decide +kernel
theorem dX11_comers_49 : decode cX11_comers 49 = .ok (.iinc 3 1, 3) := by decide +kernel
theorem dX11_comers_52 : decode cX11_comers 52 = .ok (.goto (-35), 3) := by decide +kernel
theorem dX11_comers_55 : decode cX11_comers 55 = .ok (.iload_n 2, 1) := by decide +kernel
theorem dX11_comers_56 : decode cX11_comers 56 = .ok (.ireturn, 1) := by decide +kernel
theorem dX11_common_0 : decode cX11_common 0 = .ok (.aload_n 0, 1) := by decide +kernel
theorem dX11_common_1 : decode cX11_common 1 = .ok (.getfield 29, 3) := by decide +kernel
theorem dX11_common_4 : decode cX11_common 4 = .ok (.iload_n 1, 1) := by decide +kernel
theorem dX11_common_5 : decode cX11_common 5 = .ok (.invokevirtual 322, 3) := by decide +kernel
theorem dX11_common_8 : decode cX11_common 8 = .ok (.ifCond .ne 5, 3) := by decide +kernel
theorem dX11_common_11 : decode cX11_common 11 = .ok (.iconst (-1), 1) := by decide +kernel
theorem dX11_common_12 : decode cX11_common 12 = .ok (.ireturn, 1) := by decide +kernel
theorem dX11_common_13 : decode cX11_common 13 = .ok (.aload_n 0, 1) := by decide +kernel
theorem dX11_common_14 : decode cX11_common 14 = .ok (.getfield 67, 3) := by decide +kernel
theorem dX11_common_17 : decode cX11_common 17 = .ok (.aload_n 0, 1) := by decide +kernel
theorem dX11_common_18 : decode cX11_common 18 = .ok (.getfield 41, 3) := by decide +kernel
theorem dX11_common_21 : decode cX11_common 21 = .ok (.invokevirtual 325, 3) := by decide +kernel
theorem dX11_common_24 : decode cX11_common 24 = .ok (.iload_n 2, 1) := by decide +kernel
theorem dX11_common_25 : decode cX11_common 25 = .ok (.lookupswitch 47 #[(0, 27), (1, 37)], 27) := by decide +kernel
theorem dX11_common_52 : decode cX11_common 52 = .ok (.aload_n 0, 1) := by decide +kernel
theorem dX11_common_53 : decode cX11_common 53 = .ok (.getfield 67, 3) := by decide +kernel
theorem dX11_common_56 : decode cX11_common 56 = .ok (.iload_n 1, 1) := by decide +kernel
theorem dX11_common_57 : decode cX11_common 57 = .ok (.iconst 0, 1) := by decide +kernel
theorem dX11_common_58 : decode cX11_common 58 = .ok (.invokevirtual 328, 3) := by decide +kernel
theorem dX11_common_61 : decode cX11_common 61 = .ok (.ireturn, 1) := by decide +kernel
theorem dX11_common_62 : decode cX11_common 62 = .ok (.aload_n 0, 1) := by decide +kernel
theorem dX11_common_63 : decode cX11_common 63 = .ok (.getfield 67, 3) := by decide +kernel
theorem dX11_common_66 : decode cX11_common 66 = .ok (.iload_n 1, 1) := by decide +kernel
theorem dX11_common_67 : decode cX11_common 67 = .ok (.iconst 0, 1) := by decide +kernel
theorem dX11_common_68 : decode cX11_common 68 = .ok (.invokevirtual 331, 3) := by decide +kernel
theorem dX11_common_71 : decode cX11_common 71 = .ok (.ireturn, 1) := by decide +kernel
theorem dX11_common_72 : decode cX11_common 72 = .ok (.iconst (-1), 1) := by decide +kernel
theorem dX11_common_73 : decode cX11_common 73 = .ok (.ireturn, 1) := by decide +kernel
theorem dX11_commonDivisor_0 : decode cX11_commonDivisor 0 = .ok (.iload_n 0, 1) := by decide +kernel
theorem dX11_commonDivisor_1 : decode cX11_commonDivisor 1 = .ok (.istore_n 2, 1) := by decide +kernel
theorem dX11_commonDivisor_2 : decode cX11_commonDivisor 2 = .ok (.iload_n 1, 1) := by decide +kernel
theorem dX11_commonDivisor_3 : decode cX11_commonDivisor 3 = .ok (.istore_n 3, 1) := by decide +kernel
theorem dX11_commonDivisor_4 : decode cX11_commonDivisor 4 = .ok (.iconst 0, 1) := by decide +kernel
theorem dX11_commonDivisor_5 : decode cX11_commonDivisor 5 = .ok (.istore 4, 2) := by decide +kernel
theorem dX11_commonDivisor_7 : decode cX11_commonDivisor 7 = .ok (.iload 4, 2) := by decide +kernel
theorem dX11_commonDivisor_9 : decode cX11_commonDivisor 9 = .ok (.bipush 64, 2) := by decide +kernel
theorem dX11_commonDivisor_11 : decode cX11_commonDivisor 11 = .ok (.if_icmp .ge 23, 3) := by decide +kernel
theorem dX11_commonDivisor_14 : decode cX11_commonDivisor 14 = .ok (.iload_n 3, 1) := by decide +kernel
theorem dX11_commonDivisor_15 : decode cX11_commonDivisor 15 = .ok (.ifCond .eq 19, 3) := by decide +kernel
theorem dX11_commonDivisor_18 : decode cX11_commonDivisor 18 = .ok (.iload_n 2, 1) := by decide +kernel
theorem dX11_commonDivisor_19 : decode cX11_commonDivisor 19 = .ok (.iload_n 3, 1) := by decide +kernel
theorem dX11_commonDivisor_20 : decode cX11_commonDivisor 20 = .ok (.irem, 1) := by decide +kernel
theorem dX11_commonDivisor_21 : decode cX11_commonDivisor 21 = .ok (.istore 5, 2) := by decide +kernel
theorem dX11_commonDivisor_23 : decode cX11_commonDivisor 23 = .ok (.iload_n 3, 1) := by decide +kernel
theorem dX11_commonDivisor_24 : decode cX11_commonDivisor 24 = .ok (.istore_n 2, 1) := by decide +kernel
theorem dX11_commonDivisor_25 : decode cX11_commonDivisor 25 = .ok (.iload 5, 2) := by decide +kernel
theorem dX11_commonDivisor_27 : decode cX11_commonDivisor 27 = .ok (.istore_n 3, 1) := by decide +kernel
theorem dX11_commonDivisor_28 : decode cX11_commonDivisor 28 = .ok (.iinc 4 1, 3) := by decide +kernel
theorem dX11_commonDivisor_31 : decode cX11_commonDivisor 31 = .ok (.goto (-24), 3) := by decide +kernel
theorem dX11_commonDivisor_34 : decode cX11_commonDivisor 34 = .ok (.iload_n 2, 1) := by decide +kernel
theorem dX11_commonDivisor_35 : decode cX11_commonDivisor 35 = .ok (.ireturn, 1) := by decide +kernel
theorem dX11_cut_0 : decode cX11_cut 0 = .ok (.aload_n 0, 1) := by decide +kernel
theorem dX11_cut_1 : decode cX11_cut 1 = .ok (.getfield 29, 3) := by decide +kernel
theorem dX11_cut_4 : decode cX11_cut 4 = .ok (.iload_n 1, 1) := by decide +kernel
theorem dX11_cut_5 : decode cX11_cut 5 = .ok (.invokevirtual 137, 3) := by decide +kernel
theorem dX11_cut_8 : decode cX11_cut 8 = .ok (.ifCond .eq 14, 3) := by decide +kernel
theorem dX11_cut_11 : decode cX11_cut 11 = .ok (.aload_n 0, 1) := by decide +kernel
theorem dX11_cut_12 : decode cX11_cut 12 = .ok (.getfield 37, 3) := by decide +kernel
theorem dX11_cut_15 : decode cX11_cut 15 = .ok (.iload_n 2, 1) := by decide +kernel
theorem dX11_cut_16 : decode cX11_cut 16 = .ok (.invokevirtual 158, 3) := by decide +kernel
theorem dX11_cut_19 : decode cX11_cut 19 = .ok (.ifCond .ne 5, 3) := by decide +kernel
theorem dX11_cut_22 : decode cX11_cut 22 = .ok (.iconst (-1), 1) := by decide +kernel
theorem dX11_cut_23 : decode cX11_cut 23 = .ok (.ireturn, 1) := by decide +kernel
theorem dX11_cut_24 : decode cX11_cut 24 = .ok (.aload_n 0, 1) := by decide +kernel
theorem dX11_cut_25 : decode cX11_cut 25 = .ok (.getfield 37, 3) := by decide +kernel
theorem dX11_cut_28 : decode cX11_cut 28 = .ok (.aload_n 0, 1) := by decide +kernel
theorem dX11_cut_29 : decode cX11_cut 29 = .ok (.getfield 41, 3) := by decide +kernel
theorem dX11_cut_32 : decode cX11_cut 32 = .ok (.iload_n 1, 1) := by decide +kernel
theorem dX11_cut_33 : decode cX11_cut 33 = .ok (.invokevirtual 140, 3) := by decide +kernel
theorem dX11_cut_36 : decode cX11_cut 36 = .ok (.iload_n 2, 1) := by decide +kernel
theorem dX11_cut_37 : decode cX11_cut 37 = .ok (.invokevirtual 161, 3) := by decide +kernel
theorem dX11_cut_40 : decode cX11_cut 40 = .ok (.ireturn, 1) := by decide +kernel
theorem dX11_cutAhead_0 : decode cX11_cutAhead 0 = .ok (.iconst 0, 1) := by decide +kernel
theorem dX11_cutAhead_1 : decode cX11_cutAhead 1 = .ok (.istore_n 3, 1) := by decide +kernel
theorem dX11_cutAhead_2 : decode cX11_cutAhead 2 = .ok (.iconst 0, 1) := by decide +kernel
theorem dX11_cutAhead_3 : decode cX11_cutAhead 3 = .ok (.istore 4, 2) := by decide +kernel
theorem dX11_cutAhead_5 : decode cX11_cutAhead 5 = .ok (.iload 4, 2) := by decide +kernel
theorem dX11_cutAhead_7 : decode cX11_cutAhead 7 = .ok (.aload_n 0, 1) := by decide +kernel
theorem dX11_cutAhead_8 : decode cX11_cutAhead 8 = .ok (.getfield 29, 3) := by decide +kernel
theorem dX11_cutAhead_11 : decode cX11_cutAhead 11 = .ok (.getfield 128, 3) := by decide +kernel
theorem dX11_cutAhead_14 : decode cX11_cutAhead 14 = .ok (.if_icmp .ge 78, 3) := by decide +kernel
theorem dX11_cutAhead_17 : decode cX11_cutAhead 17 = .ok (.aload_n 0, 1) := by decide +kernel
theorem dX11_cutAhead_18 : decode cX11_cutAhead 18 = .ok (.getfield 41, 3) := by decide +kernel
theorem dX11_cutAhead_21 : decode cX11_cutAhead 21 = .ok (.iload 4, 2) := by decide +kernel
theorem dX11_cutAhead_23 : decode cX11_cutAhead 23 = .ok (.invokevirtual 140, 3) := by decide +kernel
theorem dX11_cutAhead_26 : decode cX11_cutAhead 26 = .ok (.istore 5, 2) := by decide +kernel
theorem dX11_cutAhead_28 : decode cX11_cutAhead 28 = .ok (.iload 5, 2) := by decide +kernel
theorem dX11_cutAhead_30 : decode cX11_cutAhead 30 = .ok (.iload_n 1, 1) := by decide +kernel
theorem dX11_cutAhead_31 : decode cX11_cutAhead 31 = .ok (.invokestatic 215, 3) := by decide +kernel
theorem dX11_cutAhead_34 : decode cX11_cutAhead 34 = .ok (.ifCond .eq 20, 3) := by decide +kernel
theorem dX11_cutAhead_37 : decode cX11_cutAhead 37 = .ok (.aload_n 0, 1) := by decide +kernel
theorem dX11_cutAhead_38 : decode cX11_cutAhead 38 = .ok (.getfield 37, 3) := by decide +kernel
theorem dX11_cutAhead_41 : decode cX11_cutAhead 41 = .ok (.iload 5, 2) := by decide +kernel
theorem dX11_cutAhead_43 : decode cX11_cutAhead 43 = .ok (.invokevirtual 144, 3) := by decide +kernel
theorem dX11_cutAhead_46 : decode cX11_cutAhead 46 = .ok (.iload_n 2, 1) := by decide +kernel
theorem dX11_cutAhead_47 : decode cX11_cutAhead 47 = .ok (.if_icmp .ge 7, 3) := by decide +kernel
theorem dX11_cutAhead_50 : decode cX11_cutAhead 50 = .ok (.iconst 1, 1) := by decide +kernel
theorem dX11_cutAhead_51 : decode cX11_cutAhead 51 = .ok (.goto 4, 3) := by decide +kernel
theorem dX11_cutAhead_54 : decode cX11_cutAhead 54 = .ok (.iconst 0, 1) := by decide +kernel
theorem dX11_cutAhead_55 : decode cX11_cutAhead 55 = .ok (.istore 6, 2) := by decide +kernel
theorem dX11_cutAhead_57 : decode cX11_cutAhead 57 = .ok (.iload 6, 2) := by decide +kernel
theorem dX11_cutAhead_59 : decode cX11_cutAhead 59 = .ok (.ifCond .eq 27, 3) := by decide +kernel
theorem dX11_cutAhead_62 : decode cX11_cutAhead 62 = .ok (.aload_n 0, 1) := by decide +kernel
theorem dX11_cutAhead_63 : decode cX11_cutAhead 63 = .ok (.getfield 41, 3) := by decide +kernel
theorem dX11_cutAhead_66 : decode cX11_cutAhead 66 = .ok (.iload 5, 2) := by decide +kernel
theorem dX11_cutAhead_68 : decode cX11_cutAhead 68 = .ok (.aload_n 0, 1) := by decide +kernel
theorem dX11_cutAhead_69 : decode cX11_cutAhead 69 = .ok (.getfield 29, 3) := by decide +kernel
theorem dX11_cutAhead_72 : decode cX11_cutAhead 72 = .ok (.getfield 128, 3) := by decide +kernel
theorem dX11_cutAhead_75 : decode cX11_cutAhead 75 = .ok (.invokevirtual 319, 3) := by decide +kernel
theorem dX11_cutAhead_78 : decode cX11_cutAhead 78 = .ok (.iload 4, 2) := by decide +kernel
theorem dX11_cutAhead_80 : decode cX11_cutAhead 80 = .ok (.if_icmp .ne 6, 3) := by decide +kernel
theorem dX11_cutAhead_83 : decode cX11_cutAhead 83 = .ok (.iinc 3 1, 3) := by decide +kernel
theorem dX11_cutAhead_86 : decode cX11_cutAhead 86 = .ok (.iinc 4 1, 3) := by decide +kernel
theorem dX11_cutAhead_89 : decode cX11_cutAhead 89 = .ok (.goto (-84), 3) := by decide +kernel
theorem dX11_cutAhead_92 : decode cX11_cutAhead 92 = .ok (.iload_n 3, 1) := by decide +kernel
theorem dX11_cutAhead_93 : decode cX11_cutAhead 93 = .ok (.ireturn, 1) := by decide +kernel
theorem dX11_cutFor_0 : decode cX11_cutFor 0 = .ok (.aload_n 0, 1) := by decide +kernel
theorem dX11_cutFor_1 : decode cX11_cutFor 1 = .ok (.getfield 29, 3) := by decide +kernel
theorem dX11_cutFor_4 : decode cX11_cutFor 4 = .ok (.iload_n 1, 1) := by decide +kernel
theorem dX11_cutFor_5 : decode cX11_cutFor 5 = .ok (.invokevirtual 322, 3) := by decide +kernel
theorem dX11_cutFor_8 : decode cX11_cutFor 8 = .ok (.ifCond .eq 14, 3) := by decide +kernel
theorem dX11_cutFor_11 : decode cX11_cutFor 11 = .ok (.aload_n 0, 1) := by decide +kernel
theorem dX11_cutFor_12 : decode cX11_cutFor 12 = .ok (.getfield 29, 3) := by decide +kernel
theorem dX11_cutFor_15 : decode cX11_cutFor 15 = .ok (.iload_n 2, 1) := by decide +kernel
theorem dX11_cutFor_16 : decode cX11_cutFor 16 = .ok (.invokevirtual 322, 3) := by decide +kernel
theorem dX11_cutFor_19 : decode cX11_cutFor 19 = .ok (.ifCond .ne 5, 3) := by decide +kernel
theorem dX11_cutFor_22 : decode cX11_cutFor 22 = .ok (.iconst (-1), 1) := by decide +kernel
theorem dX11_cutFor_23 : decode cX11_cutFor 23 = .ok (.ireturn, 1) := by decide +kernel
theorem dX11_cutFor_24 : decode cX11_cutFor 24 = .ok (.aload_n 0, 1) := by decide +kernel
theorem dX11_cutFor_25 : decode cX11_cutFor 25 = .ok (.getfield 67, 3) := by decide +kernel
theorem dX11_cutFor_28 : decode cX11_cutFor 28 = .ok (.aload_n 0, 1) := by decide +kernel
theorem dX11_cutFor_29 : decode cX11_cutFor 29 = .ok (.getfield 41, 3) := by decide +kernel
theorem dX11_cutFor_32 : decode cX11_cutFor 32 = .ok (.invokevirtual 325, 3) := by decide +kernel
theorem dX11_cutFor_35 : decode cX11_cutFor 35 = .ok (.aload_n 0, 1) := by decide +kernel
theorem dX11_cutFor_36 : decode cX11_cutFor 36 = .ok (.getfield 67, 3) := by decide +kernel
theorem dX11_cutFor_39 : decode cX11_cutFor 39 = .ok (.iload_n 1, 1) := by decide +kernel
theorem dX11_cutFor_40 : decode cX11_cutFor 40 = .ok (.iload_n 2, 1) := by decide +kernel
theorem dX11_cutFor_41 : decode cX11_cutFor 41 = .ok (.invokevirtual 331, 3) := by decide +kernel
theorem dX11_cutFor_44 : decode cX11_cutFor 44 = .ok (.ireturn, 1) := by decide +kernel
theorem dX11_differsFromAll_0 : decode cX11_differsFromAll 0 = .ok (.iconst 0, 1) := by decide +kernel
theorem dX11_differsFromAll_1 : decode cX11_differsFromAll 1 = .ok (.istore_n 3, 1) := by decide +kernel
theorem dX11_differsFromAll_2 : decode cX11_differsFromAll 2 = .ok (.iload_n 3, 1) := by decide +kernel
theorem dX11_differsFromAll_3 : decode cX11_differsFromAll 3 = .ok (.iload_n 2, 1) := by decide +kernel
theorem dX11_differsFromAll_4 : decode cX11_differsFromAll 4 = .ok (.if_icmp .ge 40, 3) := by decide +kernel
theorem dX11_differsFromAll_7 : decode cX11_differsFromAll 7 = .ok (.iload_n 3, 1) := by decide +kernel
theorem dX11_differsFromAll_8 : decode cX11_differsFromAll 8 = .ok (.bipush 60, 2) := by decide +kernel
theorem dX11_differsFromAll_10 : decode cX11_differsFromAll 10 = .ok (.if_icmp .ge 34, 3) := by decide +kernel
theorem dX11_differsFromAll_13 : decode cX11_differsFromAll 13 = .ok (.iload_n 1, 1) := by decide +kernel
theorem dX11_differsFromAll_14 : decode cX11_differsFromAll 14 = .ok (.aload_n 0, 1) := by decide +kernel
theorem dX11_differsFromAll_15 : decode cX11_differsFromAll 15 = .ok (.getfield 97, 3) := by decide +kernel
theorem dX11_differsFromAll_18 : decode cX11_differsFromAll 18 = .ok (.iload_n 3, 1) := by decide +kernel
theorem dX11_differsFromAll_19 : decode cX11_differsFromAll 19 = .ok (.iaload, 1) := by decide +kernel
theorem dX11_differsFromAll_20 : decode cX11_differsFromAll 20 = .ok (.iand, 1) := by decide +kernel
theorem dX11_differsFromAll_21 : decode cX11_differsFromAll 21 = .ok (.invokestatic 171, 3) := by decide +kernel
theorem dX11_differsFromAll_24 : decode cX11_differsFromAll 24 = .ok (.aload_n 0, 1) := by decide +kernel
theorem dX11_differsFromAll_25 : decode cX11_differsFromAll 25 = .ok (.getfield 37, 3) := by decide +kernel
theorem dX11_differsFromAll_28 : decode cX11_differsFromAll 28 = .ok (.getfield 243, 3) := by decide +kernel
theorem dX11_differsFromAll_31 : decode cX11_differsFromAll 31 = .ok (.iconst 2, 1) := by decide +kernel
theorem dX11_differsFromAll_32 : decode cX11_differsFromAll 32 = .ok (.isub, 1) := by decide +kernel
theorem dX11_differsFromAll_33 : decode cX11_differsFromAll 33 = .ok (.if_icmp .le 5, 3) := by decide +kernel
theorem dX11_differsFromAll_36 : decode cX11_differsFromAll 36 = .ok (.iconst 0, 1) := by decide +kernel
theorem dX11_differsFromAll_37 : decode cX11_differsFromAll 37 = .ok (.ireturn, 1) := by decide +kernel
theorem dX11_differsFromAll_38 : decode cX11_differsFromAll 38 = .ok (.iinc 3 1, 3) := by decide +kernel
theorem dX11_differsFromAll_41 : decode cX11_differsFromAll 41 = .ok (.goto (-39), 3) := by decide +kernel
theorem dX11_differsFromAll_44 : decode cX11_differsFromAll 44 = .ok (.iconst 1, 1) := by decide +kernel
theorem dX11_differsFromAll_45 : decode cX11_differsFromAll 45 = .ok (.ireturn, 1) := by decide +kernel
theorem dX11_door_0 : decode cX11_door 0 = .ok (.aload_n 0, 1) := by decide +kernel
theorem dX11_door_1 : decode cX11_door 1 = .ok (.getfield 29, 3) := by decide +kernel
theorem dX11_door_4 : decode cX11_door 4 = .ok (.iload_n 1, 1) := by decide +kernel
theorem dX11_door_5 : decode cX11_door 5 = .ok (.invokevirtual 188, 3) := by decide +kernel
theorem dX11_door_8 : decode cX11_door 8 = .ok (.ifCond .ne 5, 3) := by decide +kernel
theorem dX11_door_11 : decode cX11_door 11 = .ok (.iconst (-1), 1) := by decide +kernel
theorem dX11_door_12 : decode cX11_door 12 = .ok (.ireturn, 1) := by decide +kernel
theorem dX11_door_13 : decode cX11_door 13 = .ok (.iload_n 2, 1) := by decide +kernel
theorem dX11_door_14 : decode cX11_door 14 = .ok (.tableswitch 53 0 2 #[26, 35, 44], 26) := by decide +kernel
theorem dX11_door_40 : decode cX11_door 40 = .ok (.aload_n 0, 1) := by decide +kernel
theorem dX11_door_41 : decode cX11_door 41 = .ok (.getfield 29, 3) := by decide +kernel
theorem dX11_door_44 : decode cX11_door 44 = .ok (.iload_n 1, 1) := by decide +kernel
theorem dX11_door_45 : decode cX11_door 45 = .ok (.invokevirtual 191, 3) := by decide +kernel
theorem dX11_door_48 : decode cX11_door 48 = .ok (.ireturn, 1) := by decide +kernel
theorem dX11_door_49 : decode cX11_door 49 = .ok (.aload_n 0, 1) := by decide +kernel
theorem dX11_door_50 : decode cX11_door 50 = .ok (.getfield 29, 3) := by decide +kernel
theorem dX11_door_53 : decode cX11_door 53 = .ok (.iload_n 1, 1) := by decide +kernel
theorem dX11_door_54 : decode cX11_door 54 = .ok (.invokevirtual 194, 3) := by decide +kernel
theorem dX11_door_57 : decode cX11_door 57 = .ok (.ireturn, 1) := by decide +kernel
theorem dX11_door_58 : decode cX11_door 58 = .ok (.aload_n 0, 1) := by decide +kernel
theorem dX11_door_59 : decode cX11_door 59 = .ok (.getfield 29, 3) := by decide +kernel
theorem dX11_door_62 : decode cX11_door 62 = .ok (.iload_n 1, 1) := by decide +kernel
theorem dX11_door_63 : decode cX11_door 63 = .ok (.invokevirtual 197, 3) := by decide +kernel
theorem dX11_door_66 : decode cX11_door 66 = .ok (.ireturn, 1) := by decide +kernel
theorem dX11_door_67 : decode cX11_door 67 = .ok (.iconst (-1), 1) := by decide +kernel
theorem dX11_door_68 : decode cX11_door 68 = .ok (.ireturn, 1) := by decide +kernel
theorem dX11_end_0 : decode cX11_end 0 = .ok (.iload_n 1, 1) := by decide +kernel
theorem dX11_end_1 : decode cX11_end 1 = .ok (.ifCond .lt 11, 3) := by decide +kernel
theorem dX11_end_4 : decode cX11_end 4 = .ok (.iload_n 1, 1) := by decide +kernel
theorem dX11_end_5 : decode cX11_end 5 = .ok (.aload_n 0, 1) := by decide +kernel
theorem dX11_end_6 : decode cX11_end 6 = .ok (.getfield 13, 3) := by decide +kernel
theorem dX11_end_9 : decode cX11_end 9 = .ok (.if_icmp .le 5, 3) := by decide +kernel
theorem dX11_end_12 : decode cX11_end 12 = .ok (.iconst (-1), 1) := by decide +kernel
theorem dX11_end_13 : decode cX11_end 13 = .ok (.ireturn, 1) := by decide +kernel
theorem dX11_end_14 : decode cX11_end 14 = .ok (.aload_n 0, 1) := by decide +kernel
theorem dX11_end_15 : decode cX11_end 15 = .ok (.iload_n 1, 1) := by decide +kernel
theorem dX11_end_16 : decode cX11_end 16 = .ok (.putfield 13, 3) := by decide +kernel
theorem dX11_end_19 : decode cX11_end 19 = .ok (.iload_n 1, 1) := by decide +kernel
theorem dX11_end_20 : decode cX11_end 20 = .ok (.ireturn, 1) := by decide +kernel
theorem dX11_fault_0 : decode cX11_fault 0 = .ok (.iload_n 1, 1) := by decide +kernel
theorem dX11_fault_1 : decode cX11_fault 1 = .ok (.lookupswitch 43 #[(0, 27), (1, 35)], 27) := by decide +kernel
theorem dX11_fault_28 : decode cX11_fault 28 = .ok (.aload_n 0, 1) := by decide +kernel
theorem dX11_fault_29 : decode cX11_fault 29 = .ok (.getfield 22, 3) := by decide +kernel
theorem dX11_fault_32 : decode cX11_fault 32 = .ok (.getfield 131, 3) := by decide +kernel
theorem dX11_fault_35 : decode cX11_fault 35 = .ok (.ireturn, 1) := by decide +kernel
theorem dX11_fault_36 : decode cX11_fault 36 = .ok (.aload_n 0, 1) := by decide +kernel
theorem dX11_fault_37 : decode cX11_fault 37 = .ok (.getfield 22, 3) := by decide +kernel
theorem dX11_fault_40 : decode cX11_fault 40 = .ok (.getfield 134, 3) := by decide +kernel
theorem dX11_fault_43 : decode cX11_fault 43 = .ok (.ireturn, 1) := by decide +kernel
theorem dX11_fault_44 : decode cX11_fault 44 = .ok (.iconst (-1), 1) := by decide +kernel
theorem dX11_fault_45 : decode cX11_fault 45 = .ok (.ireturn, 1) := by decide +kernel
theorem dX11_feed_0 : decode cX11_feed 0 = .ok (.aload_n 0, 1) := by decide +kernel
theorem dX11_feed_1 : decode cX11_feed 1 = .ok (.getfield 13, 3) := by decide +kernel
theorem dX11_feed_4 : decode cX11_feed 4 = .ok (.bipush 20, 2) := by decide +kernel
theorem dX11_feed_6 : decode cX11_feed 6 = .ok (.iadd, 1) := by decide +kernel
theorem dX11_feed_7 : decode cX11_feed 7 = .ok (.sipush 1600, 3) := by decide +kernel
theorem dX11_feed_10 : decode cX11_feed 10 = .ok (.if_icmp .le 5, 3) := by decide +kernel
theorem dX11_feed_13 : decode cX11_feed 13 = .ok (.iconst (-1), 1) := by decide +kernel
theorem dX11_feed_14 : decode cX11_feed 14 = .ok (.ireturn, 1) := by decide +kernel
theorem dX11_feed_15 : decode cX11_feed 15 = .ok (.aload_n 0, 1) := by decide +kernel
theorem dX11_feed_16 : decode cX11_feed 16 = .ok (.iload_n 1, 1) := by decide +kernel
theorem dX11_feed_17 : decode cX11_feed 17 = .ok (.invokevirtual 101, 3) := by decide +kernel
theorem dX11_feed_20 : decode cX11_feed 20 = .ok (.aload_n 0, 1) := by decide +kernel
theorem dX11_feed_21 : decode cX11_feed 21 = .ok (.iload_n 2, 1) := by decide +kernel
theorem dX11_feed_22 : decode cX11_feed 22 = .ok (.invokevirtual 101, 3) := by decide +kernel
theorem dX11_feed_25 : decode cX11_feed 25 = .ok (.aload_n 0, 1) := by decide +kernel
theorem dX11_feed_26 : decode cX11_feed 26 = .ok (.iload_n 3, 1) := by decide +kernel
theorem dX11_feed_27 : decode cX11_feed 27 = .ok (.invokevirtual 101, 3) := by decide +kernel
theorem dX11_feed_30 : decode cX11_feed 30 = .ok (.aload_n 0, 1) := by decide +kernel
theorem dX11_feed_31 : decode cX11_feed 31 = .ok (.iload 4, 2) := by decide +kernel
theorem dX11_feed_33 : decode cX11_feed 33 = .ok (.invokevirtual 101, 3) := by decide +kernel
theorem dX11_feed_36 : decode cX11_feed 36 = .ok (.aload_n 0, 1) := by decide +kernel
theorem dX11_feed_37 : decode cX11_feed 37 = .ok (.iload 5, 2) := by decide +kernel
theorem dX11_feed_39 : decode cX11_feed 39 = .ok (.invokevirtual 101, 3) := by decide +kernel
theorem dX11_feed_42 : decode cX11_feed 42 = .ok (.aload_n 0, 1) := by decide +kernel
theorem dX11_feed_43 : decode cX11_feed 43 = .ok (.getfield 13, 3) := by decide +kernel
theorem dX11_feed_46 : decode cX11_feed 46 = .ok (.ireturn, 1) := by decide +kernel
theorem dX11_file_0 : decode cX11_file 0 = .ok (.aload_n 0, 1) := by decide +kernel
theorem dX11_file_1 : decode cX11_file 1 = .ok (.getfield 29, 3) := by decide +kernel
theorem dX11_file_4 : decode cX11_file 4 = .ok (.iload_n 1, 1) := by decide +kernel
theorem dX11_file_5 : decode cX11_file 5 = .ok (.invokevirtual 137, 3) := by decide +kernel
theorem dX11_file_8 : decode cX11_file 8 = .ok (.ifCond .eq 14, 3) := by decide +kernel
theorem dX11_file_11 : decode cX11_file 11 = .ok (.aload_n 0, 1) := by decide +kernel
theorem dX11_file_12 : decode cX11_file 12 = .ok (.getfield 37, 3) := by decide +kernel
theorem dX11_file_15 : decode cX11_file 15 = .ok (.iload_n 2, 1) := by decide +kernel
theorem dX11_file_16 : decode cX11_file 16 = .ok (.invokevirtual 158, 3) := by decide +kernel
theorem dX11_file_19 : decode cX11_file 19 = .ok (.ifCond .ne 5, 3) := by decide +kernel
theorem dX11_file_22 : decode cX11_file 22 = .ok (.iconst (-1), 1) := by decide +kernel
theorem dX11_file_23 : decode cX11_file 23 = .ok (.ireturn, 1) := by decide +kernel
theorem dX11_file_24 : decode cX11_file 24 = .ok (.aload_n 0, 1) := by decide +kernel
theorem dX11_file_25 : decode cX11_file 25 = .ok (.getfield 37, 3) := by decide +kernel
theorem dX11_file_28 : decode cX11_file 28 = .ok (.aload_n 0, 1) := by decide +kernel
theorem dX11_file_29 : decode cX11_file 29 = .ok (.getfield 41, 3) := by decide +kernel
theorem dX11_file_32 : decode cX11_file 32 = .ok (.iload_n 1, 1) := by decide +kernel
theorem dX11_file_33 : decode cX11_file 33 = .ok (.invokevirtual 140, 3) := by decide +kernel
theorem dX11_file_36 : decode cX11_file 36 = .ok (.iload_n 2, 1) := by decide +kernel
theorem dX11_file_37 : decode cX11_file 37 = .ok (.invokevirtual 264, 3) := by decide +kernel
theorem dX11_file_40 : decode cX11_file 40 = .ok (.istore_n 3, 1) := by decide +kernel
theorem dX11_file_41 : decode cX11_file 41 = .ok (.iload_n 3, 1) := by decide +kernel
theorem dX11_file_42 : decode cX11_file 42 = .ok (.ifCond .ne 5, 3) := by decide +kernel
theorem dX11_file_45 : decode cX11_file 45 = .ok (.iconst (-1), 1) := by decide +kernel
theorem dX11_file_46 : decode cX11_file 46 = .ok (.ireturn, 1) := by decide +kernel
theorem dX11_file_47 : decode cX11_file 47 = .ok (.aload_n 0, 1) := by decide +kernel
theorem dX11_file_48 : decode cX11_file 48 = .ok (.getfield 51, 3) := by decide +kernel
theorem dX11_file_51 : decode cX11_file 51 = .ok (.aload_n 0, 1) := by decide +kernel
theorem dX11_file_52 : decode cX11_file 52 = .ok (.getfield 41, 3) := by decide +kernel
theorem dX11_file_55 : decode cX11_file 55 = .ok (.invokevirtual 222, 3) := by decide +kernel
theorem dX11_file_58 : decode cX11_file 58 = .ok (.aload_n 0, 1) := by decide +kernel
theorem dX11_file_59 : decode cX11_file 59 = .ok (.getfield 41, 3) := by decide +kernel
theorem dX11_file_62 : decode cX11_file 62 = .ok (.iload_n 1, 1) := by decide +kernel
theorem dX11_file_63 : decode cX11_file 63 = .ok (.iload_n 3, 1) := by decide +kernel
theorem dX11_file_64 : decode cX11_file 64 = .ok (.invokevirtual 267, 3) := by decide +kernel
theorem dX11_file_67 : decode cX11_file 67 = .ok (.aload_n 0, 1) := by decide +kernel
theorem dX11_file_68 : decode cX11_file 68 = .ok (.getfield 37, 3) := by decide +kernel
theorem dX11_file_71 : decode cX11_file 71 = .ok (.iload_n 3, 1) := by decide +kernel
theorem dX11_file_72 : decode cX11_file 72 = .ok (.iload_n 2, 1) := by decide +kernel
theorem dX11_file_73 : decode cX11_file 73 = .ok (.invokevirtual 161, 3) := by decide +kernel
theorem dX11_file_76 : decode cX11_file 76 = .ok (.ireturn, 1) := by decide +kernel
theorem dX11_filing_0 : decode cX11_filing 0 = .ok (.aload_n 0, 1) := by decide +kernel
theorem dX11_filing_1 : decode cX11_filing 1 = .ok (.getfield 29, 3) := by decide +kernel
theorem dX11_filing_4 : decode cX11_filing 4 = .ok (.iload_n 1, 1) := by decide +kernel
theorem dX11_filing_5 : decode cX11_filing 5 = .ok (.invokevirtual 137, 3) := by decide +kernel
theorem dX11_filing_8 : decode cX11_filing 8 = .ok (.ifCond .eq 14, 3) := by decide +kernel
theorem dX11_filing_11 : decode cX11_filing 11 = .ok (.aload_n 0, 1) := by decide +kernel
theorem dX11_filing_12 : decode cX11_filing 12 = .ok (.getfield 29, 3) := by decide +kernel
theorem dX11_filing_15 : decode cX11_filing 15 = .ok (.iload_n 2, 1) := by decide +kernel
theorem dX11_filing_16 : decode cX11_filing 16 = .ok (.invokevirtual 165, 3) := by decide +kernel
theorem dX11_filing_19 : decode cX11_filing 19 = .ok (.ifCond .ne 5, 3) := by decide +kernel
theorem dX11_filing_22 : decode cX11_filing 22 = .ok (.iconst (-1), 1) := by decide +kernel
theorem dX11_filing_23 : decode cX11_filing 23 = .ok (.ireturn, 1) := by decide +kernel
theorem dX11_filing_24 : decode cX11_filing 24 = .ok (.aload_n 0, 1) := by decide +kernel
theorem dX11_filing_25 : decode cX11_filing 25 = .ok (.getfield 41, 3) := by decide +kernel
theorem dX11_filing_28 : decode cX11_filing 28 = .ok (.iload_n 1, 1) := by decide +kernel
theorem dX11_filing_29 : decode cX11_filing 29 = .ok (.invokevirtual 140, 3) := by decide +kernel
theorem dX11_filing_32 : decode cX11_filing 32 = .ok (.istore 4, 2) := by decide +kernel
theorem dX11_filing_34 : decode cX11_filing 34 = .ok (.aload_n 0, 1) := by decide +kernel
theorem dX11_filing_35 : decode cX11_filing 35 = .ok (.getfield 37, 3) := by decide +kernel
theorem dX11_filing_38 : decode cX11_filing 38 = .ok (.aload_n 0, 1) := by decide +kernel
theorem dX11_filing_39 : decode cX11_filing 39 = .ok (.getfield 41, 3) := by decide +kernel
theorem dX11_filing_42 : decode cX11_filing 42 = .ok (.iload_n 2, 1) := by decide +kernel
theorem dX11_filing_43 : decode cX11_filing 43 = .ok (.invokevirtual 168, 3) := by decide +kernel
theorem dX11_filing_46 : decode cX11_filing 46 = .ok (.aload_n 0, 1) := by decide +kernel
theorem dX11_filing_47 : decode cX11_filing 47 = .ok (.getfield 37, 3) := by decide +kernel
theorem dX11_filing_50 : decode cX11_filing 50 = .ok (.iload 4, 2) := by decide +kernel
theorem dX11_filing_52 : decode cX11_filing 52 = .ok (.invokevirtual 337, 3) := by decide +kernel
theorem dX11_filing_55 : decode cX11_filing 55 = .ok (.iand, 1) := by decide +kernel
theorem dX11_filing_56 : decode cX11_filing 56 = .ok (.invokevirtual 340, 3) := by decide +kernel
theorem dX11_filing_59 : decode cX11_filing 59 = .ok (.istore 5, 2) := by decide +kernel
theorem dX11_filing_61 : decode cX11_filing 61 = .ok (.iload 5, 2) := by decide +kernel
theorem dX11_filing_63 : decode cX11_filing 63 = .ok (.ifCond .ne 5, 3) := by decide +kernel
theorem dX11_filing_66 : decode cX11_filing 66 = .ok (.iconst (-1), 1) := by decide +kernel
theorem dX11_filing_67 : decode cX11_filing 67 = .ok (.ireturn, 1) := by decide +kernel
theorem dX11_filing_68 : decode cX11_filing 68 = .ok (.iload_n 3, 1) := by decide +kernel
theorem dX11_filing_69 : decode cX11_filing 69 = .ok (.lookupswitch 49 #[(0, 27), (1, 39)], 27) := by decide +kernel
theorem dX11_filing_96 : decode cX11_filing 96 = .ok (.aload_n 0, 1) := by decide +kernel
theorem dX11_filing_97 : decode cX11_filing 97 = .ok (.getfield 37, 3) := by decide +kernel
theorem dX11_filing_100 : decode cX11_filing 100 = .ok (.iload 4, 2) := by decide +kernel
theorem dX11_filing_102 : decode cX11_filing 102 = .ok (.iload 5, 2) := by decide +kernel
theorem dX11_filing_104 : decode cX11_filing 104 = .ok (.invokevirtual 343, 3) := by decide +kernel
theorem dX11_filing_107 : decode cX11_filing 107 = .ok (.ireturn, 1) := by decide +kernel
theorem dX11_filing_108 : decode cX11_filing 108 = .ok (.aload_n 0, 1) := by decide +kernel
theorem dX11_filing_109 : decode cX11_filing 109 = .ok (.getfield 37, 3) := by decide +kernel
theorem dX11_filing_112 : decode cX11_filing 112 = .ok (.iload 5, 2) := by decide +kernel
theorem dX11_filing_114 : decode cX11_filing 114 = .ok (.invokevirtual 144, 3) := by decide +kernel
theorem dX11_filing_117 : decode cX11_filing 117 = .ok (.ireturn, 1) := by decide +kernel
theorem dX11_filing_118 : decode cX11_filing 118 = .ok (.iconst (-1), 1) := by decide +kernel
theorem dX11_filing_119 : decode cX11_filing 119 = .ok (.ireturn, 1) := by decide +kernel
theorem dX11_find_0 : decode cX11_find 0 = .ok (.aload_n 0, 1) := by decide +kernel
theorem dX11_find_1 : decode cX11_find 1 = .ok (.getfield 29, 3) := by decide +kernel
theorem dX11_find_4 : decode cX11_find 4 = .ok (.iload_n 1, 1) := by decide +kernel
theorem dX11_find_5 : decode cX11_find 5 = .ok (.invokevirtual 137, 3) := by decide +kernel
theorem dX11_find_8 : decode cX11_find 8 = .ok (.ifCond .eq 27, 3) := by decide +kernel
theorem dX11_find_11 : decode cX11_find 11 = .ok (.aload_n 0, 1) := by decide +kernel
theorem dX11_find_12 : decode cX11_find 12 = .ok (.getfield 29, 3) := by decide +kernel
theorem dX11_find_15 : decode cX11_find 15 = .ok (.iload_n 2, 1) := by decide +kernel
theorem dX11_find_16 : decode cX11_find 16 = .ok (.invokevirtual 200, 3) := by decide +kernel
theorem dX11_find_19 : decode cX11_find 19 = .ok (.ifCond .eq 16, 3) := by decide +kernel
theorem dX11_find_22 : decode cX11_find 22 = .ok (.aload_n 0, 1) := by decide +kernel
theorem dX11_find_23 : decode cX11_find 23 = .ok (.getfield 41, 3) := by decide +kernel
theorem dX11_find_26 : decode cX11_find 26 = .ok (.iload_n 1, 1) := by decide +kernel
theorem dX11_find_27 : decode cX11_find 27 = .ok (.invokevirtual 152, 3) := by decide +kernel
theorem dX11_find_30 : decode cX11_find 30 = .ok (.bipush (-2), 2) := by decide +kernel
theorem dX11_find_32 : decode cX11_find 32 = .ok (.if_icmp .eq 5, 3) := by decide +kernel
theorem dX11_find_35 : decode cX11_find 35 = .ok (.iconst (-1), 1) := by decide +kernel
theorem dX11_find_36 : decode cX11_find 36 = .ok (.ireturn, 1) := by decide +kernel
theorem dX11_find_37 : decode cX11_find 37 = .ok (.aload_n 0, 1) := by decide +kernel
theorem dX11_find_38 : decode cX11_find 38 = .ok (.iload_n 1, 1) := by decide +kernel
theorem dX11_find_39 : decode cX11_find 39 = .ok (.iload_n 2, 1) := by decide +kernel
theorem dX11_find_40 : decode cX11_find 40 = .ok (.invokevirtual 273, 3) := by decide +kernel
theorem dX11_find_43 : decode cX11_find 43 = .ok (.pop, 1) := by decide +kernel
theorem dX11_find_44 : decode cX11_find 44 = .ok (.aload_n 0, 1) := by decide +kernel
theorem dX11_find_45 : decode cX11_find 45 = .ok (.getfield 41, 3) := by decide +kernel
theorem dX11_find_48 : decode cX11_find 48 = .ok (.iload_n 2, 1) := by decide +kernel
theorem dX11_find_49 : decode cX11_find 49 = .ok (.aload_n 0, 1) := by decide +kernel
theorem dX11_find_50 : decode cX11_find 50 = .ok (.getfield 29, 3) := by decide +kernel
theorem dX11_find_53 : decode cX11_find 53 = .ok (.getfield 128, 3) := by decide +kernel
theorem dX11_find_56 : decode cX11_find 56 = .ok (.invokevirtual 206, 3) := by decide +kernel
theorem dX11_find_59 : decode cX11_find 59 = .ok (.invokestatic 171, 3) := by decide +kernel
theorem dX11_find_62 : decode cX11_find 62 = .ok (.ireturn, 1) := by decide +kernel
theorem dX11_fits_0 : decode cX11_fits 0 = .ok (.aload_n 0, 1) := by decide +kernel
theorem dX11_fits_1 : decode cX11_fits 1 = .ok (.getfield 71, 3) := by decide +kernel
theorem dX11_fits_4 : decode cX11_fits 4 = .ok (.aload_n 0, 1) := by decide +kernel
theorem dX11_fits_5 : decode cX11_fits 5 = .ok (.getfield 29, 3) := by decide +kernel
theorem dX11_fits_8 : decode cX11_fits 8 = .ok (.getfield 115, 3) := by decide +kernel
theorem dX11_fits_11 : decode cX11_fits 11 = .ok (.invokevirtual 325, 3) := by decide +kernel
theorem dX11_fits_14 : decode cX11_fits 14 = .ok (.aload_n 0, 1) := by decide +kernel
theorem dX11_fits_15 : decode cX11_fits 15 = .ok (.getfield 71, 3) := by decide +kernel
theorem dX11_fits_18 : decode cX11_fits 18 = .ok (.aload_n 0, 1) := by decide +kernel
theorem dX11_fits_19 : decode cX11_fits 19 = .ok (.getfield 93, 3) := by decide +kernel
theorem dX11_fits_22 : decode cX11_fits 22 = .ok (.iload_n 1, 1) := by decide +kernel
theorem dX11_fits_23 : decode cX11_fits 23 = .ok (.iconst 1, 1) := by decide +kernel
theorem dX11_fits_24 : decode cX11_fits 24 = .ok (.invokevirtual 412, 3) := by decide +kernel
theorem dX11_fits_27 : decode cX11_fits 27 = .ok (.aload_n 0, 1) := by decide +kernel
theorem dX11_fits_28 : decode cX11_fits 28 = .ok (.getfield 93, 3) := by decide +kernel
theorem dX11_fits_31 : decode cX11_fits 31 = .ok (.iload_n 1, 1) := by decide +kernel
theorem dX11_fits_32 : decode cX11_fits 32 = .ok (.iconst 0, 1) := by decide +kernel
theorem dX11_fits_33 : decode cX11_fits 33 = .ok (.invokevirtual 412, 3) := by decide +kernel
theorem dX11_fits_36 : decode cX11_fits 36 = .ok (.invokevirtual 328, 3) := by decide +kernel
theorem dX11_fits_39 : decode cX11_fits 39 = .ok (.ireturn, 1) := by decide +kernel
theorem dX11_ghost_0 : decode cX11_ghost 0 = .ok (.aload_n 0, 1) := by decide +kernel
theorem dX11_ghost_1 : decode cX11_ghost 1 = .ok (.getfield 29, 3) := by decide +kernel
theorem dX11_ghost_4 : decode cX11_ghost 4 = .ok (.iload_n 1, 1) := by decide +kernel
theorem dX11_ghost_5 : decode cX11_ghost 5 = .ok (.invokevirtual 165, 3) := by decide +kernel
theorem dX11_ghost_8 : decode cX11_ghost 8 = .ok (.ifCond .eq 14, 3) := by decide +kernel
theorem dX11_ghost_11 : decode cX11_ghost 11 = .ok (.iload_n 2, 1) := by decide +kernel
theorem dX11_ghost_12 : decode cX11_ghost 12 = .ok (.ifCond .lt 10, 3) := by decide +kernel
theorem dX11_ghost_15 : decode cX11_ghost 15 = .ok (.iload_n 2, 1) := by decide +kernel
theorem dX11_ghost_16 : decode cX11_ghost 16 = .ok (.sipush 7776, 3) := by decide +kernel
theorem dX11_ghost_19 : decode cX11_ghost 19 = .ok (.if_icmp .lt 5, 3) := by decide +kernel
theorem dX11_ghost_22 : decode cX11_ghost 22 = .ok (.iconst (-1), 1) := by decide +kernel
theorem dX11_ghost_23 : decode cX11_ghost 23 = .ok (.ireturn, 1) := by decide +kernel
theorem dX11_ghost_24 : decode cX11_ghost 24 = .ok (.aload_n 0, 1) := by decide +kernel
theorem dX11_ghost_25 : decode cX11_ghost 25 = .ok (.getfield 41, 3) := by decide +kernel
theorem dX11_ghost_28 : decode cX11_ghost 28 = .ok (.iload_n 1, 1) := by decide +kernel
theorem dX11_ghost_29 : decode cX11_ghost 29 = .ok (.invokevirtual 168, 3) := by decide +kernel
theorem dX11_ghost_32 : decode cX11_ghost 32 = .ok (.istore_n 3, 1) := by decide +kernel
theorem dX11_ghost_33 : decode cX11_ghost 33 = .ok (.iload_n 2, 1) := by decide +kernel
theorem dX11_ghost_34 : decode cX11_ghost 34 = .ok (.istore 4, 2) := by decide +kernel
theorem dX11_ghost_36 : decode cX11_ghost 36 = .ok (.iload 4, 2) := by decide +kernel
theorem dX11_ghost_38 : decode cX11_ghost 38 = .ok (.iload_n 2, 1) := by decide +kernel
theorem dX11_ghost_39 : decode cX11_ghost 39 = .ok (.bipush 8, 2) := by decide +kernel
theorem dX11_ghost_41 : decode cX11_ghost 41 = .ok (.iadd, 1) := by decide +kernel
theorem dX11_ghost_42 : decode cX11_ghost 42 = .ok (.if_icmp .gt 76, 3) := by decide +kernel
theorem dX11_ghost_45 : decode cX11_ghost 45 = .ok (.aload_n 0, 1) := by decide +kernel
theorem dX11_ghost_46 : decode cX11_ghost 46 = .ok (.getfield 37, 3) := by decide +kernel
theorem dX11_ghost_49 : decode cX11_ghost 49 = .ok (.iload_n 3, 1) := by decide +kernel
theorem dX11_ghost_50 : decode cX11_ghost 50 = .ok (.iload 4, 2) := by decide +kernel
theorem dX11_ghost_52 : decode cX11_ghost 52 = .ok (.invokevirtual 310, 3) := by decide +kernel
theorem dX11_ghost_55 : decode cX11_ghost 55 = .ok (.istore 5, 2) := by decide +kernel
theorem dX11_ghost_57 : decode cX11_ghost 57 = .ok (.iload 5, 2) := by decide +kernel
theorem dX11_ghost_59 : decode cX11_ghost 59 = .ok (.ifCond .ne 5, 3) := by decide +kernel
theorem dX11_ghost_62 : decode cX11_ghost 62 = .ok (.iconst (-1), 1) := by decide +kernel
theorem dX11_ghost_63 : decode cX11_ghost 63 = .ok (.ireturn, 1) := by decide +kernel
theorem dX11_ghost_64 : decode cX11_ghost 64 = .ok (.aload_n 0, 1) := by decide +kernel
theorem dX11_ghost_65 : decode cX11_ghost 65 = .ok (.getfield 37, 3) := by decide +kernel
theorem dX11_ghost_68 : decode cX11_ghost 68 = .ok (.iload 5, 2) := by decide +kernel
theorem dX11_ghost_70 : decode cX11_ghost 70 = .ok (.invokevirtual 144, 3) := by decide +kernel
theorem dX11_ghost_73 : decode cX11_ghost 73 = .ok (.istore 6, 2) := by decide +kernel
theorem dX11_ghost_75 : decode cX11_ghost 75 = .ok (.aload_n 0, 1) := by decide +kernel
theorem dX11_ghost_76 : decode cX11_ghost 76 = .ok (.getfield 41, 3) := by decide +kernel
theorem dX11_ghost_79 : decode cX11_ghost 79 = .ok (.iload 5, 2) := by decide +kernel
theorem dX11_ghost_81 : decode cX11_ghost 81 = .ok (.aload_n 0, 1) := by decide +kernel
theorem dX11_ghost_82 : decode cX11_ghost 82 = .ok (.getfield 29, 3) := by decide +kernel
theorem dX11_ghost_85 : decode cX11_ghost 85 = .ok (.getfield 128, 3) := by decide +kernel
theorem dX11_ghost_88 : decode cX11_ghost 88 = .ok (.invokevirtual 319, 3) := by decide +kernel
theorem dX11_ghost_91 : decode cX11_ghost 91 = .ok (.iconst (-1), 1) := by decide +kernel
theorem dX11_ghost_92 : decode cX11_ghost 92 = .ok (.if_icmp .ne 20, 3) := by decide +kernel
theorem dX11_ghost_95 : decode cX11_ghost 95 = .ok (.iload 4, 2) := by decide +kernel
theorem dX11_ghost_97 : decode cX11_ghost 97 = .ok (.aload_n 0, 1) := by decide +kernel
theorem dX11_ghost_98 : decode cX11_ghost 98 = .ok (.iload_n 3, 1) := by decide +kernel
theorem dX11_ghost_99 : decode cX11_ghost 99 = .ok (.iload 6, 2) := by decide +kernel
theorem dX11_ghost_101 : decode cX11_ghost 101 = .ok (.invokevirtual 316, 3) := by decide +kernel
theorem dX11_ghost_104 : decode cX11_ghost 104 = .ok (.isub, 1) := by decide +kernel
theorem dX11_ghost_105 : decode cX11_ghost 105 = .ok (.iload_n 2, 1) := by decide +kernel
theorem dX11_ghost_106 : decode cX11_ghost 106 = .ok (.if_icmp .ne 6, 3) := by decide +kernel
theorem dX11_ghost_109 : decode cX11_ghost 109 = .ok (.iload 6, 2) := by decide +kernel
theorem dX11_ghost_111 : decode cX11_ghost 111 = .ok (.ireturn, 1) := by decide +kernel
theorem dX11_ghost_112 : decode cX11_ghost 112 = .ok (.iinc 4 1, 3) := by decide +kernel
theorem dX11_ghost_115 : decode cX11_ghost 115 = .ok (.goto (-79), 3) := by decide +kernel
theorem dX11_ghost_118 : decode cX11_ghost 118 = .ok (.iconst (-1), 1) := by decide +kernel
theorem dX11_ghost_119 : decode cX11_ghost 119 = .ok (.ireturn, 1) := by decide +kernel
theorem dX11_ghosts_0 : decode cX11_ghosts 0 = .ok (.aload_n 0, 1) := by decide +kernel
theorem dX11_ghosts_1 : decode cX11_ghosts 1 = .ok (.getfield 29, 3) := by decide +kernel
theorem dX11_ghosts_4 : decode cX11_ghosts 4 = .ok (.iload_n 1, 1) := by decide +kernel
theorem dX11_ghosts_5 : decode cX11_ghosts 5 = .ok (.invokevirtual 165, 3) := by decide +kernel
theorem dX11_ghosts_8 : decode cX11_ghosts 8 = .ok (.ifCond .ne 5, 3) := by decide +kernel
theorem dX11_ghosts_11 : decode cX11_ghosts 11 = .ok (.iconst (-1), 1) := by decide +kernel
theorem dX11_ghosts_12 : decode cX11_ghosts 12 = .ok (.ireturn, 1) := by decide +kernel
theorem dX11_ghosts_13 : decode cX11_ghosts 13 = .ok (.aload_n 0, 1) := by decide +kernel
theorem dX11_ghosts_14 : decode cX11_ghosts 14 = .ok (.getfield 41, 3) := by decide +kernel
theorem dX11_ghosts_17 : decode cX11_ghosts 17 = .ok (.iload_n 1, 1) := by decide +kernel
theorem dX11_ghosts_18 : decode cX11_ghosts 18 = .ok (.invokevirtual 168, 3) := by decide +kernel
theorem dX11_ghosts_21 : decode cX11_ghosts 21 = .ok (.istore_n 2, 1) := by decide +kernel
theorem dX11_ghosts_22 : decode cX11_ghosts 22 = .ok (.aload_n 0, 1) := by decide +kernel
theorem dX11_ghosts_23 : decode cX11_ghosts 23 = .ok (.getfield 37, 3) := by decide +kernel
theorem dX11_ghosts_26 : decode cX11_ghosts 26 = .ok (.iload_n 2, 1) := by decide +kernel
theorem dX11_ghosts_27 : decode cX11_ghosts 27 = .ok (.aload_n 0, 1) := by decide +kernel
theorem dX11_ghosts_28 : decode cX11_ghosts 28 = .ok (.getfield 37, 3) := by decide +kernel
theorem dX11_ghosts_31 : decode cX11_ghosts 31 = .ok (.getfield 304, 3) := by decide +kernel
theorem dX11_ghosts_34 : decode cX11_ghosts 34 = .ok (.invokevirtual 307, 3) := by decide +kernel
theorem dX11_ghosts_37 : decode cX11_ghosts 37 = .ok (.aload_n 0, 1) := by decide +kernel
theorem dX11_ghosts_38 : decode cX11_ghosts 38 = .ok (.iload_n 2, 1) := by decide +kernel
theorem dX11_ghosts_39 : decode cX11_ghosts 39 = .ok (.sipush 7776, 3) := by decide +kernel
theorem dX11_ghosts_42 : decode cX11_ghosts 42 = .ok (.invokevirtual 316, 3) := by decide +kernel
theorem dX11_ghosts_45 : decode cX11_ghosts 45 = .ok (.isub, 1) := by decide +kernel
theorem dX11_ghosts_46 : decode cX11_ghosts 46 = .ok (.ireturn, 1) := by decide +kernel
theorem dX11_give_0 : decode cX11_give 0 = .ok (.aload_n 0, 1) := by decide +kernel
theorem dX11_give_1 : decode cX11_give 1 = .ok (.getfield 29, 3) := by decide +kernel
theorem dX11_give_4 : decode cX11_give 4 = .ok (.iload_n 1, 1) := by decide +kernel
theorem dX11_give_5 : decode cX11_give 5 = .ok (.invokevirtual 137, 3) := by decide +kernel
theorem dX11_give_8 : decode cX11_give 8 = .ok (.ifCond .eq 14, 3) := by decide +kernel
theorem dX11_give_11 : decode cX11_give 11 = .ok (.aload_n 0, 1) := by decide +kernel
theorem dX11_give_12 : decode cX11_give 12 = .ok (.getfield 29, 3) := by decide +kernel
theorem dX11_give_15 : decode cX11_give 15 = .ok (.iload_n 2, 1) := by decide +kernel
theorem dX11_give_16 : decode cX11_give 16 = .ok (.invokevirtual 200, 3) := by decide +kernel
theorem dX11_give_19 : decode cX11_give 19 = .ok (.ifCond .ne 6, 3) := by decide +kernel
theorem dX11_give_22 : decode cX11_give 22 = .ok (.bipush (-3), 2) := by decide +kernel
theorem dX11_give_24 : decode cX11_give 24 = .ok (.ireturn, 1) := by decide +kernel
theorem dX11_give_25 : decode cX11_give 25 = .ok (.aload_n 0, 1) := by decide +kernel
theorem dX11_give_26 : decode cX11_give 26 = .ok (.getfield 41, 3) := by decide +kernel
theorem dX11_give_29 : decode cX11_give 29 = .ok (.iload_n 1, 1) := by decide +kernel
theorem dX11_give_30 : decode cX11_give 30 = .ok (.invokevirtual 152, 3) := by decide +kernel
theorem dX11_give_33 : decode cX11_give 33 = .ok (.istore_n 3, 1) := by decide +kernel
theorem dX11_give_34 : decode cX11_give 34 = .ok (.iload_n 3, 1) := by decide +kernel
theorem dX11_give_35 : decode cX11_give 35 = .ok (.iload_n 2, 1) := by decide +kernel
theorem dX11_give_36 : decode cX11_give 36 = .ok (.if_icmp .eq 9, 3) := by decide +kernel
theorem dX11_give_39 : decode cX11_give 39 = .ok (.iload_n 3, 1) := by decide +kernel
theorem dX11_give_40 : decode cX11_give 40 = .ok (.bipush (-2), 2) := by decide +kernel
theorem dX11_give_42 : decode cX11_give 42 = .ok (.if_icmp .ne 6, 3) := by decide +kernel
theorem dX11_give_45 : decode cX11_give 45 = .ok (.bipush (-3), 2) := by decide +kernel
theorem dX11_give_47 : decode cX11_give 47 = .ok (.ireturn, 1) := by decide +kernel
theorem dX11_give_48 : decode cX11_give 48 = .ok (.iload_n 3, 1) := by decide +kernel
theorem dX11_give_49 : decode cX11_give 49 = .ok (.iconst (-1), 1) := by decide +kernel
theorem dX11_give_50 : decode cX11_give 50 = .ok (.if_icmp .eq 25, 3) := by decide +kernel
theorem dX11_give_53 : decode cX11_give 53 = .ok (.aload_n 0, 1) := by decide +kernel
theorem dX11_give_54 : decode cX11_give 54 = .ok (.getfield 41, 3) := by decide +kernel
theorem dX11_give_57 : decode cX11_give 57 = .ok (.iload_n 3, 1) := by decide +kernel
theorem dX11_give_58 : decode cX11_give 58 = .ok (.invokevirtual 203, 3) := by decide +kernel
theorem dX11_give_61 : decode cX11_give 61 = .ok (.aload_n 0, 1) := by decide +kernel
theorem dX11_give_62 : decode cX11_give 62 = .ok (.getfield 41, 3) := by decide +kernel
theorem dX11_give_65 : decode cX11_give 65 = .ok (.iload_n 2, 1) := by decide +kernel
theorem dX11_give_66 : decode cX11_give 66 = .ok (.invokevirtual 203, 3) := by decide +kernel
theorem dX11_give_69 : decode cX11_give 69 = .ok (.if_icmp .eq 6, 3) := by decide +kernel
theorem dX11_give_72 : decode cX11_give 72 = .ok (.bipush (-3), 2) := by decide +kernel
theorem dX11_give_74 : decode cX11_give 74 = .ok (.ireturn, 1) := by decide +kernel
theorem dX11_give_75 : decode cX11_give 75 = .ok (.aload_n 0, 1) := by decide +kernel
theorem dX11_give_76 : decode cX11_give 76 = .ok (.iload_n 1, 1) := by decide +kernel
theorem dX11_give_77 : decode cX11_give 77 = .ok (.iload_n 2, 1) := by decide +kernel
theorem dX11_give_78 : decode cX11_give 78 = .ok (.invokevirtual 273, 3) := by decide +kernel
theorem dX11_give_81 : decode cX11_give 81 = .ok (.ireturn, 1) := by decide +kernel
theorem dX11_handOver_0 : decode cX11_handOver 0 = .ok (.aload_n 0, 1) := by decide +kernel
theorem dX11_handOver_1 : decode cX11_handOver 1 = .ok (.getfield 41, 3) := by decide +kernel
theorem dX11_handOver_4 : decode cX11_handOver 4 = .ok (.iload_n 1, 1) := by decide +kernel
theorem dX11_handOver_5 : decode cX11_handOver 5 = .ok (.invokevirtual 152, 3) := by decide +kernel
theorem dX11_handOver_8 : decode cX11_handOver 8 = .ok (.istore_n 3, 1) := by decide +kernel
theorem dX11_handOver_9 : decode cX11_handOver 9 = .ok (.aload_n 0, 1) := by decide +kernel
theorem dX11_handOver_10 : decode cX11_handOver 10 = .ok (.getfield 51, 3) := by decide +kernel
theorem dX11_handOver_13 : decode cX11_handOver 13 = .ok (.aload_n 0, 1) := by decide +kernel
theorem dX11_handOver_14 : decode cX11_handOver 14 = .ok (.getfield 41, 3) := by decide +kernel
theorem dX11_handOver_17 : decode cX11_handOver 17 = .ok (.invokevirtual 222, 3) := by decide +kernel
theorem dX11_handOver_20 : decode cX11_handOver 20 = .ok (.aload_n 0, 1) := by decide +kernel
theorem dX11_handOver_21 : decode cX11_handOver 21 = .ok (.getfield 41, 3) := by decide +kernel
theorem dX11_handOver_24 : decode cX11_handOver 24 = .ok (.iload_n 1, 1) := by decide +kernel
theorem dX11_handOver_25 : decode cX11_handOver 25 = .ok (.iload_n 2, 1) := by decide +kernel
theorem dX11_handOver_26 : decode cX11_handOver 26 = .ok (.invokevirtual 276, 3) := by decide +kernel
theorem dX11_handOver_29 : decode cX11_handOver 29 = .ok (.iload_n 3, 1) := by decide +kernel
theorem dX11_handOver_30 : decode cX11_handOver 30 = .ok (.ireturn, 1) := by decide +kernel
theorem dX11_hang_0 : decode cX11_hang 0 = .ok (.aload_n 0, 1) := by decide +kernel
theorem dX11_hang_1 : decode cX11_hang 1 = .ok (.getfield 29, 3) := by decide +kernel
theorem dX11_hang_4 : decode cX11_hang 4 = .ok (.iload_n 1, 1) := by decide +kernel
theorem dX11_hang_5 : decode cX11_hang 5 = .ok (.invokevirtual 137, 3) := by decide +kernel
theorem dX11_hang_8 : decode cX11_hang 8 = .ok (.ifCond .eq 14, 3) := by decide +kernel
theorem dX11_hang_11 : decode cX11_hang 11 = .ok (.aload_n 0, 1) := by decide +kernel
theorem dX11_hang_12 : decode cX11_hang 12 = .ok (.getfield 41, 3) := by decide +kernel
theorem dX11_hang_15 : decode cX11_hang 15 = .ok (.iload_n 1, 1) := by decide +kernel
theorem dX11_hang_16 : decode cX11_hang 16 = .ok (.invokevirtual 152, 3) := by decide +kernel
theorem dX11_hang_19 : decode cX11_hang 19 = .ok (.ifCond .ge 6, 3) := by decide +kernel
theorem dX11_hang_22 : decode cX11_hang 22 = .ok (.bipush (-3), 2) := by decide +kernel
theorem dX11_hang_24 : decode cX11_hang 24 = .ok (.ireturn, 1) := by decide +kernel
theorem dX11_hang_25 : decode cX11_hang 25 = .ok (.aload_n 0, 1) := by decide +kernel
theorem dX11_hang_26 : decode cX11_hang 26 = .ok (.iload_n 1, 1) := by decide +kernel
theorem dX11_hang_27 : decode cX11_hang 27 = .ok (.iconst (-1), 1) := by decide +kernel
theorem dX11_hang_28 : decode cX11_hang 28 = .ok (.invokevirtual 273, 3) := by decide +kernel
theorem dX11_hang_31 : decode cX11_hang 31 = .ok (.ireturn, 1) := by decide +kernel
theorem dX11_haunted_0 : decode cX11_haunted 0 = .ok (.iconst (-1), 1) := by decide +kernel
theorem dX11_haunted_1 : decode cX11_haunted 1 = .ok (.istore_n 1, 1) := by decide +kernel
theorem dX11_haunted_2 : decode cX11_haunted 2 = .ok (.iconst 0, 1) := by decide +kernel
theorem dX11_haunted_3 : decode cX11_haunted 3 = .ok (.istore_n 2, 1) := by decide +kernel
theorem dX11_haunted_4 : decode cX11_haunted 4 = .ok (.iconst 0, 1) := by decide +kernel
theorem dX11_haunted_5 : decode cX11_haunted 5 = .ok (.istore_n 3, 1) := by decide +kernel
theorem dX11_haunted_6 : decode cX11_haunted 6 = .ok (.iload_n 3, 1) := by decide +kernel
theorem dX11_haunted_7 : decode cX11_haunted 7 = .ok (.aload_n 0, 1) := by decide +kernel
theorem dX11_haunted_8 : decode cX11_haunted 8 = .ok (.getfield 29, 3) := by decide +kernel
theorem dX11_haunted_11 : decode cX11_haunted 11 = .ok (.getfield 392, 3) := by decide +kernel
theorem dX11_haunted_14 : decode cX11_haunted 14 = .ok (.if_icmp .ge 32, 3) := by decide +kernel
theorem dX11_haunted_17 : decode cX11_haunted 17 = .ok (.aload_n 0, 1) := by decide +kernel
theorem dX11_haunted_18 : decode cX11_haunted 18 = .ok (.iload_n 3, 1) := by decide +kernel
theorem dX11_haunted_19 : decode cX11_haunted 19 = .ok (.invokevirtual 395, 3) := by decide +kernel
theorem dX11_haunted_22 : decode cX11_haunted 22 = .ok (.istore 4, 2) := by decide +kernel
theorem dX11_haunted_24 : decode cX11_haunted 24 = .ok (.iload_n 1, 1) := by decide +kernel
theorem dX11_haunted_25 : decode cX11_haunted 25 = .ok (.iconst (-1), 1) := by decide +kernel
theorem dX11_haunted_26 : decode cX11_haunted 26 = .ok (.if_icmp .eq 9, 3) := by decide +kernel
theorem dX11_haunted_29 : decode cX11_haunted 29 = .ok (.iload 4, 2) := by decide +kernel
theorem dX11_haunted_31 : decode cX11_haunted 31 = .ok (.iload_n 2, 1) := by decide +kernel
theorem dX11_haunted_32 : decode cX11_haunted 32 = .ok (.if_icmp .le 8, 3) := by decide +kernel
theorem dX11_haunted_35 : decode cX11_haunted 35 = .ok (.iload_n 3, 1) := by decide +kernel
theorem dX11_haunted_36 : decode cX11_haunted 36 = .ok (.istore_n 1, 1) := by decide +kernel
theorem dX11_haunted_37 : decode cX11_haunted 37 = .ok (.iload 4, 2) := by decide +kernel
theorem dX11_haunted_39 : decode cX11_haunted 39 = .ok (.istore_n 2, 1) := by decide +kernel
theorem dX11_haunted_40 : decode cX11_haunted 40 = .ok (.iinc 3 1, 3) := by decide +kernel
theorem dX11_haunted_43 : decode cX11_haunted 43 = .ok (.goto (-37), 3) := by decide +kernel
theorem dX11_haunted_46 : decode cX11_haunted 46 = .ok (.iload_n 1, 1) := by decide +kernel
theorem dX11_haunted_47 : decode cX11_haunted 47 = .ok (.ireturn, 1) := by decide +kernel
theorem dX11_idle_0 : decode cX11_idle 0 = .ok (.iload_n 1, 1) := by decide +kernel
theorem dX11_idle_1 : decode cX11_idle 1 = .ok (.lookupswitch 60 #[(0, 27), (1, 43)], 27) := by decide +kernel
theorem dX11_idle_28 : decode cX11_idle 28 = .ok (.aload_n 0, 1) := by decide +kernel
theorem dX11_idle_29 : decode cX11_idle 29 = .ok (.getfield 41, 3) := by decide +kernel
theorem dX11_idle_32 : decode cX11_idle 32 = .ok (.iconst (-1), 1) := by decide +kernel
theorem dX11_idle_33 : decode cX11_idle 33 = .ok (.aload_n 0, 1) := by decide +kernel
theorem dX11_idle_34 : decode cX11_idle 34 = .ok (.getfield 29, 3) := by decide +kernel
theorem dX11_idle_37 : decode cX11_idle 37 = .ok (.getfield 128, 3) := by decide +kernel
theorem dX11_idle_40 : decode cX11_idle 40 = .ok (.invokevirtual 206, 3) := by decide +kernel
theorem dX11_idle_43 : decode cX11_idle 43 = .ok (.ireturn, 1) := by decide +kernel
theorem dX11_idle_44 : decode cX11_idle 44 = .ok (.aload_n 0, 1) := by decide +kernel
theorem dX11_idle_45 : decode cX11_idle 45 = .ok (.getfield 41, 3) := by decide +kernel
theorem dX11_idle_48 : decode cX11_idle 48 = .ok (.bipush (-2), 2) := by decide +kernel
theorem dX11_idle_50 : decode cX11_idle 50 = .ok (.aload_n 0, 1) := by decide +kernel
theorem dX11_idle_51 : decode cX11_idle 51 = .ok (.getfield 29, 3) := by decide +kernel
theorem dX11_idle_54 : decode cX11_idle 54 = .ok (.getfield 128, 3) := by decide +kernel
theorem dX11_idle_57 : decode cX11_idle 57 = .ok (.invokevirtual 206, 3) := by decide +kernel
theorem dX11_idle_60 : decode cX11_idle 60 = .ok (.ireturn, 1) := by decide +kernel
theorem dX11_idle_61 : decode cX11_idle 61 = .ok (.iconst (-1), 1) := by decide +kernel
theorem dX11_idle_62 : decode cX11_idle 62 = .ok (.ireturn, 1) := by decide +kernel
theorem dX11_image_0 : decode cX11_image 0 = .ok (.iload_n 1, 1) := by decide +kernel
theorem dX11_image_1 : decode cX11_image 1 = .ok (.ifCond .lt 8, 3) := by decide +kernel
theorem dX11_image_4 : decode cX11_image 4 = .ok (.iload_n 1, 1) := by decide +kernel
theorem dX11_image_5 : decode cX11_image 5 = .ok (.iconst 3, 1) := by decide +kernel
theorem dX11_image_6 : decode cX11_image 6 = .ok (.if_icmp .lt 5, 3) := by decide +kernel
theorem dX11_image_9 : decode cX11_image 9 = .ok (.iconst (-1), 1) := by decide +kernel
theorem dX11_image_10 : decode cX11_image 10 = .ok (.ireturn, 1) := by decide +kernel
theorem dX11_image_11 : decode cX11_image 11 = .ok (.aload_n 0, 1) := by decide +kernel
theorem dX11_image_12 : decode cX11_image 12 = .ok (.getfield 55, 3) := by decide +kernel
theorem dX11_image_15 : decode cX11_image 15 = .ok (.iload_n 1, 1) := by decide +kernel
theorem dX11_image_16 : decode cX11_image 16 = .ok (.aaload, 1) := by decide +kernel
theorem dX11_image_17 : decode cX11_image 17 = .ok (.aload_n 0, 1) := by decide +kernel
theorem dX11_image_18 : decode cX11_image 18 = .ok (.getfield 41, 3) := by decide +kernel
theorem dX11_image_21 : decode cX11_image 21 = .ok (.invokevirtual 118, 3) := by decide +kernel
theorem dX11_image_24 : decode cX11_image 24 = .ok (.aload_n 0, 1) := by decide +kernel
theorem dX11_image_25 : decode cX11_image 25 = .ok (.dup, 1) := by decide +kernel
theorem dX11_image_26 : decode cX11_image 26 = .ok (.getfield 59, 3) := by decide +kernel
theorem dX11_image_29 : decode cX11_image 29 = .ok (.iconst 1, 1) := by decide +kernel
theorem dX11_image_30 : decode cX11_image 30 = .ok (.iload_n 1, 1) := by decide +kernel
theorem dX11_image_31 : decode cX11_image 31 = .ok (.ishl, 1) := by decide +kernel
theorem dX11_image_32 : decode cX11_image 32 = .ok (.ior, 1) := by decide +kernel
theorem dX11_image_33 : decode cX11_image 33 = .ok (.putfield 59, 3) := by decide +kernel
theorem dX11_image_36 : decode cX11_image 36 = .ok (.aload_n 0, 1) := by decide +kernel
theorem dX11_image_37 : decode cX11_image 37 = .ok (.getfield 41, 3) := by decide +kernel
theorem dX11_image_40 : decode cX11_image 40 = .ok (.bipush (-2), 2) := by decide +kernel
theorem dX11_image_42 : decode cX11_image 42 = .ok (.aload_n 0, 1) := by decide +kernel
theorem dX11_image_43 : decode cX11_image 43 = .ok (.getfield 29, 3) := by decide +kernel
theorem dX11_image_46 : decode cX11_image 46 = .ok (.getfield 128, 3) := by decide +kernel
theorem dX11_image_49 : decode cX11_image 49 = .ok (.invokevirtual 206, 3) := by decide +kernel
theorem dX11_image_52 : decode cX11_image 52 = .ok (.invokestatic 171, 3) := by decide +kernel
theorem dX11_image_55 : decode cX11_image 55 = .ok (.ireturn, 1) := by decide +kernel
theorem dX11_init_0 : decode cX11_init 0 = .ok (.aload_n 0, 1) := by decide +kernel
theorem dX11_init_1 : decode cX11_init 1 = .ok (.invokespecial 1, 3) := by decide +kernel
theorem dX11_init_4 : decode cX11_init 4 = .ok (.aload_n 0, 1) := by decide +kernel
theorem dX11_init_5 : decode cX11_init 5 = .ok (.sipush 1600, 3) := by decide +kernel
theorem dX11_init_8 : decode cX11_init 8 = .ok (.newarray .byte, 2) := by decide +kernel
theorem dX11_init_10 : decode cX11_init 10 = .ok (.putfield 9, 3) := by decide +kernel
theorem dX11_init_13 : decode cX11_init 13 = .ok (.aload_n 0, 1) := by decide +kernel
theorem dX11_init_14 : decode cX11_init 14 = .ok (.iconst 0, 1) := by decide +kernel
theorem dX11_init_15 : decode cX11_init 15 = .ok (.putfield 13, 3) := by decide +kernel
theorem dX11_init_18 : decode cX11_init 18 = .ok (.aload_n 0, 1) := by decide +kernel
theorem dX11_init_19 : decode cX11_init 19 = .ok (.new 17, 3) := by decide +kernel
theorem dX11_init_22 : decode cX11_init 22 = .ok (.dup, 1) := by decide +kernel
theorem dX11_init_23 : decode cX11_init 23 = .ok (.aload_n 0, 1) := by decide +kernel
theorem dX11_init_24 : decode cX11_init 24 = .ok (.getfield 9, 3) := by decide +kernel
theorem dX11_init_27 : decode cX11_init 27 = .ok (.invokespecial 19, 3) := by decide +kernel
theorem dX11_init_30 : decode cX11_init 30 = .ok (.putfield 22, 3) := by decide +kernel
theorem dX11_init_33 : decode cX11_init 33 = .ok (.aload_n 0, 1) := by decide +kernel
theorem dX11_init_34 : decode cX11_init 34 = .ok (.new 26, 3) := by decide +kernel
theorem dX11_init_37 : decode cX11_init 37 = .ok (.dup, 1) := by decide +kernel
theorem dX11_init_38 : decode cX11_init 38 = .ok (.invokespecial 28, 3) := by decide +kernel
theorem dX11_init_41 : decode cX11_init 41 = .ok (.putfield 29, 3) := by decide +kernel
theorem dX11_init_44 : decode cX11_init 44 = .ok (.aload_n 0, 1) := by decide +kernel
theorem dX11_init_45 : decode cX11_init 45 = .ok (.aload_n 0, 1) := by decide +kernel
theorem dX11_init_46 : decode cX11_init 46 = .ok (.getfield 29, 3) := by decide +kernel
theorem dX11_init_49 : decode cX11_init 49 = .ok (.getfield 33, 3) := by decide +kernel
theorem dX11_init_52 : decode cX11_init 52 = .ok (.putfield 37, 3) := by decide +kernel
theorem dX11_init_55 : decode cX11_init 55 = .ok (.aload_n 0, 1) := by decide +kernel
theorem dX11_init_56 : decode cX11_init 56 = .ok (.new 38, 3) := by decide +kernel
theorem dX11_init_59 : decode cX11_init 59 = .ok (.dup, 1) := by decide +kernel
theorem dX11_init_60 : decode cX11_init 60 = .ok (.invokespecial 40, 3) := by decide +kernel
theorem dX11_init_63 : decode cX11_init 63 = .ok (.putfield 41, 3) := by decide +kernel
theorem dX11_init_66 : decode cX11_init 66 = .ok (.aload_n 0, 1) := by decide +kernel
theorem dX11_init_67 : decode cX11_init 67 = .ok (.new 38, 3) := by decide +kernel
theorem dX11_init_70 : decode cX11_init 70 = .ok (.dup, 1) := by decide +kernel
theorem dX11_init_71 : decode cX11_init 71 = .ok (.invokespecial 40, 3) := by decide +kernel
theorem dX11_init_74 : decode cX11_init 74 = .ok (.putfield 45, 3) := by decide +kernel
theorem dX11_init_77 : decode cX11_init 77 = .ok (.aload_n 0, 1) := by decide +kernel
theorem dX11_init_78 : decode cX11_init 78 = .ok (.new 48, 3) := by decide +kernel
theorem dX11_init_81 : decode cX11_init 81 = .ok (.dup, 1) := by decide +kernel
theorem dX11_init_82 : decode cX11_init 82 = .ok (.invokespecial 50, 3) := by decide +kernel
theorem dX11_init_85 : decode cX11_init 85 = .ok (.putfield 51, 3) := by decide +kernel
theorem dX11_init_88 : decode cX11_init 88 = .ok (.aload_n 0, 1) := by decide +kernel
theorem dX11_init_89 : decode cX11_init 89 = .ok (.iconst 3, 1) := by decide +kernel
theorem dX11_init_90 : decode cX11_init 90 = .ok (.anewarray 38, 3) := by decide +kernel
theorem dX11_init_93 : decode cX11_init 93 = .ok (.putfield 55, 3) := by decide +kernel
theorem dX11_init_96 : decode cX11_init 96 = .ok (.iconst 0, 1) := by decide +kernel
theorem dX11_init_97 : decode cX11_init 97 = .ok (.istore_n 1, 1) := by decide +kernel
theorem dX11_init_98 : decode cX11_init 98 = .ok (.iload_n 1, 1) := by decide +kernel
theorem dX11_init_99 : decode cX11_init 99 = .ok (.iconst 3, 1) := by decide +kernel
theorem dX11_init_100 : decode cX11_init 100 = .ok (.if_icmp .ge 22, 3) := by decide +kernel
theorem dX11_init_103 : decode cX11_init 103 = .ok (.aload_n 0, 1) := by decide +kernel
theorem dX11_init_104 : decode cX11_init 104 = .ok (.getfield 55, 3) := by decide +kernel
theorem dX11_init_107 : decode cX11_init 107 = .ok (.iload_n 1, 1) := by decide +kernel
theorem dX11_init_108 : decode cX11_init 108 = .ok (.new 38, 3) := by decide +kernel
theorem dX11_init_111 : decode cX11_init 111 = .ok (.dup, 1) := by decide +kernel
theorem dX11_init_112 : decode cX11_init 112 = .ok (.invokespecial 40, 3) := by decide +kernel
theorem dX11_init_115 : decode cX11_init 115 = .ok (.aastore, 1) := by decide +kernel
theorem dX11_init_116 : decode cX11_init 116 = .ok (.iinc 1 1, 3) := by decide +kernel
theorem dX11_init_119 : decode cX11_init 119 = .ok (.goto (-21), 3) := by decide +kernel
theorem dX11_init_122 : decode cX11_init 122 = .ok (.aload_n 0, 1) := by decide +kernel
theorem dX11_init_123 : decode cX11_init 123 = .ok (.iconst 0, 1) := by decide +kernel
theorem dX11_init_124 : decode cX11_init 124 = .ok (.putfield 59, 3) := by decide +kernel
theorem dX11_init_127 : decode cX11_init 127 = .ok (.aload_n 0, 1) := by decide +kernel
theorem dX11_init_128 : decode cX11_init 128 = .ok (.new 62, 3) := by decide +kernel
theorem dX11_init_131 : decode cX11_init 131 = .ok (.dup, 1) := by decide +kernel
theorem dX11_init_132 : decode cX11_init 132 = .ok (.aload_n 0, 1) := by decide +kernel
theorem dX11_init_133 : decode cX11_init 133 = .ok (.getfield 29, 3) := by decide +kernel
theorem dX11_init_136 : decode cX11_init 136 = .ok (.invokespecial 64, 3) := by decide +kernel
theorem dX11_init_139 : decode cX11_init 139 = .ok (.putfield 67, 3) := by decide +kernel
theorem dX11_init_142 : decode cX11_init 142 = .ok (.aload_n 0, 1) := by decide +kernel
theorem dX11_init_143 : decode cX11_init 143 = .ok (.new 62, 3) := by decide +kernel
theorem dX11_init_146 : decode cX11_init 146 = .ok (.dup, 1) := by decide +kernel
theorem dX11_init_147 : decode cX11_init 147 = .ok (.aload_n 0, 1) := by decide +kernel
theorem dX11_init_148 : decode cX11_init 148 = .ok (.getfield 29, 3) := by decide +kernel
theorem dX11_init_151 : decode cX11_init 151 = .ok (.invokespecial 64, 3) := by decide +kernel
theorem dX11_init_154 : decode cX11_init 154 = .ok (.putfield 71, 3) := by decide +kernel
theorem dX11_init_157 : decode cX11_init 157 = .ok (.aload_n 0, 1) := by decide +kernel
theorem dX11_init_158 : decode cX11_init 158 = .ok (.new 74, 3) := by decide +kernel
theorem dX11_init_161 : decode cX11_init 161 = .ok (.dup, 1) := by decide +kernel
theorem dX11_init_162 : decode cX11_init 162 = .ok (.aload_n 0, 1) := by decide +kernel
theorem dX11_init_163 : decode cX11_init 163 = .ok (.getfield 29, 3) := by decide +kernel
theorem dX11_init_166 : decode cX11_init 166 = .ok (.aload_n 0, 1) := by decide +kernel
theorem dX11_init_167 : decode cX11_init 167 = .ok (.getfield 41, 3) := by decide +kernel
theorem dX11_init_170 : decode cX11_init 170 = .ok (.invokespecial 76, 3) := by decide +kernel
theorem dX11_init_173 : decode cX11_init 173 = .ok (.putfield 79, 3) := by decide +kernel
theorem dX11_init_176 : decode cX11_init 176 = .ok (.aload_n 0, 1) := by decide +kernel
theorem dX11_init_177 : decode cX11_init 177 = .ok (.new 83, 3) := by decide +kernel
theorem dX11_init_180 : decode cX11_init 180 = .ok (.dup, 1) := by decide +kernel
theorem dX11_init_181 : decode cX11_init 181 = .ok (.aload_n 0, 1) := by decide +kernel
theorem dX11_init_182 : decode cX11_init 182 = .ok (.getfield 29, 3) := by decide +kernel
theorem dX11_init_185 : decode cX11_init 185 = .ok (.aload_n 0, 1) := by decide +kernel
theorem dX11_init_186 : decode cX11_init 186 = .ok (.getfield 41, 3) := by decide +kernel
theorem dX11_init_189 : decode cX11_init 189 = .ok (.invokespecial 85, 3) := by decide +kernel
theorem dX11_init_192 : decode cX11_init 192 = .ok (.putfield 86, 3) := by decide +kernel
theorem dX11_init_195 : decode cX11_init 195 = .ok (.aload_n 0, 1) := by decide +kernel
theorem dX11_init_196 : decode cX11_init 196 = .ok (.new 90, 3) := by decide +kernel
theorem dX11_init_199 : decode cX11_init 199 = .ok (.dup, 1) := by decide +kernel
theorem dX11_init_200 : decode cX11_init 200 = .ok (.invokespecial 92, 3) := by decide +kernel
theorem dX11_init_203 : decode cX11_init 203 = .ok (.putfield 93, 3) := by decide +kernel
theorem dX11_init_206 : decode cX11_init 206 = .ok (.aload_n 0, 1) := by decide +kernel
theorem dX11_init_207 : decode cX11_init 207 = .ok (.bipush 60, 2) := by decide +kernel
theorem dX11_init_209 : decode cX11_init 209 = .ok (.newarray .int, 2) := by decide +kernel
theorem dX11_init_211 : decode cX11_init 211 = .ok (.putfield 97, 3) := by decide +kernel
theorem dX11_init_214 : decode cX11_init 214 = .ok (.return_, 1) := by decide +kernel
theorem dX11_keeps_0 : decode cX11_keeps 0 = .ok (.aload_n 0, 1) := by decide +kernel
theorem dX11_keeps_1 : decode cX11_keeps 1 = .ok (.getfield 29, 3) := by decide +kernel
theorem dX11_keeps_4 : decode cX11_keeps 4 = .ok (.iload_n 1, 1) := by decide +kernel
theorem dX11_keeps_5 : decode cX11_keeps 5 = .ok (.invokevirtual 137, 3) := by decide +kernel
theorem dX11_keeps_8 : decode cX11_keeps 8 = .ok (.ifCond .eq 21, 3) := by decide +kernel
theorem dX11_keeps_11 : decode cX11_keeps 11 = .ok (.aload_n 0, 1) := by decide +kernel
theorem dX11_keeps_12 : decode cX11_keeps 12 = .ok (.getfield 37, 3) := by decide +kernel
theorem dX11_keeps_15 : decode cX11_keeps 15 = .ok (.aload_n 0, 1) := by decide +kernel
theorem dX11_keeps_16 : decode cX11_keeps 16 = .ok (.getfield 86, 3) := by decide +kernel
theorem dX11_keeps_19 : decode cX11_keeps 19 = .ok (.iload_n 1, 1) := by decide +kernel
theorem dX11_keeps_20 : decode cX11_keeps 20 = .ok (.invokevirtual 350, 3) := by decide +kernel
theorem dX11_keeps_23 : decode cX11_keeps 23 = .ok (.invokevirtual 144, 3) := by decide +kernel
theorem dX11_keeps_26 : decode cX11_keeps 26 = .ok (.goto 4, 3) := by decide +kernel
theorem dX11_keeps_29 : decode cX11_keeps 29 = .ok (.iconst (-1), 1) := by decide +kernel
theorem dX11_keeps_30 : decode cX11_keeps 30 = .ok (.ireturn, 1) := by decide +kernel
theorem dX11_key_0 : decode cX11_key 0 = .ok (.aload_n 0, 1) := by decide +kernel
theorem dX11_key_1 : decode cX11_key 1 = .ok (.getfield 29, 3) := by decide +kernel
theorem dX11_key_4 : decode cX11_key 4 = .ok (.iload_n 1, 1) := by decide +kernel
theorem dX11_key_5 : decode cX11_key 5 = .ok (.invokevirtual 137, 3) := by decide +kernel
theorem dX11_key_8 : decode cX11_key 8 = .ok (.ifCond .ne 6, 3) := by decide +kernel
theorem dX11_key_11 : decode cX11_key 11 = .ok (.bipush (-3), 2) := by decide +kernel
theorem dX11_key_13 : decode cX11_key 13 = .ok (.ireturn, 1) := by decide +kernel
theorem dX11_key_14 : decode cX11_key 14 = .ok (.iload_n 2, 1) := by decide +kernel
theorem dX11_key_15 : decode cX11_key 15 = .ok (.tableswitch 74 0 3 #[29, 45, 54, 63], 29) := by decide +kernel
theorem dX11_key_44 : decode cX11_key 44 = .ok (.aload_n 0, 1) := by decide +kernel
theorem dX11_key_45 : decode cX11_key 45 = .ok (.getfield 37, 3) := by decide +kernel
theorem dX11_key_48 : decode cX11_key 48 = .ok (.aload_n 0, 1) := by decide +kernel
theorem dX11_key_49 : decode cX11_key 49 = .ok (.getfield 41, 3) := by decide +kernel
theorem dX11_key_52 : decode cX11_key 52 = .ok (.iload_n 1, 1) := by decide +kernel
theorem dX11_key_53 : decode cX11_key 53 = .ok (.invokevirtual 140, 3) := by decide +kernel
theorem dX11_key_56 : decode cX11_key 56 = .ok (.invokevirtual 144, 3) := by decide +kernel
theorem dX11_key_59 : decode cX11_key 59 = .ok (.ireturn, 1) := by decide +kernel
theorem dX11_key_60 : decode cX11_key 60 = .ok (.aload_n 0, 1) := by decide +kernel
theorem dX11_key_61 : decode cX11_key 61 = .ok (.getfield 41, 3) := by decide +kernel
theorem dX11_key_64 : decode cX11_key 64 = .ok (.iload_n 1, 1) := by decide +kernel
theorem dX11_key_65 : decode cX11_key 65 = .ok (.invokevirtual 149, 3) := by decide +kernel
theorem dX11_key_68 : decode cX11_key 68 = .ok (.ireturn, 1) := by decide +kernel
theorem dX11_key_69 : decode cX11_key 69 = .ok (.aload_n 0, 1) := by decide +kernel
theorem dX11_key_70 : decode cX11_key 70 = .ok (.getfield 41, 3) := by decide +kernel
theorem dX11_key_73 : decode cX11_key 73 = .ok (.iload_n 1, 1) := by decide +kernel
theorem dX11_key_74 : decode cX11_key 74 = .ok (.invokevirtual 152, 3) := by decide +kernel
theorem dX11_key_77 : decode cX11_key 77 = .ok (.ireturn, 1) := by decide +kernel
theorem dX11_key_78 : decode cX11_key 78 = .ok (.aload_n 0, 1) := by decide +kernel
theorem dX11_key_79 : decode cX11_key 79 = .ok (.getfield 79, 3) := by decide +kernel
theorem dX11_key_82 : decode cX11_key 82 = .ok (.iconst 1, 1) := by decide +kernel
theorem dX11_key_83 : decode cX11_key 83 = .ok (.iload_n 1, 1) := by decide +kernel
theorem dX11_key_84 : decode cX11_key 84 = .ok (.ishl, 1) := by decide +kernel
theorem dX11_key_85 : decode cX11_key 85 = .ok (.invokevirtual 155, 3) := by decide +kernel
theorem dX11_key_88 : decode cX11_key 88 = .ok (.ireturn, 1) := by decide +kernel
theorem dX11_key_89 : decode cX11_key 89 = .ok (.bipush (-3), 2) := by decide +kernel
theorem dX11_key_91 : decode cX11_key 91 = .ok (.ireturn, 1) := by decide +kernel
theorem dX11_lasts_0 : decode cX11_lasts 0 = .ok (.aload_n 0, 1) := by decide +kernel
theorem dX11_lasts_1 : decode cX11_lasts 1 = .ok (.getfield 29, 3) := by decide +kernel
theorem dX11_lasts_4 : decode cX11_lasts 4 = .ok (.iload_n 1, 1) := by decide +kernel
theorem dX11_lasts_5 : decode cX11_lasts 5 = .ok (.invokevirtual 137, 3) := by decide +kernel
theorem dX11_lasts_8 : decode cX11_lasts 8 = .ok (.ifCond .eq 14, 3) := by decide +kernel
theorem dX11_lasts_11 : decode cX11_lasts 11 = .ok (.aload_n 0, 1) := by decide +kernel
theorem dX11_lasts_12 : decode cX11_lasts 12 = .ok (.getfield 29, 3) := by decide +kernel
theorem dX11_lasts_15 : decode cX11_lasts 15 = .ok (.iload_n 2, 1) := by decide +kernel
theorem dX11_lasts_16 : decode cX11_lasts 16 = .ok (.invokevirtual 165, 3) := by decide +kernel
theorem dX11_lasts_19 : decode cX11_lasts 19 = .ok (.ifCond .ne 5, 3) := by decide +kernel
theorem dX11_lasts_22 : decode cX11_lasts 22 = .ok (.iconst (-1), 1) := by decide +kernel
theorem dX11_lasts_23 : decode cX11_lasts 23 = .ok (.ireturn, 1) := by decide +kernel
theorem dX11_lasts_24 : decode cX11_lasts 24 = .ok (.aload_n 0, 1) := by decide +kernel
theorem dX11_lasts_25 : decode cX11_lasts 25 = .ok (.getfield 45, 3) := by decide +kernel
theorem dX11_lasts_28 : decode cX11_lasts 28 = .ok (.aload_n 0, 1) := by decide +kernel
theorem dX11_lasts_29 : decode cX11_lasts 29 = .ok (.getfield 41, 3) := by decide +kernel
theorem dX11_lasts_32 : decode cX11_lasts 32 = .ok (.invokevirtual 118, 3) := by decide +kernel
theorem dX11_lasts_35 : decode cX11_lasts 35 = .ok (.iconst 0, 1) := by decide +kernel
theorem dX11_lasts_36 : decode cX11_lasts 36 = .ok (.istore_n 3, 1) := by decide +kernel
theorem dX11_lasts_37 : decode cX11_lasts 37 = .ok (.iload_n 3, 1) := by decide +kernel
theorem dX11_lasts_38 : decode cX11_lasts 38 = .ok (.sipush 200, 3) := by decide +kernel
theorem dX11_lasts_41 : decode cX11_lasts 41 = .ok (.if_icmp .gt 42, 3) := by decide +kernel
theorem dX11_lasts_44 : decode cX11_lasts 44 = .ok (.aload_n 0, 1) := by decide +kernel
theorem dX11_lasts_45 : decode cX11_lasts 45 = .ok (.getfield 45, 3) := by decide +kernel
theorem dX11_lasts_48 : decode cX11_lasts 48 = .ok (.iload_n 1, 1) := by decide +kernel
theorem dX11_lasts_49 : decode cX11_lasts 49 = .ok (.invokevirtual 140, 3) := by decide +kernel
theorem dX11_lasts_52 : decode cX11_lasts 52 = .ok (.aload_n 0, 1) := by decide +kernel
theorem dX11_lasts_53 : decode cX11_lasts 53 = .ok (.getfield 45, 3) := by decide +kernel
theorem dX11_lasts_56 : decode cX11_lasts 56 = .ok (.iload_n 2, 1) := by decide +kernel
theorem dX11_lasts_57 : decode cX11_lasts 57 = .ok (.invokevirtual 168, 3) := by decide +kernel
theorem dX11_lasts_60 : decode cX11_lasts 60 = .ok (.invokestatic 215, 3) := by decide +kernel
theorem dX11_lasts_63 : decode cX11_lasts 63 = .ok (.ifCond .ne 5, 3) := by decide +kernel
theorem dX11_lasts_66 : decode cX11_lasts 66 = .ok (.iload_n 3, 1) := by decide +kernel
theorem dX11_lasts_67 : decode cX11_lasts 67 = .ok (.ireturn, 1) := by decide +kernel
theorem dX11_lasts_68 : decode cX11_lasts 68 = .ok (.aload_n 0, 1) := by decide +kernel
theorem dX11_lasts_69 : decode cX11_lasts 69 = .ok (.aload_n 0, 1) := by decide +kernel
theorem dX11_lasts_70 : decode cX11_lasts 70 = .ok (.getfield 45, 3) := by decide +kernel
theorem dX11_lasts_73 : decode cX11_lasts 73 = .ok (.iload_n 1, 1) := by decide +kernel
theorem dX11_lasts_74 : decode cX11_lasts 74 = .ok (.invokevirtual 228, 3) := by decide +kernel
theorem dX11_lasts_77 : decode cX11_lasts 77 = .ok (.iinc 3 1, 3) := by decide +kernel
theorem dX11_lasts_80 : decode cX11_lasts 80 = .ok (.goto (-43), 3) := by decide +kernel
theorem dX11_lasts_83 : decode cX11_lasts 83 = .ok (.iconst (-1), 1) := by decide +kernel
theorem dX11_lasts_84 : decode cX11_lasts 84 = .ok (.ireturn, 1) := by decide +kernel
theorem dX11_later_0 : decode cX11_later 0 = .ok (.aload_n 0, 1) := by decide +kernel
theorem dX11_later_1 : decode cX11_later 1 = .ok (.getfield 93, 3) := by decide +kernel
theorem dX11_later_4 : decode cX11_later 4 = .ok (.iload_n 1, 1) := by decide +kernel
theorem dX11_later_5 : decode cX11_later 5 = .ok (.invokevirtual 410, 3) := by decide +kernel
theorem dX11_later_8 : decode cX11_later 8 = .ok (.ireturn, 1) := by decide +kernel
theorem dX11_law_0 : decode cX11_law 0 = .ok (.iload_n 1, 1) := by decide +kernel
theorem dX11_law_1 : decode cX11_law 1 = .ok (.ifCond .lt 8, 3) := by decide +kernel
theorem dX11_law_4 : decode cX11_law 4 = .ok (.iload_n 1, 1) := by decide +kernel
theorem dX11_law_5 : decode cX11_law 5 = .ok (.iconst 5, 1) := by decide +kernel
theorem dX11_law_6 : decode cX11_law 6 = .ok (.if_icmp .le 7, 3) := by decide +kernel
theorem dX11_law_9 : decode cX11_law 9 = .ok (.iconst (-1), 1) := by decide +kernel
theorem dX11_law_10 : decode cX11_law 10 = .ok (.goto 18, 3) := by decide +kernel
theorem dX11_law_13 : decode cX11_law 13 = .ok (.aload_n 0, 1) := by decide +kernel
theorem dX11_law_14 : decode cX11_law 14 = .ok (.getfield 37, 3) := by decide +kernel
theorem dX11_law_17 : decode cX11_law 17 = .ok (.aload_n 0, 1) := by decide +kernel
theorem dX11_law_18 : decode cX11_law 18 = .ok (.getfield 37, 3) := by decide +kernel
theorem dX11_law_21 : decode cX11_law 21 = .ok (.invokevirtual 301, 3) := by decide +kernel
theorem dX11_law_24 : decode cX11_law 24 = .ok (.iload_n 1, 1) := by decide +kernel
theorem dX11_law_25 : decode cX11_law 25 = .ok (.invokevirtual 307, 3) := by decide +kernel
theorem dX11_law_28 : decode cX11_law 28 = .ok (.ireturn, 1) := by decide +kernel
theorem dX11_leftOver_0 : decode cX11_leftOver 0 = .ok (.aload_n 0, 1) := by decide +kernel
theorem dX11_leftOver_1 : decode cX11_leftOver 1 = .ok (.getfield 29, 3) := by decide +kernel
theorem dX11_leftOver_4 : decode cX11_leftOver 4 = .ok (.iload_n 1, 1) := by decide +kernel
theorem dX11_leftOver_5 : decode cX11_leftOver 5 = .ok (.invokevirtual 137, 3) := by decide +kernel
theorem dX11_leftOver_8 : decode cX11_leftOver 8 = .ok (.ifCond .eq 14, 3) := by decide +kernel
theorem dX11_leftOver_11 : decode cX11_leftOver 11 = .ok (.aload_n 0, 1) := by decide +kernel
theorem dX11_leftOver_12 : decode cX11_leftOver 12 = .ok (.getfield 86, 3) := by decide +kernel
theorem dX11_leftOver_15 : decode cX11_leftOver 15 = .ok (.iload_n 1, 1) := by decide +kernel
theorem dX11_leftOver_16 : decode cX11_leftOver 16 = .ok (.invokevirtual 353, 3) := by decide +kernel
theorem dX11_leftOver_19 : decode cX11_leftOver 19 = .ok (.goto 4, 3) := by decide +kernel
theorem dX11_leftOver_22 : decode cX11_leftOver 22 = .ok (.iconst (-1), 1) := by decide +kernel
theorem dX11_leftOver_23 : decode cX11_leftOver 23 = .ok (.ireturn, 1) := by decide +kernel
theorem dX11_legal_0 : decode cX11_legal 0 = .ok (.aload_n 0, 1) := by decide +kernel
theorem dX11_legal_1 : decode cX11_legal 1 = .ok (.getfield 37, 3) := by decide +kernel
theorem dX11_legal_4 : decode cX11_legal 4 = .ok (.aload_n 0, 1) := by decide +kernel
theorem dX11_legal_5 : decode cX11_legal 5 = .ok (.getfield 37, 3) := by decide +kernel
theorem dX11_legal_8 : decode cX11_legal 8 = .ok (.invokevirtual 301, 3) := by decide +kernel
theorem dX11_legal_11 : decode cX11_legal 11 = .ok (.aload_n 0, 1) := by decide +kernel
theorem dX11_legal_12 : decode cX11_legal 12 = .ok (.getfield 37, 3) := by decide +kernel
theorem dX11_legal_15 : decode cX11_legal 15 = .ok (.getfield 304, 3) := by decide +kernel
theorem dX11_legal_18 : decode cX11_legal 18 = .ok (.invokevirtual 307, 3) := by decide +kernel
theorem dX11_legal_21 : decode cX11_legal 21 = .ok (.ireturn, 1) := by decide +kernel
theorem dX11_lies_0 : decode cX11_lies 0 = .ok (.aload_n 0, 1) := by decide +kernel
theorem dX11_lies_1 : decode cX11_lies 1 = .ok (.getfield 79, 3) := by decide +kernel
theorem dX11_lies_4 : decode cX11_lies 4 = .ok (.iload_n 1, 1) := by decide +kernel
theorem dX11_lies_5 : decode cX11_lies 5 = .ok (.invokevirtual 401, 3) := by decide +kernel
theorem dX11_lies_8 : decode cX11_lies 8 = .ok (.ireturn, 1) := by decide +kernel
theorem dX11_lock_0 : decode cX11_lock 0 = .ok (.aload_n 0, 1) := by decide +kernel
theorem dX11_lock_1 : decode cX11_lock 1 = .ok (.getfield 29, 3) := by decide +kernel
theorem dX11_lock_4 : decode cX11_lock 4 = .ok (.iload_n 1, 1) := by decide +kernel
theorem dX11_lock_5 : decode cX11_lock 5 = .ok (.invokevirtual 165, 3) := by decide +kernel
theorem dX11_lock_8 : decode cX11_lock 8 = .ok (.ifCond .ne 5, 3) := by decide +kernel
theorem dX11_lock_11 : decode cX11_lock 11 = .ok (.iconst (-1), 1) := by decide +kernel
theorem dX11_lock_12 : decode cX11_lock 12 = .ok (.ireturn, 1) := by decide +kernel
theorem dX11_lock_13 : decode cX11_lock 13 = .ok (.iload_n 2, 1) := by decide +kernel
theorem dX11_lock_14 : decode cX11_lock 14 = .ok (.tableswitch 69 0 3 #[30, 42, 51, 60], 30) := by decide +kernel
theorem dX11_lock_44 : decode cX11_lock 44 = .ok (.aload_n 0, 1) := by decide +kernel
theorem dX11_lock_45 : decode cX11_lock 45 = .ok (.getfield 41, 3) := by decide +kernel
theorem dX11_lock_48 : decode cX11_lock 48 = .ok (.iload_n 1, 1) := by decide +kernel
theorem dX11_lock_49 : decode cX11_lock 49 = .ok (.invokevirtual 168, 3) := by decide +kernel
theorem dX11_lock_52 : decode cX11_lock 52 = .ok (.invokestatic 171, 3) := by decide +kernel
theorem dX11_lock_55 : decode cX11_lock 55 = .ok (.ireturn, 1) := by decide +kernel
theorem dX11_lock_56 : decode cX11_lock 56 = .ok (.aload_n 0, 1) := by decide +kernel
theorem dX11_lock_57 : decode cX11_lock 57 = .ok (.getfield 79, 3) := by decide +kernel
theorem dX11_lock_60 : decode cX11_lock 60 = .ok (.iload_n 1, 1) := by decide +kernel
theorem dX11_lock_61 : decode cX11_lock 61 = .ok (.invokevirtual 176, 3) := by decide +kernel
theorem dX11_lock_64 : decode cX11_lock 64 = .ok (.ireturn, 1) := by decide +kernel
theorem dX11_lock_65 : decode cX11_lock 65 = .ok (.aload_n 0, 1) := by decide +kernel
theorem dX11_lock_66 : decode cX11_lock 66 = .ok (.getfield 29, 3) := by decide +kernel
theorem dX11_lock_69 : decode cX11_lock 69 = .ok (.iload_n 1, 1) := by decide +kernel
theorem dX11_lock_70 : decode cX11_lock 70 = .ok (.invokevirtual 179, 3) := by decide +kernel
theorem dX11_lock_73 : decode cX11_lock 73 = .ok (.ireturn, 1) := by decide +kernel
theorem dX11_lock_74 : decode cX11_lock 74 = .ok (.aload_n 0, 1) := by decide +kernel
theorem dX11_lock_75 : decode cX11_lock 75 = .ok (.getfield 29, 3) := by decide +kernel
theorem dX11_lock_78 : decode cX11_lock 78 = .ok (.iload_n 1, 1) := by decide +kernel
theorem dX11_lock_79 : decode cX11_lock 79 = .ok (.invokevirtual 182, 3) := by decide +kernel
theorem dX11_lock_82 : decode cX11_lock 82 = .ok (.ireturn, 1) := by decide +kernel
theorem dX11_lock_83 : decode cX11_lock 83 = .ok (.iconst (-1), 1) := by decide +kernel
theorem dX11_lock_84 : decode cX11_lock 84 = .ok (.ireturn, 1) := by decide +kernel
theorem dX11_lose_0 : decode cX11_lose 0 = .ok (.aload_n 0, 1) := by decide +kernel
theorem dX11_lose_1 : decode cX11_lose 1 = .ok (.getfield 29, 3) := by decide +kernel
theorem dX11_lose_4 : decode cX11_lose 4 = .ok (.iload_n 1, 1) := by decide +kernel
theorem dX11_lose_5 : decode cX11_lose 5 = .ok (.invokevirtual 137, 3) := by decide +kernel
theorem dX11_lose_8 : decode cX11_lose 8 = .ok (.ifCond .eq 16, 3) := by decide +kernel
theorem dX11_lose_11 : decode cX11_lose 11 = .ok (.aload_n 0, 1) := by decide +kernel
theorem dX11_lose_12 : decode cX11_lose 12 = .ok (.getfield 41, 3) := by decide +kernel
theorem dX11_lose_15 : decode cX11_lose 15 = .ok (.iload_n 1, 1) := by decide +kernel
theorem dX11_lose_16 : decode cX11_lose 16 = .ok (.invokevirtual 152, 3) := by decide +kernel
theorem dX11_lose_19 : decode cX11_lose 19 = .ok (.bipush (-2), 2) := by decide +kernel
theorem dX11_lose_21 : decode cX11_lose 21 = .ok (.if_icmp .ne 6, 3) := by decide +kernel
theorem dX11_lose_24 : decode cX11_lose 24 = .ok (.bipush (-3), 2) := by decide +kernel
theorem dX11_lose_26 : decode cX11_lose 26 = .ok (.ireturn, 1) := by decide +kernel
theorem dX11_lose_27 : decode cX11_lose 27 = .ok (.aload_n 0, 1) := by decide +kernel
theorem dX11_lose_28 : decode cX11_lose 28 = .ok (.iload_n 1, 1) := by decide +kernel
theorem dX11_lose_29 : decode cX11_lose 29 = .ok (.bipush (-2), 2) := by decide +kernel
theorem dX11_lose_31 : decode cX11_lose 31 = .ok (.invokevirtual 273, 3) := by decide +kernel
theorem dX11_lose_34 : decode cX11_lose 34 = .ok (.ireturn, 1) := by decide +kernel
theorem dX11_master_0 : decode cX11_master 0 = .ok (.aload_n 0, 1) := by decide +kernel
theorem dX11_master_1 : decode cX11_master 1 = .ok (.getfield 67, 3) := by decide +kernel
theorem dX11_master_4 : decode cX11_master 4 = .ok (.aload_n 0, 1) := by decide +kernel
theorem dX11_master_5 : decode cX11_master 5 = .ok (.getfield 41, 3) := by decide +kernel
theorem dX11_master_8 : decode cX11_master 8 = .ok (.invokevirtual 325, 3) := by decide +kernel
theorem dX11_master_11 : decode cX11_master 11 = .ok (.aload_n 0, 1) := by decide +kernel
theorem dX11_master_12 : decode cX11_master 12 = .ok (.getfield 67, 3) := by decide +kernel
theorem dX11_master_15 : decode cX11_master 15 = .ok (.invokevirtual 334, 3) := by decide +kernel
theorem dX11_master_18 : decode cX11_master 18 = .ok (.istore_n 2, 1) := by decide +kernel
theorem dX11_master_19 : decode cX11_master 19 = .ok (.iload_n 1, 1) := by decide +kernel
theorem dX11_master_20 : decode cX11_master 20 = .ok (.tableswitch 45 0 2 #[28, 38, 43], 28) := by decide +kernel
theorem dX11_master_48 : decode cX11_master 48 = .ok (.aload_n 0, 1) := by decide +kernel
theorem dX11_master_49 : decode cX11_master 49 = .ok (.getfield 67, 3) := by decide +kernel
theorem dX11_master_52 : decode cX11_master 52 = .ok (.iload_n 2, 1) := by decide +kernel
theorem dX11_master_53 : decode cX11_master 53 = .ok (.iconst 0, 1) := by decide +kernel
theorem dX11_master_54 : decode cX11_master 54 = .ok (.invokevirtual 331, 3) := by decide +kernel
theorem dX11_master_57 : decode cX11_master 57 = .ok (.ireturn, 1) := by decide +kernel
theorem dX11_master_58 : decode cX11_master 58 = .ok (.iload_n 2, 1) := by decide +kernel
theorem dX11_master_59 : decode cX11_master 59 = .ok (.invokestatic 171, 3) := by decide +kernel
theorem dX11_master_62 : decode cX11_master 62 = .ok (.ireturn, 1) := by decide +kernel
theorem dX11_master_63 : decode cX11_master 63 = .ok (.iload_n 2, 1) := by decide +kernel
theorem dX11_master_64 : decode cX11_master 64 = .ok (.ireturn, 1) := by decide +kernel
theorem dX11_master_65 : decode cX11_master 65 = .ok (.iconst (-1), 1) := by decide +kernel
theorem dX11_master_66 : decode cX11_master 66 = .ok (.ireturn, 1) := by decide +kernel
theorem dX11_odds_0 : decode cX11_odds 0 = .ok (.aload_n 0, 1) := by decide +kernel
theorem dX11_odds_1 : decode cX11_odds 1 = .ok (.getfield 29, 3) := by decide +kernel
theorem dX11_odds_4 : decode cX11_odds 4 = .ok (.iload_n 1, 1) := by decide +kernel
theorem dX11_odds_5 : decode cX11_odds 5 = .ok (.invokevirtual 165, 3) := by decide +kernel
theorem dX11_odds_8 : decode cX11_odds 8 = .ok (.ifCond .eq 12, 3) := by decide +kernel
theorem dX11_odds_11 : decode cX11_odds 11 = .ok (.iload_n 2, 1) := by decide +kernel
theorem dX11_odds_12 : decode cX11_odds 12 = .ok (.ifCond .lt 8, 3) := by decide +kernel
theorem dX11_odds_15 : decode cX11_odds 15 = .ok (.iload_n 2, 1) := by decide +kernel
theorem dX11_odds_16 : decode cX11_odds 16 = .ok (.iconst 1, 1) := by decide +kernel
theorem dX11_odds_17 : decode cX11_odds 17 = .ok (.if_icmp .le 5, 3) := by decide +kernel
theorem dX11_odds_20 : decode cX11_odds 20 = .ok (.iconst (-1), 1) := by decide +kernel
theorem dX11_odds_21 : decode cX11_odds 21 = .ok (.ireturn, 1) := by decide +kernel
theorem dX11_odds_22 : decode cX11_odds 22 = .ok (.aload_n 0, 1) := by decide +kernel
theorem dX11_odds_23 : decode cX11_odds 23 = .ok (.getfield 37, 3) := by decide +kernel
theorem dX11_odds_26 : decode cX11_odds 26 = .ok (.aload_n 0, 1) := by decide +kernel
theorem dX11_odds_27 : decode cX11_odds 27 = .ok (.getfield 41, 3) := by decide +kernel
theorem dX11_odds_30 : decode cX11_odds 30 = .ok (.iload_n 1, 1) := by decide +kernel
theorem dX11_odds_31 : decode cX11_odds 31 = .ok (.invokevirtual 168, 3) := by decide +kernel
theorem dX11_odds_34 : decode cX11_odds 34 = .ok (.aload_n 0, 1) := by decide +kernel
theorem dX11_odds_35 : decode cX11_odds 35 = .ok (.getfield 37, 3) := by decide +kernel
theorem dX11_odds_38 : decode cX11_odds 38 = .ok (.getfield 304, 3) := by decide +kernel
theorem dX11_odds_41 : decode cX11_odds 41 = .ok (.invokevirtual 307, 3) := by decide +kernel
theorem dX11_odds_44 : decode cX11_odds 44 = .ok (.istore_n 3, 1) := by decide +kernel
theorem dX11_odds_45 : decode cX11_odds 45 = .ok (.aload_n 0, 1) := by decide +kernel
theorem dX11_odds_46 : decode cX11_odds 46 = .ok (.getfield 37, 3) := by decide +kernel
theorem dX11_odds_49 : decode cX11_odds 49 = .ok (.aload_n 0, 1) := by decide +kernel
theorem dX11_odds_50 : decode cX11_odds 50 = .ok (.getfield 37, 3) := by decide +kernel
theorem dX11_odds_53 : decode cX11_odds 53 = .ok (.invokevirtual 301, 3) := by decide +kernel
theorem dX11_odds_56 : decode cX11_odds 56 = .ok (.aload_n 0, 1) := by decide +kernel
theorem dX11_odds_57 : decode cX11_odds 57 = .ok (.getfield 37, 3) := by decide +kernel
theorem dX11_odds_60 : decode cX11_odds 60 = .ok (.getfield 304, 3) := by decide +kernel
theorem dX11_odds_63 : decode cX11_odds 63 = .ok (.invokevirtual 307, 3) := by decide +kernel
theorem dX11_odds_66 : decode cX11_odds 66 = .ok (.istore 4, 2) := by decide +kernel
theorem dX11_odds_68 : decode cX11_odds 68 = .ok (.iconst 1, 1) := by decide +kernel
theorem dX11_odds_69 : decode cX11_odds 69 = .ok (.iload_n 3, 1) := by decide +kernel
theorem dX11_odds_70 : decode cX11_odds 70 = .ok (.iload 4, 2) := by decide +kernel
theorem dX11_odds_72 : decode cX11_odds 72 = .ok (.invokestatic 398, 3) := by decide +kernel
theorem dX11_odds_75 : decode cX11_odds 75 = .ok (.invokestatic 246, 3) := by decide +kernel
theorem dX11_odds_78 : decode cX11_odds 78 = .ok (.istore 5, 2) := by decide +kernel
theorem dX11_odds_80 : decode cX11_odds 80 = .ok (.iload_n 2, 1) := by decide +kernel
theorem dX11_odds_81 : decode cX11_odds 81 = .ok (.ifCond .ne 7, 3) := by decide +kernel
theorem dX11_odds_84 : decode cX11_odds 84 = .ok (.iload_n 3, 1) := by decide +kernel
theorem dX11_odds_85 : decode cX11_odds 85 = .ok (.goto 5, 3) := by decide +kernel
theorem dX11_odds_88 : decode cX11_odds 88 = .ok (.iload 4, 2) := by decide +kernel
theorem dX11_odds_90 : decode cX11_odds 90 = .ok (.iload 5, 2) := by decide +kernel
theorem dX11_odds_92 : decode cX11_odds 92 = .ok (.idiv, 1) := by decide +kernel
theorem dX11_odds_93 : decode cX11_odds 93 = .ok (.ireturn, 1) := by decide +kernel
theorem dX11_opens_0 : decode cX11_opens 0 = .ok (.aload_n 0, 1) := by decide +kernel
theorem dX11_opens_1 : decode cX11_opens 1 = .ok (.getfield 37, 3) := by decide +kernel
theorem dX11_opens_4 : decode cX11_opens 4 = .ok (.iload_n 1, 1) := by decide +kernel
theorem dX11_opens_5 : decode cX11_opens 5 = .ok (.invokevirtual 212, 3) := by decide +kernel
theorem dX11_opens_8 : decode cX11_opens 8 = .ok (.istore_n 3, 1) := by decide +kernel
theorem dX11_opens_9 : decode cX11_opens 9 = .ok (.iload_n 3, 1) := by decide +kernel
theorem dX11_opens_10 : decode cX11_opens 10 = .ok (.ifCond .eq 14, 3) := by decide +kernel
theorem dX11_opens_13 : decode cX11_opens 13 = .ok (.aload_n 0, 1) := by decide +kernel
theorem dX11_opens_14 : decode cX11_opens 14 = .ok (.getfield 29, 3) := by decide +kernel
theorem dX11_opens_17 : decode cX11_opens 17 = .ok (.iload_n 2, 1) := by decide +kernel
theorem dX11_opens_18 : decode cX11_opens 18 = .ok (.invokevirtual 165, 3) := by decide +kernel
theorem dX11_opens_21 : decode cX11_opens 21 = .ok (.ifCond .ne 5, 3) := by decide +kernel
theorem dX11_opens_24 : decode cX11_opens 24 = .ok (.iconst (-1), 1) := by decide +kernel
theorem dX11_opens_25 : decode cX11_opens 25 = .ok (.ireturn, 1) := by decide +kernel
theorem dX11_opens_26 : decode cX11_opens 26 = .ok (.iload_n 3, 1) := by decide +kernel
theorem dX11_opens_27 : decode cX11_opens 27 = .ok (.aload_n 0, 1) := by decide +kernel
theorem dX11_opens_28 : decode cX11_opens 28 = .ok (.getfield 41, 3) := by decide +kernel
theorem dX11_opens_31 : decode cX11_opens 31 = .ok (.iload_n 2, 1) := by decide +kernel
theorem dX11_opens_32 : decode cX11_opens 32 = .ok (.invokevirtual 168, 3) := by decide +kernel
theorem dX11_opens_35 : decode cX11_opens 35 = .ok (.invokestatic 215, 3) := by decide +kernel
theorem dX11_opens_38 : decode cX11_opens 38 = .ok (.ifCond .eq 7, 3) := by decide +kernel
theorem dX11_opens_41 : decode cX11_opens 41 = .ok (.iconst 1, 1) := by decide +kernel
theorem dX11_opens_42 : decode cX11_opens 42 = .ok (.goto 4, 3) := by decide +kernel
theorem dX11_opens_45 : decode cX11_opens 45 = .ok (.iconst 0, 1) := by decide +kernel
theorem dX11_opens_46 : decode cX11_opens 46 = .ok (.ireturn, 1) := by decide +kernel
theorem dX11_part_0 : decode cX11_part 0 = .ok (.aload_n 0, 1) := by decide +kernel
theorem dX11_part_1 : decode cX11_part 1 = .ok (.getfield 29, 3) := by decide +kernel
theorem dX11_part_4 : decode cX11_part 4 = .ok (.iload_n 1, 1) := by decide +kernel
theorem dX11_part_5 : decode cX11_part 5 = .ok (.invokevirtual 165, 3) := by decide +kernel
theorem dX11_part_8 : decode cX11_part 8 = .ok (.ifCond .eq 25, 3) := by decide +kernel
theorem dX11_part_11 : decode cX11_part 11 = .ok (.aload_n 0, 1) := by decide +kernel
theorem dX11_part_12 : decode cX11_part 12 = .ok (.getfield 37, 3) := by decide +kernel
theorem dX11_part_15 : decode cX11_part 15 = .ok (.iload_n 2, 1) := by decide +kernel
theorem dX11_part_16 : decode cX11_part 16 = .ok (.invokevirtual 158, 3) := by decide +kernel
theorem dX11_part_19 : decode cX11_part 19 = .ok (.ifCond .eq 14, 3) := by decide +kernel
theorem dX11_part_22 : decode cX11_part 22 = .ok (.aload_n 0, 1) := by decide +kernel
theorem dX11_part_23 : decode cX11_part 23 = .ok (.getfield 37, 3) := by decide +kernel
theorem dX11_part_26 : decode cX11_part 26 = .ok (.iload_n 3, 1) := by decide +kernel
theorem dX11_part_27 : decode cX11_part 27 = .ok (.invokevirtual 288, 3) := by decide +kernel
theorem dX11_part_30 : decode cX11_part 30 = .ok (.ifCond .ne 5, 3) := by decide +kernel
theorem dX11_part_33 : decode cX11_part 33 = .ok (.iconst (-1), 1) := by decide +kernel
theorem dX11_part_34 : decode cX11_part 34 = .ok (.ireturn, 1) := by decide +kernel
theorem dX11_part_35 : decode cX11_part 35 = .ok (.aload_n 0, 1) := by decide +kernel
theorem dX11_part_36 : decode cX11_part 36 = .ok (.getfield 41, 3) := by decide +kernel
theorem dX11_part_39 : decode cX11_part 39 = .ok (.iload_n 1, 1) := by decide +kernel
theorem dX11_part_40 : decode cX11_part 40 = .ok (.invokevirtual 168, 3) := by decide +kernel
theorem dX11_part_43 : decode cX11_part 43 = .ok (.iload_n 2, 1) := by decide +kernel
theorem dX11_part_44 : decode cX11_part 44 = .ok (.iload_n 3, 1) := by decide +kernel
theorem dX11_part_45 : decode cX11_part 45 = .ok (.invokestatic 291, 3) := by decide +kernel
theorem dX11_part_48 : decode cX11_part 48 = .ok (.ixor, 1) := by decide +kernel
theorem dX11_part_49 : decode cX11_part 49 = .ok (.istore 4, 2) := by decide +kernel
theorem dX11_part_51 : decode cX11_part 51 = .ok (.iload 4, 2) := by decide +kernel
theorem dX11_part_53 : decode cX11_part 53 = .ok (.iload_n 2, 1) := by decide +kernel
theorem dX11_part_54 : decode cX11_part 54 = .ok (.invokestatic 185, 3) := by decide +kernel
theorem dX11_part_57 : decode cX11_part 57 = .ok (.istore 5, 2) := by decide +kernel
theorem dX11_part_59 : decode cX11_part 59 = .ok (.iload 5, 2) := by decide +kernel
theorem dX11_part_61 : decode cX11_part 61 = .ok (.ifCond .ne 5, 3) := by decide +kernel
theorem dX11_part_64 : decode cX11_part 64 = .ok (.iconst (-1), 1) := by decide +kernel
theorem dX11_part_65 : decode cX11_part 65 = .ok (.ireturn, 1) := by decide +kernel
theorem dX11_part_66 : decode cX11_part 66 = .ok (.aload_n 0, 1) := by decide +kernel
theorem dX11_part_67 : decode cX11_part 67 = .ok (.getfield 51, 3) := by decide +kernel
theorem dX11_part_70 : decode cX11_part 70 = .ok (.aload_n 0, 1) := by decide +kernel
theorem dX11_part_71 : decode cX11_part 71 = .ok (.getfield 41, 3) := by decide +kernel
theorem dX11_part_74 : decode cX11_part 74 = .ok (.invokevirtual 222, 3) := by decide +kernel
theorem dX11_part_77 : decode cX11_part 77 = .ok (.aload_n 0, 1) := by decide +kernel
theorem dX11_part_78 : decode cX11_part 78 = .ok (.getfield 41, 3) := by decide +kernel
theorem dX11_part_81 : decode cX11_part 81 = .ok (.iload_n 1, 1) := by decide +kernel
theorem dX11_part_82 : decode cX11_part 82 = .ok (.iload 4, 2) := by decide +kernel
theorem dX11_part_84 : decode cX11_part 84 = .ok (.invokevirtual 285, 3) := by decide +kernel
theorem dX11_part_87 : decode cX11_part 87 = .ok (.iload 5, 2) := by decide +kernel
theorem dX11_part_89 : decode cX11_part 89 = .ok (.ireturn, 1) := by decide +kernel
theorem dX11_parts_0 : decode cX11_parts 0 = .ok (.aload_n 0, 1) := by decide +kernel
theorem dX11_parts_1 : decode cX11_parts 1 = .ok (.getfield 29, 3) := by decide +kernel
theorem dX11_parts_4 : decode cX11_parts 4 = .ok (.iload_n 1, 1) := by decide +kernel
theorem dX11_parts_5 : decode cX11_parts 5 = .ok (.invokevirtual 165, 3) := by decide +kernel
theorem dX11_parts_8 : decode cX11_parts 8 = .ok (.ifCond .eq 14, 3) := by decide +kernel
theorem dX11_parts_11 : decode cX11_parts 11 = .ok (.aload_n 0, 1) := by decide +kernel
theorem dX11_parts_12 : decode cX11_parts 12 = .ok (.getfield 37, 3) := by decide +kernel
theorem dX11_parts_15 : decode cX11_parts 15 = .ok (.iload_n 2, 1) := by decide +kernel
theorem dX11_parts_16 : decode cX11_parts 16 = .ok (.invokevirtual 158, 3) := by decide +kernel
theorem dX11_parts_19 : decode cX11_parts 19 = .ok (.ifCond .ne 5, 3) := by decide +kernel
theorem dX11_parts_22 : decode cX11_parts 22 = .ok (.iconst (-1), 1) := by decide +kernel
theorem dX11_parts_23 : decode cX11_parts 23 = .ok (.ireturn, 1) := by decide +kernel
theorem dX11_parts_24 : decode cX11_parts 24 = .ok (.aload_n 0, 1) := by decide +kernel
theorem dX11_parts_25 : decode cX11_parts 25 = .ok (.getfield 41, 3) := by decide +kernel
theorem dX11_parts_28 : decode cX11_parts 28 = .ok (.iload_n 1, 1) := by decide +kernel
theorem dX11_parts_29 : decode cX11_parts 29 = .ok (.invokevirtual 168, 3) := by decide +kernel
theorem dX11_parts_32 : decode cX11_parts 32 = .ok (.iload_n 2, 1) := by decide +kernel
theorem dX11_parts_33 : decode cX11_parts 33 = .ok (.invokestatic 185, 3) := by decide +kernel
theorem dX11_parts_36 : decode cX11_parts 36 = .ok (.ireturn, 1) := by decide +kernel
theorem dX11_person_0 : decode cX11_person 0 = .ok (.aload_n 0, 1) := by decide +kernel
theorem dX11_person_1 : decode cX11_person 1 = .ok (.getfield 29, 3) := by decide +kernel
theorem dX11_person_4 : decode cX11_person 4 = .ok (.iload_n 1, 1) := by decide +kernel
theorem dX11_person_5 : decode cX11_person 5 = .ok (.invokevirtual 200, 3) := by decide +kernel
theorem dX11_person_8 : decode cX11_person 8 = .ok (.ifCond .ne 5, 3) := by decide +kernel
theorem dX11_person_11 : decode cX11_person 11 = .ok (.iconst (-1), 1) := by decide +kernel
theorem dX11_person_12 : decode cX11_person 12 = .ok (.ireturn, 1) := by decide +kernel
theorem dX11_person_13 : decode cX11_person 13 = .ok (.iload_n 2, 1) := by decide +kernel
theorem dX11_person_14 : decode cX11_person 14 = .ok (.tableswitch 60 0 2 #[26, 35, 51], 26) := by decide +kernel
theorem dX11_person_40 : decode cX11_person 40 = .ok (.aload_n 0, 1) := by decide +kernel
theorem dX11_person_41 : decode cX11_person 41 = .ok (.getfield 41, 3) := by decide +kernel
theorem dX11_person_44 : decode cX11_person 44 = .ok (.iload_n 1, 1) := by decide +kernel
theorem dX11_person_45 : decode cX11_person 45 = .ok (.invokevirtual 203, 3) := by decide +kernel
theorem dX11_person_48 : decode cX11_person 48 = .ok (.ireturn, 1) := by decide +kernel
theorem dX11_person_49 : decode cX11_person 49 = .ok (.aload_n 0, 1) := by decide +kernel
theorem dX11_person_50 : decode cX11_person 50 = .ok (.getfield 41, 3) := by decide +kernel
theorem dX11_person_53 : decode cX11_person 53 = .ok (.iload_n 1, 1) := by decide +kernel
theorem dX11_person_54 : decode cX11_person 54 = .ok (.aload_n 0, 1) := by decide +kernel
theorem dX11_person_55 : decode cX11_person 55 = .ok (.getfield 29, 3) := by decide +kernel
theorem dX11_person_58 : decode cX11_person 58 = .ok (.getfield 128, 3) := by decide +kernel
theorem dX11_person_61 : decode cX11_person 61 = .ok (.invokevirtual 206, 3) := by decide +kernel
theorem dX11_person_64 : decode cX11_person 64 = .ok (.ireturn, 1) := by decide +kernel
theorem dX11_person_65 : decode cX11_person 65 = .ok (.aload_n 0, 1) := by decide +kernel
theorem dX11_person_66 : decode cX11_person 66 = .ok (.getfield 79, 3) := by decide +kernel
theorem dX11_person_69 : decode cX11_person 69 = .ok (.iload_n 1, 1) := by decide +kernel
theorem dX11_person_70 : decode cX11_person 70 = .ok (.invokevirtual 209, 3) := by decide +kernel
theorem dX11_person_73 : decode cX11_person 73 = .ok (.ireturn, 1) := by decide +kernel
theorem dX11_person_74 : decode cX11_person 74 = .ok (.iconst (-1), 1) := by decide +kernel
theorem dX11_person_75 : decode cX11_person 75 = .ok (.ireturn, 1) := by decide +kernel
theorem dX11_pin_0 : decode cX11_pin 0 = .ok (.aload_n 0, 1) := by decide +kernel
theorem dX11_pin_1 : decode cX11_pin 1 = .ok (.getfield 29, 3) := by decide +kernel
theorem dX11_pin_4 : decode cX11_pin 4 = .ok (.iload_n 1, 1) := by decide +kernel
theorem dX11_pin_5 : decode cX11_pin 5 = .ok (.invokevirtual 165, 3) := by decide +kernel
theorem dX11_pin_8 : decode cX11_pin 8 = .ok (.ifCond .eq 18, 3) := by decide +kernel
theorem dX11_pin_11 : decode cX11_pin 11 = .ok (.iload_n 2, 1) := by decide +kernel
theorem dX11_pin_12 : decode cX11_pin 12 = .ok (.ifCond .le 14, 3) := by decide +kernel
theorem dX11_pin_15 : decode cX11_pin 15 = .ok (.aload_n 0, 1) := by decide +kernel
theorem dX11_pin_16 : decode cX11_pin 16 = .ok (.getfield 29, 3) := by decide +kernel
theorem dX11_pin_19 : decode cX11_pin 19 = .ok (.iload_n 2, 1) := by decide +kernel
theorem dX11_pin_20 : decode cX11_pin 20 = .ok (.invokevirtual 279, 3) := by decide +kernel
theorem dX11_pin_23 : decode cX11_pin 23 = .ok (.ifCond .ne 5, 3) := by decide +kernel
theorem dX11_pin_26 : decode cX11_pin 26 = .ok (.iconst (-1), 1) := by decide +kernel
theorem dX11_pin_27 : decode cX11_pin 27 = .ok (.ireturn, 1) := by decide +kernel
theorem dX11_pin_28 : decode cX11_pin 28 = .ok (.aload_n 0, 1) := by decide +kernel
theorem dX11_pin_29 : decode cX11_pin 29 = .ok (.getfield 51, 3) := by decide +kernel
theorem dX11_pin_32 : decode cX11_pin 32 = .ok (.aload_n 0, 1) := by decide +kernel
theorem dX11_pin_33 : decode cX11_pin 33 = .ok (.getfield 41, 3) := by decide +kernel
theorem dX11_pin_36 : decode cX11_pin 36 = .ok (.invokevirtual 222, 3) := by decide +kernel
theorem dX11_pin_39 : decode cX11_pin 39 = .ok (.aload_n 0, 1) := by decide +kernel
theorem dX11_pin_40 : decode cX11_pin 40 = .ok (.getfield 41, 3) := by decide +kernel
theorem dX11_pin_43 : decode cX11_pin 43 = .ok (.iload_n 1, 1) := by decide +kernel
theorem dX11_pin_44 : decode cX11_pin 44 = .ok (.aload_n 0, 1) := by decide +kernel
theorem dX11_pin_45 : decode cX11_pin 45 = .ok (.getfield 86, 3) := by decide +kernel
theorem dX11_pin_48 : decode cX11_pin 48 = .ok (.iload_n 2, 1) := by decide +kernel
theorem dX11_pin_49 : decode cX11_pin 49 = .ok (.invokevirtual 282, 3) := by decide +kernel
theorem dX11_pin_52 : decode cX11_pin 52 = .ok (.invokevirtual 285, 3) := by decide +kernel
theorem dX11_pin_55 : decode cX11_pin 55 = .ok (.aload_n 0, 1) := by decide +kernel
theorem dX11_pin_56 : decode cX11_pin 56 = .ok (.getfield 41, 3) := by decide +kernel
theorem dX11_pin_59 : decode cX11_pin 59 = .ok (.iload_n 1, 1) := by decide +kernel
theorem dX11_pin_60 : decode cX11_pin 60 = .ok (.invokevirtual 168, 3) := by decide +kernel
theorem dX11_pin_63 : decode cX11_pin 63 = .ok (.invokestatic 171, 3) := by decide +kernel
theorem dX11_pin_66 : decode cX11_pin 66 = .ok (.ireturn, 1) := by decide +kernel
theorem dX11_plan_0 : decode cX11_plan 0 = .ok (.aload_n 0, 1) := by decide +kernel
theorem dX11_plan_1 : decode cX11_plan 1 = .ok (.getfield 22, 3) := by decide +kernel
theorem dX11_plan_4 : decode cX11_plan 4 = .ok (.aload_n 0, 1) := by decide +kernel
theorem dX11_plan_5 : decode cX11_plan 5 = .ok (.getfield 13, 3) := by decide +kernel
theorem dX11_plan_8 : decode cX11_plan 8 = .ok (.invokevirtual 105, 3) := by decide +kernel
theorem dX11_plan_11 : decode cX11_plan 11 = .ok (.ifCond .ne 5, 3) := by decide +kernel
theorem dX11_plan_14 : decode cX11_plan 14 = .ok (.iconst (-1), 1) := by decide +kernel
theorem dX11_plan_15 : decode cX11_plan 15 = .ok (.ireturn, 1) := by decide +kernel
theorem dX11_plan_16 : decode cX11_plan 16 = .ok (.aload_n 0, 1) := by decide +kernel
theorem dX11_plan_17 : decode cX11_plan 17 = .ok (.getfield 29, 3) := by decide +kernel
theorem dX11_plan_20 : decode cX11_plan 20 = .ok (.aload_n 0, 1) := by decide +kernel
theorem dX11_plan_21 : decode cX11_plan 21 = .ok (.getfield 22, 3) := by decide +kernel
theorem dX11_plan_24 : decode cX11_plan 24 = .ok (.getfield 109, 3) := by decide +kernel
theorem dX11_plan_27 : decode cX11_plan 27 = .ok (.invokevirtual 112, 3) := by decide +kernel
theorem dX11_plan_30 : decode cX11_plan 30 = .ok (.aload_n 0, 1) := by decide +kernel
theorem dX11_plan_31 : decode cX11_plan 31 = .ok (.getfield 41, 3) := by decide +kernel
theorem dX11_plan_34 : decode cX11_plan 34 = .ok (.aload_n 0, 1) := by decide +kernel
theorem dX11_plan_35 : decode cX11_plan 35 = .ok (.getfield 29, 3) := by decide +kernel
theorem dX11_plan_38 : decode cX11_plan 38 = .ok (.getfield 115, 3) := by decide +kernel
theorem dX11_plan_41 : decode cX11_plan 41 = .ok (.invokevirtual 118, 3) := by decide +kernel
theorem dX11_plan_44 : decode cX11_plan 44 = .ok (.aload_n 0, 1) := by decide +kernel
theorem dX11_plan_45 : decode cX11_plan 45 = .ok (.getfield 51, 3) := by decide +kernel
theorem dX11_plan_48 : decode cX11_plan 48 = .ok (.invokevirtual 121, 3) := by decide +kernel
theorem dX11_plan_51 : decode cX11_plan 51 = .ok (.aload_n 0, 1) := by decide +kernel
theorem dX11_plan_52 : decode cX11_plan 52 = .ok (.getfield 93, 3) := by decide +kernel
theorem dX11_plan_55 : decode cX11_plan 55 = .ok (.invokevirtual 124, 3) := by decide +kernel
theorem dX11_plan_58 : decode cX11_plan 58 = .ok (.aload_n 0, 1) := by decide +kernel
theorem dX11_plan_59 : decode cX11_plan 59 = .ok (.getfield 79, 3) := by decide +kernel
theorem dX11_plan_62 : decode cX11_plan 62 = .ok (.invokevirtual 125, 3) := by decide +kernel
theorem dX11_plan_65 : decode cX11_plan 65 = .ok (.aload_n 0, 1) := by decide +kernel
theorem dX11_plan_66 : decode cX11_plan 66 = .ok (.iconst 0, 1) := by decide +kernel
theorem dX11_plan_67 : decode cX11_plan 67 = .ok (.putfield 59, 3) := by decide +kernel
theorem dX11_plan_70 : decode cX11_plan 70 = .ok (.aload_n 0, 1) := by decide +kernel
theorem dX11_plan_71 : decode cX11_plan 71 = .ok (.iconst 0, 1) := by decide +kernel
theorem dX11_plan_72 : decode cX11_plan 72 = .ok (.putfield 13, 3) := by decide +kernel
theorem dX11_plan_75 : decode cX11_plan 75 = .ok (.aload_n 0, 1) := by decide +kernel
theorem dX11_plan_76 : decode cX11_plan 76 = .ok (.getfield 29, 3) := by decide +kernel
theorem dX11_plan_79 : decode cX11_plan 79 = .ok (.getfield 128, 3) := by decide +kernel
theorem dX11_plan_82 : decode cX11_plan 82 = .ok (.ireturn, 1) := by decide +kernel
theorem dX11_putOnTape_0 : decode cX11_putOnTape 0 = .ok (.bipush 24, 2) := by decide +kernel
theorem dX11_putOnTape_2 : decode cX11_putOnTape 2 = .ok (.istore_n 2, 1) := by decide +kernel
theorem dX11_putOnTape_3 : decode cX11_putOnTape 3 = .ok (.iload_n 2, 1) := by decide +kernel
theorem dX11_putOnTape_4 : decode cX11_putOnTape 4 = .ok (.ifCond .lt 49, 3) := by decide +kernel
theorem dX11_putOnTape_7 : decode cX11_putOnTape 7 = .ok (.aload_n 0, 1) := by decide +kernel
theorem dX11_putOnTape_8 : decode cX11_putOnTape 8 = .ok (.getfield 13, 3) := by decide +kernel
theorem dX11_putOnTape_11 : decode cX11_putOnTape 11 = .ok (.ifCond .lt 36, 3) := by decide +kernel
theorem dX11_putOnTape_14 : decode cX11_putOnTape 14 = .ok (.aload_n 0, 1) := by decide +kernel
theorem dX11_putOnTape_15 : decode cX11_putOnTape 15 = .ok (.getfield 13, 3) := by decide +kernel
theorem dX11_putOnTape_18 : decode cX11_putOnTape 18 = .ok (.sipush 1600, 3) := by decide +kernel
theorem dX11_putOnTape_21 : decode cX11_putOnTape 21 = .ok (.if_icmp .ge 26, 3) := by decide +kernel
theorem dX11_putOnTape_24 : decode cX11_putOnTape 24 = .ok (.aload_n 0, 1) := by decide +kernel
theorem dX11_putOnTape_25 : decode cX11_putOnTape 25 = .ok (.getfield 9, 3) := by decide +kernel
theorem dX11_putOnTape_28 : decode cX11_putOnTape 28 = .ok (.aload_n 0, 1) := by decide +kernel
theorem dX11_putOnTape_29 : decode cX11_putOnTape 29 = .ok (.getfield 13, 3) := by decide +kernel
theorem dX11_putOnTape_32 : decode cX11_putOnTape 32 = .ok (.iload_n 1, 1) := by decide +kernel
theorem dX11_putOnTape_33 : decode cX11_putOnTape 33 = .ok (.iload_n 2, 1) := by decide +kernel
theorem dX11_putOnTape_34 : decode cX11_putOnTape 34 = .ok (.ishr, 1) := by decide +kernel
theorem dX11_putOnTape_35 : decode cX11_putOnTape 35 = .ok (.i2b, 1) := by decide +kernel
theorem dX11_putOnTape_36 : decode cX11_putOnTape 36 = .ok (.bastore, 1) := by decide +kernel
theorem dX11_putOnTape_37 : decode cX11_putOnTape 37 = .ok (.aload_n 0, 1) := by decide +kernel
theorem dX11_putOnTape_38 : decode cX11_putOnTape 38 = .ok (.dup, 1) := by decide +kernel
theorem dX11_putOnTape_39 : decode cX11_putOnTape 39 = .ok (.getfield 13, 3) := by decide +kernel
theorem dX11_putOnTape_42 : decode cX11_putOnTape 42 = .ok (.iconst 1, 1) := by decide +kernel
theorem dX11_putOnTape_43 : decode cX11_putOnTape 43 = .ok (.iadd, 1) := by decide +kernel
theorem dX11_putOnTape_44 : decode cX11_putOnTape 44 = .ok (.putfield 13, 3) := by decide +kernel
theorem dX11_putOnTape_47 : decode cX11_putOnTape 47 = .ok (.iinc 2 (-8), 3) := by decide +kernel
theorem dX11_putOnTape_50 : decode cX11_putOnTape 50 = .ok (.goto (-47), 3) := by decide +kernel
theorem dX11_putOnTape_53 : decode cX11_putOnTape 53 = .ok (.return_, 1) := by decide +kernel
theorem dX11_rank_0 : decode cX11_rank 0 = .ok (.aload_n 0, 1) := by decide +kernel
theorem dX11_rank_1 : decode cX11_rank 1 = .ok (.getfield 37, 3) := by decide +kernel
theorem dX11_rank_4 : decode cX11_rank 4 = .ok (.iload_n 1, 1) := by decide +kernel
theorem dX11_rank_5 : decode cX11_rank 5 = .ok (.invokevirtual 212, 3) := by decide +kernel
theorem dX11_rank_8 : decode cX11_rank 8 = .ok (.istore_n 2, 1) := by decide +kernel
theorem dX11_rank_9 : decode cX11_rank 9 = .ok (.iload_n 2, 1) := by decide +kernel
theorem dX11_rank_10 : decode cX11_rank 10 = .ok (.ifCond .ne 7, 3) := by decide +kernel
theorem dX11_rank_13 : decode cX11_rank 13 = .ok (.iconst (-1), 1) := by decide +kernel
theorem dX11_rank_14 : decode cX11_rank 14 = .ok (.goto 11, 3) := by decide +kernel
theorem dX11_rank_17 : decode cX11_rank 17 = .ok (.aload_n 0, 1) := by decide +kernel
theorem dX11_rank_18 : decode cX11_rank 18 = .ok (.getfield 37, 3) := by decide +kernel
theorem dX11_rank_21 : decode cX11_rank 21 = .ok (.iload_n 2, 1) := by decide +kernel
theorem dX11_rank_22 : decode cX11_rank 22 = .ok (.invokevirtual 313, 3) := by decide +kernel
theorem dX11_rank_25 : decode cX11_rank 25 = .ok (.ireturn, 1) := by decide +kernel
theorem dX11_recut_0 : decode cX11_recut 0 = .ok (.aload_n 0, 1) := by decide +kernel
theorem dX11_recut_1 : decode cX11_recut 1 = .ok (.getfield 37, 3) := by decide +kernel
theorem dX11_recut_4 : decode cX11_recut 4 = .ok (.iload_n 2, 1) := by decide +kernel
theorem dX11_recut_5 : decode cX11_recut 5 = .ok (.invokevirtual 212, 3) := by decide +kernel
theorem dX11_recut_8 : decode cX11_recut 8 = .ok (.istore_n 3, 1) := by decide +kernel
theorem dX11_recut_9 : decode cX11_recut 9 = .ok (.aload_n 0, 1) := by decide +kernel
theorem dX11_recut_10 : decode cX11_recut 10 = .ok (.getfield 29, 3) := by decide +kernel
theorem dX11_recut_13 : decode cX11_recut 13 = .ok (.iload_n 1, 1) := by decide +kernel
theorem dX11_recut_14 : decode cX11_recut 14 = .ok (.invokevirtual 137, 3) := by decide +kernel
theorem dX11_recut_17 : decode cX11_recut 17 = .ok (.ifCond .eq 7, 3) := by decide +kernel
theorem dX11_recut_20 : decode cX11_recut 20 = .ok (.iload_n 3, 1) := by decide +kernel
theorem dX11_recut_21 : decode cX11_recut 21 = .ok (.ifCond .ne 5, 3) := by decide +kernel
theorem dX11_recut_24 : decode cX11_recut 24 = .ok (.iconst (-1), 1) := by decide +kernel
theorem dX11_recut_25 : decode cX11_recut 25 = .ok (.ireturn, 1) := by decide +kernel
theorem dX11_recut_26 : decode cX11_recut 26 = .ok (.aload_n 0, 1) := by decide +kernel
theorem dX11_recut_27 : decode cX11_recut 27 = .ok (.getfield 37, 3) := by decide +kernel
theorem dX11_recut_30 : decode cX11_recut 30 = .ok (.aload_n 0, 1) := by decide +kernel
theorem dX11_recut_31 : decode cX11_recut 31 = .ok (.getfield 41, 3) := by decide +kernel
theorem dX11_recut_34 : decode cX11_recut 34 = .ok (.iload_n 1, 1) := by decide +kernel
theorem dX11_recut_35 : decode cX11_recut 35 = .ok (.invokevirtual 140, 3) := by decide +kernel
theorem dX11_recut_38 : decode cX11_recut 38 = .ok (.invokevirtual 144, 3) := by decide +kernel
theorem dX11_recut_41 : decode cX11_recut 41 = .ok (.istore 4, 2) := by decide +kernel
theorem dX11_recut_43 : decode cX11_recut 43 = .ok (.aload_n 0, 1) := by decide +kernel
theorem dX11_recut_44 : decode cX11_recut 44 = .ok (.getfield 51, 3) := by decide +kernel
theorem dX11_recut_47 : decode cX11_recut 47 = .ok (.aload_n 0, 1) := by decide +kernel
theorem dX11_recut_48 : decode cX11_recut 48 = .ok (.getfield 41, 3) := by decide +kernel
theorem dX11_recut_51 : decode cX11_recut 51 = .ok (.invokevirtual 222, 3) := by decide +kernel
theorem dX11_recut_54 : decode cX11_recut 54 = .ok (.aload_n 0, 1) := by decide +kernel
theorem dX11_recut_55 : decode cX11_recut 55 = .ok (.getfield 41, 3) := by decide +kernel
theorem dX11_recut_58 : decode cX11_recut 58 = .ok (.iload_n 1, 1) := by decide +kernel
theorem dX11_recut_59 : decode cX11_recut 59 = .ok (.iload_n 3, 1) := by decide +kernel
theorem dX11_recut_60 : decode cX11_recut 60 = .ok (.invokevirtual 267, 3) := by decide +kernel
theorem dX11_recut_63 : decode cX11_recut 63 = .ok (.aload_n 0, 1) := by decide +kernel
theorem dX11_recut_64 : decode cX11_recut 64 = .ok (.getfield 41, 3) := by decide +kernel
theorem dX11_recut_67 : decode cX11_recut 67 = .ok (.iload_n 1, 1) := by decide +kernel
theorem dX11_recut_68 : decode cX11_recut 68 = .ok (.iconst 0, 1) := by decide +kernel
theorem dX11_recut_69 : decode cX11_recut 69 = .ok (.invokevirtual 270, 3) := by decide +kernel
theorem dX11_recut_72 : decode cX11_recut 72 = .ok (.iload 4, 2) := by decide +kernel
theorem dX11_recut_74 : decode cX11_recut 74 = .ok (.ireturn, 1) := by decide +kernel
theorem dX11_redo_0 : decode cX11_redo 0 = .ok (.aload_n 0, 1) := by decide +kernel
theorem dX11_redo_1 : decode cX11_redo 1 = .ok (.getfield 51, 3) := by decide +kernel
theorem dX11_redo_4 : decode cX11_redo 4 = .ok (.aload_n 0, 1) := by decide +kernel
theorem dX11_redo_5 : decode cX11_redo 5 = .ok (.getfield 41, 3) := by decide +kernel
theorem dX11_redo_8 : decode cX11_redo 8 = .ok (.invokevirtual 298, 3) := by decide +kernel
theorem dX11_redo_11 : decode cX11_redo 11 = .ok (.ireturn, 1) := by decide +kernel
theorem dX11_route_0 : decode cX11_route 0 = .ok (.aload_n 0, 1) := by decide +kernel
theorem dX11_route_1 : decode cX11_route 1 = .ok (.getfield 79, 3) := by decide +kernel
theorem dX11_route_4 : decode cX11_route 4 = .ok (.invokevirtual 125, 3) := by decide +kernel
theorem dX11_route_7 : decode cX11_route 7 = .ok (.aload_n 0, 1) := by decide +kernel
theorem dX11_route_8 : decode cX11_route 8 = .ok (.getfield 29, 3) := by decide +kernel
theorem dX11_route_11 : decode cX11_route 11 = .ok (.iload_n 1, 1) := by decide +kernel
theorem dX11_route_12 : decode cX11_route 12 = .ok (.invokevirtual 200, 3) := by decide +kernel
theorem dX11_route_15 : decode cX11_route 15 = .ok (.ifCond .eq 14, 3) := by decide +kernel
theorem dX11_route_18 : decode cX11_route 18 = .ok (.aload_n 0, 1) := by decide +kernel
theorem dX11_route_19 : decode cX11_route 19 = .ok (.getfield 29, 3) := by decide +kernel
theorem dX11_route_22 : decode cX11_route 22 = .ok (.iload_n 2, 1) := by decide +kernel
theorem dX11_route_23 : decode cX11_route 23 = .ok (.invokevirtual 356, 3) := by decide +kernel
theorem dX11_route_26 : decode cX11_route 26 = .ok (.ifCond .ne 5, 3) := by decide +kernel
theorem dX11_route_29 : decode cX11_route 29 = .ok (.iconst (-1), 1) := by decide +kernel
theorem dX11_route_30 : decode cX11_route 30 = .ok (.ireturn, 1) := by decide +kernel
theorem dX11_route_31 : decode cX11_route 31 = .ok (.aload_n 0, 1) := by decide +kernel
theorem dX11_route_32 : decode cX11_route 32 = .ok (.getfield 79, 3) := by decide +kernel
theorem dX11_route_35 : decode cX11_route 35 = .ok (.iload_n 1, 1) := by decide +kernel
theorem dX11_route_36 : decode cX11_route 36 = .ok (.iload_n 2, 1) := by decide +kernel
theorem dX11_route_37 : decode cX11_route 37 = .ok (.invokevirtual 359, 3) := by decide +kernel
theorem dX11_route_40 : decode cX11_route 40 = .ok (.ireturn, 1) := by decide +kernel
theorem dX11_span_0 : decode cX11_span 0 = .ok (.aload_n 0, 1) := by decide +kernel
theorem dX11_span_1 : decode cX11_span 1 = .ok (.getfield 29, 3) := by decide +kernel
theorem dX11_span_4 : decode cX11_span 4 = .ok (.iload_n 1, 1) := by decide +kernel
theorem dX11_span_5 : decode cX11_span 5 = .ok (.invokevirtual 137, 3) := by decide +kernel
theorem dX11_span_8 : decode cX11_span 8 = .ok (.ifCond .eq 14, 3) := by decide +kernel
theorem dX11_span_11 : decode cX11_span 11 = .ok (.aload_n 0, 1) := by decide +kernel
theorem dX11_span_12 : decode cX11_span 12 = .ok (.getfield 29, 3) := by decide +kernel
theorem dX11_span_15 : decode cX11_span 15 = .ok (.iload_n 2, 1) := by decide +kernel
theorem dX11_span_16 : decode cX11_span 16 = .ok (.invokevirtual 137, 3) := by decide +kernel
theorem dX11_span_19 : decode cX11_span 19 = .ok (.ifCond .ne 5, 3) := by decide +kernel
theorem dX11_span_22 : decode cX11_span 22 = .ok (.iconst (-1), 1) := by decide +kernel
theorem dX11_span_23 : decode cX11_span 23 = .ok (.ireturn, 1) := by decide +kernel
theorem dX11_span_24 : decode cX11_span 24 = .ok (.aload_n 0, 1) := by decide +kernel
theorem dX11_span_25 : decode cX11_span 25 = .ok (.getfield 37, 3) := by decide +kernel
theorem dX11_span_28 : decode cX11_span 28 = .ok (.aload_n 0, 1) := by decide +kernel
theorem dX11_span_29 : decode cX11_span 29 = .ok (.getfield 41, 3) := by decide +kernel
theorem dX11_span_32 : decode cX11_span 32 = .ok (.iload_n 1, 1) := by decide +kernel
theorem dX11_span_33 : decode cX11_span 33 = .ok (.invokevirtual 140, 3) := by decide +kernel
theorem dX11_span_36 : decode cX11_span 36 = .ok (.aload_n 0, 1) := by decide +kernel
theorem dX11_span_37 : decode cX11_span 37 = .ok (.getfield 41, 3) := by decide +kernel
theorem dX11_span_40 : decode cX11_span 40 = .ok (.iload_n 2, 1) := by decide +kernel
theorem dX11_span_41 : decode cX11_span 41 = .ok (.invokevirtual 140, 3) := by decide +kernel
theorem dX11_span_44 : decode cX11_span 44 = .ok (.invokevirtual 343, 3) := by decide +kernel
theorem dX11_span_47 : decode cX11_span 47 = .ok (.ireturn, 1) := by decide +kernel
theorem dX11_strays_0 : decode cX11_strays 0 = .ok (.aload_n 0, 1) := by decide +kernel
theorem dX11_strays_1 : decode cX11_strays 1 = .ok (.getfield 86, 3) := by decide +kernel
theorem dX11_strays_4 : decode cX11_strays 4 = .ok (.iload_n 1, 1) := by decide +kernel
theorem dX11_strays_5 : decode cX11_strays 5 = .ok (.iconst 1, 1) := by decide +kernel
theorem dX11_strays_6 : decode cX11_strays 6 = .ok (.invokevirtual 346, 3) := by decide +kernel
theorem dX11_strays_9 : decode cX11_strays 9 = .ok (.ireturn, 1) := by decide +kernel
theorem dX11_stuck_0 : decode cX11_stuck 0 = .ok (.aload_n 0, 1) := by decide +kernel
theorem dX11_stuck_1 : decode cX11_stuck 1 = .ok (.getfield 29, 3) := by decide +kernel
theorem dX11_stuck_4 : decode cX11_stuck 4 = .ok (.invokevirtual 386, 3) := by decide +kernel
theorem dX11_stuck_7 : decode cX11_stuck 7 = .ok (.aload_n 0, 1) := by decide +kernel
theorem dX11_stuck_8 : decode cX11_stuck 8 = .ok (.getfield 41, 3) := by decide +kernel
theorem dX11_stuck_11 : decode cX11_stuck 11 = .ok (.bipush (-2), 2) := by decide +kernel
theorem dX11_stuck_13 : decode cX11_stuck 13 = .ok (.aload_n 0, 1) := by decide +kernel
theorem dX11_stuck_14 : decode cX11_stuck 14 = .ok (.getfield 29, 3) := by decide +kernel
theorem dX11_stuck_17 : decode cX11_stuck 17 = .ok (.getfield 128, 3) := by decide +kernel
theorem dX11_stuck_20 : decode cX11_stuck 20 = .ok (.invokevirtual 206, 3) := by decide +kernel
theorem dX11_stuck_23 : decode cX11_stuck 23 = .ok (.iconst (-1), 1) := by decide +kernel
theorem dX11_stuck_24 : decode cX11_stuck 24 = .ok (.ixor, 1) := by decide +kernel
theorem dX11_stuck_25 : decode cX11_stuck 25 = .ok (.iand, 1) := by decide +kernel
theorem dX11_stuck_26 : decode cX11_stuck 26 = .ok (.istore_n 1, 1) := by decide +kernel
theorem dX11_stuck_27 : decode cX11_stuck 27 = .ok (.aload_n 0, 1) := by decide +kernel
theorem dX11_stuck_28 : decode cX11_stuck 28 = .ok (.getfield 29, 3) := by decide +kernel
theorem dX11_stuck_31 : decode cX11_stuck 31 = .ok (.invokevirtual 383, 3) := by decide +kernel
theorem dX11_stuck_34 : decode cX11_stuck 34 = .ok (.aload_n 0, 1) := by decide +kernel
theorem dX11_stuck_35 : decode cX11_stuck 35 = .ok (.getfield 79, 3) := by decide +kernel
theorem dX11_stuck_38 : decode cX11_stuck 38 = .ok (.iload_n 1, 1) := by decide +kernel
theorem dX11_stuck_39 : decode cX11_stuck 39 = .ok (.invokevirtual 155, 3) := by decide +kernel
theorem dX11_stuck_42 : decode cX11_stuck 42 = .ok (.iconst (-1), 1) := by decide +kernel
theorem dX11_stuck_43 : decode cX11_stuck 43 = .ok (.ixor, 1) := by decide +kernel
theorem dX11_stuck_44 : decode cX11_stuck 44 = .ok (.iand, 1) := by decide +kernel
theorem dX11_stuck_45 : decode cX11_stuck 45 = .ok (.ireturn, 1) := by decide +kernel
theorem dX11_sure_0 : decode cX11_sure 0 = .ok (.aload_n 0, 1) := by decide +kernel
theorem dX11_sure_1 : decode cX11_sure 1 = .ok (.getfield 37, 3) := by decide +kernel
theorem dX11_sure_4 : decode cX11_sure 4 = .ok (.iload_n 1, 1) := by decide +kernel
theorem dX11_sure_5 : decode cX11_sure 5 = .ok (.invokevirtual 158, 3) := by decide +kernel
theorem dX11_sure_8 : decode cX11_sure 8 = .ok (.ifCond .eq 11, 3) := by decide +kernel
theorem dX11_sure_11 : decode cX11_sure 11 = .ok (.aload_n 0, 1) := by decide +kernel
theorem dX11_sure_12 : decode cX11_sure 12 = .ok (.iload_n 2, 1) := by decide +kernel
theorem dX11_sure_13 : decode cX11_sure 13 = .ok (.invokevirtual 415, 3) := by decide +kernel
theorem dX11_sure_16 : decode cX11_sure 16 = .ok (.ifCond .ne 5, 3) := by decide +kernel
theorem dX11_sure_19 : decode cX11_sure 19 = .ok (.iconst (-1), 1) := by decide +kernel
theorem dX11_sure_20 : decode cX11_sure 20 = .ok (.ireturn, 1) := by decide +kernel
theorem dX11_sure_21 : decode cX11_sure 21 = .ok (.aload_n 0, 1) := by decide +kernel
theorem dX11_sure_22 : decode cX11_sure 22 = .ok (.getfield 71, 3) := by decide +kernel
theorem dX11_sure_25 : decode cX11_sure 25 = .ok (.aload_n 0, 1) := by decide +kernel
theorem dX11_sure_26 : decode cX11_sure 26 = .ok (.getfield 93, 3) := by decide +kernel
theorem dX11_sure_29 : decode cX11_sure 29 = .ok (.iload_n 2, 1) := by decide +kernel
theorem dX11_sure_30 : decode cX11_sure 30 = .ok (.iconst 1, 1) := by decide +kernel
theorem dX11_sure_31 : decode cX11_sure 31 = .ok (.invokevirtual 412, 3) := by decide +kernel
theorem dX11_sure_34 : decode cX11_sure 34 = .ok (.aload_n 0, 1) := by decide +kernel
theorem dX11_sure_35 : decode cX11_sure 35 = .ok (.getfield 93, 3) := by decide +kernel
theorem dX11_sure_38 : decode cX11_sure 38 = .ok (.iload_n 2, 1) := by decide +kernel
theorem dX11_sure_39 : decode cX11_sure 39 = .ok (.iconst 0, 1) := by decide +kernel
theorem dX11_sure_40 : decode cX11_sure 40 = .ok (.invokevirtual 412, 3) := by decide +kernel
theorem dX11_sure_43 : decode cX11_sure 43 = .ok (.invokevirtual 418, 3) := by decide +kernel
theorem dX11_sure_46 : decode cX11_sure 46 = .ok (.iload_n 1, 1) := by decide +kernel
theorem dX11_sure_47 : decode cX11_sure 47 = .ok (.invokestatic 185, 3) := by decide +kernel
theorem dX11_sure_50 : decode cX11_sure 50 = .ok (.istore_n 3, 1) := by decide +kernel
theorem dX11_sure_51 : decode cX11_sure 51 = .ok (.iload_n 3, 1) := by decide +kernel
theorem dX11_sure_52 : decode cX11_sure 52 = .ok (.invokestatic 171, 3) := by decide +kernel
theorem dX11_sure_55 : decode cX11_sure 55 = .ok (.iconst 1, 1) := by decide +kernel
theorem dX11_sure_56 : decode cX11_sure 56 = .ok (.if_icmp .ne 10, 3) := by decide +kernel
theorem dX11_sure_59 : decode cX11_sure 59 = .ok (.iload_n 3, 1) := by decide +kernel
theorem dX11_sure_60 : decode cX11_sure 60 = .ok (.invokestatic 225, 3) := by decide +kernel
theorem dX11_sure_63 : decode cX11_sure 63 = .ok (.goto 5, 3) := by decide +kernel
theorem dX11_sure_66 : decode cX11_sure 66 = .ok (.bipush (-2), 2) := by decide +kernel
theorem dX11_sure_68 : decode cX11_sure 68 = .ok (.ireturn, 1) := by decide +kernel
theorem dX11_together_0 : decode cX11_together 0 = .ok (.aload_n 0, 1) := by decide +kernel
theorem dX11_together_1 : decode cX11_together 1 = .ok (.getfield 29, 3) := by decide +kernel
theorem dX11_together_4 : decode cX11_together 4 = .ok (.iload_n 1, 1) := by decide +kernel
theorem dX11_together_5 : decode cX11_together 5 = .ok (.invokevirtual 200, 3) := by decide +kernel
theorem dX11_together_8 : decode cX11_together 8 = .ok (.ifCond .eq 14, 3) := by decide +kernel
theorem dX11_together_11 : decode cX11_together 11 = .ok (.aload_n 0, 1) := by decide +kernel
theorem dX11_together_12 : decode cX11_together 12 = .ok (.getfield 79, 3) := by decide +kernel
theorem dX11_together_15 : decode cX11_together 15 = .ok (.iload_n 1, 1) := by decide +kernel
theorem dX11_together_16 : decode cX11_together 16 = .ok (.invokevirtual 365, 3) := by decide +kernel
theorem dX11_together_19 : decode cX11_together 19 = .ok (.goto 4, 3) := by decide +kernel
theorem dX11_together_22 : decode cX11_together 22 = .ok (.iconst (-1), 1) := by decide +kernel
theorem dX11_together_23 : decode cX11_together 23 = .ok (.ireturn, 1) := by decide +kernel
theorem dX11_trade_0 : decode cX11_trade 0 = .ok (.aload_n 0, 1) := by decide +kernel
theorem dX11_trade_1 : decode cX11_trade 1 = .ok (.getfield 29, 3) := by decide +kernel
theorem dX11_trade_4 : decode cX11_trade 4 = .ok (.iload_n 1, 1) := by decide +kernel
theorem dX11_trade_5 : decode cX11_trade 5 = .ok (.invokevirtual 200, 3) := by decide +kernel
theorem dX11_trade_8 : decode cX11_trade 8 = .ok (.ifCond .eq 28, 3) := by decide +kernel
theorem dX11_trade_11 : decode cX11_trade 11 = .ok (.aload_n 0, 1) := by decide +kernel
theorem dX11_trade_12 : decode cX11_trade 12 = .ok (.getfield 29, 3) := by decide +kernel
theorem dX11_trade_15 : decode cX11_trade 15 = .ok (.iload_n 2, 1) := by decide +kernel
theorem dX11_trade_16 : decode cX11_trade 16 = .ok (.invokevirtual 200, 3) := by decide +kernel
theorem dX11_trade_19 : decode cX11_trade 19 = .ok (.ifCond .eq 17, 3) := by decide +kernel
theorem dX11_trade_22 : decode cX11_trade 22 = .ok (.iload_n 1, 1) := by decide +kernel
theorem dX11_trade_23 : decode cX11_trade 23 = .ok (.iload_n 2, 1) := by decide +kernel
theorem dX11_trade_24 : decode cX11_trade 24 = .ok (.if_icmp .eq 12, 3) := by decide +kernel
theorem dX11_trade_27 : decode cX11_trade 27 = .ok (.iload_n 3, 1) := by decide +kernel
theorem dX11_trade_28 : decode cX11_trade 28 = .ok (.ifCond .lt 8, 3) := by decide +kernel
theorem dX11_trade_31 : decode cX11_trade 31 = .ok (.iload_n 3, 1) := by decide +kernel
theorem dX11_trade_32 : decode cX11_trade 32 = .ok (.iconst 1, 1) := by decide +kernel
theorem dX11_trade_33 : decode cX11_trade 33 = .ok (.if_icmp .le 5, 3) := by decide +kernel
theorem dX11_trade_36 : decode cX11_trade 36 = .ok (.iconst (-1), 1) := by decide +kernel
theorem dX11_trade_37 : decode cX11_trade 37 = .ok (.ireturn, 1) := by decide +kernel
theorem dX11_trade_38 : decode cX11_trade 38 = .ok (.aload_n 0, 1) := by decide +kernel
theorem dX11_trade_39 : decode cX11_trade 39 = .ok (.getfield 79, 3) := by decide +kernel
theorem dX11_trade_42 : decode cX11_trade 42 = .ok (.iload_n 1, 1) := by decide +kernel
theorem dX11_trade_43 : decode cX11_trade 43 = .ok (.iload_n 2, 1) := by decide +kernel
theorem dX11_trade_44 : decode cX11_trade 44 = .ok (.invokevirtual 371, 3) := by decide +kernel
theorem dX11_trade_47 : decode cX11_trade 47 = .ok (.istore 4, 2) := by decide +kernel
theorem dX11_trade_49 : decode cX11_trade 49 = .ok (.iload 4, 2) := by decide +kernel
theorem dX11_trade_51 : decode cX11_trade 51 = .ok (.iconst (-1), 1) := by decide +kernel
theorem dX11_trade_52 : decode cX11_trade 52 = .ok (.if_icmp .ne 5, 3) := by decide +kernel
theorem dX11_trade_55 : decode cX11_trade 55 = .ok (.iconst (-1), 1) := by decide +kernel
theorem dX11_trade_56 : decode cX11_trade 56 = .ok (.ireturn, 1) := by decide +kernel
theorem dX11_trade_57 : decode cX11_trade 57 = .ok (.iload_n 3, 1) := by decide +kernel
theorem dX11_trade_58 : decode cX11_trade 58 = .ok (.ifCond .ne 11, 3) := by decide +kernel
theorem dX11_trade_61 : decode cX11_trade 61 = .ok (.iload 4, 2) := by decide +kernel
theorem dX11_trade_63 : decode cX11_trade 63 = .ok (.bipush 8, 2) := by decide +kernel
theorem dX11_trade_65 : decode cX11_trade 65 = .ok (.idiv, 1) := by decide +kernel
theorem dX11_trade_66 : decode cX11_trade 66 = .ok (.goto 8, 3) := by decide +kernel
theorem dX11_trade_69 : decode cX11_trade 69 = .ok (.iload 4, 2) := by decide +kernel
theorem dX11_trade_71 : decode cX11_trade 71 = .ok (.bipush 8, 2) := by decide +kernel
theorem dX11_trade_73 : decode cX11_trade 73 = .ok (.irem, 1) := by decide +kernel
theorem dX11_trade_74 : decode cX11_trade 74 = .ok (.ireturn, 1) := by decide +kernel
theorem dX11_tried_0 : decode cX11_tried 0 = .ok (.aload_n 0, 1) := by decide +kernel
theorem dX11_tried_1 : decode cX11_tried 1 = .ok (.getfield 29, 3) := by decide +kernel
theorem dX11_tried_4 : decode cX11_tried 4 = .ok (.iload_n 1, 1) := by decide +kernel
theorem dX11_tried_5 : decode cX11_tried 5 = .ok (.invokevirtual 165, 3) := by decide +kernel
theorem dX11_tried_8 : decode cX11_tried 8 = .ok (.ifCond .eq 15, 3) := by decide +kernel
theorem dX11_tried_11 : decode cX11_tried 11 = .ok (.aload_n 0, 1) := by decide +kernel
theorem dX11_tried_12 : decode cX11_tried 12 = .ok (.getfield 93, 3) := by decide +kernel
theorem dX11_tried_15 : decode cX11_tried 15 = .ok (.iload_n 1, 1) := by decide +kernel
theorem dX11_tried_16 : decode cX11_tried 16 = .ok (.iload_n 2, 1) := by decide +kernel
theorem dX11_tried_17 : decode cX11_tried 17 = .ok (.invokevirtual 404, 3) := by decide +kernel
theorem dX11_tried_20 : decode cX11_tried 20 = .ok (.goto 4, 3) := by decide +kernel
theorem dX11_tried_23 : decode cX11_tried 23 = .ok (.iconst (-1), 1) := by decide +kernel
theorem dX11_tried_24 : decode cX11_tried 24 = .ok (.ireturn, 1) := by decide +kernel
theorem dX11_twin_0 : decode cX11_twin 0 = .ok (.aload_n 0, 1) := by decide +kernel
theorem dX11_twin_1 : decode cX11_twin 1 = .ok (.getfield 29, 3) := by decide +kernel
theorem dX11_twin_4 : decode cX11_twin 4 = .ok (.iload_n 1, 1) := by decide +kernel
theorem dX11_twin_5 : decode cX11_twin 5 = .ok (.invokevirtual 137, 3) := by decide +kernel
theorem dX11_twin_8 : decode cX11_twin 8 = .ok (.ifCond .ne 5, 3) := by decide +kernel
theorem dX11_twin_11 : decode cX11_twin 11 = .ok (.iconst (-1), 1) := by decide +kernel
theorem dX11_twin_12 : decode cX11_twin 12 = .ok (.ireturn, 1) := by decide +kernel
theorem dX11_twin_13 : decode cX11_twin 13 = .ok (.iconst (-1), 1) := by decide +kernel
theorem dX11_twin_14 : decode cX11_twin 14 = .ok (.istore_n 2, 1) := by decide +kernel
theorem dX11_twin_15 : decode cX11_twin 15 = .ok (.iconst 0, 1) := by decide +kernel
theorem dX11_twin_16 : decode cX11_twin 16 = .ok (.istore_n 3, 1) := by decide +kernel
theorem dX11_twin_17 : decode cX11_twin 17 = .ok (.iconst 0, 1) := by decide +kernel
theorem dX11_twin_18 : decode cX11_twin 18 = .ok (.istore 4, 2) := by decide +kernel
theorem dX11_twin_20 : decode cX11_twin 20 = .ok (.iload 4, 2) := by decide +kernel
theorem dX11_twin_22 : decode cX11_twin 22 = .ok (.aload_n 0, 1) := by decide +kernel
theorem dX11_twin_23 : decode cX11_twin 23 = .ok (.getfield 29, 3) := by decide +kernel
theorem dX11_twin_26 : decode cX11_twin 26 = .ok (.getfield 128, 3) := by decide +kernel
theorem dX11_twin_29 : decode cX11_twin 29 = .ok (.if_icmp .ge 58, 3) := by decide +kernel
theorem dX11_twin_32 : decode cX11_twin 32 = .ok (.aload_n 0, 1) := by decide +kernel
theorem dX11_twin_33 : decode cX11_twin 33 = .ok (.getfield 37, 3) := by decide +kernel
theorem dX11_twin_36 : decode cX11_twin 36 = .ok (.aload_n 0, 1) := by decide +kernel
theorem dX11_twin_37 : decode cX11_twin 37 = .ok (.getfield 41, 3) := by decide +kernel
theorem dX11_twin_40 : decode cX11_twin 40 = .ok (.iload_n 1, 1) := by decide +kernel
theorem dX11_twin_41 : decode cX11_twin 41 = .ok (.invokevirtual 140, 3) := by decide +kernel
theorem dX11_twin_44 : decode cX11_twin 44 = .ok (.aload_n 0, 1) := by decide +kernel
theorem dX11_twin_45 : decode cX11_twin 45 = .ok (.getfield 41, 3) := by decide +kernel
theorem dX11_twin_48 : decode cX11_twin 48 = .ok (.iload 4, 2) := by decide +kernel
theorem dX11_twin_50 : decode cX11_twin 50 = .ok (.invokevirtual 140, 3) := by decide +kernel
theorem dX11_twin_53 : decode cX11_twin 53 = .ok (.invokevirtual 343, 3) := by decide +kernel
theorem dX11_twin_56 : decode cX11_twin 56 = .ok (.istore 5, 2) := by decide +kernel
theorem dX11_twin_58 : decode cX11_twin 58 = .ok (.iload 4, 2) := by decide +kernel
theorem dX11_twin_60 : decode cX11_twin 60 = .ok (.iload_n 1, 1) := by decide +kernel
theorem dX11_twin_61 : decode cX11_twin 61 = .ok (.if_icmp .eq 20, 3) := by decide +kernel
theorem dX11_twin_64 : decode cX11_twin 64 = .ok (.iload_n 2, 1) := by decide +kernel
theorem dX11_twin_65 : decode cX11_twin 65 = .ok (.iconst (-1), 1) := by decide +kernel
theorem dX11_twin_66 : decode cX11_twin 66 = .ok (.if_icmp .eq 9, 3) := by decide +kernel
theorem dX11_twin_69 : decode cX11_twin 69 = .ok (.iload 5, 2) := by decide +kernel
theorem dX11_twin_71 : decode cX11_twin 71 = .ok (.iload_n 3, 1) := by decide +kernel
theorem dX11_twin_72 : decode cX11_twin 72 = .ok (.if_icmp .ge 9, 3) := by decide +kernel
theorem dX11_twin_75 : decode cX11_twin 75 = .ok (.iload 4, 2) := by decide +kernel
theorem dX11_twin_77 : decode cX11_twin 77 = .ok (.istore_n 2, 1) := by decide +kernel
theorem dX11_twin_78 : decode cX11_twin 78 = .ok (.iload 5, 2) := by decide +kernel
theorem dX11_twin_80 : decode cX11_twin 80 = .ok (.istore_n 3, 1) := by decide +kernel
theorem dX11_twin_81 : decode cX11_twin 81 = .ok (.iinc 4 1, 3) := by decide +kernel
theorem dX11_twin_84 : decode cX11_twin 84 = .ok (.goto (-64), 3) := by decide +kernel
theorem dX11_twin_87 : decode cX11_twin 87 = .ok (.iload_n 2, 1) := by decide +kernel
theorem dX11_twin_88 : decode cX11_twin 88 = .ok (.ireturn, 1) := by decide +kernel
theorem dX11_undo_0 : decode cX11_undo 0 = .ok (.aload_n 0, 1) := by decide +kernel
theorem dX11_undo_1 : decode cX11_undo 1 = .ok (.getfield 51, 3) := by decide +kernel
theorem dX11_undo_4 : decode cX11_undo 4 = .ok (.aload_n 0, 1) := by decide +kernel
theorem dX11_undo_5 : decode cX11_undo 5 = .ok (.getfield 41, 3) := by decide +kernel
theorem dX11_undo_8 : decode cX11_undo 8 = .ok (.invokevirtual 294, 3) := by decide +kernel
theorem dX11_undo_11 : decode cX11_undo 11 = .ok (.ireturn, 1) := by decide +kernel
theorem dX11_untell_0 : decode cX11_untell 0 = .ok (.aload_n 0, 1) := by decide +kernel
theorem dX11_untell_1 : decode cX11_untell 1 = .ok (.getfield 93, 3) := by decide +kernel
theorem dX11_untell_4 : decode cX11_untell 4 = .ok (.iload_n 1, 1) := by decide +kernel
theorem dX11_untell_5 : decode cX11_untell 5 = .ok (.invokevirtual 407, 3) := by decide +kernel
theorem dX11_untell_8 : decode cX11_untell 8 = .ok (.ireturn, 1) := by decide +kernel
theorem dX11_useOnce_0 : decode cX11_useOnce 0 = .ok (.aload_n 1, 1) := by decide +kernel
theorem dX11_useOnce_1 : decode cX11_useOnce 1 = .ok (.invokevirtual 236, 3) := by decide +kernel
theorem dX11_useOnce_4 : decode cX11_useOnce 4 = .ok (.sipush 137, 3) := by decide +kernel
theorem dX11_useOnce_7 : decode cX11_useOnce 7 = .ok (.imul, 1) := by decide +kernel
theorem dX11_useOnce_8 : decode cX11_useOnce 8 = .ok (.bipush 71, 2) := by decide +kernel
theorem dX11_useOnce_10 : decode cX11_useOnce 10 = .ok (.iadd, 1) := by decide +kernel
theorem dX11_useOnce_11 : decode cX11_useOnce 11 = .ok (.sipush 1000, 3) := by decide +kernel
theorem dX11_useOnce_14 : decode cX11_useOnce 14 = .ok (.irem, 1) := by decide +kernel
theorem dX11_useOnce_15 : decode cX11_useOnce 15 = .ok (.istore_n 3, 1) := by decide +kernel
theorem dX11_useOnce_16 : decode cX11_useOnce 16 = .ok (.aload_n 1, 1) := by decide +kernel
theorem dX11_useOnce_17 : decode cX11_useOnce 17 = .ok (.iload_n 3, 1) := by decide +kernel
theorem dX11_useOnce_18 : decode cX11_useOnce 18 = .ok (.invokevirtual 240, 3) := by decide +kernel
theorem dX11_useOnce_21 : decode cX11_useOnce 21 = .ok (.aload_n 1, 1) := by decide +kernel
theorem dX11_useOnce_22 : decode cX11_useOnce 22 = .ok (.iload_n 2, 1) := by decide +kernel
theorem dX11_useOnce_23 : decode cX11_useOnce 23 = .ok (.invokevirtual 140, 3) := by decide +kernel
theorem dX11_useOnce_26 : decode cX11_useOnce 26 = .ok (.istore 4, 2) := by decide +kernel
theorem dX11_useOnce_28 : decode cX11_useOnce 28 = .ok (.iload_n 3, 1) := by decide +kernel
theorem dX11_useOnce_29 : decode cX11_useOnce 29 = .ok (.iconst 1, 1) := by decide +kernel
theorem dX11_useOnce_30 : decode cX11_useOnce 30 = .ok (.aload_n 0, 1) := by decide +kernel
theorem dX11_useOnce_31 : decode cX11_useOnce 31 = .ok (.getfield 37, 3) := by decide +kernel
theorem dX11_useOnce_34 : decode cX11_useOnce 34 = .ok (.getfield 243, 3) := by decide +kernel
theorem dX11_useOnce_37 : decode cX11_useOnce 37 = .ok (.invokestatic 246, 3) := by decide +kernel
theorem dX11_useOnce_40 : decode cX11_useOnce 40 = .ok (.irem, 1) := by decide +kernel
theorem dX11_useOnce_41 : decode cX11_useOnce 41 = .ok (.istore 5, 2) := by decide +kernel
theorem dX11_useOnce_43 : decode cX11_useOnce 43 = .ok (.aload_n 0, 1) := by decide +kernel
theorem dX11_useOnce_44 : decode cX11_useOnce 44 = .ok (.getfield 29, 3) := by decide +kernel
theorem dX11_useOnce_47 : decode cX11_useOnce 47 = .ok (.getfield 251, 3) := by decide +kernel
theorem dX11_useOnce_50 : decode cX11_useOnce 50 = .ok (.aload_n 0, 1) := by decide +kernel
theorem dX11_useOnce_51 : decode cX11_useOnce 51 = .ok (.getfield 37, 3) := by decide +kernel
theorem dX11_useOnce_54 : decode cX11_useOnce 54 = .ok (.iload 4, 2) := by decide +kernel
theorem dX11_useOnce_56 : decode cX11_useOnce 56 = .ok (.iload 5, 2) := by decide +kernel
theorem dX11_useOnce_58 : decode cX11_useOnce 58 = .ok (.invokevirtual 161, 3) := by decide +kernel
theorem dX11_useOnce_61 : decode cX11_useOnce 61 = .ok (.aload_n 0, 1) := by decide +kernel
theorem dX11_useOnce_62 : decode cX11_useOnce 62 = .ok (.getfield 37, 3) := by decide +kernel
theorem dX11_useOnce_65 : decode cX11_useOnce 65 = .ok (.iload 4, 2) := by decide +kernel
theorem dX11_useOnce_67 : decode cX11_useOnce 67 = .ok (.iload 5, 2) := by decide +kernel
theorem dX11_useOnce_69 : decode cX11_useOnce 69 = .ok (.invokevirtual 255, 3) := by decide +kernel
theorem dX11_useOnce_72 : decode cX11_useOnce 72 = .ok (.aload_n 1, 1) := by decide +kernel
theorem dX11_useOnce_73 : decode cX11_useOnce 73 = .ok (.iload_n 2, 1) := by decide +kernel
theorem dX11_useOnce_74 : decode cX11_useOnce 74 = .ok (.invokevirtual 149, 3) := by decide +kernel
theorem dX11_useOnce_77 : decode cX11_useOnce 77 = .ok (.iload 5, 2) := by decide +kernel
theorem dX11_useOnce_79 : decode cX11_useOnce 79 = .ok (.invokevirtual 258, 3) := by decide +kernel
theorem dX11_useOnce_82 : decode cX11_useOnce 82 = .ok (.istore 6, 2) := by decide +kernel
theorem dX11_useOnce_84 : decode cX11_useOnce 84 = .ok (.iload_n 3, 1) := by decide +kernel
theorem dX11_useOnce_85 : decode cX11_useOnce 85 = .ok (.bipush 10, 2) := by decide +kernel
theorem dX11_useOnce_87 : decode cX11_useOnce 87 = .ok (.idiv, 1) := by decide +kernel
theorem dX11_useOnce_88 : decode cX11_useOnce 88 = .ok (.iload 6, 2) := by decide +kernel
theorem dX11_useOnce_90 : decode cX11_useOnce 90 = .ok (.if_icmp .ge 28, 3) := by decide +kernel
theorem dX11_useOnce_93 : decode cX11_useOnce 93 = .ok (.aload_n 0, 1) := by decide +kernel
theorem dX11_useOnce_94 : decode cX11_useOnce 94 = .ok (.getfield 37, 3) := by decide +kernel
theorem dX11_useOnce_97 : decode cX11_useOnce 97 = .ok (.iload 4, 2) := by decide +kernel
theorem dX11_useOnce_99 : decode cX11_useOnce 99 = .ok (.iload 5, 2) := by decide +kernel
theorem dX11_useOnce_101 : decode cX11_useOnce 101 = .ok (.invokevirtual 264, 3) := by decide +kernel
theorem dX11_useOnce_104 : decode cX11_useOnce 104 = .ok (.istore 7, 2) := by decide +kernel
theorem dX11_useOnce_106 : decode cX11_useOnce 106 = .ok (.iload 7, 2) := by decide +kernel
theorem dX11_useOnce_108 : decode cX11_useOnce 108 = .ok (.ifCond .eq 10, 3) := by decide +kernel
theorem dX11_useOnce_111 : decode cX11_useOnce 111 = .ok (.aload_n 1, 1) := by decide +kernel
theorem dX11_useOnce_112 : decode cX11_useOnce 112 = .ok (.iload_n 2, 1) := by decide +kernel
theorem dX11_useOnce_113 : decode cX11_useOnce 113 = .ok (.iload 7, 2) := by decide +kernel
theorem dX11_useOnce_115 : decode cX11_useOnce 115 = .ok (.invokevirtual 267, 3) := by decide +kernel
theorem dX11_useOnce_118 : decode cX11_useOnce 118 = .ok (.aload_n 1, 1) := by decide +kernel
theorem dX11_useOnce_119 : decode cX11_useOnce 119 = .ok (.iload_n 2, 1) := by decide +kernel
theorem dX11_useOnce_120 : decode cX11_useOnce 120 = .ok (.aload_n 1, 1) := by decide +kernel
theorem dX11_useOnce_121 : decode cX11_useOnce 121 = .ok (.iload_n 2, 1) := by decide +kernel
theorem dX11_useOnce_122 : decode cX11_useOnce 122 = .ok (.invokevirtual 149, 3) := by decide +kernel
theorem dX11_useOnce_125 : decode cX11_useOnce 125 = .ok (.iconst 1, 1) := by decide +kernel
theorem dX11_useOnce_126 : decode cX11_useOnce 126 = .ok (.iadd, 1) := by decide +kernel
theorem dX11_useOnce_127 : decode cX11_useOnce 127 = .ok (.invokevirtual 270, 3) := by decide +kernel
theorem dX11_useOnce_130 : decode cX11_useOnce 130 = .ok (.return_, 1) := by decide +kernel
theorem dX11_walk_0 : decode cX11_walk 0 = .ok (.aload_n 0, 1) := by decide +kernel
theorem dX11_walk_1 : decode cX11_walk 1 = .ok (.getfield 29, 3) := by decide +kernel
theorem dX11_walk_4 : decode cX11_walk 4 = .ok (.iload_n 1, 1) := by decide +kernel
theorem dX11_walk_5 : decode cX11_walk 5 = .ok (.invokevirtual 200, 3) := by decide +kernel
theorem dX11_walk_8 : decode cX11_walk 8 = .ok (.ifCond .eq 14, 3) := by decide +kernel
theorem dX11_walk_11 : decode cX11_walk 11 = .ok (.aload_n 0, 1) := by decide +kernel
theorem dX11_walk_12 : decode cX11_walk 12 = .ok (.getfield 29, 3) := by decide +kernel
theorem dX11_walk_15 : decode cX11_walk 15 = .ok (.iload_n 2, 1) := by decide +kernel
theorem dX11_walk_16 : decode cX11_walk 16 = .ok (.invokevirtual 188, 3) := by decide +kernel
theorem dX11_walk_19 : decode cX11_walk 19 = .ok (.ifCond .ne 5, 3) := by decide +kernel
theorem dX11_walk_22 : decode cX11_walk 22 = .ok (.iconst (-1), 1) := by decide +kernel
theorem dX11_walk_23 : decode cX11_walk 23 = .ok (.ireturn, 1) := by decide +kernel
theorem dX11_walk_24 : decode cX11_walk 24 = .ok (.aload_n 0, 1) := by decide +kernel
theorem dX11_walk_25 : decode cX11_walk 25 = .ok (.getfield 29, 3) := by decide +kernel
theorem dX11_walk_28 : decode cX11_walk 28 = .ok (.iload_n 2, 1) := by decide +kernel
theorem dX11_walk_29 : decode cX11_walk 29 = .ok (.aload_n 0, 1) := by decide +kernel
theorem dX11_walk_30 : decode cX11_walk 30 = .ok (.getfield 41, 3) := by decide +kernel
theorem dX11_walk_33 : decode cX11_walk 33 = .ok (.iload_n 1, 1) := by decide +kernel
theorem dX11_walk_34 : decode cX11_walk 34 = .ok (.invokevirtual 203, 3) := by decide +kernel
theorem dX11_walk_37 : decode cX11_walk 37 = .ok (.invokevirtual 219, 3) := by decide +kernel
theorem dX11_walk_40 : decode cX11_walk 40 = .ok (.istore_n 3, 1) := by decide +kernel
theorem dX11_walk_41 : decode cX11_walk 41 = .ok (.aload_n 0, 1) := by decide +kernel
theorem dX11_walk_42 : decode cX11_walk 42 = .ok (.getfield 79, 3) := by decide +kernel
theorem dX11_walk_45 : decode cX11_walk 45 = .ok (.aload_n 0, 1) := by decide +kernel
theorem dX11_walk_46 : decode cX11_walk 46 = .ok (.getfield 29, 3) := by decide +kernel
theorem dX11_walk_49 : decode cX11_walk 49 = .ok (.iload_n 2, 1) := by decide +kernel
theorem dX11_walk_50 : decode cX11_walk 50 = .ok (.invokevirtual 197, 3) := by decide +kernel
theorem dX11_walk_53 : decode cX11_walk 53 = .ok (.invokevirtual 176, 3) := by decide +kernel
theorem dX11_walk_56 : decode cX11_walk 56 = .ok (.aload_n 0, 1) := by decide +kernel
theorem dX11_walk_57 : decode cX11_walk 57 = .ok (.getfield 41, 3) := by decide +kernel
theorem dX11_walk_60 : decode cX11_walk 60 = .ok (.iload_n 1, 1) := by decide +kernel
theorem dX11_walk_61 : decode cX11_walk 61 = .ok (.aload_n 0, 1) := by decide +kernel
theorem dX11_walk_62 : decode cX11_walk 62 = .ok (.getfield 29, 3) := by decide +kernel
theorem dX11_walk_65 : decode cX11_walk 65 = .ok (.getfield 128, 3) := by decide +kernel
theorem dX11_walk_68 : decode cX11_walk 68 = .ok (.invokevirtual 206, 3) := by decide +kernel
theorem dX11_walk_71 : decode cX11_walk 71 = .ok (.iand, 1) := by decide +kernel
theorem dX11_walk_72 : decode cX11_walk 72 = .ok (.istore 4, 2) := by decide +kernel
theorem dX11_walk_74 : decode cX11_walk 74 = .ok (.iload_n 3, 1) := by decide +kernel
theorem dX11_walk_75 : decode cX11_walk 75 = .ok (.iconst (-1), 1) := by decide +kernel
theorem dX11_walk_76 : decode cX11_walk 76 = .ok (.if_icmp .eq 8, 3) := by decide +kernel
theorem dX11_walk_79 : decode cX11_walk 79 = .ok (.iload 4, 2) := by decide +kernel
theorem dX11_walk_81 : decode cX11_walk 81 = .ok (.ifCond .ne 5, 3) := by decide +kernel
theorem dX11_walk_84 : decode cX11_walk 84 = .ok (.iconst (-1), 1) := by decide +kernel
theorem dX11_walk_85 : decode cX11_walk 85 = .ok (.ireturn, 1) := by decide +kernel
theorem dX11_walk_86 : decode cX11_walk 86 = .ok (.aload_n 0, 1) := by decide +kernel
theorem dX11_walk_87 : decode cX11_walk 87 = .ok (.getfield 51, 3) := by decide +kernel
theorem dX11_walk_90 : decode cX11_walk 90 = .ok (.aload_n 0, 1) := by decide +kernel
theorem dX11_walk_91 : decode cX11_walk 91 = .ok (.getfield 41, 3) := by decide +kernel
theorem dX11_walk_94 : decode cX11_walk 94 = .ok (.invokevirtual 222, 3) := by decide +kernel
theorem dX11_walk_97 : decode cX11_walk 97 = .ok (.aload_n 0, 1) := by decide +kernel
theorem dX11_walk_98 : decode cX11_walk 98 = .ok (.aload_n 0, 1) := by decide +kernel
theorem dX11_walk_99 : decode cX11_walk 99 = .ok (.getfield 41, 3) := by decide +kernel
theorem dX11_walk_102 : decode cX11_walk 102 = .ok (.iload 4, 2) := by decide +kernel
theorem dX11_walk_104 : decode cX11_walk 104 = .ok (.invokestatic 225, 3) := by decide +kernel
theorem dX11_walk_107 : decode cX11_walk 107 = .ok (.invokevirtual 228, 3) := by decide +kernel
theorem dX11_walk_110 : decode cX11_walk 110 = .ok (.aload_n 0, 1) := by decide +kernel
theorem dX11_walk_111 : decode cX11_walk 111 = .ok (.getfield 41, 3) := by decide +kernel
theorem dX11_walk_114 : decode cX11_walk 114 = .ok (.iload_n 1, 1) := by decide +kernel
theorem dX11_walk_115 : decode cX11_walk 115 = .ok (.iload_n 3, 1) := by decide +kernel
theorem dX11_walk_116 : decode cX11_walk 116 = .ok (.invokevirtual 232, 3) := by decide +kernel
theorem dX11_walk_119 : decode cX11_walk 119 = .ok (.iload_n 3, 1) := by decide +kernel
theorem dX11_walk_120 : decode cX11_walk 120 = .ok (.ireturn, 1) := by decide +kernel
theorem dX1_forget_0 : decode cX1_forget 0 = .ok (.aload_n 0, 1) := by decide +kernel
theorem dX1_forget_1 : decode cX1_forget 1 = .ok (.iconst 0, 1) := by decide +kernel
theorem dX1_forget_2 : decode cX1_forget 2 = .ok (.putfield 16, 3) := by decide +kernel
theorem dX1_forget_5 : decode cX1_forget 5 = .ok (.aload_n 0, 1) := by decide +kernel
theorem dX1_forget_6 : decode cX1_forget 6 = .ok (.iconst 0, 1) := by decide +kernel
theorem dX1_forget_7 : decode cX1_forget 7 = .ok (.putfield 20, 3) := by decide +kernel
theorem dX1_forget_10 : decode cX1_forget 10 = .ok (.aload_n 0, 1) := by decide +kernel
theorem dX1_forget_11 : decode cX1_forget 11 = .ok (.iconst 0, 1) := by decide +kernel
theorem dX1_forget_12 : decode cX1_forget 12 = .ok (.putfield 23, 3) := by decide +kernel
theorem dX1_forget_15 : decode cX1_forget 15 = .ok (.return_, 1) := by decide +kernel
theorem dX1_goBack_0 : decode cX1_goBack 0 = .ok (.aload_n 0, 1) := by decide +kernel
theorem dX1_goBack_1 : decode cX1_goBack 1 = .ok (.getfield 20, 3) := by decide +kernel
theorem dX1_goBack_4 : decode cX1_goBack 4 = .ok (.ifCond .gt 5, 3) := by decide +kernel
theorem dX1_goBack_7 : decode cX1_goBack 7 = .ok (.iconst 0, 1) := by decide +kernel
theorem dX1_goBack_8 : decode cX1_goBack 8 = .ok (.ireturn, 1) := by decide +kernel
theorem dX1_goBack_9 : decode cX1_goBack 9 = .ok (.aload_n 0, 1) := by decide +kernel
theorem dX1_goBack_10 : decode cX1_goBack 10 = .ok (.aload_n 0, 1) := by decide +kernel
theorem dX1_goBack_11 : decode cX1_goBack 11 = .ok (.getfield 20, 3) := by decide +kernel
theorem dX1_goBack_14 : decode cX1_goBack 14 = .ok (.invokevirtual 32, 3) := by decide +kernel
theorem dX1_goBack_17 : decode cX1_goBack 17 = .ok (.aload_n 1, 1) := by decide +kernel
theorem dX1_goBack_18 : decode cX1_goBack 18 = .ok (.invokevirtual 36, 3) := by decide +kernel
theorem dX1_goBack_21 : decode cX1_goBack 21 = .ok (.aload_n 0, 1) := by decide +kernel
theorem dX1_goBack_22 : decode cX1_goBack 22 = .ok (.dup, 1) := by decide +kernel
theorem dX1_goBack_23 : decode cX1_goBack 23 = .ok (.getfield 20, 3) := by decide +kernel
theorem dX1_goBack_26 : decode cX1_goBack 26 = .ok (.iconst 1, 1) := by decide +kernel
theorem dX1_goBack_27 : decode cX1_goBack 27 = .ok (.isub, 1) := by decide +kernel
theorem dX1_goBack_28 : decode cX1_goBack 28 = .ok (.putfield 20, 3) := by decide +kernel
theorem dX1_goBack_31 : decode cX1_goBack 31 = .ok (.aload_n 1, 1) := by decide +kernel
theorem dX1_goBack_32 : decode cX1_goBack 32 = .ok (.aload_n 0, 1) := by decide +kernel
theorem dX1_goBack_33 : decode cX1_goBack 33 = .ok (.aload_n 0, 1) := by decide +kernel
theorem dX1_goBack_34 : decode cX1_goBack 34 = .ok (.getfield 20, 3) := by decide +kernel
theorem dX1_goBack_37 : decode cX1_goBack 37 = .ok (.invokevirtual 32, 3) := by decide +kernel
theorem dX1_goBack_40 : decode cX1_goBack 40 = .ok (.invokevirtual 36, 3) := by decide +kernel
theorem dX1_goBack_43 : decode cX1_goBack 43 = .ok (.iconst 1, 1) := by decide +kernel
theorem dX1_goBack_44 : decode cX1_goBack 44 = .ok (.ireturn, 1) := by decide +kernel
theorem dX1_goOn_0 : decode cX1_goOn 0 = .ok (.aload_n 0, 1) := by decide +kernel
theorem dX1_goOn_1 : decode cX1_goOn 1 = .ok (.getfield 20, 3) := by decide +kernel
theorem dX1_goOn_4 : decode cX1_goOn 4 = .ok (.aload_n 0, 1) := by decide +kernel
theorem dX1_goOn_5 : decode cX1_goOn 5 = .ok (.getfield 23, 3) := by decide +kernel
theorem dX1_goOn_8 : decode cX1_goOn 8 = .ok (.if_icmp .lt 5, 3) := by decide +kernel
theorem dX1_goOn_11 : decode cX1_goOn 11 = .ok (.iconst 0, 1) := by decide +kernel
theorem dX1_goOn_12 : decode cX1_goOn 12 = .ok (.ireturn, 1) := by decide +kernel
theorem dX1_goOn_13 : decode cX1_goOn 13 = .ok (.aload_n 0, 1) := by decide +kernel
theorem dX1_goOn_14 : decode cX1_goOn 14 = .ok (.dup, 1) := by decide +kernel
theorem dX1_goOn_15 : decode cX1_goOn 15 = .ok (.getfield 20, 3) := by decide +kernel
theorem dX1_goOn_18 : decode cX1_goOn 18 = .ok (.iconst 1, 1) := by decide +kernel
theorem dX1_goOn_19 : decode cX1_goOn 19 = .ok (.iadd, 1) := by decide +kernel
theorem dX1_goOn_20 : decode cX1_goOn 20 = .ok (.putfield 20, 3) := by decide +kernel
theorem dX1_goOn_23 : decode cX1_goOn 23 = .ok (.aload_n 1, 1) := by decide +kernel
theorem dX1_goOn_24 : decode cX1_goOn 24 = .ok (.aload_n 0, 1) := by decide +kernel
theorem dX1_goOn_25 : decode cX1_goOn 25 = .ok (.aload_n 0, 1) := by decide +kernel
theorem dX1_goOn_26 : decode cX1_goOn 26 = .ok (.getfield 20, 3) := by decide +kernel
theorem dX1_goOn_29 : decode cX1_goOn 29 = .ok (.invokevirtual 32, 3) := by decide +kernel
theorem dX1_goOn_32 : decode cX1_goOn 32 = .ok (.invokevirtual 36, 3) := by decide +kernel
theorem dX1_goOn_35 : decode cX1_goOn 35 = .ok (.iconst 1, 1) := by decide +kernel
theorem dX1_goOn_36 : decode cX1_goOn 36 = .ok (.ireturn, 1) := by decide +kernel
theorem dX1_init_0 : decode cX1_init 0 = .ok (.aload_n 0, 1) := by decide +kernel
theorem dX1_init_1 : decode cX1_init 1 = .ok (.invokespecial 3, 3) := by decide +kernel
theorem dX1_init_4 : decode cX1_init 4 = .ok (.aload_n 0, 1) := by decide +kernel
theorem dX1_init_5 : decode cX1_init 5 = .ok (.bipush 41, 2) := by decide +kernel
theorem dX1_init_7 : decode cX1_init 7 = .ok (.anewarray 9, 3) := by decide +kernel
theorem dX1_init_10 : decode cX1_init 10 = .ok (.putfield 11, 3) := by decide +kernel
theorem dX1_init_13 : decode cX1_init 13 = .ok (.iconst 0, 1) := by decide +kernel
theorem dX1_init_14 : decode cX1_init 14 = .ok (.istore_n 1, 1) := by decide +kernel
theorem dX1_init_15 : decode cX1_init 15 = .ok (.iload_n 1, 1) := by decide +kernel
theorem dX1_init_16 : decode cX1_init 16 = .ok (.bipush 41, 2) := by decide +kernel
theorem dX1_init_18 : decode cX1_init 18 = .ok (.if_icmp .ge 22, 3) := by decide +kernel
theorem dX1_init_21 : decode cX1_init 21 = .ok (.aload_n 0, 1) := by decide +kernel
theorem dX1_init_22 : decode cX1_init 22 = .ok (.getfield 11, 3) := by decide +kernel
theorem dX1_init_25 : decode cX1_init 25 = .ok (.iload_n 1, 1) := by decide +kernel
theorem dX1_init_26 : decode cX1_init 26 = .ok (.new 9, 3) := by decide +kernel
theorem dX1_init_29 : decode cX1_init 29 = .ok (.dup, 1) := by decide +kernel
theorem dX1_init_30 : decode cX1_init 30 = .ok (.invokespecial 15, 3) := by decide +kernel
theorem dX1_init_33 : decode cX1_init 33 = .ok (.aastore, 1) := by decide +kernel
theorem dX1_init_34 : decode cX1_init 34 = .ok (.iinc 1 1, 3) := by decide +kernel
theorem dX1_init_37 : decode cX1_init 37 = .ok (.goto (-22), 3) := by decide +kernel
theorem dX1_init_40 : decode cX1_init 40 = .ok (.return_, 1) := by decide +kernel
theorem dX1_keep_0 : decode cX1_keep 0 = .ok (.aload_n 0, 1) := by decide +kernel
theorem dX1_keep_1 : decode cX1_keep 1 = .ok (.getfield 20, 3) := by decide +kernel
theorem dX1_keep_4 : decode cX1_keep 4 = .ok (.bipush 40, 2) := by decide +kernel
theorem dX1_keep_6 : decode cX1_keep 6 = .ok (.if_icmp .lt 26, 3) := by decide +kernel
theorem dX1_keep_9 : decode cX1_keep 9 = .ok (.aload_n 0, 1) := by decide +kernel
theorem dX1_keep_10 : decode cX1_keep 10 = .ok (.aload_n 0, 1) := by decide +kernel
theorem dX1_keep_11 : decode cX1_keep 11 = .ok (.getfield 16, 3) := by decide +kernel
theorem dX1_keep_14 : decode cX1_keep 14 = .ok (.iconst 1, 1) := by decide +kernel
theorem dX1_keep_15 : decode cX1_keep 15 = .ok (.iadd, 1) := by decide +kernel
theorem dX1_keep_16 : decode cX1_keep 16 = .ok (.bipush 41, 2) := by decide +kernel
theorem dX1_keep_18 : decode cX1_keep 18 = .ok (.irem, 1) := by decide +kernel
theorem dX1_keep_19 : decode cX1_keep 19 = .ok (.putfield 16, 3) := by decide +kernel
theorem dX1_keep_22 : decode cX1_keep 22 = .ok (.aload_n 0, 1) := by decide +kernel
theorem dX1_keep_23 : decode cX1_keep 23 = .ok (.dup, 1) := by decide +kernel
theorem dX1_keep_24 : decode cX1_keep 24 = .ok (.getfield 20, 3) := by decide +kernel
theorem dX1_keep_27 : decode cX1_keep 27 = .ok (.iconst 1, 1) := by decide +kernel
theorem dX1_keep_28 : decode cX1_keep 28 = .ok (.isub, 1) := by decide +kernel
theorem dX1_keep_29 : decode cX1_keep 29 = .ok (.putfield 20, 3) := by decide +kernel
theorem dX1_keep_32 : decode cX1_keep 32 = .ok (.aload_n 0, 1) := by decide +kernel
theorem dX1_keep_33 : decode cX1_keep 33 = .ok (.aload_n 0, 1) := by decide +kernel
theorem dX1_keep_34 : decode cX1_keep 34 = .ok (.getfield 20, 3) := by decide +kernel
theorem dX1_keep_37 : decode cX1_keep 37 = .ok (.invokevirtual 32, 3) := by decide +kernel
theorem dX1_keep_40 : decode cX1_keep 40 = .ok (.aload_n 1, 1) := by decide +kernel
theorem dX1_keep_41 : decode cX1_keep 41 = .ok (.invokevirtual 36, 3) := by decide +kernel
theorem dX1_keep_44 : decode cX1_keep 44 = .ok (.aload_n 0, 1) := by decide +kernel
theorem dX1_keep_45 : decode cX1_keep 45 = .ok (.dup, 1) := by decide +kernel
theorem dX1_keep_46 : decode cX1_keep 46 = .ok (.getfield 20, 3) := by decide +kernel
theorem dX1_keep_49 : decode cX1_keep 49 = .ok (.iconst 1, 1) := by decide +kernel
theorem dX1_keep_50 : decode cX1_keep 50 = .ok (.iadd, 1) := by decide +kernel
theorem dX1_keep_51 : decode cX1_keep 51 = .ok (.putfield 20, 3) := by decide +kernel
theorem dX1_keep_54 : decode cX1_keep 54 = .ok (.aload_n 0, 1) := by decide +kernel
theorem dX1_keep_55 : decode cX1_keep 55 = .ok (.aload_n 0, 1) := by decide +kernel
theorem dX1_keep_56 : decode cX1_keep 56 = .ok (.getfield 20, 3) := by decide +kernel
theorem dX1_keep_59 : decode cX1_keep 59 = .ok (.putfield 23, 3) := by decide +kernel
theorem dX1_keep_62 : decode cX1_keep 62 = .ok (.return_, 1) := by decide +kernel
theorem dX1_redoable_0 : decode cX1_redoable 0 = .ok (.aload_n 0, 1) := by decide +kernel
theorem dX1_redoable_1 : decode cX1_redoable 1 = .ok (.getfield 23, 3) := by decide +kernel
theorem dX1_redoable_4 : decode cX1_redoable 4 = .ok (.aload_n 0, 1) := by decide +kernel
theorem dX1_redoable_5 : decode cX1_redoable 5 = .ok (.getfield 20, 3) := by decide +kernel
theorem dX1_redoable_8 : decode cX1_redoable 8 = .ok (.isub, 1) := by decide +kernel
theorem dX1_redoable_9 : decode cX1_redoable 9 = .ok (.ireturn, 1) := by decide +kernel
theorem dX1_slot_0 : decode cX1_slot 0 = .ok (.aload_n 0, 1) := by decide +kernel
theorem dX1_slot_1 : decode cX1_slot 1 = .ok (.getfield 11, 3) := by decide +kernel
theorem dX1_slot_4 : decode cX1_slot 4 = .ok (.aload_n 0, 1) := by decide +kernel
theorem dX1_slot_5 : decode cX1_slot 5 = .ok (.getfield 16, 3) := by decide +kernel
theorem dX1_slot_8 : decode cX1_slot 8 = .ok (.iload_n 1, 1) := by decide +kernel
theorem dX1_slot_9 : decode cX1_slot 9 = .ok (.iadd, 1) := by decide +kernel
theorem dX1_slot_10 : decode cX1_slot 10 = .ok (.bipush 41, 2) := by decide +kernel
theorem dX1_slot_12 : decode cX1_slot 12 = .ok (.invokestatic 26, 3) := by decide +kernel
theorem dX1_slot_15 : decode cX1_slot 15 = .ok (.aaload, 1) := by decide +kernel
theorem dX1_slot_16 : decode cX1_slot 16 = .ok (.areturn, 1) := by decide +kernel
theorem dX1_undoable_0 : decode cX1_undoable 0 = .ok (.aload_n 0, 1) := by decide +kernel
theorem dX1_undoable_1 : decode cX1_undoable 1 = .ok (.getfield 20, 3) := by decide +kernel
theorem dX1_undoable_4 : decode cX1_undoable 4 = .ok (.ireturn, 1) := by decide +kernel
theorem dX2_bunchOf_0 : decode cX2_bunchOf 0 = .ok (.iload_n 1, 1) := by decide +kernel
theorem dX2_bunchOf_1 : decode cX2_bunchOf 1 = .ok (.ifCond .lt 17, 3) := by decide +kernel
theorem dX2_bunchOf_4 : decode cX2_bunchOf 4 = .ok (.iload_n 1, 1) := by decide +kernel
theorem dX2_bunchOf_5 : decode cX2_bunchOf 5 = .ok (.iconst 4, 1) := by decide +kernel
theorem dX2_bunchOf_6 : decode cX2_bunchOf 6 = .ok (.if_icmp .ge 12, 3) := by decide +kernel
theorem dX2_bunchOf_9 : decode cX2_bunchOf 9 = .ok (.aload_n 0, 1) := by decide +kernel
theorem dX2_bunchOf_10 : decode cX2_bunchOf 10 = .ok (.getfield 23, 3) := by decide +kernel
theorem dX2_bunchOf_13 : decode cX2_bunchOf 13 = .ok (.iload_n 1, 1) := by decide +kernel
theorem dX2_bunchOf_14 : decode cX2_bunchOf 14 = .ok (.iaload, 1) := by decide +kernel
theorem dX2_bunchOf_15 : decode cX2_bunchOf 15 = .ok (.goto 4, 3) := by decide +kernel
theorem dX2_bunchOf_18 : decode cX2_bunchOf 18 = .ok (.iconst 0, 1) := by decide +kernel
theorem dX2_bunchOf_19 : decode cX2_bunchOf 19 = .ok (.ireturn, 1) := by decide +kernel
theorem dX2_distanceOf_0 : decode cX2_distanceOf 0 = .ok (.iload_n 1, 1) := by decide +kernel
theorem dX2_distanceOf_1 : decode cX2_distanceOf 1 = .ok (.ifCond .lt 18, 3) := by decide +kernel
theorem dX2_distanceOf_4 : decode cX2_distanceOf 4 = .ok (.iload_n 1, 1) := by decide +kernel
theorem dX2_distanceOf_5 : decode cX2_distanceOf 5 = .ok (.bipush 6, 2) := by decide +kernel
theorem dX2_distanceOf_7 : decode cX2_distanceOf 7 = .ok (.if_icmp .ge 12, 3) := by decide +kernel
theorem dX2_distanceOf_10 : decode cX2_distanceOf 10 = .ok (.aload_n 0, 1) := by decide +kernel
theorem dX2_distanceOf_11 : decode cX2_distanceOf 11 = .ok (.getfield 19, 3) := by decide +kernel
theorem dX2_distanceOf_14 : decode cX2_distanceOf 14 = .ok (.iload_n 1, 1) := by decide +kernel
theorem dX2_distanceOf_15 : decode cX2_distanceOf 15 = .ok (.iaload, 1) := by decide +kernel
theorem dX2_distanceOf_16 : decode cX2_distanceOf 16 = .ok (.goto 4, 3) := by decide +kernel
theorem dX2_distanceOf_19 : decode cX2_distanceOf 19 = .ok (.iconst (-1), 1) := by decide +kernel
theorem dX2_distanceOf_20 : decode cX2_distanceOf 20 = .ok (.ireturn, 1) := by decide +kernel
theorem dX2_doorTowards_0 : decode cX2_doorTowards 0 = .ok (.iconst 0, 1) := by decide +kernel
theorem dX2_doorTowards_1 : decode cX2_doorTowards 1 = .ok (.istore 4, 2) := by decide +kernel
theorem dX2_doorTowards_3 : decode cX2_doorTowards 3 = .ok (.iload 4, 2) := by decide +kernel
theorem dX2_doorTowards_5 : decode cX2_doorTowards 5 = .ok (.aload_n 0, 1) := by decide +kernel
theorem dX2_doorTowards_6 : decode cX2_doorTowards 6 = .ok (.getfield 9, 3) := by decide +kernel
theorem dX2_doorTowards_9 : decode cX2_doorTowards 9 = .ok (.getfield 56, 3) := by decide +kernel
theorem dX2_doorTowards_12 : decode cX2_doorTowards 12 = .ok (.if_icmp .ge 56, 3) := by decide +kernel
theorem dX2_doorTowards_15 : decode cX2_doorTowards 15 = .ok (.aload_n 0, 1) := by decide +kernel
theorem dX2_doorTowards_16 : decode cX2_doorTowards 16 = .ok (.getfield 9, 3) := by decide +kernel
theorem dX2_doorTowards_19 : decode cX2_doorTowards 19 = .ok (.iload 4, 2) := by decide +kernel
theorem dX2_doorTowards_21 : decode cX2_doorTowards 21 = .ok (.iload_n 1, 1) := by decide +kernel
theorem dX2_doorTowards_22 : decode cX2_doorTowards 22 = .ok (.invokevirtual 95, 3) := by decide +kernel
theorem dX2_doorTowards_25 : decode cX2_doorTowards 25 = .ok (.istore 5, 2) := by decide +kernel
theorem dX2_doorTowards_27 : decode cX2_doorTowards 27 = .ok (.iload_n 3, 1) := by decide +kernel
theorem dX2_doorTowards_28 : decode cX2_doorTowards 28 = .ok (.aload_n 0, 1) := by decide +kernel
theorem dX2_doorTowards_29 : decode cX2_doorTowards 29 = .ok (.getfield 9, 3) := by decide +kernel
theorem dX2_doorTowards_32 : decode cX2_doorTowards 32 = .ok (.iload 4, 2) := by decide +kernel
theorem dX2_doorTowards_34 : decode cX2_doorTowards 34 = .ok (.invokevirtual 65, 3) := by decide +kernel
theorem dX2_doorTowards_37 : decode cX2_doorTowards 37 = .ok (.ishr, 1) := by decide +kernel
theorem dX2_doorTowards_38 : decode cX2_doorTowards 38 = .ok (.iconst 1, 1) := by decide +kernel
theorem dX2_doorTowards_39 : decode cX2_doorTowards 39 = .ok (.iand, 1) := by decide +kernel
theorem dX2_doorTowards_40 : decode cX2_doorTowards 40 = .ok (.ifCond .eq 22, 3) := by decide +kernel
theorem dX2_doorTowards_43 : decode cX2_doorTowards 43 = .ok (.iload 5, 2) := by decide +kernel
theorem dX2_doorTowards_45 : decode cX2_doorTowards 45 = .ok (.iconst (-1), 1) := by decide +kernel
theorem dX2_doorTowards_46 : decode cX2_doorTowards 46 = .ok (.if_icmp .eq 16, 3) := by decide +kernel
theorem dX2_doorTowards_49 : decode cX2_doorTowards 49 = .ok (.aload_n 0, 1) := by decide +kernel
theorem dX2_doorTowards_50 : decode cX2_doorTowards 50 = .ok (.iload 5, 2) := by decide +kernel
theorem dX2_doorTowards_52 : decode cX2_doorTowards 52 = .ok (.invokevirtual 88, 3) := by decide +kernel
theorem dX2_doorTowards_55 : decode cX2_doorTowards 55 = .ok (.iload_n 2, 1) := by decide +kernel
theorem dX2_doorTowards_56 : decode cX2_doorTowards 56 = .ok (.if_icmp .ne 6, 3) := by decide +kernel
theorem dX2_doorTowards_59 : decode cX2_doorTowards 59 = .ok (.iload 4, 2) := by decide +kernel
theorem dX2_doorTowards_61 : decode cX2_doorTowards 61 = .ok (.ireturn, 1) := by decide +kernel
theorem dX2_doorTowards_62 : decode cX2_doorTowards 62 = .ok (.iinc 4 1, 3) := by decide +kernel
theorem dX2_doorTowards_65 : decode cX2_doorTowards 65 = .ok (.goto (-62), 3) := by decide +kernel
theorem dX2_doorTowards_68 : decode cX2_doorTowards 68 = .ok (.iconst (-1), 1) := by decide +kernel
theorem dX2_doorTowards_69 : decode cX2_doorTowards 69 = .ok (.ireturn, 1) := by decide +kernel
theorem dX2_exchange_0 : decode cX2_exchange 0 = .ok (.aload_n 0, 1) := by decide +kernel
theorem dX2_exchange_1 : decode cX2_exchange 1 = .ok (.getfield 15, 3) := by decide +kernel
theorem dX2_exchange_4 : decode cX2_exchange 4 = .ok (.iload_n 1, 1) := by decide +kernel
theorem dX2_exchange_5 : decode cX2_exchange 5 = .ok (.aload_n 0, 1) := by decide +kernel
theorem dX2_exchange_6 : decode cX2_exchange 6 = .ok (.getfield 9, 3) := by decide +kernel
theorem dX2_exchange_9 : decode cX2_exchange 9 = .ok (.getfield 33, 3) := by decide +kernel
theorem dX2_exchange_12 : decode cX2_exchange 12 = .ok (.invokevirtual 78, 3) := by decide +kernel
theorem dX2_exchange_15 : decode cX2_exchange 15 = .ok (.istore_n 3, 1) := by decide +kernel
theorem dX2_exchange_16 : decode cX2_exchange 16 = .ok (.aload_n 0, 1) := by decide +kernel
theorem dX2_exchange_17 : decode cX2_exchange 17 = .ok (.getfield 15, 3) := by decide +kernel
theorem dX2_exchange_20 : decode cX2_exchange 20 = .ok (.iload_n 2, 1) := by decide +kernel
theorem dX2_exchange_21 : decode cX2_exchange 21 = .ok (.aload_n 0, 1) := by decide +kernel
theorem dX2_exchange_22 : decode cX2_exchange 22 = .ok (.getfield 9, 3) := by decide +kernel
theorem dX2_exchange_25 : decode cX2_exchange 25 = .ok (.getfield 33, 3) := by decide +kernel
theorem dX2_exchange_28 : decode cX2_exchange 28 = .ok (.invokevirtual 78, 3) := by decide +kernel
theorem dX2_exchange_31 : decode cX2_exchange 31 = .ok (.istore 4, 2) := by decide +kernel
theorem dX2_exchange_33 : decode cX2_exchange 33 = .ok (.aload_n 0, 1) := by decide +kernel
theorem dX2_exchange_34 : decode cX2_exchange 34 = .ok (.iload_n 1, 1) := by decide +kernel
theorem dX2_exchange_35 : decode cX2_exchange 35 = .ok (.iload_n 3, 1) := by decide +kernel
theorem dX2_exchange_36 : decode cX2_exchange 36 = .ok (.invokevirtual 81, 3) := by decide +kernel
theorem dX2_exchange_39 : decode cX2_exchange 39 = .ok (.invokestatic 115, 3) := by decide +kernel
theorem dX2_exchange_42 : decode cX2_exchange 42 = .ok (.istore 5, 2) := by decide +kernel
theorem dX2_exchange_44 : decode cX2_exchange 44 = .ok (.aload_n 0, 1) := by decide +kernel
theorem dX2_exchange_45 : decode cX2_exchange 45 = .ok (.iload_n 2, 1) := by decide +kernel
theorem dX2_exchange_46 : decode cX2_exchange 46 = .ok (.iload 4, 2) := by decide +kernel
theorem dX2_exchange_48 : decode cX2_exchange 48 = .ok (.invokevirtual 81, 3) := by decide +kernel
theorem dX2_exchange_51 : decode cX2_exchange 51 = .ok (.invokestatic 115, 3) := by decide +kernel
theorem dX2_exchange_54 : decode cX2_exchange 54 = .ok (.istore 6, 2) := by decide +kernel
theorem dX2_exchange_56 : decode cX2_exchange 56 = .ok (.iconst 0, 1) := by decide +kernel
theorem dX2_exchange_57 : decode cX2_exchange 57 = .ok (.istore 7, 2) := by decide +kernel
theorem dX2_exchange_59 : decode cX2_exchange 59 = .ok (.iload 7, 2) := by decide +kernel
theorem dX2_exchange_61 : decode cX2_exchange 61 = .ok (.aload_n 0, 1) := by decide +kernel
theorem dX2_exchange_62 : decode cX2_exchange 62 = .ok (.getfield 9, 3) := by decide +kernel
theorem dX2_exchange_65 : decode cX2_exchange 65 = .ok (.getfield 33, 3) := by decide +kernel
theorem dX2_exchange_68 : decode cX2_exchange 68 = .ok (.if_icmp .ge 116, 3) := by decide +kernel
theorem dX2_exchange_71 : decode cX2_exchange 71 = .ok (.iconst 0, 1) := by decide +kernel
theorem dX2_exchange_72 : decode cX2_exchange 72 = .ok (.istore 8, 2) := by decide +kernel
theorem dX2_exchange_74 : decode cX2_exchange 74 = .ok (.iload 8, 2) := by decide +kernel
theorem dX2_exchange_76 : decode cX2_exchange 76 = .ok (.aload_n 0, 1) := by decide +kernel
theorem dX2_exchange_77 : decode cX2_exchange 77 = .ok (.getfield 9, 3) := by decide +kernel
theorem dX2_exchange_80 : decode cX2_exchange 80 = .ok (.getfield 33, 3) := by decide +kernel
theorem dX2_exchange_83 : decode cX2_exchange 83 = .ok (.if_icmp .ge 95, 3) := by decide +kernel
theorem dX2_exchange_86 : decode cX2_exchange 86 = .ok (.iconst 1, 1) := by decide +kernel
theorem dX2_exchange_87 : decode cX2_exchange 87 = .ok (.iload 7, 2) := by decide +kernel
theorem dX2_exchange_89 : decode cX2_exchange 89 = .ok (.ishl, 1) := by decide +kernel
theorem dX2_exchange_90 : decode cX2_exchange 90 = .ok (.iconst 1, 1) := by decide +kernel
theorem dX2_exchange_91 : decode cX2_exchange 91 = .ok (.iload 8, 2) := by decide +kernel
theorem dX2_exchange_93 : decode cX2_exchange 93 = .ok (.ishl, 1) := by decide +kernel
theorem dX2_exchange_94 : decode cX2_exchange 94 = .ok (.ior, 1) := by decide +kernel
theorem dX2_exchange_95 : decode cX2_exchange 95 = .ok (.istore 9, 2) := by decide +kernel
theorem dX2_exchange_97 : decode cX2_exchange 97 = .ok (.iload_n 3, 1) := by decide +kernel
theorem dX2_exchange_98 : decode cX2_exchange 98 = .ok (.iload 7, 2) := by decide +kernel
theorem dX2_exchange_100 : decode cX2_exchange 100 = .ok (.ishr, 1) := by decide +kernel
theorem dX2_exchange_101 : decode cX2_exchange 101 = .ok (.iconst 1, 1) := by decide +kernel
theorem dX2_exchange_102 : decode cX2_exchange 102 = .ok (.iand, 1) := by decide +kernel
theorem dX2_exchange_103 : decode cX2_exchange 103 = .ok (.ifCond .eq 17, 3) := by decide +kernel
theorem dX2_exchange_106 : decode cX2_exchange 106 = .ok (.iload 4, 2) := by decide +kernel
theorem dX2_exchange_108 : decode cX2_exchange 108 = .ok (.iload 8, 2) := by decide +kernel
theorem dX2_exchange_110 : decode cX2_exchange 110 = .ok (.ishr, 1) := by decide +kernel
theorem dX2_exchange_111 : decode cX2_exchange 111 = .ok (.iconst 1, 1) := by decide +kernel
theorem dX2_exchange_112 : decode cX2_exchange 112 = .ok (.iand, 1) := by decide +kernel
theorem dX2_exchange_113 : decode cX2_exchange 113 = .ok (.ifCond .eq 7, 3) := by decide +kernel
theorem dX2_exchange_116 : decode cX2_exchange 116 = .ok (.iconst 1, 1) := by decide +kernel
theorem dX2_exchange_117 : decode cX2_exchange 117 = .ok (.goto 4, 3) := by decide +kernel
theorem dX2_exchange_120 : decode cX2_exchange 120 = .ok (.iconst 0, 1) := by decide +kernel
theorem dX2_exchange_121 : decode cX2_exchange 121 = .ok (.istore 10, 2) := by decide +kernel
theorem dX2_exchange_123 : decode cX2_exchange 123 = .ok (.iload 10, 2) := by decide +kernel
theorem dX2_exchange_125 : decode cX2_exchange 125 = .ok (.ifCond .eq 47, 3) := by decide +kernel
theorem dX2_exchange_128 : decode cX2_exchange 128 = .ok (.aload_n 0, 1) := by decide +kernel
theorem dX2_exchange_129 : decode cX2_exchange 129 = .ok (.iload_n 1, 1) := by decide +kernel
theorem dX2_exchange_130 : decode cX2_exchange 130 = .ok (.iload_n 3, 1) := by decide +kernel
theorem dX2_exchange_131 : decode cX2_exchange 131 = .ok (.iload 9, 2) := by decide +kernel
theorem dX2_exchange_133 : decode cX2_exchange 133 = .ok (.ixor, 1) := by decide +kernel
theorem dX2_exchange_134 : decode cX2_exchange 134 = .ok (.invokevirtual 81, 3) := by decide +kernel
theorem dX2_exchange_137 : decode cX2_exchange 137 = .ok (.invokestatic 115, 3) := by decide +kernel
theorem dX2_exchange_140 : decode cX2_exchange 140 = .ok (.iload 5, 2) := by decide +kernel
theorem dX2_exchange_142 : decode cX2_exchange 142 = .ok (.if_icmp .le 30, 3) := by decide +kernel
theorem dX2_exchange_145 : decode cX2_exchange 145 = .ok (.aload_n 0, 1) := by decide +kernel
theorem dX2_exchange_146 : decode cX2_exchange 146 = .ok (.iload_n 2, 1) := by decide +kernel
theorem dX2_exchange_147 : decode cX2_exchange 147 = .ok (.iload 4, 2) := by decide +kernel
theorem dX2_exchange_149 : decode cX2_exchange 149 = .ok (.iload 9, 2) := by decide +kernel
theorem dX2_exchange_151 : decode cX2_exchange 151 = .ok (.ixor, 1) := by decide +kernel
theorem dX2_exchange_152 : decode cX2_exchange 152 = .ok (.invokevirtual 81, 3) := by decide +kernel
theorem dX2_exchange_155 : decode cX2_exchange 155 = .ok (.invokestatic 115, 3) := by decide +kernel
theorem dX2_exchange_158 : decode cX2_exchange 158 = .ok (.iload 6, 2) := by decide +kernel
theorem dX2_exchange_160 : decode cX2_exchange 160 = .ok (.if_icmp .le 12, 3) := by decide +kernel
theorem dX2_exchange_163 : decode cX2_exchange 163 = .ok (.iload 7, 2) := by decide +kernel
theorem dX2_exchange_165 : decode cX2_exchange 165 = .ok (.bipush 8, 2) := by decide +kernel
theorem dX2_exchange_167 : decode cX2_exchange 167 = .ok (.imul, 1) := by decide +kernel
theorem dX2_exchange_168 : decode cX2_exchange 168 = .ok (.iload 8, 2) := by decide +kernel
theorem dX2_exchange_170 : decode cX2_exchange 170 = .ok (.iadd, 1) := by decide +kernel
theorem dX2_exchange_171 : decode cX2_exchange 171 = .ok (.ireturn, 1) := by decide +kernel
theorem dX2_exchange_172 : decode cX2_exchange 172 = .ok (.iinc 8 1, 3) := by decide +kernel
theorem dX2_exchange_175 : decode cX2_exchange 175 = .ok (.goto (-101), 3) := by decide +kernel
theorem dX2_exchange_178 : decode cX2_exchange 178 = .ok (.iinc 7 1, 3) := by decide +kernel
theorem dX2_exchange_181 : decode cX2_exchange 181 = .ok (.goto (-122), 3) := by decide +kernel
theorem dX2_exchange_184 : decode cX2_exchange 184 = .ok (.iconst (-1), 1) := by decide +kernel
theorem dX2_exchange_185 : decode cX2_exchange 185 = .ok (.ireturn, 1) := by decide +kernel
theorem dX2_fewestKeys_0 : decode cX2_fewestKeys 0 = .ok (.aload_n 0, 1) := by decide +kernel
theorem dX2_fewestKeys_1 : decode cX2_fewestKeys 1 = .ok (.getfield 9, 3) := by decide +kernel
theorem dX2_fewestKeys_4 : decode cX2_fewestKeys 4 = .ok (.invokevirtual 111, 3) := by decide +kernel
theorem dX2_fewestKeys_7 : decode cX2_fewestKeys 7 = .ok (.aload_n 0, 1) := by decide +kernel
theorem dX2_fewestKeys_8 : decode cX2_fewestKeys 8 = .ok (.getfield 15, 3) := by decide +kernel
theorem dX2_fewestKeys_11 : decode cX2_fewestKeys 11 = .ok (.bipush (-2), 2) := by decide +kernel
theorem dX2_fewestKeys_13 : decode cX2_fewestKeys 13 = .ok (.aload_n 0, 1) := by decide +kernel
theorem dX2_fewestKeys_14 : decode cX2_fewestKeys 14 = .ok (.getfield 9, 3) := by decide +kernel
theorem dX2_fewestKeys_17 : decode cX2_fewestKeys 17 = .ok (.getfield 33, 3) := by decide +kernel
theorem dX2_fewestKeys_20 : decode cX2_fewestKeys 20 = .ok (.invokevirtual 78, 3) := by decide +kernel
theorem dX2_fewestKeys_23 : decode cX2_fewestKeys 23 = .ok (.iconst (-1), 1) := by decide +kernel
theorem dX2_fewestKeys_24 : decode cX2_fewestKeys 24 = .ok (.ixor, 1) := by decide +kernel
theorem dX2_fewestKeys_25 : decode cX2_fewestKeys 25 = .ok (.iand, 1) := by decide +kernel
theorem dX2_fewestKeys_26 : decode cX2_fewestKeys 26 = .ok (.istore_n 3, 1) := by decide +kernel
theorem dX2_fewestKeys_27 : decode cX2_fewestKeys 27 = .ok (.iconst (-1), 1) := by decide +kernel
theorem dX2_fewestKeys_28 : decode cX2_fewestKeys 28 = .ok (.istore 4, 2) := by decide +kernel
theorem dX2_fewestKeys_30 : decode cX2_fewestKeys 30 = .ok (.iconst 0, 1) := by decide +kernel
theorem dX2_fewestKeys_31 : decode cX2_fewestKeys 31 = .ok (.istore 5, 2) := by decide +kernel
theorem dX2_fewestKeys_33 : decode cX2_fewestKeys 33 = .ok (.iload 5, 2) := by decide +kernel
theorem dX2_fewestKeys_35 : decode cX2_fewestKeys 35 = .ok (.iload_n 3, 1) := by decide +kernel
theorem dX2_fewestKeys_36 : decode cX2_fewestKeys 36 = .ok (.if_icmp .gt 71, 3) := by decide +kernel
theorem dX2_fewestKeys_39 : decode cX2_fewestKeys 39 = .ok (.iload 4, 2) := by decide +kernel
theorem dX2_fewestKeys_41 : decode cX2_fewestKeys 41 = .ok (.iconst (-1), 1) := by decide +kernel
theorem dX2_fewestKeys_42 : decode cX2_fewestKeys 42 = .ok (.if_icmp .eq 16, 3) := by decide +kernel
theorem dX2_fewestKeys_45 : decode cX2_fewestKeys 45 = .ok (.iload 5, 2) := by decide +kernel
theorem dX2_fewestKeys_47 : decode cX2_fewestKeys 47 = .ok (.invokestatic 115, 3) := by decide +kernel
theorem dX2_fewestKeys_50 : decode cX2_fewestKeys 50 = .ok (.iload 4, 2) := by decide +kernel
theorem dX2_fewestKeys_52 : decode cX2_fewestKeys 52 = .ok (.invokestatic 115, 3) := by decide +kernel
theorem dX2_fewestKeys_55 : decode cX2_fewestKeys 55 = .ok (.if_icmp .ge 7, 3) := by decide +kernel
theorem dX2_fewestKeys_58 : decode cX2_fewestKeys 58 = .ok (.iconst 1, 1) := by decide +kernel
theorem dX2_fewestKeys_59 : decode cX2_fewestKeys 59 = .ok (.goto 4, 3) := by decide +kernel
theorem dX2_fewestKeys_62 : decode cX2_fewestKeys 62 = .ok (.iconst 0, 1) := by decide +kernel
theorem dX2_fewestKeys_63 : decode cX2_fewestKeys 63 = .ok (.istore 6, 2) := by decide +kernel
theorem dX2_fewestKeys_65 : decode cX2_fewestKeys 65 = .ok (.iload 6, 2) := by decide +kernel
theorem dX2_fewestKeys_67 : decode cX2_fewestKeys 67 = .ok (.ifCond .eq 34, 3) := by decide +kernel
theorem dX2_fewestKeys_70 : decode cX2_fewestKeys 70 = .ok (.iload 5, 2) := by decide +kernel
theorem dX2_fewestKeys_72 : decode cX2_fewestKeys 72 = .ok (.iload_n 3, 1) := by decide +kernel
theorem dX2_fewestKeys_73 : decode cX2_fewestKeys 73 = .ok (.iconst (-1), 1) := by decide +kernel
theorem dX2_fewestKeys_74 : decode cX2_fewestKeys 74 = .ok (.ixor, 1) := by decide +kernel
theorem dX2_fewestKeys_75 : decode cX2_fewestKeys 75 = .ok (.iand, 1) := by decide +kernel
theorem dX2_fewestKeys_76 : decode cX2_fewestKeys 76 = .ok (.ifCond .ne 25, 3) := by decide +kernel
theorem dX2_fewestKeys_79 : decode cX2_fewestKeys 79 = .ok (.aload_n 0, 1) := by decide +kernel
theorem dX2_fewestKeys_80 : decode cX2_fewestKeys 80 = .ok (.iload_n 1, 1) := by decide +kernel
theorem dX2_fewestKeys_81 : decode cX2_fewestKeys 81 = .ok (.aload_n 0, 1) := by decide +kernel
theorem dX2_fewestKeys_82 : decode cX2_fewestKeys 82 = .ok (.iload 5, 2) := by decide +kernel
theorem dX2_fewestKeys_84 : decode cX2_fewestKeys 84 = .ok (.invokevirtual 71, 3) := by decide +kernel
theorem dX2_fewestKeys_87 : decode cX2_fewestKeys 87 = .ok (.invokevirtual 74, 3) := by decide +kernel
theorem dX2_fewestKeys_90 : decode cX2_fewestKeys 90 = .ok (.iload_n 2, 1) := by decide +kernel
theorem dX2_fewestKeys_91 : decode cX2_fewestKeys 91 = .ok (.ishr, 1) := by decide +kernel
theorem dX2_fewestKeys_92 : decode cX2_fewestKeys 92 = .ok (.iconst 1, 1) := by decide +kernel
theorem dX2_fewestKeys_93 : decode cX2_fewestKeys 93 = .ok (.iand, 1) := by decide +kernel
theorem dX2_fewestKeys_94 : decode cX2_fewestKeys 94 = .ok (.ifCond .eq 7, 3) := by decide +kernel
theorem dX2_fewestKeys_97 : decode cX2_fewestKeys 97 = .ok (.iload 5, 2) := by decide +kernel
theorem dX2_fewestKeys_99 : decode cX2_fewestKeys 99 = .ok (.istore 4, 2) := by decide +kernel
theorem dX2_fewestKeys_101 : decode cX2_fewestKeys 101 = .ok (.iinc 5 1, 3) := by decide +kernel
theorem dX2_fewestKeys_104 : decode cX2_fewestKeys 104 = .ok (.goto (-71), 3) := by decide +kernel
theorem dX2_fewestKeys_107 : decode cX2_fewestKeys 107 = .ok (.iload 4, 2) := by decide +kernel
theorem dX2_fewestKeys_109 : decode cX2_fewestKeys 109 = .ok (.ireturn, 1) := by decide +kernel
theorem dX2_findPath_0 : decode cX2_findPath 0 = .ok (.aload_n 0, 1) := by decide +kernel
theorem dX2_findPath_1 : decode cX2_findPath 1 = .ok (.aload_n 0, 1) := by decide +kernel
theorem dX2_findPath_2 : decode cX2_findPath 2 = .ok (.getfield 15, 3) := by decide +kernel
theorem dX2_findPath_5 : decode cX2_findPath 5 = .ok (.iload_n 1, 1) := by decide +kernel
theorem dX2_findPath_6 : decode cX2_findPath 6 = .ok (.aload_n 0, 1) := by decide +kernel
theorem dX2_findPath_7 : decode cX2_findPath 7 = .ok (.getfield 9, 3) := by decide +kernel
theorem dX2_findPath_10 : decode cX2_findPath 10 = .ok (.getfield 33, 3) := by decide +kernel
theorem dX2_findPath_13 : decode cX2_findPath 13 = .ok (.invokevirtual 78, 3) := by decide +kernel
theorem dX2_findPath_16 : decode cX2_findPath 16 = .ok (.invokevirtual 71, 3) := by decide +kernel
theorem dX2_findPath_19 : decode cX2_findPath 19 = .ok (.istore_n 3, 1) := by decide +kernel
theorem dX2_findPath_20 : decode cX2_findPath 20 = .ok (.aload_n 0, 1) := by decide +kernel
theorem dX2_findPath_21 : decode cX2_findPath 21 = .ok (.getfield 15, 3) := by decide +kernel
theorem dX2_findPath_24 : decode cX2_findPath 24 = .ok (.iload_n 1, 1) := by decide +kernel
theorem dX2_findPath_25 : decode cX2_findPath 25 = .ok (.invokevirtual 68, 3) := by decide +kernel
theorem dX2_findPath_28 : decode cX2_findPath 28 = .ok (.istore 4, 2) := by decide +kernel
theorem dX2_findPath_30 : decode cX2_findPath 30 = .ok (.aload_n 0, 1) := by decide +kernel
theorem dX2_findPath_31 : decode cX2_findPath 31 = .ok (.iload_n 2, 1) := by decide +kernel
theorem dX2_findPath_32 : decode cX2_findPath 32 = .ok (.iload_n 3, 1) := by decide +kernel
theorem dX2_findPath_33 : decode cX2_findPath 33 = .ok (.invokevirtual 84, 3) := by decide +kernel
theorem dX2_findPath_36 : decode cX2_findPath 36 = .ok (.aload_n 0, 1) := by decide +kernel
theorem dX2_findPath_37 : decode cX2_findPath 37 = .ok (.iconst 0, 1) := by decide +kernel
theorem dX2_findPath_38 : decode cX2_findPath 38 = .ok (.putfield 29, 3) := by decide +kernel
theorem dX2_findPath_41 : decode cX2_findPath 41 = .ok (.aload_n 0, 1) := by decide +kernel
theorem dX2_findPath_42 : decode cX2_findPath 42 = .ok (.iload 4, 2) := by decide +kernel
theorem dX2_findPath_44 : decode cX2_findPath 44 = .ok (.invokevirtual 88, 3) := by decide +kernel
theorem dX2_findPath_47 : decode cX2_findPath 47 = .ok (.istore 5, 2) := by decide +kernel
theorem dX2_findPath_49 : decode cX2_findPath 49 = .ok (.iload 5, 2) := by decide +kernel
theorem dX2_findPath_51 : decode cX2_findPath 51 = .ok (.iconst (-1), 1) := by decide +kernel
theorem dX2_findPath_52 : decode cX2_findPath 52 = .ok (.if_icmp .ne 5, 3) := by decide +kernel
theorem dX2_findPath_55 : decode cX2_findPath 55 = .ok (.iconst (-1), 1) := by decide +kernel
theorem dX2_findPath_56 : decode cX2_findPath 56 = .ok (.ireturn, 1) := by decide +kernel
theorem dX2_findPath_57 : decode cX2_findPath 57 = .ok (.iload 5, 2) := by decide +kernel
theorem dX2_findPath_59 : decode cX2_findPath 59 = .ok (.ifCond .le 66, 3) := by decide +kernel
theorem dX2_findPath_62 : decode cX2_findPath 62 = .ok (.aload_n 0, 1) := by decide +kernel
theorem dX2_findPath_63 : decode cX2_findPath 63 = .ok (.getfield 29, 3) := by decide +kernel
theorem dX2_findPath_66 : decode cX2_findPath 66 = .ok (.aload_n 0, 1) := by decide +kernel
theorem dX2_findPath_67 : decode cX2_findPath 67 = .ok (.getfield 26, 3) := by decide +kernel
theorem dX2_findPath_70 : decode cX2_findPath 70 = .ok (.arraylength, 1) := by decide +kernel
theorem dX2_findPath_71 : decode cX2_findPath 71 = .ok (.if_icmp .ge 54, 3) := by decide +kernel
theorem dX2_findPath_74 : decode cX2_findPath 74 = .ok (.iinc 5 (-1), 3) := by decide +kernel
theorem dX2_findPath_77 : decode cX2_findPath 77 = .ok (.aload_n 0, 1) := by decide +kernel
theorem dX2_findPath_78 : decode cX2_findPath 78 = .ok (.iload 4, 2) := by decide +kernel
theorem dX2_findPath_80 : decode cX2_findPath 80 = .ok (.iload 5, 2) := by decide +kernel
theorem dX2_findPath_82 : decode cX2_findPath 82 = .ok (.iload_n 3, 1) := by decide +kernel
theorem dX2_findPath_83 : decode cX2_findPath 83 = .ok (.invokevirtual 91, 3) := by decide +kernel
theorem dX2_findPath_86 : decode cX2_findPath 86 = .ok (.istore 6, 2) := by decide +kernel
theorem dX2_findPath_88 : decode cX2_findPath 88 = .ok (.aload_n 0, 1) := by decide +kernel
theorem dX2_findPath_89 : decode cX2_findPath 89 = .ok (.getfield 26, 3) := by decide +kernel
theorem dX2_findPath_92 : decode cX2_findPath 92 = .ok (.aload_n 0, 1) := by decide +kernel
theorem dX2_findPath_93 : decode cX2_findPath 93 = .ok (.getfield 29, 3) := by decide +kernel
theorem dX2_findPath_96 : decode cX2_findPath 96 = .ok (.iload 6, 2) := by decide +kernel
theorem dX2_findPath_98 : decode cX2_findPath 98 = .ok (.iastore, 1) := by decide +kernel
theorem dX2_findPath_99 : decode cX2_findPath 99 = .ok (.aload_n 0, 1) := by decide +kernel
theorem dX2_findPath_100 : decode cX2_findPath 100 = .ok (.dup, 1) := by decide +kernel
theorem dX2_findPath_101 : decode cX2_findPath 101 = .ok (.getfield 29, 3) := by decide +kernel
theorem dX2_findPath_104 : decode cX2_findPath 104 = .ok (.iconst 1, 1) := by decide +kernel
theorem dX2_findPath_105 : decode cX2_findPath 105 = .ok (.iadd, 1) := by decide +kernel
theorem dX2_findPath_106 : decode cX2_findPath 106 = .ok (.putfield 29, 3) := by decide +kernel
theorem dX2_findPath_109 : decode cX2_findPath 109 = .ok (.aload_n 0, 1) := by decide +kernel
theorem dX2_findPath_110 : decode cX2_findPath 110 = .ok (.getfield 9, 3) := by decide +kernel
theorem dX2_findPath_113 : decode cX2_findPath 113 = .ok (.iload 6, 2) := by decide +kernel
theorem dX2_findPath_115 : decode cX2_findPath 115 = .ok (.iload 4, 2) := by decide +kernel
theorem dX2_findPath_117 : decode cX2_findPath 117 = .ok (.invokevirtual 95, 3) := by decide +kernel
theorem dX2_findPath_120 : decode cX2_findPath 120 = .ok (.istore 4, 2) := by decide +kernel
theorem dX2_findPath_122 : decode cX2_findPath 122 = .ok (.goto (-65), 3) := by decide +kernel
theorem dX2_findPath_125 : decode cX2_findPath 125 = .ok (.aload_n 0, 1) := by decide +kernel
theorem dX2_findPath_126 : decode cX2_findPath 126 = .ok (.getfield 29, 3) := by decide +kernel
theorem dX2_findPath_129 : decode cX2_findPath 129 = .ok (.ireturn, 1) := by decide +kernel
theorem dX2_flood_0 : decode cX2_flood 0 = .ok (.iconst 1, 1) := by decide +kernel
theorem dX2_flood_1 : decode cX2_flood 1 = .ok (.iload_n 1, 1) := by decide +kernel
theorem dX2_flood_2 : decode cX2_flood 2 = .ok (.ishl, 1) := by decide +kernel
theorem dX2_flood_3 : decode cX2_flood 3 = .ok (.istore_n 3, 1) := by decide +kernel
theorem dX2_flood_4 : decode cX2_flood 4 = .ok (.iconst 0, 1) := by decide +kernel
theorem dX2_flood_5 : decode cX2_flood 5 = .ok (.istore 4, 2) := by decide +kernel
theorem dX2_flood_7 : decode cX2_flood 7 = .ok (.iload 4, 2) := by decide +kernel
theorem dX2_flood_9 : decode cX2_flood 9 = .ok (.bipush 6, 2) := by decide +kernel
theorem dX2_flood_11 : decode cX2_flood 11 = .ok (.if_icmp .ge 83, 3) := by decide +kernel
theorem dX2_flood_14 : decode cX2_flood 14 = .ok (.iconst 0, 1) := by decide +kernel
theorem dX2_flood_15 : decode cX2_flood 15 = .ok (.istore 5, 2) := by decide +kernel
theorem dX2_flood_17 : decode cX2_flood 17 = .ok (.iload 5, 2) := by decide +kernel
theorem dX2_flood_19 : decode cX2_flood 19 = .ok (.aload_n 0, 1) := by decide +kernel
theorem dX2_flood_20 : decode cX2_flood 20 = .ok (.getfield 9, 3) := by decide +kernel
theorem dX2_flood_23 : decode cX2_flood 23 = .ok (.getfield 56, 3) := by decide +kernel
theorem dX2_flood_26 : decode cX2_flood 26 = .ok (.if_icmp .ge 62, 3) := by decide +kernel
theorem dX2_flood_29 : decode cX2_flood 29 = .ok (.iconst 1, 1) := by decide +kernel
theorem dX2_flood_30 : decode cX2_flood 30 = .ok (.aload_n 0, 1) := by decide +kernel
theorem dX2_flood_31 : decode cX2_flood 31 = .ok (.getfield 9, 3) := by decide +kernel
theorem dX2_flood_34 : decode cX2_flood 34 = .ok (.iload 5, 2) := by decide +kernel
theorem dX2_flood_36 : decode cX2_flood 36 = .ok (.invokevirtual 59, 3) := by decide +kernel
theorem dX2_flood_39 : decode cX2_flood 39 = .ok (.ishl, 1) := by decide +kernel
theorem dX2_flood_40 : decode cX2_flood 40 = .ok (.iconst 1, 1) := by decide +kernel
theorem dX2_flood_41 : decode cX2_flood 41 = .ok (.aload_n 0, 1) := by decide +kernel
theorem dX2_flood_42 : decode cX2_flood 42 = .ok (.getfield 9, 3) := by decide +kernel
theorem dX2_flood_45 : decode cX2_flood 45 = .ok (.iload 5, 2) := by decide +kernel
theorem dX2_flood_47 : decode cX2_flood 47 = .ok (.invokevirtual 62, 3) := by decide +kernel
theorem dX2_flood_50 : decode cX2_flood 50 = .ok (.ishl, 1) := by decide +kernel
theorem dX2_flood_51 : decode cX2_flood 51 = .ok (.ior, 1) := by decide +kernel
theorem dX2_flood_52 : decode cX2_flood 52 = .ok (.istore 6, 2) := by decide +kernel
theorem dX2_flood_54 : decode cX2_flood 54 = .ok (.iload_n 2, 1) := by decide +kernel
theorem dX2_flood_55 : decode cX2_flood 55 = .ok (.aload_n 0, 1) := by decide +kernel
theorem dX2_flood_56 : decode cX2_flood 56 = .ok (.getfield 9, 3) := by decide +kernel
theorem dX2_flood_59 : decode cX2_flood 59 = .ok (.iload 5, 2) := by decide +kernel
theorem dX2_flood_61 : decode cX2_flood 61 = .ok (.invokevirtual 65, 3) := by decide +kernel
theorem dX2_flood_64 : decode cX2_flood 64 = .ok (.ishr, 1) := by decide +kernel
theorem dX2_flood_65 : decode cX2_flood 65 = .ok (.iconst 1, 1) := by decide +kernel
theorem dX2_flood_66 : decode cX2_flood 66 = .ok (.iand, 1) := by decide +kernel
theorem dX2_flood_67 : decode cX2_flood 67 = .ok (.ifCond .eq 15, 3) := by decide +kernel
theorem dX2_flood_70 : decode cX2_flood 70 = .ok (.iload_n 3, 1) := by decide +kernel
theorem dX2_flood_71 : decode cX2_flood 71 = .ok (.iload 6, 2) := by decide +kernel
theorem dX2_flood_73 : decode cX2_flood 73 = .ok (.iand, 1) := by decide +kernel
theorem dX2_flood_74 : decode cX2_flood 74 = .ok (.ifCond .eq 8, 3) := by decide +kernel
theorem dX2_flood_77 : decode cX2_flood 77 = .ok (.iload_n 3, 1) := by decide +kernel
theorem dX2_flood_78 : decode cX2_flood 78 = .ok (.iload 6, 2) := by decide +kernel
theorem dX2_flood_80 : decode cX2_flood 80 = .ok (.ior, 1) := by decide +kernel
theorem dX2_flood_81 : decode cX2_flood 81 = .ok (.istore_n 3, 1) := by decide +kernel
theorem dX2_flood_82 : decode cX2_flood 82 = .ok (.iinc 5 1, 3) := by decide +kernel
theorem dX2_flood_85 : decode cX2_flood 85 = .ok (.goto (-68), 3) := by decide +kernel
theorem dX2_flood_88 : decode cX2_flood 88 = .ok (.iinc 4 1, 3) := by decide +kernel
theorem dX2_flood_91 : decode cX2_flood 91 = .ok (.goto (-84), 3) := by decide +kernel
theorem dX2_flood_94 : decode cX2_flood 94 = .ok (.iload_n 3, 1) := by decide +kernel
theorem dX2_flood_95 : decode cX2_flood 95 = .ok (.ireturn, 1) := by decide +kernel
theorem dX2_forgetPath_0 : decode cX2_forgetPath 0 = .ok (.aload_n 0, 1) := by decide +kernel
theorem dX2_forgetPath_1 : decode cX2_forgetPath 1 = .ok (.iconst 0, 1) := by decide +kernel
theorem dX2_forgetPath_2 : decode cX2_forgetPath 2 = .ok (.putfield 29, 3) := by decide +kernel
theorem dX2_forgetPath_5 : decode cX2_forgetPath 5 = .ok (.return_, 1) := by decide +kernel
theorem dX2_handOn_0 : decode cX2_handOn 0 = .ok (.aload_n 0, 1) := by decide +kernel
theorem dX2_handOn_1 : decode cX2_handOn 1 = .ok (.iload_n 1, 1) := by decide +kernel
theorem dX2_handOn_2 : decode cX2_handOn 2 = .ok (.invokevirtual 126, 3) := by decide +kernel
theorem dX2_handOn_5 : decode cX2_handOn 5 = .ok (.aload_n 0, 1) := by decide +kernel
theorem dX2_handOn_6 : decode cX2_handOn 6 = .ok (.iload_n 2, 1) := by decide +kernel
theorem dX2_handOn_7 : decode cX2_handOn 7 = .ok (.invokevirtual 126, 3) := by decide +kernel
theorem dX2_handOn_10 : decode cX2_handOn 10 = .ok (.ior, 1) := by decide +kernel
theorem dX2_handOn_11 : decode cX2_handOn 11 = .ok (.istore_n 3, 1) := by decide +kernel
theorem dX2_handOn_12 : decode cX2_handOn 12 = .ok (.aload_n 0, 1) := by decide +kernel
theorem dX2_handOn_13 : decode cX2_handOn 13 = .ok (.iload_n 1, 1) := by decide +kernel
theorem dX2_handOn_14 : decode cX2_handOn 14 = .ok (.invokevirtual 126, 3) := by decide +kernel
theorem dX2_handOn_17 : decode cX2_handOn 17 = .ok (.aload_n 0, 1) := by decide +kernel
theorem dX2_handOn_18 : decode cX2_handOn 18 = .ok (.iload_n 2, 1) := by decide +kernel
theorem dX2_handOn_19 : decode cX2_handOn 19 = .ok (.invokevirtual 126, 3) := by decide +kernel
theorem dX2_handOn_22 : decode cX2_handOn 22 = .ok (.if_icmp .ne 7, 3) := by decide +kernel
theorem dX2_handOn_25 : decode cX2_handOn 25 = .ok (.iconst 1, 1) := by decide +kernel
theorem dX2_handOn_26 : decode cX2_handOn 26 = .ok (.goto 4, 3) := by decide +kernel
theorem dX2_handOn_29 : decode cX2_handOn 29 = .ok (.iconst 0, 1) := by decide +kernel
theorem dX2_handOn_30 : decode cX2_handOn 30 = .ok (.istore 4, 2) := by decide +kernel
theorem dX2_handOn_32 : decode cX2_handOn 32 = .ok (.iload 4, 2) := by decide +kernel
theorem dX2_handOn_34 : decode cX2_handOn 34 = .ok (.ifCond .ne 21, 3) := by decide +kernel
theorem dX2_handOn_37 : decode cX2_handOn 37 = .ok (.iload_n 1, 1) := by decide +kernel
theorem dX2_handOn_38 : decode cX2_handOn 38 = .ok (.ifCond .lt 17, 3) := by decide +kernel
theorem dX2_handOn_41 : decode cX2_handOn 41 = .ok (.iload_n 2, 1) := by decide +kernel
theorem dX2_handOn_42 : decode cX2_handOn 42 = .ok (.ifCond .lt 13, 3) := by decide +kernel
theorem dX2_handOn_45 : decode cX2_handOn 45 = .ok (.iload_n 1, 1) := by decide +kernel
theorem dX2_handOn_46 : decode cX2_handOn 46 = .ok (.iconst 4, 1) := by decide +kernel
theorem dX2_handOn_47 : decode cX2_handOn 47 = .ok (.if_icmp .ge 8, 3) := by decide +kernel
theorem dX2_handOn_50 : decode cX2_handOn 50 = .ok (.iload_n 2, 1) := by decide +kernel
theorem dX2_handOn_51 : decode cX2_handOn 51 = .ok (.iconst 4, 1) := by decide +kernel
theorem dX2_handOn_52 : decode cX2_handOn 52 = .ok (.if_icmp .lt 5, 3) := by decide +kernel
theorem dX2_handOn_55 : decode cX2_handOn 55 = .ok (.iconst 0, 1) := by decide +kernel
theorem dX2_handOn_56 : decode cX2_handOn 56 = .ok (.ireturn, 1) := by decide +kernel
theorem dX2_handOn_57 : decode cX2_handOn 57 = .ok (.aload_n 0, 1) := by decide +kernel
theorem dX2_handOn_58 : decode cX2_handOn 58 = .ok (.iload_n 1, 1) := by decide +kernel
theorem dX2_handOn_59 : decode cX2_handOn 59 = .ok (.aload_n 0, 1) := by decide +kernel
theorem dX2_handOn_60 : decode cX2_handOn 60 = .ok (.iload_n 1, 1) := by decide +kernel
theorem dX2_handOn_61 : decode cX2_handOn 61 = .ok (.invokevirtual 126, 3) := by decide +kernel
theorem dX2_handOn_64 : decode cX2_handOn 64 = .ok (.invokevirtual 81, 3) := by decide +kernel
theorem dX2_handOn_67 : decode cX2_handOn 67 = .ok (.aload_n 0, 1) := by decide +kernel
theorem dX2_handOn_68 : decode cX2_handOn 68 = .ok (.iload_n 2, 1) := by decide +kernel
theorem dX2_handOn_69 : decode cX2_handOn 69 = .ok (.aload_n 0, 1) := by decide +kernel
theorem dX2_handOn_70 : decode cX2_handOn 70 = .ok (.iload_n 2, 1) := by decide +kernel
theorem dX2_handOn_71 : decode cX2_handOn 71 = .ok (.invokevirtual 126, 3) := by decide +kernel
theorem dX2_handOn_74 : decode cX2_handOn 74 = .ok (.invokevirtual 81, 3) := by decide +kernel
theorem dX2_handOn_77 : decode cX2_handOn 77 = .ok (.iand, 1) := by decide +kernel
theorem dX2_handOn_78 : decode cX2_handOn 78 = .ok (.ifCond .ne 5, 3) := by decide +kernel
theorem dX2_handOn_81 : decode cX2_handOn 81 = .ok (.iconst 0, 1) := by decide +kernel
theorem dX2_handOn_82 : decode cX2_handOn 82 = .ok (.ireturn, 1) := by decide +kernel
theorem dX2_handOn_83 : decode cX2_handOn 83 = .ok (.aload_n 0, 1) := by decide +kernel
theorem dX2_handOn_84 : decode cX2_handOn 84 = .ok (.getfield 23, 3) := by decide +kernel
theorem dX2_handOn_87 : decode cX2_handOn 87 = .ok (.iload_n 1, 1) := by decide +kernel
theorem dX2_handOn_88 : decode cX2_handOn 88 = .ok (.iload_n 3, 1) := by decide +kernel
theorem dX2_handOn_89 : decode cX2_handOn 89 = .ok (.iastore, 1) := by decide +kernel
theorem dX2_handOn_90 : decode cX2_handOn 90 = .ok (.aload_n 0, 1) := by decide +kernel
theorem dX2_handOn_91 : decode cX2_handOn 91 = .ok (.getfield 23, 3) := by decide +kernel
theorem dX2_handOn_94 : decode cX2_handOn 94 = .ok (.iload_n 2, 1) := by decide +kernel
theorem dX2_handOn_95 : decode cX2_handOn 95 = .ok (.iload_n 3, 1) := by decide +kernel
theorem dX2_handOn_96 : decode cX2_handOn 96 = .ok (.iastore, 1) := by decide +kernel
theorem dX2_handOn_97 : decode cX2_handOn 97 = .ok (.iconst 1, 1) := by decide +kernel
theorem dX2_handOn_98 : decode cX2_handOn 98 = .ok (.ireturn, 1) := by decide +kernel
theorem dX2_init_0 : decode cX2_init 0 = .ok (.aload_n 0, 1) := by decide +kernel
theorem dX2_init_1 : decode cX2_init 1 = .ok (.invokespecial 3, 3) := by decide +kernel
theorem dX2_init_4 : decode cX2_init 4 = .ok (.aload_n 0, 1) := by decide +kernel
theorem dX2_init_5 : decode cX2_init 5 = .ok (.aload_n 1, 1) := by decide +kernel
theorem dX2_init_6 : decode cX2_init 6 = .ok (.putfield 9, 3) := by decide +kernel
theorem dX2_init_9 : decode cX2_init 9 = .ok (.aload_n 0, 1) := by decide +kernel
theorem dX2_init_10 : decode cX2_init 10 = .ok (.aload_n 2, 1) := by decide +kernel
theorem dX2_init_11 : decode cX2_init 11 = .ok (.putfield 15, 3) := by decide +kernel
theorem dX2_init_14 : decode cX2_init 14 = .ok (.aload_n 0, 1) := by decide +kernel
theorem dX2_init_15 : decode cX2_init 15 = .ok (.bipush 6, 2) := by decide +kernel
theorem dX2_init_17 : decode cX2_init 17 = .ok (.newarray .int, 2) := by decide +kernel
theorem dX2_init_19 : decode cX2_init 19 = .ok (.putfield 19, 3) := by decide +kernel
theorem dX2_init_22 : decode cX2_init 22 = .ok (.aload_n 0, 1) := by decide +kernel
theorem dX2_init_23 : decode cX2_init 23 = .ok (.iconst 4, 1) := by decide +kernel
theorem dX2_init_24 : decode cX2_init 24 = .ok (.newarray .int, 2) := by decide +kernel
theorem dX2_init_26 : decode cX2_init 26 = .ok (.putfield 23, 3) := by decide +kernel
theorem dX2_init_29 : decode cX2_init 29 = .ok (.aload_n 0, 1) := by decide +kernel
theorem dX2_init_30 : decode cX2_init 30 = .ok (.bipush 6, 2) := by decide +kernel
theorem dX2_init_32 : decode cX2_init 32 = .ok (.newarray .int, 2) := by decide +kernel
theorem dX2_init_34 : decode cX2_init 34 = .ok (.putfield 26, 3) := by decide +kernel
theorem dX2_init_37 : decode cX2_init 37 = .ok (.aload_n 0, 1) := by decide +kernel
theorem dX2_init_38 : decode cX2_init 38 = .ok (.iconst 0, 1) := by decide +kernel
theorem dX2_init_39 : decode cX2_init 39 = .ok (.putfield 29, 3) := by decide +kernel
theorem dX2_init_42 : decode cX2_init 42 = .ok (.return_, 1) := by decide +kernel
theorem dX2_keysFor_0 : decode cX2_keysFor 0 = .ok (.iconst 0, 1) := by decide +kernel
theorem dX2_keysFor_1 : decode cX2_keysFor 1 = .ok (.istore_n 2, 1) := by decide +kernel
theorem dX2_keysFor_2 : decode cX2_keysFor 2 = .ok (.iconst 0, 1) := by decide +kernel
theorem dX2_keysFor_3 : decode cX2_keysFor 3 = .ok (.istore_n 3, 1) := by decide +kernel
theorem dX2_keysFor_4 : decode cX2_keysFor 4 = .ok (.iload_n 3, 1) := by decide +kernel
theorem dX2_keysFor_5 : decode cX2_keysFor 5 = .ok (.aload_n 0, 1) := by decide +kernel
theorem dX2_keysFor_6 : decode cX2_keysFor 6 = .ok (.getfield 9, 3) := by decide +kernel
theorem dX2_keysFor_9 : decode cX2_keysFor 9 = .ok (.getfield 33, 3) := by decide +kernel
theorem dX2_keysFor_12 : decode cX2_keysFor 12 = .ok (.if_icmp .ge 37, 3) := by decide +kernel
theorem dX2_keysFor_15 : decode cX2_keysFor 15 = .ok (.aload_n 0, 1) := by decide +kernel
theorem dX2_keysFor_16 : decode cX2_keysFor 16 = .ok (.getfield 15, 3) := by decide +kernel
theorem dX2_keysFor_19 : decode cX2_keysFor 19 = .ok (.iload_n 3, 1) := by decide +kernel
theorem dX2_keysFor_20 : decode cX2_keysFor 20 = .ok (.invokevirtual 41, 3) := by decide +kernel
theorem dX2_keysFor_23 : decode cX2_keysFor 23 = .ok (.aload_n 0, 1) := by decide +kernel
theorem dX2_keysFor_24 : decode cX2_keysFor 24 = .ok (.getfield 15, 3) := by decide +kernel
theorem dX2_keysFor_27 : decode cX2_keysFor 27 = .ok (.iload_n 1, 1) := by decide +kernel
theorem dX2_keysFor_28 : decode cX2_keysFor 28 = .ok (.invokevirtual 47, 3) := by decide +kernel
theorem dX2_keysFor_31 : decode cX2_keysFor 31 = .ok (.invokestatic 50, 3) := by decide +kernel
theorem dX2_keysFor_34 : decode cX2_keysFor 34 = .ok (.ifCond .eq 9, 3) := by decide +kernel
theorem dX2_keysFor_37 : decode cX2_keysFor 37 = .ok (.iload_n 2, 1) := by decide +kernel
theorem dX2_keysFor_38 : decode cX2_keysFor 38 = .ok (.iconst 1, 1) := by decide +kernel
theorem dX2_keysFor_39 : decode cX2_keysFor 39 = .ok (.iload_n 3, 1) := by decide +kernel
theorem dX2_keysFor_40 : decode cX2_keysFor 40 = .ok (.ishl, 1) := by decide +kernel
theorem dX2_keysFor_41 : decode cX2_keysFor 41 = .ok (.ior, 1) := by decide +kernel
theorem dX2_keysFor_42 : decode cX2_keysFor 42 = .ok (.istore_n 2, 1) := by decide +kernel
theorem dX2_keysFor_43 : decode cX2_keysFor 43 = .ok (.iinc 3 1, 3) := by decide +kernel
theorem dX2_keysFor_46 : decode cX2_keysFor 46 = .ok (.goto (-42), 3) := by decide +kernel
theorem dX2_keysFor_49 : decode cX2_keysFor 49 = .ok (.iload_n 2, 1) := by decide +kernel
theorem dX2_keysFor_50 : decode cX2_keysFor 50 = .ok (.ireturn, 1) := by decide +kernel
theorem dX2_locksFor_0 : decode cX2_locksFor 0 = .ok (.iconst 0, 1) := by decide +kernel
theorem dX2_locksFor_1 : decode cX2_locksFor 1 = .ok (.istore_n 2, 1) := by decide +kernel
theorem dX2_locksFor_2 : decode cX2_locksFor 2 = .ok (.iconst 0, 1) := by decide +kernel
theorem dX2_locksFor_3 : decode cX2_locksFor 3 = .ok (.istore_n 3, 1) := by decide +kernel
theorem dX2_locksFor_4 : decode cX2_locksFor 4 = .ok (.iload_n 3, 1) := by decide +kernel
theorem dX2_locksFor_5 : decode cX2_locksFor 5 = .ok (.aload_n 0, 1) := by decide +kernel
theorem dX2_locksFor_6 : decode cX2_locksFor 6 = .ok (.getfield 9, 3) := by decide +kernel
theorem dX2_locksFor_9 : decode cX2_locksFor 9 = .ok (.getfield 33, 3) := by decide +kernel
theorem dX2_locksFor_12 : decode cX2_locksFor 12 = .ok (.if_icmp .ge 68, 3) := by decide +kernel
theorem dX2_locksFor_15 : decode cX2_locksFor 15 = .ok (.iconst 0, 1) := by decide +kernel
theorem dX2_locksFor_16 : decode cX2_locksFor 16 = .ok (.istore 4, 2) := by decide +kernel
theorem dX2_locksFor_18 : decode cX2_locksFor 18 = .ok (.iload 4, 2) := by decide +kernel
theorem dX2_locksFor_20 : decode cX2_locksFor 20 = .ok (.aload_n 0, 1) := by decide +kernel
theorem dX2_locksFor_21 : decode cX2_locksFor 21 = .ok (.getfield 9, 3) := by decide +kernel
theorem dX2_locksFor_24 : decode cX2_locksFor 24 = .ok (.getfield 38, 3) := by decide +kernel
theorem dX2_locksFor_27 : decode cX2_locksFor 27 = .ok (.if_icmp .ge 47, 3) := by decide +kernel
theorem dX2_locksFor_30 : decode cX2_locksFor 30 = .ok (.iload_n 1, 1) := by decide +kernel
theorem dX2_locksFor_31 : decode cX2_locksFor 31 = .ok (.iload_n 3, 1) := by decide +kernel
theorem dX2_locksFor_32 : decode cX2_locksFor 32 = .ok (.ishr, 1) := by decide +kernel
theorem dX2_locksFor_33 : decode cX2_locksFor 33 = .ok (.iconst 1, 1) := by decide +kernel
theorem dX2_locksFor_34 : decode cX2_locksFor 34 = .ok (.iand, 1) := by decide +kernel
theorem dX2_locksFor_35 : decode cX2_locksFor 35 = .ok (.ifCond .eq 39, 3) := by decide +kernel
theorem dX2_locksFor_38 : decode cX2_locksFor 38 = .ok (.aload_n 0, 1) := by decide +kernel
theorem dX2_locksFor_39 : decode cX2_locksFor 39 = .ok (.getfield 15, 3) := by decide +kernel
theorem dX2_locksFor_42 : decode cX2_locksFor 42 = .ok (.iload_n 3, 1) := by decide +kernel
theorem dX2_locksFor_43 : decode cX2_locksFor 43 = .ok (.invokevirtual 41, 3) := by decide +kernel
theorem dX2_locksFor_46 : decode cX2_locksFor 46 = .ok (.aload_n 0, 1) := by decide +kernel
theorem dX2_locksFor_47 : decode cX2_locksFor 47 = .ok (.getfield 15, 3) := by decide +kernel
theorem dX2_locksFor_50 : decode cX2_locksFor 50 = .ok (.iload 4, 2) := by decide +kernel
theorem dX2_locksFor_52 : decode cX2_locksFor 52 = .ok (.invokevirtual 47, 3) := by decide +kernel
theorem dX2_locksFor_55 : decode cX2_locksFor 55 = .ok (.invokestatic 50, 3) := by decide +kernel
theorem dX2_locksFor_58 : decode cX2_locksFor 58 = .ok (.ifCond .eq 10, 3) := by decide +kernel
theorem dX2_locksFor_61 : decode cX2_locksFor 61 = .ok (.iload_n 2, 1) := by decide +kernel
theorem dX2_locksFor_62 : decode cX2_locksFor 62 = .ok (.iconst 1, 1) := by decide +kernel
theorem dX2_locksFor_63 : decode cX2_locksFor 63 = .ok (.iload 4, 2) := by decide +kernel
theorem dX2_locksFor_65 : decode cX2_locksFor 65 = .ok (.ishl, 1) := by decide +kernel
theorem dX2_locksFor_66 : decode cX2_locksFor 66 = .ok (.ior, 1) := by decide +kernel
theorem dX2_locksFor_67 : decode cX2_locksFor 67 = .ok (.istore_n 2, 1) := by decide +kernel
theorem dX2_locksFor_68 : decode cX2_locksFor 68 = .ok (.iinc 4 1, 3) := by decide +kernel
theorem dX2_locksFor_71 : decode cX2_locksFor 71 = .ok (.goto (-53), 3) := by decide +kernel
theorem dX2_locksFor_74 : decode cX2_locksFor 74 = .ok (.iinc 3 1, 3) := by decide +kernel
theorem dX2_locksFor_77 : decode cX2_locksFor 77 = .ok (.goto (-73), 3) := by decide +kernel
theorem dX2_locksFor_80 : decode cX2_locksFor 80 = .ok (.iload_n 2, 1) := by decide +kernel
theorem dX2_locksFor_81 : decode cX2_locksFor 81 = .ok (.ireturn, 1) := by decide +kernel
theorem dX2_measure_0 : decode cX2_measure 0 = .ok (.aload_n 0, 1) := by decide +kernel
theorem dX2_measure_1 : decode cX2_measure 1 = .ok (.getfield 19, 3) := by decide +kernel
theorem dX2_measure_4 : decode cX2_measure 4 = .ok (.iconst (-1), 1) := by decide +kernel
theorem dX2_measure_5 : decode cX2_measure 5 = .ok (.invokestatic 98, 3) := by decide +kernel
theorem dX2_measure_8 : decode cX2_measure 8 = .ok (.aload_n 0, 1) := by decide +kernel
theorem dX2_measure_9 : decode cX2_measure 9 = .ok (.iload_n 1, 1) := by decide +kernel
theorem dX2_measure_10 : decode cX2_measure 10 = .ok (.iconst 0, 1) := by decide +kernel
theorem dX2_measure_11 : decode cX2_measure 11 = .ok (.invokevirtual 104, 3) := by decide +kernel
theorem dX2_measure_14 : decode cX2_measure 14 = .ok (.iconst 0, 1) := by decide +kernel
theorem dX2_measure_15 : decode cX2_measure 15 = .ok (.istore_n 3, 1) := by decide +kernel
theorem dX2_measure_16 : decode cX2_measure 16 = .ok (.iload_n 3, 1) := by decide +kernel
theorem dX2_measure_17 : decode cX2_measure 17 = .ok (.bipush 6, 2) := by decide +kernel
theorem dX2_measure_19 : decode cX2_measure 19 = .ok (.if_icmp .ge 92, 3) := by decide +kernel
theorem dX2_measure_22 : decode cX2_measure 22 = .ok (.iconst 0, 1) := by decide +kernel
theorem dX2_measure_23 : decode cX2_measure 23 = .ok (.istore 4, 2) := by decide +kernel
theorem dX2_measure_25 : decode cX2_measure 25 = .ok (.iload 4, 2) := by decide +kernel
theorem dX2_measure_27 : decode cX2_measure 27 = .ok (.aload_n 0, 1) := by decide +kernel
theorem dX2_measure_28 : decode cX2_measure 28 = .ok (.getfield 9, 3) := by decide +kernel
theorem dX2_measure_31 : decode cX2_measure 31 = .ok (.getfield 56, 3) := by decide +kernel
theorem dX2_measure_34 : decode cX2_measure 34 = .ok (.if_icmp .ge 71, 3) := by decide +kernel
theorem dX2_measure_37 : decode cX2_measure 37 = .ok (.iload_n 2, 1) := by decide +kernel
theorem dX2_measure_38 : decode cX2_measure 38 = .ok (.aload_n 0, 1) := by decide +kernel
theorem dX2_measure_39 : decode cX2_measure 39 = .ok (.getfield 9, 3) := by decide +kernel
theorem dX2_measure_42 : decode cX2_measure 42 = .ok (.iload 4, 2) := by decide +kernel
theorem dX2_measure_44 : decode cX2_measure 44 = .ok (.invokevirtual 65, 3) := by decide +kernel
theorem dX2_measure_47 : decode cX2_measure 47 = .ok (.ishr, 1) := by decide +kernel
theorem dX2_measure_48 : decode cX2_measure 48 = .ok (.iconst 1, 1) := by decide +kernel
theorem dX2_measure_49 : decode cX2_measure 49 = .ok (.iand, 1) := by decide +kernel
theorem dX2_measure_50 : decode cX2_measure 50 = .ok (.ifCond .eq 49, 3) := by decide +kernel
theorem dX2_measure_53 : decode cX2_measure 53 = .ok (.aload_n 0, 1) := by decide +kernel
theorem dX2_measure_54 : decode cX2_measure 54 = .ok (.aload_n 0, 1) := by decide +kernel
theorem dX2_measure_55 : decode cX2_measure 55 = .ok (.getfield 9, 3) := by decide +kernel
theorem dX2_measure_58 : decode cX2_measure 58 = .ok (.iload 4, 2) := by decide +kernel
theorem dX2_measure_60 : decode cX2_measure 60 = .ok (.invokevirtual 59, 3) := by decide +kernel
theorem dX2_measure_63 : decode cX2_measure 63 = .ok (.aload_n 0, 1) := by decide +kernel
theorem dX2_measure_64 : decode cX2_measure 64 = .ok (.getfield 9, 3) := by decide +kernel
theorem dX2_measure_67 : decode cX2_measure 67 = .ok (.iload 4, 2) := by decide +kernel
theorem dX2_measure_69 : decode cX2_measure 69 = .ok (.invokevirtual 62, 3) := by decide +kernel
theorem dX2_measure_72 : decode cX2_measure 72 = .ok (.iload_n 3, 1) := by decide +kernel
theorem dX2_measure_73 : decode cX2_measure 73 = .ok (.invokevirtual 107, 3) := by decide +kernel
theorem dX2_measure_76 : decode cX2_measure 76 = .ok (.aload_n 0, 1) := by decide +kernel
theorem dX2_measure_77 : decode cX2_measure 77 = .ok (.aload_n 0, 1) := by decide +kernel
theorem dX2_measure_78 : decode cX2_measure 78 = .ok (.getfield 9, 3) := by decide +kernel
theorem dX2_measure_81 : decode cX2_measure 81 = .ok (.iload 4, 2) := by decide +kernel
theorem dX2_measure_83 : decode cX2_measure 83 = .ok (.invokevirtual 62, 3) := by decide +kernel
theorem dX2_measure_86 : decode cX2_measure 86 = .ok (.aload_n 0, 1) := by decide +kernel
theorem dX2_measure_87 : decode cX2_measure 87 = .ok (.getfield 9, 3) := by decide +kernel
theorem dX2_measure_90 : decode cX2_measure 90 = .ok (.iload 4, 2) := by decide +kernel
theorem dX2_measure_92 : decode cX2_measure 92 = .ok (.invokevirtual 59, 3) := by decide +kernel
theorem dX2_measure_95 : decode cX2_measure 95 = .ok (.iload_n 3, 1) := by decide +kernel
theorem dX2_measure_96 : decode cX2_measure 96 = .ok (.invokevirtual 107, 3) := by decide +kernel
theorem dX2_measure_99 : decode cX2_measure 99 = .ok (.iinc 4 1, 3) := by decide +kernel
theorem dX2_measure_102 : decode cX2_measure 102 = .ok (.goto (-77), 3) := by decide +kernel
theorem dX2_measure_105 : decode cX2_measure 105 = .ok (.iinc 3 1, 3) := by decide +kernel
theorem dX2_measure_108 : decode cX2_measure 108 = .ok (.goto (-92), 3) := by decide +kernel
theorem dX2_measure_111 : decode cX2_measure 111 = .ok (.return_, 1) := by decide +kernel
theorem dX2_pathDoor_0 : decode cX2_pathDoor 0 = .ok (.iload_n 1, 1) := by decide +kernel
theorem dX2_pathDoor_1 : decode cX2_pathDoor 1 = .ok (.ifCond .lt 29, 3) := by decide +kernel
theorem dX2_pathDoor_4 : decode cX2_pathDoor 4 = .ok (.iload_n 1, 1) := by decide +kernel
theorem dX2_pathDoor_5 : decode cX2_pathDoor 5 = .ok (.aload_n 0, 1) := by decide +kernel
theorem dX2_pathDoor_6 : decode cX2_pathDoor 6 = .ok (.getfield 29, 3) := by decide +kernel
theorem dX2_pathDoor_9 : decode cX2_pathDoor 9 = .ok (.if_icmp .ge 21, 3) := by decide +kernel
theorem dX2_pathDoor_12 : decode cX2_pathDoor 12 = .ok (.iload_n 1, 1) := by decide +kernel
theorem dX2_pathDoor_13 : decode cX2_pathDoor 13 = .ok (.aload_n 0, 1) := by decide +kernel
theorem dX2_pathDoor_14 : decode cX2_pathDoor 14 = .ok (.getfield 26, 3) := by decide +kernel
theorem dX2_pathDoor_17 : decode cX2_pathDoor 17 = .ok (.arraylength, 1) := by decide +kernel
theorem dX2_pathDoor_18 : decode cX2_pathDoor 18 = .ok (.if_icmp .ge 12, 3) := by decide +kernel
theorem dX2_pathDoor_21 : decode cX2_pathDoor 21 = .ok (.aload_n 0, 1) := by decide +kernel
theorem dX2_pathDoor_22 : decode cX2_pathDoor 22 = .ok (.getfield 26, 3) := by decide +kernel
theorem dX2_pathDoor_25 : decode cX2_pathDoor 25 = .ok (.iload_n 1, 1) := by decide +kernel
theorem dX2_pathDoor_26 : decode cX2_pathDoor 26 = .ok (.iaload, 1) := by decide +kernel
theorem dX2_pathDoor_27 : decode cX2_pathDoor 27 = .ok (.goto 5, 3) := by decide +kernel
theorem dX2_pathDoor_30 : decode cX2_pathDoor 30 = .ok (.bipush (-2), 2) := by decide +kernel
theorem dX2_pathDoor_32 : decode cX2_pathDoor 32 = .ok (.ireturn, 1) := by decide +kernel
theorem dX2_putDistance_0 : decode cX2_putDistance 0 = .ok (.iload_n 1, 1) := by decide +kernel
theorem dX2_putDistance_1 : decode cX2_putDistance 1 = .ok (.ifCond .lt 26, 3) := by decide +kernel
theorem dX2_putDistance_4 : decode cX2_putDistance 4 = .ok (.iload_n 1, 1) := by decide +kernel
theorem dX2_putDistance_5 : decode cX2_putDistance 5 = .ok (.bipush 6, 2) := by decide +kernel
theorem dX2_putDistance_7 : decode cX2_putDistance 7 = .ok (.if_icmp .ge 20, 3) := by decide +kernel
theorem dX2_putDistance_10 : decode cX2_putDistance 10 = .ok (.aload_n 0, 1) := by decide +kernel
theorem dX2_putDistance_11 : decode cX2_putDistance 11 = .ok (.getfield 19, 3) := by decide +kernel
theorem dX2_putDistance_14 : decode cX2_putDistance 14 = .ok (.iload_n 1, 1) := by decide +kernel
theorem dX2_putDistance_15 : decode cX2_putDistance 15 = .ok (.iaload, 1) := by decide +kernel
theorem dX2_putDistance_16 : decode cX2_putDistance 16 = .ok (.iconst (-1), 1) := by decide +kernel
theorem dX2_putDistance_17 : decode cX2_putDistance 17 = .ok (.if_icmp .ne 10, 3) := by decide +kernel
theorem dX2_putDistance_20 : decode cX2_putDistance 20 = .ok (.aload_n 0, 1) := by decide +kernel
theorem dX2_putDistance_21 : decode cX2_putDistance 21 = .ok (.getfield 19, 3) := by decide +kernel
theorem dX2_putDistance_24 : decode cX2_putDistance 24 = .ok (.iload_n 1, 1) := by decide +kernel
theorem dX2_putDistance_25 : decode cX2_putDistance 25 = .ok (.iload_n 2, 1) := by decide +kernel
theorem dX2_putDistance_26 : decode cX2_putDistance 26 = .ok (.iastore, 1) := by decide +kernel
theorem dX2_putDistance_27 : decode cX2_putDistance 27 = .ok (.return_, 1) := by decide +kernel
theorem dX2_reachOf_0 : decode cX2_reachOf 0 = .ok (.aload_n 0, 1) := by decide +kernel
theorem dX2_reachOf_1 : decode cX2_reachOf 1 = .ok (.iload_n 1, 1) := by decide +kernel
theorem dX2_reachOf_2 : decode cX2_reachOf 2 = .ok (.aload_n 0, 1) := by decide +kernel
theorem dX2_reachOf_3 : decode cX2_reachOf 3 = .ok (.getfield 15, 3) := by decide +kernel
theorem dX2_reachOf_6 : decode cX2_reachOf 6 = .ok (.iload_n 1, 1) := by decide +kernel
theorem dX2_reachOf_7 : decode cX2_reachOf 7 = .ok (.aload_n 0, 1) := by decide +kernel
theorem dX2_reachOf_8 : decode cX2_reachOf 8 = .ok (.getfield 9, 3) := by decide +kernel
theorem dX2_reachOf_11 : decode cX2_reachOf 11 = .ok (.getfield 33, 3) := by decide +kernel
theorem dX2_reachOf_14 : decode cX2_reachOf 14 = .ok (.invokevirtual 78, 3) := by decide +kernel
theorem dX2_reachOf_17 : decode cX2_reachOf 17 = .ok (.invokevirtual 81, 3) := by decide +kernel
theorem dX2_reachOf_20 : decode cX2_reachOf 20 = .ok (.ireturn, 1) := by decide +kernel
theorem dX2_reachWith_0 : decode cX2_reachWith 0 = .ok (.aload_n 0, 1) := by decide +kernel
theorem dX2_reachWith_1 : decode cX2_reachWith 1 = .ok (.aload_n 0, 1) := by decide +kernel
theorem dX2_reachWith_2 : decode cX2_reachWith 2 = .ok (.getfield 15, 3) := by decide +kernel
theorem dX2_reachWith_5 : decode cX2_reachWith 5 = .ok (.iload_n 1, 1) := by decide +kernel
theorem dX2_reachWith_6 : decode cX2_reachWith 6 = .ok (.invokevirtual 68, 3) := by decide +kernel
theorem dX2_reachWith_9 : decode cX2_reachWith 9 = .ok (.aload_n 0, 1) := by decide +kernel
theorem dX2_reachWith_10 : decode cX2_reachWith 10 = .ok (.iload_n 2, 1) := by decide +kernel
theorem dX2_reachWith_11 : decode cX2_reachWith 11 = .ok (.invokevirtual 71, 3) := by decide +kernel
theorem dX2_reachWith_14 : decode cX2_reachWith 14 = .ok (.invokevirtual 74, 3) := by decide +kernel
theorem dX2_reachWith_17 : decode cX2_reachWith 17 = .ok (.ireturn, 1) := by decide +kernel
theorem dX2_sharedReach_0 : decode cX2_sharedReach 0 = .ok (.iconst 0, 1) := by decide +kernel
theorem dX2_sharedReach_1 : decode cX2_sharedReach 1 = .ok (.istore_n 2, 1) := by decide +kernel
theorem dX2_sharedReach_2 : decode cX2_sharedReach 2 = .ok (.iload_n 2, 1) := by decide +kernel
theorem dX2_sharedReach_3 : decode cX2_sharedReach 3 = .ok (.aload_n 0, 1) := by decide +kernel
theorem dX2_sharedReach_4 : decode cX2_sharedReach 4 = .ok (.getfield 9, 3) := by decide +kernel
theorem dX2_sharedReach_7 : decode cX2_sharedReach 7 = .ok (.getfield 120, 3) := by decide +kernel
theorem dX2_sharedReach_10 : decode cX2_sharedReach 10 = .ok (.if_icmp .ge 35, 3) := by decide +kernel
theorem dX2_sharedReach_13 : decode cX2_sharedReach 13 = .ok (.iload_n 2, 1) := by decide +kernel
theorem dX2_sharedReach_14 : decode cX2_sharedReach 14 = .ok (.iconst 4, 1) := by decide +kernel
theorem dX2_sharedReach_15 : decode cX2_sharedReach 15 = .ok (.if_icmp .ge 30, 3) := by decide +kernel
theorem dX2_sharedReach_18 : decode cX2_sharedReach 18 = .ok (.aload_n 0, 1) := by decide +kernel
theorem dX2_sharedReach_19 : decode cX2_sharedReach 19 = .ok (.getfield 23, 3) := by decide +kernel
theorem dX2_sharedReach_22 : decode cX2_sharedReach 22 = .ok (.iload_n 2, 1) := by decide +kernel
theorem dX2_sharedReach_23 : decode cX2_sharedReach 23 = .ok (.aload_n 0, 1) := by decide +kernel
theorem dX2_sharedReach_24 : decode cX2_sharedReach 24 = .ok (.getfield 15, 3) := by decide +kernel
theorem dX2_sharedReach_27 : decode cX2_sharedReach 27 = .ok (.iload_n 2, 1) := by decide +kernel
theorem dX2_sharedReach_28 : decode cX2_sharedReach 28 = .ok (.aload_n 0, 1) := by decide +kernel
theorem dX2_sharedReach_29 : decode cX2_sharedReach 29 = .ok (.getfield 9, 3) := by decide +kernel
theorem dX2_sharedReach_32 : decode cX2_sharedReach 32 = .ok (.getfield 33, 3) := by decide +kernel
theorem dX2_sharedReach_35 : decode cX2_sharedReach 35 = .ok (.invokevirtual 78, 3) := by decide +kernel
theorem dX2_sharedReach_38 : decode cX2_sharedReach 38 = .ok (.iastore, 1) := by decide +kernel
theorem dX2_sharedReach_39 : decode cX2_sharedReach 39 = .ok (.iinc 2 1, 3) := by decide +kernel
theorem dX2_sharedReach_42 : decode cX2_sharedReach 42 = .ok (.goto (-40), 3) := by decide +kernel
theorem dX2_sharedReach_45 : decode cX2_sharedReach 45 = .ok (.iconst 1, 1) := by decide +kernel
theorem dX2_sharedReach_46 : decode cX2_sharedReach 46 = .ok (.istore_n 2, 1) := by decide +kernel
theorem dX2_sharedReach_47 : decode cX2_sharedReach 47 = .ok (.iconst 0, 1) := by decide +kernel
theorem dX2_sharedReach_48 : decode cX2_sharedReach 48 = .ok (.istore_n 3, 1) := by decide +kernel
theorem dX2_sharedReach_49 : decode cX2_sharedReach 49 = .ok (.iload_n 3, 1) := by decide +kernel
theorem dX2_sharedReach_50 : decode cX2_sharedReach 50 = .ok (.bipush 32, 2) := by decide +kernel
theorem dX2_sharedReach_52 : decode cX2_sharedReach 52 = .ok (.if_icmp .gt 63, 3) := by decide +kernel
theorem dX2_sharedReach_55 : decode cX2_sharedReach 55 = .ok (.iload_n 2, 1) := by decide +kernel
theorem dX2_sharedReach_56 : decode cX2_sharedReach 56 = .ok (.ifCond .eq 59, 3) := by decide +kernel
theorem dX2_sharedReach_59 : decode cX2_sharedReach 59 = .ok (.iconst 0, 1) := by decide +kernel
theorem dX2_sharedReach_60 : decode cX2_sharedReach 60 = .ok (.istore_n 2, 1) := by decide +kernel
theorem dX2_sharedReach_61 : decode cX2_sharedReach 61 = .ok (.iconst 0, 1) := by decide +kernel
theorem dX2_sharedReach_62 : decode cX2_sharedReach 62 = .ok (.istore 4, 2) := by decide +kernel
theorem dX2_sharedReach_64 : decode cX2_sharedReach 64 = .ok (.iload 4, 2) := by decide +kernel
theorem dX2_sharedReach_66 : decode cX2_sharedReach 66 = .ok (.aload_n 0, 1) := by decide +kernel
theorem dX2_sharedReach_67 : decode cX2_sharedReach 67 = .ok (.getfield 9, 3) := by decide +kernel
theorem dX2_sharedReach_70 : decode cX2_sharedReach 70 = .ok (.getfield 120, 3) := by decide +kernel
theorem dX2_sharedReach_73 : decode cX2_sharedReach 73 = .ok (.if_icmp .ge 36, 3) := by decide +kernel
theorem dX2_sharedReach_76 : decode cX2_sharedReach 76 = .ok (.iconst 0, 1) := by decide +kernel
theorem dX2_sharedReach_77 : decode cX2_sharedReach 77 = .ok (.istore 5, 2) := by decide +kernel
theorem dX2_sharedReach_79 : decode cX2_sharedReach 79 = .ok (.iload 5, 2) := by decide +kernel
theorem dX2_sharedReach_81 : decode cX2_sharedReach 81 = .ok (.iload 4, 2) := by decide +kernel
theorem dX2_sharedReach_83 : decode cX2_sharedReach 83 = .ok (.if_icmp .ge 20, 3) := by decide +kernel
theorem dX2_sharedReach_86 : decode cX2_sharedReach 86 = .ok (.iload_n 2, 1) := by decide +kernel
theorem dX2_sharedReach_87 : decode cX2_sharedReach 87 = .ok (.aload_n 0, 1) := by decide +kernel
theorem dX2_sharedReach_88 : decode cX2_sharedReach 88 = .ok (.iload 4, 2) := by decide +kernel
theorem dX2_sharedReach_90 : decode cX2_sharedReach 90 = .ok (.iload 5, 2) := by decide +kernel
theorem dX2_sharedReach_92 : decode cX2_sharedReach 92 = .ok (.invokevirtual 123, 3) := by decide +kernel
theorem dX2_sharedReach_95 : decode cX2_sharedReach 95 = .ok (.ior, 1) := by decide +kernel
theorem dX2_sharedReach_96 : decode cX2_sharedReach 96 = .ok (.istore_n 2, 1) := by decide +kernel
theorem dX2_sharedReach_97 : decode cX2_sharedReach 97 = .ok (.iinc 5 1, 3) := by decide +kernel
theorem dX2_sharedReach_100 : decode cX2_sharedReach 100 = .ok (.goto (-21), 3) := by decide +kernel
theorem dX2_sharedReach_103 : decode cX2_sharedReach 103 = .ok (.iinc 4 1, 3) := by decide +kernel
theorem dX2_sharedReach_106 : decode cX2_sharedReach 106 = .ok (.goto (-42), 3) := by decide +kernel
theorem dX2_sharedReach_109 : decode cX2_sharedReach 109 = .ok (.iinc 3 1, 3) := by decide +kernel
theorem dX2_sharedReach_112 : decode cX2_sharedReach 112 = .ok (.goto (-63), 3) := by decide +kernel
theorem dX2_sharedReach_115 : decode cX2_sharedReach 115 = .ok (.aload_n 0, 1) := by decide +kernel
theorem dX2_sharedReach_116 : decode cX2_sharedReach 116 = .ok (.iload_n 1, 1) := by decide +kernel
theorem dX2_sharedReach_117 : decode cX2_sharedReach 117 = .ok (.aload_n 0, 1) := by decide +kernel
theorem dX2_sharedReach_118 : decode cX2_sharedReach 118 = .ok (.iload_n 1, 1) := by decide +kernel
theorem dX2_sharedReach_119 : decode cX2_sharedReach 119 = .ok (.invokevirtual 126, 3) := by decide +kernel
theorem dX2_sharedReach_122 : decode cX2_sharedReach 122 = .ok (.invokevirtual 81, 3) := by decide +kernel
theorem dX2_sharedReach_125 : decode cX2_sharedReach 125 = .ok (.ireturn, 1) := by decide +kernel
theorem dX2_spread_0 : decode cX2_spread 0 = .ok (.aload_n 0, 1) := by decide +kernel
theorem dX2_spread_1 : decode cX2_spread 1 = .ok (.iload_n 1, 1) := by decide +kernel
theorem dX2_spread_2 : decode cX2_spread 2 = .ok (.invokevirtual 88, 3) := by decide +kernel
theorem dX2_spread_5 : decode cX2_spread 5 = .ok (.iload_n 3, 1) := by decide +kernel
theorem dX2_spread_6 : decode cX2_spread 6 = .ok (.if_icmp .ne 11, 3) := by decide +kernel
theorem dX2_spread_9 : decode cX2_spread 9 = .ok (.aload_n 0, 1) := by decide +kernel
theorem dX2_spread_10 : decode cX2_spread 10 = .ok (.iload_n 2, 1) := by decide +kernel
theorem dX2_spread_11 : decode cX2_spread 11 = .ok (.iload_n 3, 1) := by decide +kernel
theorem dX2_spread_12 : decode cX2_spread 12 = .ok (.iconst 1, 1) := by decide +kernel
theorem dX2_spread_13 : decode cX2_spread 13 = .ok (.iadd, 1) := by decide +kernel
theorem dX2_spread_14 : decode cX2_spread 14 = .ok (.invokevirtual 104, 3) := by decide +kernel
theorem dX2_spread_17 : decode cX2_spread 17 = .ok (.return_, 1) := by decide +kernel
theorem dX3_addDoor_0 : decode cX3_addDoor 0 = .ok (.aload_n 0, 1) := by decide +kernel
theorem dX3_addDoor_1 : decode cX3_addDoor 1 = .ok (.getfield 65, 3) := by decide +kernel
theorem dX3_addDoor_4 : decode cX3_addDoor 4 = .ok (.ifCond .lt 52, 3) := by decide +kernel
theorem dX3_addDoor_7 : decode cX3_addDoor 7 = .ok (.aload_n 0, 1) := by decide +kernel
theorem dX3_addDoor_8 : decode cX3_addDoor 8 = .ok (.getfield 65, 3) := by decide +kernel
theorem dX3_addDoor_11 : decode cX3_addDoor 11 = .ok (.bipush 8, 2) := by decide +kernel
theorem dX3_addDoor_13 : decode cX3_addDoor 13 = .ok (.if_icmp .ge 43, 3) := by decide +kernel
theorem dX3_addDoor_16 : decode cX3_addDoor 16 = .ok (.aload_n 0, 1) := by decide +kernel
theorem dX3_addDoor_17 : decode cX3_addDoor 17 = .ok (.getfield 32, 3) := by decide +kernel
theorem dX3_addDoor_20 : decode cX3_addDoor 20 = .ok (.aload_n 0, 1) := by decide +kernel
theorem dX3_addDoor_21 : decode cX3_addDoor 21 = .ok (.getfield 65, 3) := by decide +kernel
theorem dX3_addDoor_24 : decode cX3_addDoor 24 = .ok (.iload_n 1, 1) := by decide +kernel
theorem dX3_addDoor_25 : decode cX3_addDoor 25 = .ok (.iastore, 1) := by decide +kernel
theorem dX3_addDoor_26 : decode cX3_addDoor 26 = .ok (.aload_n 0, 1) := by decide +kernel
theorem dX3_addDoor_27 : decode cX3_addDoor 27 = .ok (.getfield 36, 3) := by decide +kernel
theorem dX3_addDoor_30 : decode cX3_addDoor 30 = .ok (.aload_n 0, 1) := by decide +kernel
theorem dX3_addDoor_31 : decode cX3_addDoor 31 = .ok (.getfield 65, 3) := by decide +kernel
theorem dX3_addDoor_34 : decode cX3_addDoor 34 = .ok (.iload_n 2, 1) := by decide +kernel
theorem dX3_addDoor_35 : decode cX3_addDoor 35 = .ok (.iastore, 1) := by decide +kernel
theorem dX3_addDoor_36 : decode cX3_addDoor 36 = .ok (.aload_n 0, 1) := by decide +kernel
theorem dX3_addDoor_37 : decode cX3_addDoor 37 = .ok (.getfield 39, 3) := by decide +kernel
theorem dX3_addDoor_40 : decode cX3_addDoor 40 = .ok (.aload_n 0, 1) := by decide +kernel
theorem dX3_addDoor_41 : decode cX3_addDoor 41 = .ok (.getfield 65, 3) := by decide +kernel
theorem dX3_addDoor_44 : decode cX3_addDoor 44 = .ok (.iload_n 3, 1) := by decide +kernel
theorem dX3_addDoor_45 : decode cX3_addDoor 45 = .ok (.iastore, 1) := by decide +kernel
theorem dX3_addDoor_46 : decode cX3_addDoor 46 = .ok (.aload_n 0, 1) := by decide +kernel
theorem dX3_addDoor_47 : decode cX3_addDoor 47 = .ok (.dup, 1) := by decide +kernel
theorem dX3_addDoor_48 : decode cX3_addDoor 48 = .ok (.getfield 65, 3) := by decide +kernel
theorem dX3_addDoor_51 : decode cX3_addDoor 51 = .ok (.iconst 1, 1) := by decide +kernel
theorem dX3_addDoor_52 : decode cX3_addDoor 52 = .ok (.iadd, 1) := by decide +kernel
theorem dX3_addDoor_53 : decode cX3_addDoor 53 = .ok (.putfield 65, 3) := by decide +kernel
theorem dX3_addDoor_56 : decode cX3_addDoor 56 = .ok (.return_, 1) := by decide +kernel
theorem dX3_addMust_0 : decode cX3_addMust 0 = .ok (.iload_n 2, 1) := by decide +kernel
theorem dX3_addMust_1 : decode cX3_addMust 1 = .ok (.ifCond .lt 21, 3) := by decide +kernel
theorem dX3_addMust_4 : decode cX3_addMust 4 = .ok (.iload_n 2, 1) := by decide +kernel
theorem dX3_addMust_5 : decode cX3_addMust 5 = .ok (.bipush 6, 2) := by decide +kernel
theorem dX3_addMust_7 : decode cX3_addMust 7 = .ok (.if_icmp .ge 15, 3) := by decide +kernel
theorem dX3_addMust_10 : decode cX3_addMust 10 = .ok (.aload_n 0, 1) := by decide +kernel
theorem dX3_addMust_11 : decode cX3_addMust 11 = .ok (.getfield 42, 3) := by decide +kernel
theorem dX3_addMust_14 : decode cX3_addMust 14 = .ok (.iload_n 2, 1) := by decide +kernel
theorem dX3_addMust_15 : decode cX3_addMust 15 = .ok (.dup2, 1) := by decide +kernel
theorem dX3_addMust_16 : decode cX3_addMust 16 = .ok (.iaload, 1) := by decide +kernel
theorem dX3_addMust_17 : decode cX3_addMust 17 = .ok (.iconst 1, 1) := by decide +kernel
theorem dX3_addMust_18 : decode cX3_addMust 18 = .ok (.iload_n 1, 1) := by decide +kernel
theorem dX3_addMust_19 : decode cX3_addMust 19 = .ok (.ishl, 1) := by decide +kernel
theorem dX3_addMust_20 : decode cX3_addMust 20 = .ok (.ior, 1) := by decide +kernel
theorem dX3_addMust_21 : decode cX3_addMust 21 = .ok (.iastore, 1) := by decide +kernel
theorem dX3_addMust_22 : decode cX3_addMust 22 = .ok (.return_, 1) := by decide +kernel
theorem dX3_addNever_0 : decode cX3_addNever 0 = .ok (.iload_n 2, 1) := by decide +kernel
theorem dX3_addNever_1 : decode cX3_addNever 1 = .ok (.ifCond .lt 21, 3) := by decide +kernel
theorem dX3_addNever_4 : decode cX3_addNever 4 = .ok (.iload_n 2, 1) := by decide +kernel
theorem dX3_addNever_5 : decode cX3_addNever 5 = .ok (.bipush 6, 2) := by decide +kernel
theorem dX3_addNever_7 : decode cX3_addNever 7 = .ok (.if_icmp .ge 15, 3) := by decide +kernel
theorem dX3_addNever_10 : decode cX3_addNever 10 = .ok (.aload_n 0, 1) := by decide +kernel
theorem dX3_addNever_11 : decode cX3_addNever 11 = .ok (.getfield 45, 3) := by decide +kernel
theorem dX3_addNever_14 : decode cX3_addNever 14 = .ok (.iload_n 2, 1) := by decide +kernel
theorem dX3_addNever_15 : decode cX3_addNever 15 = .ok (.dup2, 1) := by decide +kernel
theorem dX3_addNever_16 : decode cX3_addNever 16 = .ok (.iaload, 1) := by decide +kernel
theorem dX3_addNever_17 : decode cX3_addNever 17 = .ok (.iconst 1, 1) := by decide +kernel
theorem dX3_addNever_18 : decode cX3_addNever 18 = .ok (.iload_n 1, 1) := by decide +kernel
theorem dX3_addNever_19 : decode cX3_addNever 19 = .ok (.ishl, 1) := by decide +kernel
theorem dX3_addNever_20 : decode cX3_addNever 20 = .ok (.ior, 1) := by decide +kernel
theorem dX3_addNever_21 : decode cX3_addNever 21 = .ok (.iastore, 1) := by decide +kernel
theorem dX3_addNever_22 : decode cX3_addNever 22 = .ok (.return_, 1) := by decide +kernel
theorem dX3_allKeys_0 : decode cX3_allKeys 0 = .ok (.iconst 1, 1) := by decide +kernel
theorem dX3_allKeys_1 : decode cX3_allKeys 1 = .ok (.aload_n 0, 1) := by decide +kernel
theorem dX3_allKeys_2 : decode cX3_allKeys 2 = .ok (.getfield 55, 3) := by decide +kernel
theorem dX3_allKeys_5 : decode cX3_allKeys 5 = .ok (.ishl, 1) := by decide +kernel
theorem dX3_allKeys_6 : decode cX3_allKeys 6 = .ok (.iconst 1, 1) := by decide +kernel
theorem dX3_allKeys_7 : decode cX3_allKeys 7 = .ok (.isub, 1) := by decide +kernel
theorem dX3_allKeys_8 : decode cX3_allKeys 8 = .ok (.ireturn, 1) := by decide +kernel
theorem dX3_allLocks_0 : decode cX3_allLocks 0 = .ok (.iconst 1, 1) := by decide +kernel
theorem dX3_allLocks_1 : decode cX3_allLocks 1 = .ok (.aload_n 0, 1) := by decide +kernel
theorem dX3_allLocks_2 : decode cX3_allLocks 2 = .ok (.getfield 59, 3) := by decide +kernel
theorem dX3_allLocks_5 : decode cX3_allLocks 5 = .ok (.ishl, 1) := by decide +kernel
theorem dX3_allLocks_6 : decode cX3_allLocks 6 = .ok (.iconst 1, 1) := by decide +kernel
theorem dX3_allLocks_7 : decode cX3_allLocks 7 = .ok (.isub, 1) := by decide +kernel
theorem dX3_allLocks_8 : decode cX3_allLocks 8 = .ok (.ireturn, 1) := by decide +kernel
theorem dX3_allRooms_0 : decode cX3_allRooms 0 = .ok (.iconst 1, 1) := by decide +kernel
theorem dX3_allRooms_1 : decode cX3_allRooms 1 = .ok (.aload_n 0, 1) := by decide +kernel
theorem dX3_allRooms_2 : decode cX3_allRooms 2 = .ok (.getfield 62, 3) := by decide +kernel
theorem dX3_allRooms_5 : decode cX3_allRooms 5 = .ok (.ishl, 1) := by decide +kernel
theorem dX3_allRooms_6 : decode cX3_allRooms 6 = .ok (.iconst 1, 1) := by decide +kernel
theorem dX3_allRooms_7 : decode cX3_allRooms 7 = .ok (.isub, 1) := by decide +kernel
theorem dX3_allRooms_8 : decode cX3_allRooms 8 = .ok (.ireturn, 1) := by decide +kernel
theorem dX3_clear_0 : decode cX3_clear 0 = .ok (.aload_n 0, 1) := by decide +kernel
theorem dX3_clear_1 : decode cX3_clear 1 = .ok (.getfield 12, 3) := by decide +kernel
theorem dX3_clear_4 : decode cX3_clear 4 = .ok (.invokevirtual 48, 3) := by decide +kernel
theorem dX3_clear_7 : decode cX3_clear 7 = .ok (.aload_n 0, 1) := by decide +kernel
theorem dX3_clear_8 : decode cX3_clear 8 = .ok (.getfield 21, 3) := by decide +kernel
theorem dX3_clear_11 : decode cX3_clear 11 = .ok (.invokevirtual 51, 3) := by decide +kernel
theorem dX3_clear_14 : decode cX3_clear 14 = .ok (.aload_n 0, 1) := by decide +kernel
theorem dX3_clear_15 : decode cX3_clear 15 = .ok (.getfield 28, 3) := by decide +kernel
theorem dX3_clear_18 : decode cX3_clear 18 = .ok (.invokevirtual 54, 3) := by decide +kernel
theorem dX3_clear_21 : decode cX3_clear 21 = .ok (.aload_n 0, 1) := by decide +kernel
theorem dX3_clear_22 : decode cX3_clear 22 = .ok (.iconst 0, 1) := by decide +kernel
theorem dX3_clear_23 : decode cX3_clear 23 = .ok (.putfield 55, 3) := by decide +kernel
theorem dX3_clear_26 : decode cX3_clear 26 = .ok (.aload_n 0, 1) := by decide +kernel
theorem dX3_clear_27 : decode cX3_clear 27 = .ok (.iconst 0, 1) := by decide +kernel
theorem dX3_clear_28 : decode cX3_clear 28 = .ok (.putfield 59, 3) := by decide +kernel
theorem dX3_clear_31 : decode cX3_clear 31 = .ok (.aload_n 0, 1) := by decide +kernel
theorem dX3_clear_32 : decode cX3_clear 32 = .ok (.iconst 0, 1) := by decide +kernel
theorem dX3_clear_33 : decode cX3_clear 33 = .ok (.putfield 62, 3) := by decide +kernel
theorem dX3_clear_36 : decode cX3_clear 36 = .ok (.aload_n 0, 1) := by decide +kernel
theorem dX3_clear_37 : decode cX3_clear 37 = .ok (.iconst 0, 1) := by decide +kernel
theorem dX3_clear_38 : decode cX3_clear 38 = .ok (.putfield 65, 3) := by decide +kernel
theorem dX3_clear_41 : decode cX3_clear 41 = .ok (.aload_n 0, 1) := by decide +kernel
theorem dX3_clear_42 : decode cX3_clear 42 = .ok (.iconst 0, 1) := by decide +kernel
theorem dX3_clear_43 : decode cX3_clear 43 = .ok (.putfield 68, 3) := by decide +kernel
theorem dX3_clear_46 : decode cX3_clear 46 = .ok (.aload_n 0, 1) := by decide +kernel
theorem dX3_clear_47 : decode cX3_clear 47 = .ok (.getfield 42, 3) := by decide +kernel
theorem dX3_clear_50 : decode cX3_clear 50 = .ok (.iconst 0, 1) := by decide +kernel
theorem dX3_clear_51 : decode cX3_clear 51 = .ok (.invokestatic 71, 3) := by decide +kernel
theorem dX3_clear_54 : decode cX3_clear 54 = .ok (.aload_n 0, 1) := by decide +kernel
theorem dX3_clear_55 : decode cX3_clear 55 = .ok (.getfield 45, 3) := by decide +kernel
theorem dX3_clear_58 : decode cX3_clear 58 = .ok (.iconst 0, 1) := by decide +kernel
theorem dX3_clear_59 : decode cX3_clear 59 = .ok (.invokestatic 71, 3) := by decide +kernel
theorem dX3_clear_62 : decode cX3_clear 62 = .ok (.return_, 1) := by decide +kernel
theorem dX3_copyFrom_0 : decode cX3_copyFrom 0 = .ok (.aload_n 0, 1) := by decide +kernel
theorem dX3_copyFrom_1 : decode cX3_copyFrom 1 = .ok (.getfield 12, 3) := by decide +kernel
theorem dX3_copyFrom_4 : decode cX3_copyFrom 4 = .ok (.aload_n 1, 1) := by decide +kernel
theorem dX3_copyFrom_5 : decode cX3_copyFrom 5 = .ok (.getfield 12, 3) := by decide +kernel
theorem dX3_copyFrom_8 : decode cX3_copyFrom 8 = .ok (.invokevirtual 77, 3) := by decide +kernel
theorem dX3_copyFrom_11 : decode cX3_copyFrom 11 = .ok (.aload_n 0, 1) := by decide +kernel
theorem dX3_copyFrom_12 : decode cX3_copyFrom 12 = .ok (.getfield 21, 3) := by decide +kernel
theorem dX3_copyFrom_15 : decode cX3_copyFrom 15 = .ok (.aload_n 1, 1) := by decide +kernel
theorem dX3_copyFrom_16 : decode cX3_copyFrom 16 = .ok (.getfield 21, 3) := by decide +kernel
theorem dX3_copyFrom_19 : decode cX3_copyFrom 19 = .ok (.invokevirtual 81, 3) := by decide +kernel
theorem dX3_copyFrom_22 : decode cX3_copyFrom 22 = .ok (.aload_n 0, 1) := by decide +kernel
theorem dX3_copyFrom_23 : decode cX3_copyFrom 23 = .ok (.getfield 28, 3) := by decide +kernel
theorem dX3_copyFrom_26 : decode cX3_copyFrom 26 = .ok (.aload_n 1, 1) := by decide +kernel
theorem dX3_copyFrom_27 : decode cX3_copyFrom 27 = .ok (.getfield 28, 3) := by decide +kernel
theorem dX3_copyFrom_30 : decode cX3_copyFrom 30 = .ok (.invokevirtual 84, 3) := by decide +kernel
theorem dX3_copyFrom_33 : decode cX3_copyFrom 33 = .ok (.aload_n 0, 1) := by decide +kernel
theorem dX3_copyFrom_34 : decode cX3_copyFrom 34 = .ok (.aload_n 1, 1) := by decide +kernel
theorem dX3_copyFrom_35 : decode cX3_copyFrom 35 = .ok (.getfield 55, 3) := by decide +kernel
theorem dX3_copyFrom_38 : decode cX3_copyFrom 38 = .ok (.putfield 55, 3) := by decide +kernel
theorem dX3_copyFrom_41 : decode cX3_copyFrom 41 = .ok (.aload_n 0, 1) := by decide +kernel
theorem dX3_copyFrom_42 : decode cX3_copyFrom 42 = .ok (.aload_n 1, 1) := by decide +kernel
theorem dX3_copyFrom_43 : decode cX3_copyFrom 43 = .ok (.getfield 59, 3) := by decide +kernel
theorem dX3_copyFrom_46 : decode cX3_copyFrom 46 = .ok (.putfield 59, 3) := by decide +kernel
theorem dX3_copyFrom_49 : decode cX3_copyFrom 49 = .ok (.aload_n 0, 1) := by decide +kernel
theorem dX3_copyFrom_50 : decode cX3_copyFrom 50 = .ok (.aload_n 1, 1) := by decide +kernel
theorem dX3_copyFrom_51 : decode cX3_copyFrom 51 = .ok (.getfield 62, 3) := by decide +kernel
theorem dX3_copyFrom_54 : decode cX3_copyFrom 54 = .ok (.putfield 62, 3) := by decide +kernel
theorem dX3_copyFrom_57 : decode cX3_copyFrom 57 = .ok (.aload_n 0, 1) := by decide +kernel
theorem dX3_copyFrom_58 : decode cX3_copyFrom 58 = .ok (.aload_n 1, 1) := by decide +kernel
theorem dX3_copyFrom_59 : decode cX3_copyFrom 59 = .ok (.getfield 65, 3) := by decide +kernel
theorem dX3_copyFrom_62 : decode cX3_copyFrom 62 = .ok (.putfield 65, 3) := by decide +kernel
theorem dX3_copyFrom_65 : decode cX3_copyFrom 65 = .ok (.aload_n 0, 1) := by decide +kernel
theorem dX3_copyFrom_66 : decode cX3_copyFrom 66 = .ok (.aload_n 1, 1) := by decide +kernel
theorem dX3_copyFrom_67 : decode cX3_copyFrom 67 = .ok (.getfield 68, 3) := by decide +kernel
theorem dX3_copyFrom_70 : decode cX3_copyFrom 70 = .ok (.putfield 68, 3) := by decide +kernel
theorem dX3_copyFrom_73 : decode cX3_copyFrom 73 = .ok (.aload_n 1, 1) := by decide +kernel
theorem dX3_copyFrom_74 : decode cX3_copyFrom 74 = .ok (.getfield 32, 3) := by decide +kernel
theorem dX3_copyFrom_77 : decode cX3_copyFrom 77 = .ok (.iconst 0, 1) := by decide +kernel
theorem dX3_copyFrom_78 : decode cX3_copyFrom 78 = .ok (.aload_n 0, 1) := by decide +kernel
theorem dX3_copyFrom_79 : decode cX3_copyFrom 79 = .ok (.getfield 32, 3) := by decide +kernel
theorem dX3_copyFrom_82 : decode cX3_copyFrom 82 = .ok (.iconst 0, 1) := by decide +kernel
theorem dX3_copyFrom_83 : decode cX3_copyFrom 83 = .ok (.bipush 8, 2) := by decide +kernel
theorem dX3_copyFrom_85 : decode cX3_copyFrom 85 = .ok (.invokestatic 87, 3) := by decide +kernel
theorem dX3_copyFrom_88 : decode cX3_copyFrom 88 = .ok (.aload_n 1, 1) := by decide +kernel
theorem dX3_copyFrom_89 : decode cX3_copyFrom 89 = .ok (.getfield 36, 3) := by decide +kernel
theorem dX3_copyFrom_92 : decode cX3_copyFrom 92 = .ok (.iconst 0, 1) := by decide +kernel
theorem dX3_copyFrom_93 : decode cX3_copyFrom 93 = .ok (.aload_n 0, 1) := by decide +kernel
theorem dX3_copyFrom_94 : decode cX3_copyFrom 94 = .ok (.getfield 36, 3) := by decide +kernel
theorem dX3_copyFrom_97 : decode cX3_copyFrom 97 = .ok (.iconst 0, 1) := by decide +kernel
theorem dX3_copyFrom_98 : decode cX3_copyFrom 98 = .ok (.bipush 8, 2) := by decide +kernel
theorem dX3_copyFrom_100 : decode cX3_copyFrom 100 = .ok (.invokestatic 87, 3) := by decide +kernel
theorem dX3_copyFrom_103 : decode cX3_copyFrom 103 = .ok (.aload_n 1, 1) := by decide +kernel
theorem dX3_copyFrom_104 : decode cX3_copyFrom 104 = .ok (.getfield 39, 3) := by decide +kernel
theorem dX3_copyFrom_107 : decode cX3_copyFrom 107 = .ok (.iconst 0, 1) := by decide +kernel
theorem dX3_copyFrom_108 : decode cX3_copyFrom 108 = .ok (.aload_n 0, 1) := by decide +kernel
theorem dX3_copyFrom_109 : decode cX3_copyFrom 109 = .ok (.getfield 39, 3) := by decide +kernel
theorem dX3_copyFrom_112 : decode cX3_copyFrom 112 = .ok (.iconst 0, 1) := by decide +kernel
theorem dX3_copyFrom_113 : decode cX3_copyFrom 113 = .ok (.bipush 8, 2) := by decide +kernel
theorem dX3_copyFrom_115 : decode cX3_copyFrom 115 = .ok (.invokestatic 87, 3) := by decide +kernel
theorem dX3_copyFrom_118 : decode cX3_copyFrom 118 = .ok (.aload_n 1, 1) := by decide +kernel
theorem dX3_copyFrom_119 : decode cX3_copyFrom 119 = .ok (.getfield 42, 3) := by decide +kernel
theorem dX3_copyFrom_122 : decode cX3_copyFrom 122 = .ok (.iconst 0, 1) := by decide +kernel
theorem dX3_copyFrom_123 : decode cX3_copyFrom 123 = .ok (.aload_n 0, 1) := by decide +kernel
theorem dX3_copyFrom_124 : decode cX3_copyFrom 124 = .ok (.getfield 42, 3) := by decide +kernel
theorem dX3_copyFrom_127 : decode cX3_copyFrom 127 = .ok (.iconst 0, 1) := by decide +kernel
theorem dX3_copyFrom_128 : decode cX3_copyFrom 128 = .ok (.bipush 6, 2) := by decide +kernel
theorem dX3_copyFrom_130 : decode cX3_copyFrom 130 = .ok (.invokestatic 87, 3) := by decide +kernel
theorem dX3_copyFrom_133 : decode cX3_copyFrom 133 = .ok (.aload_n 1, 1) := by decide +kernel
theorem dX3_copyFrom_134 : decode cX3_copyFrom 134 = .ok (.getfield 45, 3) := by decide +kernel
theorem dX3_copyFrom_137 : decode cX3_copyFrom 137 = .ok (.iconst 0, 1) := by decide +kernel
theorem dX3_copyFrom_138 : decode cX3_copyFrom 138 = .ok (.aload_n 0, 1) := by decide +kernel
theorem dX3_copyFrom_139 : decode cX3_copyFrom 139 = .ok (.getfield 45, 3) := by decide +kernel
theorem dX3_copyFrom_142 : decode cX3_copyFrom 142 = .ok (.iconst 0, 1) := by decide +kernel
theorem dX3_copyFrom_143 : decode cX3_copyFrom 143 = .ok (.bipush 6, 2) := by decide +kernel
theorem dX3_copyFrom_145 : decode cX3_copyFrom 145 = .ok (.invokestatic 87, 3) := by decide +kernel
theorem dX3_copyFrom_148 : decode cX3_copyFrom 148 = .ok (.return_, 1) := by decide +kernel
theorem dX3_doorFrom_0 : decode cX3_doorFrom 0 = .ok (.aload_n 0, 1) := by decide +kernel
theorem dX3_doorFrom_1 : decode cX3_doorFrom 1 = .ok (.getfield 32, 3) := by decide +kernel
theorem dX3_doorFrom_4 : decode cX3_doorFrom 4 = .ok (.iload_n 1, 1) := by decide +kernel
theorem dX3_doorFrom_5 : decode cX3_doorFrom 5 = .ok (.invokestatic 100, 3) := by decide +kernel
theorem dX3_doorFrom_8 : decode cX3_doorFrom 8 = .ok (.ireturn, 1) := by decide +kernel
theorem dX3_doorLock_0 : decode cX3_doorLock 0 = .ok (.aload_n 0, 1) := by decide +kernel
theorem dX3_doorLock_1 : decode cX3_doorLock 1 = .ok (.getfield 39, 3) := by decide +kernel
theorem dX3_doorLock_4 : decode cX3_doorLock 4 = .ok (.iload_n 1, 1) := by decide +kernel
theorem dX3_doorLock_5 : decode cX3_doorLock 5 = .ok (.invokestatic 100, 3) := by decide +kernel
theorem dX3_doorLock_8 : decode cX3_doorLock 8 = .ok (.ireturn, 1) := by decide +kernel
theorem dX3_doorTo_0 : decode cX3_doorTo 0 = .ok (.aload_n 0, 1) := by decide +kernel
theorem dX3_doorTo_1 : decode cX3_doorTo 1 = .ok (.getfield 36, 3) := by decide +kernel
theorem dX3_doorTo_4 : decode cX3_doorTo 4 = .ok (.iload_n 1, 1) := by decide +kernel
theorem dX3_doorTo_5 : decode cX3_doorTo 5 = .ok (.invokestatic 100, 3) := by decide +kernel
theorem dX3_doorTo_8 : decode cX3_doorTo 8 = .ok (.ireturn, 1) := by decide +kernel
theorem dX3_hasDoor_0 : decode cX3_hasDoor 0 = .ok (.iload_n 1, 1) := by decide +kernel
theorem dX3_hasDoor_1 : decode cX3_hasDoor 1 = .ok (.ifCond .lt 15, 3) := by decide +kernel
theorem dX3_hasDoor_4 : decode cX3_hasDoor 4 = .ok (.iload_n 1, 1) := by decide +kernel
theorem dX3_hasDoor_5 : decode cX3_hasDoor 5 = .ok (.aload_n 0, 1) := by decide +kernel
theorem dX3_hasDoor_6 : decode cX3_hasDoor 6 = .ok (.getfield 65, 3) := by decide +kernel
theorem dX3_hasDoor_9 : decode cX3_hasDoor 9 = .ok (.if_icmp .ge 7, 3) := by decide +kernel
theorem dX3_hasDoor_12 : decode cX3_hasDoor 12 = .ok (.iconst 1, 1) := by decide +kernel
theorem dX3_hasDoor_13 : decode cX3_hasDoor 13 = .ok (.goto 4, 3) := by decide +kernel
theorem dX3_hasDoor_16 : decode cX3_hasDoor 16 = .ok (.iconst 0, 1) := by decide +kernel
theorem dX3_hasDoor_17 : decode cX3_hasDoor 17 = .ok (.ireturn, 1) := by decide +kernel
theorem dX3_hasKey_0 : decode cX3_hasKey 0 = .ok (.iload_n 1, 1) := by decide +kernel
theorem dX3_hasKey_1 : decode cX3_hasKey 1 = .ok (.ifCond .lt 15, 3) := by decide +kernel
theorem dX3_hasKey_4 : decode cX3_hasKey 4 = .ok (.iload_n 1, 1) := by decide +kernel
theorem dX3_hasKey_5 : decode cX3_hasKey 5 = .ok (.aload_n 0, 1) := by decide +kernel
theorem dX3_hasKey_6 : decode cX3_hasKey 6 = .ok (.getfield 55, 3) := by decide +kernel
theorem dX3_hasKey_9 : decode cX3_hasKey 9 = .ok (.if_icmp .ge 7, 3) := by decide +kernel
theorem dX3_hasKey_12 : decode cX3_hasKey 12 = .ok (.iconst 1, 1) := by decide +kernel
theorem dX3_hasKey_13 : decode cX3_hasKey 13 = .ok (.goto 4, 3) := by decide +kernel
theorem dX3_hasKey_16 : decode cX3_hasKey 16 = .ok (.iconst 0, 1) := by decide +kernel
theorem dX3_hasKey_17 : decode cX3_hasKey 17 = .ok (.ireturn, 1) := by decide +kernel
theorem dX3_hasKeys_0 : decode cX3_hasKeys 0 = .ok (.iload_n 1, 1) := by decide +kernel
theorem dX3_hasKeys_1 : decode cX3_hasKeys 1 = .ok (.aload_n 0, 1) := by decide +kernel
theorem dX3_hasKeys_2 : decode cX3_hasKeys 2 = .ok (.invokevirtual 93, 3) := by decide +kernel
theorem dX3_hasKeys_5 : decode cX3_hasKeys 5 = .ok (.iconst (-1), 1) := by decide +kernel
theorem dX3_hasKeys_6 : decode cX3_hasKeys 6 = .ok (.ixor, 1) := by decide +kernel
theorem dX3_hasKeys_7 : decode cX3_hasKeys 7 = .ok (.iand, 1) := by decide +kernel
theorem dX3_hasKeys_8 : decode cX3_hasKeys 8 = .ok (.ifCond .ne 7, 3) := by decide +kernel
theorem dX3_hasKeys_11 : decode cX3_hasKeys 11 = .ok (.iconst 1, 1) := by decide +kernel
theorem dX3_hasKeys_12 : decode cX3_hasKeys 12 = .ok (.goto 4, 3) := by decide +kernel
theorem dX3_hasKeys_15 : decode cX3_hasKeys 15 = .ok (.iconst 0, 1) := by decide +kernel
theorem dX3_hasKeys_16 : decode cX3_hasKeys 16 = .ok (.ireturn, 1) := by decide +kernel
theorem dX3_hasLock_0 : decode cX3_hasLock 0 = .ok (.iload_n 1, 1) := by decide +kernel
theorem dX3_hasLock_1 : decode cX3_hasLock 1 = .ok (.ifCond .lt 15, 3) := by decide +kernel
theorem dX3_hasLock_4 : decode cX3_hasLock 4 = .ok (.iload_n 1, 1) := by decide +kernel
theorem dX3_hasLock_5 : decode cX3_hasLock 5 = .ok (.aload_n 0, 1) := by decide +kernel
theorem dX3_hasLock_6 : decode cX3_hasLock 6 = .ok (.getfield 59, 3) := by decide +kernel
theorem dX3_hasLock_9 : decode cX3_hasLock 9 = .ok (.if_icmp .ge 7, 3) := by decide +kernel
theorem dX3_hasLock_12 : decode cX3_hasLock 12 = .ok (.iconst 1, 1) := by decide +kernel
theorem dX3_hasLock_13 : decode cX3_hasLock 13 = .ok (.goto 4, 3) := by decide +kernel
theorem dX3_hasLock_16 : decode cX3_hasLock 16 = .ok (.iconst 0, 1) := by decide +kernel
theorem dX3_hasLock_17 : decode cX3_hasLock 17 = .ok (.ireturn, 1) := by decide +kernel
theorem dX3_hasLocks_0 : decode cX3_hasLocks 0 = .ok (.iload_n 1, 1) := by decide +kernel
theorem dX3_hasLocks_1 : decode cX3_hasLocks 1 = .ok (.aload_n 0, 1) := by decide +kernel
theorem dX3_hasLocks_2 : decode cX3_hasLocks 2 = .ok (.invokevirtual 97, 3) := by decide +kernel
theorem dX3_hasLocks_5 : decode cX3_hasLocks 5 = .ok (.iconst (-1), 1) := by decide +kernel
theorem dX3_hasLocks_6 : decode cX3_hasLocks 6 = .ok (.ixor, 1) := by decide +kernel
theorem dX3_hasLocks_7 : decode cX3_hasLocks 7 = .ok (.iand, 1) := by decide +kernel
theorem dX3_hasLocks_8 : decode cX3_hasLocks 8 = .ok (.ifCond .ne 7, 3) := by decide +kernel
theorem dX3_hasLocks_11 : decode cX3_hasLocks 11 = .ok (.iconst 1, 1) := by decide +kernel
theorem dX3_hasLocks_12 : decode cX3_hasLocks 12 = .ok (.goto 4, 3) := by decide +kernel
theorem dX3_hasLocks_15 : decode cX3_hasLocks 15 = .ok (.iconst 0, 1) := by decide +kernel
theorem dX3_hasLocks_16 : decode cX3_hasLocks 16 = .ok (.ireturn, 1) := by decide +kernel
theorem dX3_hasPerson_0 : decode cX3_hasPerson 0 = .ok (.iload_n 1, 1) := by decide +kernel
theorem dX3_hasPerson_1 : decode cX3_hasPerson 1 = .ok (.ifCond .lt 15, 3) := by decide +kernel
theorem dX3_hasPerson_4 : decode cX3_hasPerson 4 = .ok (.iload_n 1, 1) := by decide +kernel
theorem dX3_hasPerson_5 : decode cX3_hasPerson 5 = .ok (.aload_n 0, 1) := by decide +kernel
theorem dX3_hasPerson_6 : decode cX3_hasPerson 6 = .ok (.getfield 68, 3) := by decide +kernel
theorem dX3_hasPerson_9 : decode cX3_hasPerson 9 = .ok (.if_icmp .ge 7, 3) := by decide +kernel
theorem dX3_hasPerson_12 : decode cX3_hasPerson 12 = .ok (.iconst 1, 1) := by decide +kernel
theorem dX3_hasPerson_13 : decode cX3_hasPerson 13 = .ok (.goto 4, 3) := by decide +kernel
theorem dX3_hasPerson_16 : decode cX3_hasPerson 16 = .ok (.iconst 0, 1) := by decide +kernel
theorem dX3_hasPerson_17 : decode cX3_hasPerson 17 = .ok (.ireturn, 1) := by decide +kernel
theorem dX3_hasRoom_0 : decode cX3_hasRoom 0 = .ok (.iload_n 1, 1) := by decide +kernel
theorem dX3_hasRoom_1 : decode cX3_hasRoom 1 = .ok (.ifCond .lt 15, 3) := by decide +kernel
theorem dX3_hasRoom_4 : decode cX3_hasRoom 4 = .ok (.iload_n 1, 1) := by decide +kernel
theorem dX3_hasRoom_5 : decode cX3_hasRoom 5 = .ok (.aload_n 0, 1) := by decide +kernel
theorem dX3_hasRoom_6 : decode cX3_hasRoom 6 = .ok (.getfield 62, 3) := by decide +kernel
theorem dX3_hasRoom_9 : decode cX3_hasRoom 9 = .ok (.if_icmp .ge 7, 3) := by decide +kernel
theorem dX3_hasRoom_12 : decode cX3_hasRoom 12 = .ok (.iconst 1, 1) := by decide +kernel
theorem dX3_hasRoom_13 : decode cX3_hasRoom 13 = .ok (.goto 4, 3) := by decide +kernel
theorem dX3_hasRoom_16 : decode cX3_hasRoom 16 = .ok (.iconst 0, 1) := by decide +kernel
theorem dX3_hasRoom_17 : decode cX3_hasRoom 17 = .ok (.ireturn, 1) := by decide +kernel
theorem dX3_init_0 : decode cX3_init 0 = .ok (.aload_n 0, 1) := by decide +kernel
theorem dX3_init_1 : decode cX3_init 1 = .ok (.invokespecial 3, 3) := by decide +kernel
theorem dX3_init_4 : decode cX3_init 4 = .ok (.aload_n 0, 1) := by decide +kernel
theorem dX3_init_5 : decode cX3_init 5 = .ok (.new 9, 3) := by decide +kernel
theorem dX3_init_8 : decode cX3_init 8 = .ok (.dup, 1) := by decide +kernel
theorem dX3_init_9 : decode cX3_init 9 = .ok (.invokespecial 11, 3) := by decide +kernel
theorem dX3_init_12 : decode cX3_init 12 = .ok (.putfield 12, 3) := by decide +kernel
theorem dX3_init_15 : decode cX3_init 15 = .ok (.aload_n 0, 1) := by decide +kernel
theorem dX3_init_16 : decode cX3_init 16 = .ok (.new 18, 3) := by decide +kernel
theorem dX3_init_19 : decode cX3_init 19 = .ok (.dup, 1) := by decide +kernel
theorem dX3_init_20 : decode cX3_init 20 = .ok (.invokespecial 20, 3) := by decide +kernel
theorem dX3_init_23 : decode cX3_init 23 = .ok (.putfield 21, 3) := by decide +kernel
theorem dX3_init_26 : decode cX3_init 26 = .ok (.aload_n 0, 1) := by decide +kernel
theorem dX3_init_27 : decode cX3_init 27 = .ok (.new 25, 3) := by decide +kernel
theorem dX3_init_30 : decode cX3_init 30 = .ok (.dup, 1) := by decide +kernel
theorem dX3_init_31 : decode cX3_init 31 = .ok (.invokespecial 27, 3) := by decide +kernel
theorem dX3_init_34 : decode cX3_init 34 = .ok (.putfield 28, 3) := by decide +kernel
theorem dX3_init_37 : decode cX3_init 37 = .ok (.aload_n 0, 1) := by decide +kernel
theorem dX3_init_38 : decode cX3_init 38 = .ok (.bipush 8, 2) := by decide +kernel
theorem dX3_init_40 : decode cX3_init 40 = .ok (.newarray .int, 2) := by decide +kernel
theorem dX3_init_42 : decode cX3_init 42 = .ok (.putfield 32, 3) := by decide +kernel
theorem dX3_init_45 : decode cX3_init 45 = .ok (.aload_n 0, 1) := by decide +kernel
theorem dX3_init_46 : decode cX3_init 46 = .ok (.bipush 8, 2) := by decide +kernel
theorem dX3_init_48 : decode cX3_init 48 = .ok (.newarray .int, 2) := by decide +kernel
theorem dX3_init_50 : decode cX3_init 50 = .ok (.putfield 36, 3) := by decide +kernel
theorem dX3_init_53 : decode cX3_init 53 = .ok (.aload_n 0, 1) := by decide +kernel
theorem dX3_init_54 : decode cX3_init 54 = .ok (.bipush 8, 2) := by decide +kernel
theorem dX3_init_56 : decode cX3_init 56 = .ok (.newarray .int, 2) := by decide +kernel
theorem dX3_init_58 : decode cX3_init 58 = .ok (.putfield 39, 3) := by decide +kernel
theorem dX3_init_61 : decode cX3_init 61 = .ok (.aload_n 0, 1) := by decide +kernel
theorem dX3_init_62 : decode cX3_init 62 = .ok (.bipush 6, 2) := by decide +kernel
theorem dX3_init_64 : decode cX3_init 64 = .ok (.newarray .int, 2) := by decide +kernel
theorem dX3_init_66 : decode cX3_init 66 = .ok (.putfield 42, 3) := by decide +kernel
theorem dX3_init_69 : decode cX3_init 69 = .ok (.aload_n 0, 1) := by decide +kernel
theorem dX3_init_70 : decode cX3_init 70 = .ok (.bipush 6, 2) := by decide +kernel
theorem dX3_init_72 : decode cX3_init 72 = .ok (.newarray .int, 2) := by decide +kernel
theorem dX3_init_74 : decode cX3_init 74 = .ok (.putfield 45, 3) := by decide +kernel
theorem dX3_init_77 : decode cX3_init 77 = .ok (.return_, 1) := by decide +kernel
theorem dX3_look_0 : decode cX3_look 0 = .ok (.iload_n 1, 1) := by decide +kernel
theorem dX3_look_1 : decode cX3_look 1 = .ok (.ifCond .lt 15, 3) := by decide +kernel
theorem dX3_look_4 : decode cX3_look 4 = .ok (.iload_n 1, 1) := by decide +kernel
theorem dX3_look_5 : decode cX3_look 5 = .ok (.aload_n 0, 1) := by decide +kernel
theorem dX3_look_6 : decode cX3_look 6 = .ok (.arraylength, 1) := by decide +kernel
theorem dX3_look_7 : decode cX3_look 7 = .ok (.if_icmp .ge 9, 3) := by decide +kernel
theorem dX3_look_10 : decode cX3_look 10 = .ok (.aload_n 0, 1) := by decide +kernel
theorem dX3_look_11 : decode cX3_look 11 = .ok (.iload_n 1, 1) := by decide +kernel
theorem dX3_look_12 : decode cX3_look 12 = .ok (.iaload, 1) := by decide +kernel
theorem dX3_look_13 : decode cX3_look 13 = .ok (.goto 4, 3) := by decide +kernel
theorem dX3_look_16 : decode cX3_look 16 = .ok (.iconst 0, 1) := by decide +kernel
theorem dX3_look_17 : decode cX3_look 17 = .ok (.ireturn, 1) := by decide +kernel
theorem dX3_mustOf_0 : decode cX3_mustOf 0 = .ok (.aload_n 0, 1) := by decide +kernel
theorem dX3_mustOf_1 : decode cX3_mustOf 1 = .ok (.getfield 42, 3) := by decide +kernel
theorem dX3_mustOf_4 : decode cX3_mustOf 4 = .ok (.iload_n 1, 1) := by decide +kernel
theorem dX3_mustOf_5 : decode cX3_mustOf 5 = .ok (.invokestatic 100, 3) := by decide +kernel
theorem dX3_mustOf_8 : decode cX3_mustOf 8 = .ok (.ireturn, 1) := by decide +kernel
theorem dX3_neverOf_0 : decode cX3_neverOf 0 = .ok (.aload_n 0, 1) := by decide +kernel
theorem dX3_neverOf_1 : decode cX3_neverOf 1 = .ok (.getfield 45, 3) := by decide +kernel
theorem dX3_neverOf_4 : decode cX3_neverOf 4 = .ok (.iload_n 1, 1) := by decide +kernel
theorem dX3_neverOf_5 : decode cX3_neverOf 5 = .ok (.invokestatic 100, 3) := by decide +kernel
theorem dX3_neverOf_8 : decode cX3_neverOf 8 = .ok (.ireturn, 1) := by decide +kernel
theorem dX3_otherSide_0 : decode cX3_otherSide 0 = .ok (.aload_n 0, 1) := by decide +kernel
theorem dX3_otherSide_1 : decode cX3_otherSide 1 = .ok (.iload_n 1, 1) := by decide +kernel
theorem dX3_otherSide_2 : decode cX3_otherSide 2 = .ok (.invokevirtual 104, 3) := by decide +kernel
theorem dX3_otherSide_5 : decode cX3_otherSide 5 = .ok (.iload_n 2, 1) := by decide +kernel
theorem dX3_otherSide_6 : decode cX3_otherSide 6 = .ok (.if_icmp .ne 9, 3) := by decide +kernel
theorem dX3_otherSide_9 : decode cX3_otherSide 9 = .ok (.aload_n 0, 1) := by decide +kernel
theorem dX3_otherSide_10 : decode cX3_otherSide 10 = .ok (.iload_n 1, 1) := by decide +kernel
theorem dX3_otherSide_11 : decode cX3_otherSide 11 = .ok (.invokevirtual 108, 3) := by decide +kernel
theorem dX3_otherSide_14 : decode cX3_otherSide 14 = .ok (.ireturn, 1) := by decide +kernel
theorem dX3_otherSide_15 : decode cX3_otherSide 15 = .ok (.aload_n 0, 1) := by decide +kernel
theorem dX3_otherSide_16 : decode cX3_otherSide 16 = .ok (.iload_n 1, 1) := by decide +kernel
theorem dX3_otherSide_17 : decode cX3_otherSide 17 = .ok (.invokevirtual 108, 3) := by decide +kernel
theorem dX3_otherSide_20 : decode cX3_otherSide 20 = .ok (.iload_n 2, 1) := by decide +kernel
theorem dX3_otherSide_21 : decode cX3_otherSide 21 = .ok (.if_icmp .ne 11, 3) := by decide +kernel
theorem dX3_otherSide_24 : decode cX3_otherSide 24 = .ok (.aload_n 0, 1) := by decide +kernel
theorem dX3_otherSide_25 : decode cX3_otherSide 25 = .ok (.iload_n 1, 1) := by decide +kernel
theorem dX3_otherSide_26 : decode cX3_otherSide 26 = .ok (.invokevirtual 104, 3) := by decide +kernel
theorem dX3_otherSide_29 : decode cX3_otherSide 29 = .ok (.goto 4, 3) := by decide +kernel
theorem dX3_otherSide_32 : decode cX3_otherSide 32 = .ok (.iconst (-1), 1) := by decide +kernel
theorem dX3_otherSide_33 : decode cX3_otherSide 33 = .ok (.ireturn, 1) := by decide +kernel
theorem dX4_beginOnce_0 : decode cX4_beginOnce 0 = .ok (.iconst 1, 1) := by decide +kernel
theorem dX4_beginOnce_1 : decode cX4_beginOnce 1 = .ok (.aload_n 0, 1) := by decide +kernel
theorem dX4_beginOnce_2 : decode cX4_beginOnce 2 = .ok (.getfield 30, 3) := by decide +kernel
theorem dX4_beginOnce_5 : decode cX4_beginOnce 5 = .ok (.getfield 49, 3) := by decide +kernel
theorem dX4_beginOnce_8 : decode cX4_beginOnce 8 = .ok (.ishl, 1) := by decide +kernel
theorem dX4_beginOnce_9 : decode cX4_beginOnce 9 = .ok (.istore_n 1, 1) := by decide +kernel
theorem dX4_beginOnce_10 : decode cX4_beginOnce 10 = .ok (.aload_n 0, 1) := by decide +kernel
theorem dX4_beginOnce_11 : decode cX4_beginOnce 11 = .ok (.getfield 42, 3) := by decide +kernel
theorem dX4_beginOnce_14 : decode cX4_beginOnce 14 = .ok (.iload_n 1, 1) := by decide +kernel
theorem dX4_beginOnce_15 : decode cX4_beginOnce 15 = .ok (.iand, 1) := by decide +kernel
theorem dX4_beginOnce_16 : decode cX4_beginOnce 16 = .ok (.ifCond .eq 8, 3) := by decide +kernel
theorem dX4_beginOnce_19 : decode cX4_beginOnce 19 = .ok (.aload_n 0, 1) := by decide +kernel
theorem dX4_beginOnce_20 : decode cX4_beginOnce 20 = .ok (.invokevirtual 63, 3) := by decide +kernel
theorem dX4_beginOnce_23 : decode cX4_beginOnce 23 = .ok (.ireturn, 1) := by decide +kernel
theorem dX4_beginOnce_24 : decode cX4_beginOnce 24 = .ok (.aload_n 0, 1) := by decide +kernel
theorem dX4_beginOnce_25 : decode cX4_beginOnce 25 = .ok (.dup, 1) := by decide +kernel
theorem dX4_beginOnce_26 : decode cX4_beginOnce 26 = .ok (.getfield 42, 3) := by decide +kernel
theorem dX4_beginOnce_29 : decode cX4_beginOnce 29 = .ok (.iload_n 1, 1) := by decide +kernel
theorem dX4_beginOnce_30 : decode cX4_beginOnce 30 = .ok (.ior, 1) := by decide +kernel
theorem dX4_beginOnce_31 : decode cX4_beginOnce 31 = .ok (.putfield 42, 3) := by decide +kernel
theorem dX4_beginOnce_34 : decode cX4_beginOnce 34 = .ok (.aload_n 0, 1) := by decide +kernel
theorem dX4_beginOnce_35 : decode cX4_beginOnce 35 = .ok (.getfield 30, 3) := by decide +kernel
theorem dX4_beginOnce_38 : decode cX4_beginOnce 38 = .ok (.invokevirtual 66, 3) := by decide +kernel
theorem dX4_beginOnce_41 : decode cX4_beginOnce 41 = .ok (.iconst 1, 1) := by decide +kernel
theorem dX4_beginOnce_42 : decode cX4_beginOnce 42 = .ok (.ireturn, 1) := by decide +kernel
theorem dX4_blame_0 : decode cX4_blame 0 = .ok (.aload_n 0, 1) := by decide +kernel
theorem dX4_blame_1 : decode cX4_blame 1 = .ok (.iload_n 1, 1) := by decide +kernel
theorem dX4_blame_2 : decode cX4_blame 2 = .ok (.putfield 18, 3) := by decide +kernel
theorem dX4_blame_5 : decode cX4_blame 5 = .ok (.aload_n 0, 1) := by decide +kernel
theorem dX4_blame_6 : decode cX4_blame 6 = .ok (.aload_n 0, 1) := by decide +kernel
theorem dX4_blame_7 : decode cX4_blame 7 = .ok (.getfield 30, 3) := by decide +kernel
theorem dX4_blame_10 : decode cX4_blame 10 = .ok (.getfield 56, 3) := by decide +kernel
theorem dX4_blame_13 : decode cX4_blame 13 = .ok (.putfield 22, 3) := by decide +kernel
theorem dX4_blame_16 : decode cX4_blame 16 = .ok (.iconst 0, 1) := by decide +kernel
theorem dX4_blame_17 : decode cX4_blame 17 = .ok (.ireturn, 1) := by decide +kernel
theorem dX4_depthHere_0 : decode cX4_depthHere 0 = .ok (.aload_n 0, 1) := by decide +kernel
theorem dX4_depthHere_1 : decode cX4_depthHere 1 = .ok (.getfield 30, 3) := by decide +kernel
theorem dX4_depthHere_4 : decode cX4_depthHere 4 = .ok (.getfield 49, 3) := by decide +kernel
theorem dX4_depthHere_7 : decode cX4_depthHere 7 = .ok (.bipush 24, 2) := by decide +kernel
theorem dX4_depthHere_9 : decode cX4_depthHere 9 = .ok (.if_icmp .eq 10, 3) := by decide +kernel
theorem dX4_depthHere_12 : decode cX4_depthHere 12 = .ok (.aload_n 0, 1) := by decide +kernel
theorem dX4_depthHere_13 : decode cX4_depthHere 13 = .ok (.invokevirtual 63, 3) := by decide +kernel
theorem dX4_depthHere_16 : decode cX4_depthHere 16 = .ok (.pop, 1) := by decide +kernel
theorem dX4_depthHere_17 : decode cX4_depthHere 17 = .ok (.iconst (-1), 1) := by decide +kernel
theorem dX4_depthHere_18 : decode cX4_depthHere 18 = .ok (.ireturn, 1) := by decide +kernel
theorem dX4_depthHere_19 : decode cX4_depthHere 19 = .ok (.aload_n 0, 1) := by decide +kernel
theorem dX4_depthHere_20 : decode cX4_depthHere 20 = .ok (.getfield 12, 3) := by decide +kernel
theorem dX4_depthHere_23 : decode cX4_depthHere 23 = .ok (.getfield 109, 3) := by decide +kernel
theorem dX4_depthHere_26 : decode cX4_depthHere 26 = .ok (.aload_n 0, 1) := by decide +kernel
theorem dX4_depthHere_27 : decode cX4_depthHere 27 = .ok (.getfield 30, 3) := by decide +kernel
theorem dX4_depthHere_30 : decode cX4_depthHere 30 = .ok (.getfield 106, 3) := by decide +kernel
theorem dX4_depthHere_33 : decode cX4_depthHere 33 = .ok (.invokevirtual 141, 3) := by decide +kernel
theorem dX4_depthHere_36 : decode cX4_depthHere 36 = .ok (.ifCond .ne 11, 3) := by decide +kernel
theorem dX4_depthHere_39 : decode cX4_depthHere 39 = .ok (.aload_n 0, 1) := by decide +kernel
theorem dX4_depthHere_40 : decode cX4_depthHere 40 = .ok (.iconst 4, 1) := by decide +kernel
theorem dX4_depthHere_41 : decode cX4_depthHere 41 = .ok (.invokevirtual 59, 3) := by decide +kernel
theorem dX4_depthHere_44 : decode cX4_depthHere 44 = .ok (.pop, 1) := by decide +kernel
theorem dX4_depthHere_45 : decode cX4_depthHere 45 = .ok (.iconst (-1), 1) := by decide +kernel
theorem dX4_depthHere_46 : decode cX4_depthHere 46 = .ok (.ireturn, 1) := by decide +kernel
theorem dX4_depthHere_47 : decode cX4_depthHere 47 = .ok (.aload_n 0, 1) := by decide +kernel
theorem dX4_depthHere_48 : decode cX4_depthHere 48 = .ok (.getfield 30, 3) := by decide +kernel
theorem dX4_depthHere_51 : decode cX4_depthHere 51 = .ok (.getfield 106, 3) := by decide +kernel
theorem dX4_depthHere_54 : decode cX4_depthHere 54 = .ok (.ireturn, 1) := by decide +kernel
theorem dX4_expect_0 : decode cX4_expect 0 = .ok (.aload_n 0, 1) := by decide +kernel
theorem dX4_expect_1 : decode cX4_expect 1 = .ok (.getfield 30, 3) := by decide +kernel
theorem dX4_expect_4 : decode cX4_expect 4 = .ok (.getfield 49, 3) := by decide +kernel
theorem dX4_expect_7 : decode cX4_expect 7 = .ok (.iload_n 1, 1) := by decide +kernel
theorem dX4_expect_8 : decode cX4_expect 8 = .ok (.if_icmp .eq 8, 3) := by decide +kernel
theorem dX4_expect_11 : decode cX4_expect 11 = .ok (.aload_n 0, 1) := by decide +kernel
theorem dX4_expect_12 : decode cX4_expect 12 = .ok (.invokevirtual 63, 3) := by decide +kernel
theorem dX4_expect_15 : decode cX4_expect 15 = .ok (.ireturn, 1) := by decide +kernel
theorem dX4_expect_16 : decode cX4_expect 16 = .ok (.aload_n 0, 1) := by decide +kernel
theorem dX4_expect_17 : decode cX4_expect 17 = .ok (.getfield 30, 3) := by decide +kernel
theorem dX4_expect_20 : decode cX4_expect 20 = .ok (.invokevirtual 66, 3) := by decide +kernel
theorem dX4_expect_23 : decode cX4_expect 23 = .ok (.iconst 1, 1) := by decide +kernel
theorem dX4_expect_24 : decode cX4_expect 24 = .ok (.ireturn, 1) := by decide +kernel
theorem dX4_init_0 : decode cX4_init 0 = .ok (.aload_n 0, 1) := by decide +kernel
theorem dX4_init_1 : decode cX4_init 1 = .ok (.invokespecial 3, 3) := by decide +kernel
theorem dX4_init_4 : decode cX4_init 4 = .ok (.aload_n 0, 1) := by decide +kernel
theorem dX4_init_5 : decode cX4_init 5 = .ok (.new 9, 3) := by decide +kernel
theorem dX4_init_8 : decode cX4_init 8 = .ok (.dup, 1) := by decide +kernel
theorem dX4_init_9 : decode cX4_init 9 = .ok (.invokespecial 11, 3) := by decide +kernel
theorem dX4_init_12 : decode cX4_init 12 = .ok (.putfield 12, 3) := by decide +kernel
theorem dX4_init_15 : decode cX4_init 15 = .ok (.aload_n 0, 1) := by decide +kernel
theorem dX4_init_16 : decode cX4_init 16 = .ok (.iconst 0, 1) := by decide +kernel
theorem dX4_init_17 : decode cX4_init 17 = .ok (.putfield 18, 3) := by decide +kernel
theorem dX4_init_20 : decode cX4_init 20 = .ok (.aload_n 0, 1) := by decide +kernel
theorem dX4_init_21 : decode cX4_init 21 = .ok (.iconst (-1), 1) := by decide +kernel
theorem dX4_init_22 : decode cX4_init 22 = .ok (.putfield 22, 3) := by decide +kernel
theorem dX4_init_25 : decode cX4_init 25 = .ok (.aload_n 0, 1) := by decide +kernel
theorem dX4_init_26 : decode cX4_init 26 = .ok (.new 25, 3) := by decide +kernel
theorem dX4_init_29 : decode cX4_init 29 = .ok (.dup, 1) := by decide +kernel
theorem dX4_init_30 : decode cX4_init 30 = .ok (.aload_n 1, 1) := by decide +kernel
theorem dX4_init_31 : decode cX4_init 31 = .ok (.invokespecial 27, 3) := by decide +kernel
theorem dX4_init_34 : decode cX4_init 34 = .ok (.putfield 30, 3) := by decide +kernel
theorem dX4_init_37 : decode cX4_init 37 = .ok (.aload_n 0, 1) := by decide +kernel
theorem dX4_init_38 : decode cX4_init 38 = .ok (.iconst 5, 1) := by decide +kernel
theorem dX4_init_39 : decode cX4_init 39 = .ok (.bipush 8, 2) := by decide +kernel
theorem dX4_init_41 : decode cX4_init 41 = .ok (.multianewarray 34 2, 4) := by decide +kernel
theorem dX4_init_45 : decode cX4_init 45 = .ok (.putfield 36, 3) := by decide +kernel
theorem dX4_init_48 : decode cX4_init 48 = .ok (.return_, 1) := by decide +kernel
theorem dX4_knownName_0 : decode cX4_knownName 0 = .ok (.aload_n 0, 1) := by decide +kernel
theorem dX4_knownName_1 : decode cX4_knownName 1 = .ok (.getfield 30, 3) := by decide +kernel
theorem dX4_knownName_4 : decode cX4_knownName 4 = .ok (.getfield 49, 3) := by decide +kernel
theorem dX4_knownName_7 : decode cX4_knownName 7 = .ok (.bipush 23, 2) := by decide +kernel
theorem dX4_knownName_9 : decode cX4_knownName 9 = .ok (.if_icmp .eq 10, 3) := by decide +kernel
theorem dX4_knownName_12 : decode cX4_knownName 12 = .ok (.aload_n 0, 1) := by decide +kernel
theorem dX4_knownName_13 : decode cX4_knownName 13 = .ok (.invokevirtual 63, 3) := by decide +kernel
theorem dX4_knownName_16 : decode cX4_knownName 16 = .ok (.pop, 1) := by decide +kernel
theorem dX4_knownName_17 : decode cX4_knownName 17 = .ok (.iconst (-1), 1) := by decide +kernel
theorem dX4_knownName_18 : decode cX4_knownName 18 = .ok (.ireturn, 1) := by decide +kernel
theorem dX4_knownName_19 : decode cX4_knownName 19 = .ok (.aload_n 0, 1) := by decide +kernel
theorem dX4_knownName_20 : decode cX4_knownName 20 = .ok (.iload_n 1, 1) := by decide +kernel
theorem dX4_knownName_21 : decode cX4_knownName 21 = .ok (.iload_n 2, 1) := by decide +kernel
theorem dX4_knownName_22 : decode cX4_knownName 22 = .ok (.invokevirtual 137, 3) := by decide +kernel
theorem dX4_knownName_25 : decode cX4_knownName 25 = .ok (.istore_n 3, 1) := by decide +kernel
theorem dX4_knownName_26 : decode cX4_knownName 26 = .ok (.iload_n 3, 1) := by decide +kernel
theorem dX4_knownName_27 : decode cX4_knownName 27 = .ok (.iconst (-1), 1) := by decide +kernel
theorem dX4_knownName_28 : decode cX4_knownName 28 = .ok (.if_icmp .ne 9, 3) := by decide +kernel
theorem dX4_knownName_31 : decode cX4_knownName 31 = .ok (.aload_n 0, 1) := by decide +kernel
theorem dX4_knownName_32 : decode cX4_knownName 32 = .ok (.iconst 5, 1) := by decide +kernel
theorem dX4_knownName_33 : decode cX4_knownName 33 = .ok (.invokevirtual 59, 3) := by decide +kernel
theorem dX4_knownName_36 : decode cX4_knownName 36 = .ok (.pop, 1) := by decide +kernel
theorem dX4_knownName_37 : decode cX4_knownName 37 = .ok (.iload_n 3, 1) := by decide +kernel
theorem dX4_knownName_38 : decode cX4_knownName 38 = .ok (.ireturn, 1) := by decide +kernel
theorem dX4_named_0 : decode cX4_named 0 = .ok (.iload_n 1, 1) := by decide +kernel
theorem dX4_named_1 : decode cX4_named 1 = .ok (.ifCond .lt 8, 3) := by decide +kernel
theorem dX4_named_4 : decode cX4_named 4 = .ok (.iload_n 1, 1) := by decide +kernel
theorem dX4_named_5 : decode cX4_named 5 = .ok (.iconst 5, 1) := by decide +kernel
theorem dX4_named_6 : decode cX4_named 6 = .ok (.if_icmp .lt 5, 3) := by decide +kernel
theorem dX4_named_9 : decode cX4_named 9 = .ok (.iconst (-1), 1) := by decide +kernel
theorem dX4_named_10 : decode cX4_named 10 = .ok (.ireturn, 1) := by decide +kernel
theorem dX4_named_11 : decode cX4_named 11 = .ok (.iconst 0, 1) := by decide +kernel
theorem dX4_named_12 : decode cX4_named 12 = .ok (.istore_n 3, 1) := by decide +kernel
theorem dX4_named_13 : decode cX4_named 13 = .ok (.iload_n 3, 1) := by decide +kernel
theorem dX4_named_14 : decode cX4_named 14 = .ok (.iload_n 2, 1) := by decide +kernel
theorem dX4_named_15 : decode cX4_named 15 = .ok (.if_icmp .ge 36, 3) := by decide +kernel
theorem dX4_named_18 : decode cX4_named 18 = .ok (.iload_n 3, 1) := by decide +kernel
theorem dX4_named_19 : decode cX4_named 19 = .ok (.bipush 8, 2) := by decide +kernel
theorem dX4_named_21 : decode cX4_named 21 = .ok (.if_icmp .ge 30, 3) := by decide +kernel
theorem dX4_named_24 : decode cX4_named 24 = .ok (.aload_n 0, 1) := by decide +kernel
theorem dX4_named_25 : decode cX4_named 25 = .ok (.getfield 36, 3) := by decide +kernel
theorem dX4_named_28 : decode cX4_named 28 = .ok (.iload_n 1, 1) := by decide +kernel
theorem dX4_named_29 : decode cX4_named 29 = .ok (.aaload, 1) := by decide +kernel
theorem dX4_named_30 : decode cX4_named 30 = .ok (.iload_n 3, 1) := by decide +kernel
theorem dX4_named_31 : decode cX4_named 31 = .ok (.laload, 1) := by decide +kernel
theorem dX4_named_32 : decode cX4_named 32 = .ok (.aload_n 0, 1) := by decide +kernel
theorem dX4_named_33 : decode cX4_named 33 = .ok (.getfield 30, 3) := by decide +kernel
theorem dX4_named_36 : decode cX4_named 36 = .ok (.getfield 133, 3) := by decide +kernel
theorem dX4_named_39 : decode cX4_named 39 = .ok (.lcmp, 1) := by decide +kernel
theorem dX4_named_40 : decode cX4_named 40 = .ok (.ifCond .ne 5, 3) := by decide +kernel
theorem dX4_named_43 : decode cX4_named 43 = .ok (.iload_n 3, 1) := by decide +kernel
theorem dX4_named_44 : decode cX4_named 44 = .ok (.ireturn, 1) := by decide +kernel
theorem dX4_named_45 : decode cX4_named 45 = .ok (.iinc 3 1, 3) := by decide +kernel
theorem dX4_named_48 : decode cX4_named 48 = .ok (.goto (-35), 3) := by decide +kernel
theorem dX4_named_51 : decode cX4_named 51 = .ok (.iconst (-1), 1) := by decide +kernel
theorem dX4_named_52 : decode cX4_named 52 = .ok (.ireturn, 1) := by decide +kernel
theorem dX4_productHere_0 : decode cX4_productHere 0 = .ok (.aload_n 0, 1) := by decide +kernel
theorem dX4_productHere_1 : decode cX4_productHere 1 = .ok (.getfield 30, 3) := by decide +kernel
theorem dX4_productHere_4 : decode cX4_productHere 4 = .ok (.getfield 49, 3) := by decide +kernel
theorem dX4_productHere_7 : decode cX4_productHere 7 = .ok (.lookupswitch 42 #[(37, 39), (42, 33), (47, 36)], 33) := by decide +kernel
theorem dX4_productHere_40 : decode cX4_productHere 40 = .ok (.bipush 13, 2) := by decide +kernel
theorem dX4_productHere_42 : decode cX4_productHere 42 = .ok (.ireturn, 1) := by decide +kernel
theorem dX4_productHere_43 : decode cX4_productHere 43 = .ok (.bipush 14, 2) := by decide +kernel
theorem dX4_productHere_45 : decode cX4_productHere 45 = .ok (.ireturn, 1) := by decide +kernel
theorem dX4_productHere_46 : decode cX4_productHere 46 = .ok (.bipush 15, 2) := by decide +kernel
theorem dX4_productHere_48 : decode cX4_productHere 48 = .ok (.ireturn, 1) := by decide +kernel
theorem dX4_productHere_49 : decode cX4_productHere 49 = .ok (.iconst (-1), 1) := by decide +kernel
theorem dX4_productHere_50 : decode cX4_productHere 50 = .ok (.ireturn, 1) := by decide +kernel
theorem dX4_readAll_0 : decode cX4_readAll 0 = .ok (.aload_n 0, 1) := by decide +kernel
theorem dX4_readAll_1 : decode cX4_readAll 1 = .ok (.getfield 12, 3) := by decide +kernel
theorem dX4_readAll_4 : decode cX4_readAll 4 = .ok (.invokevirtual 39, 3) := by decide +kernel
theorem dX4_readAll_7 : decode cX4_readAll 7 = .ok (.aload_n 0, 1) := by decide +kernel
theorem dX4_readAll_8 : decode cX4_readAll 8 = .ok (.iconst 0, 1) := by decide +kernel
theorem dX4_readAll_9 : decode cX4_readAll 9 = .ok (.putfield 18, 3) := by decide +kernel
theorem dX4_readAll_12 : decode cX4_readAll 12 = .ok (.aload_n 0, 1) := by decide +kernel
theorem dX4_readAll_13 : decode cX4_readAll 13 = .ok (.iconst (-1), 1) := by decide +kernel
theorem dX4_readAll_14 : decode cX4_readAll 14 = .ok (.putfield 22, 3) := by decide +kernel
theorem dX4_readAll_17 : decode cX4_readAll 17 = .ok (.aload_n 0, 1) := by decide +kernel
theorem dX4_readAll_18 : decode cX4_readAll 18 = .ok (.iconst 0, 1) := by decide +kernel
theorem dX4_readAll_19 : decode cX4_readAll 19 = .ok (.putfield 42, 3) := by decide +kernel
theorem dX4_readAll_22 : decode cX4_readAll 22 = .ok (.aload_n 0, 1) := by decide +kernel
theorem dX4_readAll_23 : decode cX4_readAll 23 = .ok (.getfield 30, 3) := by decide +kernel
theorem dX4_readAll_26 : decode cX4_readAll 26 = .ok (.iload_n 1, 1) := by decide +kernel
theorem dX4_readAll_27 : decode cX4_readAll 27 = .ok (.invokevirtual 45, 3) := by decide +kernel
theorem dX4_readAll_30 : decode cX4_readAll 30 = .ok (.iconst 1, 1) := by decide +kernel
theorem dX4_readAll_31 : decode cX4_readAll 31 = .ok (.istore_n 2, 1) := by decide +kernel
theorem dX4_readAll_32 : decode cX4_readAll 32 = .ok (.iconst 0, 1) := by decide +kernel
theorem dX4_readAll_33 : decode cX4_readAll 33 = .ok (.istore_n 3, 1) := by decide +kernel
theorem dX4_readAll_34 : decode cX4_readAll 34 = .ok (.iload_n 3, 1) := by decide +kernel
theorem dX4_readAll_35 : decode cX4_readAll 35 = .ok (.sipush 1600, 3) := by decide +kernel
theorem dX4_readAll_38 : decode cX4_readAll 38 = .ok (.if_icmp .gt 30, 3) := by decide +kernel
theorem dX4_readAll_41 : decode cX4_readAll 41 = .ok (.iload_n 2, 1) := by decide +kernel
theorem dX4_readAll_42 : decode cX4_readAll 42 = .ok (.ifCond .eq 26, 3) := by decide +kernel
theorem dX4_readAll_45 : decode cX4_readAll 45 = .ok (.aload_n 0, 1) := by decide +kernel
theorem dX4_readAll_46 : decode cX4_readAll 46 = .ok (.getfield 30, 3) := by decide +kernel
theorem dX4_readAll_49 : decode cX4_readAll 49 = .ok (.getfield 49, 3) := by decide +kernel
theorem dX4_readAll_52 : decode cX4_readAll 52 = .ok (.bipush 26, 2) := by decide +kernel
theorem dX4_readAll_54 : decode cX4_readAll 54 = .ok (.if_icmp .eq 14, 3) := by decide +kernel
theorem dX4_readAll_57 : decode cX4_readAll 57 = .ok (.aload_n 0, 1) := by decide +kernel
theorem dX4_readAll_58 : decode cX4_readAll 58 = .ok (.invokevirtual 52, 3) := by decide +kernel
theorem dX4_readAll_61 : decode cX4_readAll 61 = .ok (.istore_n 2, 1) := by decide +kernel
theorem dX4_readAll_62 : decode cX4_readAll 62 = .ok (.iinc 3 1, 3) := by decide +kernel
theorem dX4_readAll_65 : decode cX4_readAll 65 = .ok (.goto (-31), 3) := by decide +kernel
theorem dX4_readAll_68 : decode cX4_readAll 68 = .ok (.iload_n 2, 1) := by decide +kernel
theorem dX4_readAll_69 : decode cX4_readAll 69 = .ok (.ireturn, 1) := by decide +kernel
theorem dX4_readBoth_0 : decode cX4_readBoth 0 = .ok (.aload_n 0, 1) := by decide +kernel
theorem dX4_readBoth_1 : decode cX4_readBoth 1 = .ok (.iload_n 1, 1) := by decide +kernel
theorem dX4_readBoth_2 : decode cX4_readBoth 2 = .ok (.invokevirtual 223, 3) := by decide +kernel
theorem dX4_readBoth_5 : decode cX4_readBoth 5 = .ok (.istore_n 2, 1) := by decide +kernel
theorem dX4_readBoth_6 : decode cX4_readBoth 6 = .ok (.iconst 0, 1) := by decide +kernel
theorem dX4_readBoth_7 : decode cX4_readBoth 7 = .ok (.istore_n 3, 1) := by decide +kernel
theorem dX4_readBoth_8 : decode cX4_readBoth 8 = .ok (.iload_n 3, 1) := by decide +kernel
theorem dX4_readBoth_9 : decode cX4_readBoth 9 = .ok (.sipush 1600, 3) := by decide +kernel
theorem dX4_readBoth_12 : decode cX4_readBoth 12 = .ok (.if_icmp .ge 51, 3) := by decide +kernel
theorem dX4_readBoth_15 : decode cX4_readBoth 15 = .ok (.iload_n 2, 1) := by decide +kernel
theorem dX4_readBoth_16 : decode cX4_readBoth 16 = .ok (.ifCond .eq 47, 3) := by decide +kernel
theorem dX4_readBoth_19 : decode cX4_readBoth 19 = .ok (.aload_n 0, 1) := by decide +kernel
theorem dX4_readBoth_20 : decode cX4_readBoth 20 = .ok (.getfield 30, 3) := by decide +kernel
theorem dX4_readBoth_23 : decode cX4_readBoth 23 = .ok (.getfield 49, 3) := by decide +kernel
theorem dX4_readBoth_26 : decode cX4_readBoth 26 = .ok (.bipush 17, 2) := by decide +kernel
theorem dX4_readBoth_28 : decode cX4_readBoth 28 = .ok (.if_icmp .ne 35, 3) := by decide +kernel
theorem dX4_readBoth_31 : decode cX4_readBoth 31 = .ok (.aload_n 0, 1) := by decide +kernel
theorem dX4_readBoth_32 : decode cX4_readBoth 32 = .ok (.getfield 30, 3) := by decide +kernel
theorem dX4_readBoth_35 : decode cX4_readBoth 35 = .ok (.invokevirtual 66, 3) := by decide +kernel
theorem dX4_readBoth_38 : decode cX4_readBoth 38 = .ok (.aload_n 0, 1) := by decide +kernel
theorem dX4_readBoth_39 : decode cX4_readBoth 39 = .ok (.iload_n 1, 1) := by decide +kernel
theorem dX4_readBoth_40 : decode cX4_readBoth 40 = .ok (.invokevirtual 223, 3) := by decide +kernel
theorem dX4_readBoth_43 : decode cX4_readBoth 43 = .ok (.istore_n 2, 1) := by decide +kernel
theorem dX4_readBoth_44 : decode cX4_readBoth 44 = .ok (.aload_n 0, 1) := by decide +kernel
theorem dX4_readBoth_45 : decode cX4_readBoth 45 = .ok (.getfield 12, 3) := by decide +kernel
theorem dX4_readBoth_48 : decode cX4_readBoth 48 = .ok (.getfield 214, 3) := by decide +kernel
theorem dX4_readBoth_51 : decode cX4_readBoth 51 = .ok (.bipush 7, 2) := by decide +kernel
theorem dX4_readBoth_53 : decode cX4_readBoth 53 = .ok (.iconst 0, 1) := by decide +kernel
theorem dX4_readBoth_54 : decode cX4_readBoth 54 = .ok (.invokevirtual 220, 3) := by decide +kernel
theorem dX4_readBoth_57 : decode cX4_readBoth 57 = .ok (.iinc 3 1, 3) := by decide +kernel
theorem dX4_readBoth_60 : decode cX4_readBoth 60 = .ok (.goto (-52), 3) := by decide +kernel
theorem dX4_readBoth_63 : decode cX4_readBoth 63 = .ok (.iload_n 2, 1) := by decide +kernel
theorem dX4_readBoth_64 : decode cX4_readBoth 64 = .ok (.ireturn, 1) := by decide +kernel
theorem dX4_readDoor_0 : decode cX4_readDoor 0 = .ok (.aload_n 0, 1) := by decide +kernel
theorem dX4_readDoor_1 : decode cX4_readDoor 1 = .ok (.iconst 3, 1) := by decide +kernel
theorem dX4_readDoor_2 : decode cX4_readDoor 2 = .ok (.aload_n 0, 1) := by decide +kernel
theorem dX4_readDoor_3 : decode cX4_readDoor 3 = .ok (.getfield 12, 3) := by decide +kernel
theorem dX4_readDoor_6 : decode cX4_readDoor 6 = .ok (.getfield 177, 3) := by decide +kernel
theorem dX4_readDoor_9 : decode cX4_readDoor 9 = .ok (.bipush 8, 2) := by decide +kernel
theorem dX4_readDoor_11 : decode cX4_readDoor 11 = .ok (.invokevirtual 144, 3) := by decide +kernel
theorem dX4_readDoor_14 : decode cX4_readDoor 14 = .ok (.ifCond .eq 12, 3) := by decide +kernel
theorem dX4_readDoor_17 : decode cX4_readDoor 17 = .ok (.aload_n 0, 1) := by decide +kernel
theorem dX4_readDoor_18 : decode cX4_readDoor 18 = .ok (.bipush 12, 2) := by decide +kernel
theorem dX4_readDoor_20 : decode cX4_readDoor 20 = .ok (.invokevirtual 97, 3) := by decide +kernel
theorem dX4_readDoor_23 : decode cX4_readDoor 23 = .ok (.ifCond .ne 5, 3) := by decide +kernel
theorem dX4_readDoor_26 : decode cX4_readDoor 26 = .ok (.iconst 0, 1) := by decide +kernel
theorem dX4_readDoor_27 : decode cX4_readDoor 27 = .ok (.ireturn, 1) := by decide +kernel
theorem dX4_readDoor_28 : decode cX4_readDoor 28 = .ok (.aload_n 0, 1) := by decide +kernel
theorem dX4_readDoor_29 : decode cX4_readDoor 29 = .ok (.iconst 2, 1) := by decide +kernel
theorem dX4_readDoor_30 : decode cX4_readDoor 30 = .ok (.aload_n 0, 1) := by decide +kernel
theorem dX4_readDoor_31 : decode cX4_readDoor 31 = .ok (.getfield 12, 3) := by decide +kernel
theorem dX4_readDoor_34 : decode cX4_readDoor 34 = .ok (.getfield 174, 3) := by decide +kernel
theorem dX4_readDoor_37 : decode cX4_readDoor 37 = .ok (.invokevirtual 180, 3) := by decide +kernel
theorem dX4_readDoor_40 : decode cX4_readDoor 40 = .ok (.istore_n 1, 1) := by decide +kernel
theorem dX4_readDoor_41 : decode cX4_readDoor 41 = .ok (.iload_n 1, 1) := by decide +kernel
theorem dX4_readDoor_42 : decode cX4_readDoor 42 = .ok (.iconst (-1), 1) := by decide +kernel
theorem dX4_readDoor_43 : decode cX4_readDoor 43 = .ok (.if_icmp .ne 5, 3) := by decide +kernel
theorem dX4_readDoor_46 : decode cX4_readDoor 46 = .ok (.iconst 0, 1) := by decide +kernel
theorem dX4_readDoor_47 : decode cX4_readDoor 47 = .ok (.ireturn, 1) := by decide +kernel
theorem dX4_readDoor_48 : decode cX4_readDoor 48 = .ok (.aload_n 0, 1) := by decide +kernel
theorem dX4_readDoor_49 : decode cX4_readDoor 49 = .ok (.getfield 30, 3) := by decide +kernel
theorem dX4_readDoor_52 : decode cX4_readDoor 52 = .ok (.invokevirtual 66, 3) := by decide +kernel
theorem dX4_readDoor_55 : decode cX4_readDoor 55 = .ok (.aload_n 0, 1) := by decide +kernel
theorem dX4_readDoor_56 : decode cX4_readDoor 56 = .ok (.bipush 13, 2) := by decide +kernel
theorem dX4_readDoor_58 : decode cX4_readDoor 58 = .ok (.invokevirtual 97, 3) := by decide +kernel
theorem dX4_readDoor_61 : decode cX4_readDoor 61 = .ok (.ifCond .ne 5, 3) := by decide +kernel
theorem dX4_readDoor_64 : decode cX4_readDoor 64 = .ok (.iconst 0, 1) := by decide +kernel
theorem dX4_readDoor_65 : decode cX4_readDoor 65 = .ok (.ireturn, 1) := by decide +kernel
theorem dX4_readDoor_66 : decode cX4_readDoor 66 = .ok (.aload_n 0, 1) := by decide +kernel
theorem dX4_readDoor_67 : decode cX4_readDoor 67 = .ok (.iconst 2, 1) := by decide +kernel
theorem dX4_readDoor_68 : decode cX4_readDoor 68 = .ok (.aload_n 0, 1) := by decide +kernel
theorem dX4_readDoor_69 : decode cX4_readDoor 69 = .ok (.getfield 12, 3) := by decide +kernel
theorem dX4_readDoor_72 : decode cX4_readDoor 72 = .ok (.getfield 174, 3) := by decide +kernel
theorem dX4_readDoor_75 : decode cX4_readDoor 75 = .ok (.invokevirtual 180, 3) := by decide +kernel
theorem dX4_readDoor_78 : decode cX4_readDoor 78 = .ok (.istore_n 2, 1) := by decide +kernel
theorem dX4_readDoor_79 : decode cX4_readDoor 79 = .ok (.iload_n 2, 1) := by decide +kernel
theorem dX4_readDoor_80 : decode cX4_readDoor 80 = .ok (.iconst (-1), 1) := by decide +kernel
theorem dX4_readDoor_81 : decode cX4_readDoor 81 = .ok (.if_icmp .ne 5, 3) := by decide +kernel
theorem dX4_readDoor_84 : decode cX4_readDoor 84 = .ok (.iconst 0, 1) := by decide +kernel
theorem dX4_readDoor_85 : decode cX4_readDoor 85 = .ok (.ireturn, 1) := by decide +kernel
theorem dX4_readDoor_86 : decode cX4_readDoor 86 = .ok (.iload_n 2, 1) := by decide +kernel
theorem dX4_readDoor_87 : decode cX4_readDoor 87 = .ok (.iload_n 1, 1) := by decide +kernel
theorem dX4_readDoor_88 : decode cX4_readDoor 88 = .ok (.if_icmp .ne 9, 3) := by decide +kernel
theorem dX4_readDoor_91 : decode cX4_readDoor 91 = .ok (.aload_n 0, 1) := by decide +kernel
theorem dX4_readDoor_92 : decode cX4_readDoor 92 = .ok (.iconst 3, 1) := by decide +kernel
theorem dX4_readDoor_93 : decode cX4_readDoor 93 = .ok (.invokevirtual 59, 3) := by decide +kernel
theorem dX4_readDoor_96 : decode cX4_readDoor 96 = .ok (.ireturn, 1) := by decide +kernel
theorem dX4_readDoor_97 : decode cX4_readDoor 97 = .ok (.aload_n 0, 1) := by decide +kernel
theorem dX4_readDoor_98 : decode cX4_readDoor 98 = .ok (.getfield 30, 3) := by decide +kernel
theorem dX4_readDoor_101 : decode cX4_readDoor 101 = .ok (.invokevirtual 66, 3) := by decide +kernel
theorem dX4_readDoor_104 : decode cX4_readDoor 104 = .ok (.aload_n 0, 1) := by decide +kernel
theorem dX4_readDoor_105 : decode cX4_readDoor 105 = .ok (.iconst 4, 1) := by decide +kernel
theorem dX4_readDoor_106 : decode cX4_readDoor 106 = .ok (.invokevirtual 97, 3) := by decide +kernel
theorem dX4_readDoor_109 : decode cX4_readDoor 109 = .ok (.ifCond .ne 5, 3) := by decide +kernel
theorem dX4_readDoor_112 : decode cX4_readDoor 112 = .ok (.iconst 0, 1) := by decide +kernel
theorem dX4_readDoor_113 : decode cX4_readDoor 113 = .ok (.ireturn, 1) := by decide +kernel
theorem dX4_readDoor_114 : decode cX4_readDoor 114 = .ok (.aload_n 0, 1) := by decide +kernel
theorem dX4_readDoor_115 : decode cX4_readDoor 115 = .ok (.iconst 1, 1) := by decide +kernel
theorem dX4_readDoor_116 : decode cX4_readDoor 116 = .ok (.aload_n 0, 1) := by decide +kernel
theorem dX4_readDoor_117 : decode cX4_readDoor 117 = .ok (.getfield 12, 3) := by decide +kernel
theorem dX4_readDoor_120 : decode cX4_readDoor 120 = .ok (.getfield 103, 3) := by decide +kernel
theorem dX4_readDoor_123 : decode cX4_readDoor 123 = .ok (.invokevirtual 180, 3) := by decide +kernel
theorem dX4_readDoor_126 : decode cX4_readDoor 126 = .ok (.istore_n 3, 1) := by decide +kernel
theorem dX4_readDoor_127 : decode cX4_readDoor 127 = .ok (.iload_n 3, 1) := by decide +kernel
theorem dX4_readDoor_128 : decode cX4_readDoor 128 = .ok (.iconst (-1), 1) := by decide +kernel
theorem dX4_readDoor_129 : decode cX4_readDoor 129 = .ok (.if_icmp .ne 5, 3) := by decide +kernel
theorem dX4_readDoor_132 : decode cX4_readDoor 132 = .ok (.iconst 0, 1) := by decide +kernel
theorem dX4_readDoor_133 : decode cX4_readDoor 133 = .ok (.ireturn, 1) := by decide +kernel
theorem dX4_readDoor_134 : decode cX4_readDoor 134 = .ok (.aload_n 0, 1) := by decide +kernel
theorem dX4_readDoor_135 : decode cX4_readDoor 135 = .ok (.getfield 30, 3) := by decide +kernel
theorem dX4_readDoor_138 : decode cX4_readDoor 138 = .ok (.invokevirtual 66, 3) := by decide +kernel
theorem dX4_readDoor_141 : decode cX4_readDoor 141 = .ok (.aload_n 0, 1) := by decide +kernel
theorem dX4_readDoor_142 : decode cX4_readDoor 142 = .ok (.getfield 12, 3) := by decide +kernel
theorem dX4_readDoor_145 : decode cX4_readDoor 145 = .ok (.iload_n 1, 1) := by decide +kernel
theorem dX4_readDoor_146 : decode cX4_readDoor 146 = .ok (.iload_n 2, 1) := by decide +kernel
theorem dX4_readDoor_147 : decode cX4_readDoor 147 = .ok (.iload_n 3, 1) := by decide +kernel
theorem dX4_readDoor_148 : decode cX4_readDoor 148 = .ok (.invokevirtual 183, 3) := by decide +kernel
theorem dX4_readDoor_151 : decode cX4_readDoor 151 = .ok (.aload_n 0, 1) := by decide +kernel
theorem dX4_readDoor_152 : decode cX4_readDoor 152 = .ok (.bipush 59, 2) := by decide +kernel
theorem dX4_readDoor_154 : decode cX4_readDoor 154 = .ok (.invokevirtual 97, 3) := by decide +kernel
theorem dX4_readDoor_157 : decode cX4_readDoor 157 = .ok (.ireturn, 1) := by decide +kernel
theorem dX4_readEither_0 : decode cX4_readEither 0 = .ok (.aload_n 0, 1) := by decide +kernel
theorem dX4_readEither_1 : decode cX4_readEither 1 = .ok (.iload_n 1, 1) := by decide +kernel
theorem dX4_readEither_2 : decode cX4_readEither 2 = .ok (.invokevirtual 211, 3) := by decide +kernel
theorem dX4_readEither_5 : decode cX4_readEither 5 = .ok (.istore_n 2, 1) := by decide +kernel
theorem dX4_readEither_6 : decode cX4_readEither 6 = .ok (.iconst 0, 1) := by decide +kernel
theorem dX4_readEither_7 : decode cX4_readEither 7 = .ok (.istore_n 3, 1) := by decide +kernel
theorem dX4_readEither_8 : decode cX4_readEither 8 = .ok (.iload_n 3, 1) := by decide +kernel
theorem dX4_readEither_9 : decode cX4_readEither 9 = .ok (.sipush 1600, 3) := by decide +kernel
theorem dX4_readEither_12 : decode cX4_readEither 12 = .ok (.if_icmp .ge 51, 3) := by decide +kernel
theorem dX4_readEither_15 : decode cX4_readEither 15 = .ok (.iload_n 2, 1) := by decide +kernel
theorem dX4_readEither_16 : decode cX4_readEither 16 = .ok (.ifCond .eq 47, 3) := by decide +kernel
theorem dX4_readEither_19 : decode cX4_readEither 19 = .ok (.aload_n 0, 1) := by decide +kernel
theorem dX4_readEither_20 : decode cX4_readEither 20 = .ok (.getfield 30, 3) := by decide +kernel
theorem dX4_readEither_23 : decode cX4_readEither 23 = .ok (.getfield 49, 3) := by decide +kernel
theorem dX4_readEither_26 : decode cX4_readEither 26 = .ok (.bipush 16, 2) := by decide +kernel
theorem dX4_readEither_28 : decode cX4_readEither 28 = .ok (.if_icmp .ne 35, 3) := by decide +kernel
theorem dX4_readEither_31 : decode cX4_readEither 31 = .ok (.aload_n 0, 1) := by decide +kernel
theorem dX4_readEither_32 : decode cX4_readEither 32 = .ok (.getfield 30, 3) := by decide +kernel
theorem dX4_readEither_35 : decode cX4_readEither 35 = .ok (.invokevirtual 66, 3) := by decide +kernel
theorem dX4_readEither_38 : decode cX4_readEither 38 = .ok (.aload_n 0, 1) := by decide +kernel
theorem dX4_readEither_39 : decode cX4_readEither 39 = .ok (.iload_n 1, 1) := by decide +kernel
theorem dX4_readEither_40 : decode cX4_readEither 40 = .ok (.invokevirtual 211, 3) := by decide +kernel
theorem dX4_readEither_43 : decode cX4_readEither 43 = .ok (.istore_n 2, 1) := by decide +kernel
theorem dX4_readEither_44 : decode cX4_readEither 44 = .ok (.aload_n 0, 1) := by decide +kernel
theorem dX4_readEither_45 : decode cX4_readEither 45 = .ok (.getfield 12, 3) := by decide +kernel
theorem dX4_readEither_48 : decode cX4_readEither 48 = .ok (.getfield 214, 3) := by decide +kernel
theorem dX4_readEither_51 : decode cX4_readEither 51 = .ok (.bipush 6, 2) := by decide +kernel
theorem dX4_readEither_53 : decode cX4_readEither 53 = .ok (.iconst 0, 1) := by decide +kernel
theorem dX4_readEither_54 : decode cX4_readEither 54 = .ok (.invokevirtual 220, 3) := by decide +kernel
theorem dX4_readEither_57 : decode cX4_readEither 57 = .ok (.iinc 3 1, 3) := by decide +kernel
theorem dX4_readEither_60 : decode cX4_readEither 60 = .ok (.goto (-52), 3) := by decide +kernel
theorem dX4_readEither_63 : decode cX4_readEither 63 = .ok (.iload_n 2, 1) := by decide +kernel
theorem dX4_readEither_64 : decode cX4_readEither 64 = .ok (.ireturn, 1) := by decide +kernel
theorem dX4_readHeld_0 : decode cX4_readHeld 0 = .ok (.aload_n 0, 1) := by decide +kernel
theorem dX4_readHeld_1 : decode cX4_readHeld 1 = .ok (.getfield 30, 3) := by decide +kernel
theorem dX4_readHeld_4 : decode cX4_readHeld 4 = .ok (.invokevirtual 66, 3) := by decide +kernel
theorem dX4_readHeld_7 : decode cX4_readHeld 7 = .ok (.iconst 0, 1) := by decide +kernel
theorem dX4_readHeld_8 : decode cX4_readHeld 8 = .ok (.istore_n 1, 1) := by decide +kernel
theorem dX4_readHeld_9 : decode cX4_readHeld 9 = .ok (.iload_n 1, 1) := by decide +kernel
theorem dX4_readHeld_10 : decode cX4_readHeld 10 = .ok (.bipush 8, 2) := by decide +kernel
theorem dX4_readHeld_12 : decode cX4_readHeld 12 = .ok (.if_icmp .gt 89, 3) := by decide +kernel
theorem dX4_readHeld_15 : decode cX4_readHeld 15 = .ok (.aload_n 0, 1) := by decide +kernel
theorem dX4_readHeld_16 : decode cX4_readHeld 16 = .ok (.iconst 0, 1) := by decide +kernel
theorem dX4_readHeld_17 : decode cX4_readHeld 17 = .ok (.aload_n 0, 1) := by decide +kernel
theorem dX4_readHeld_18 : decode cX4_readHeld 18 = .ok (.getfield 12, 3) := by decide +kernel
theorem dX4_readHeld_21 : decode cX4_readHeld 21 = .ok (.getfield 100, 3) := by decide +kernel
theorem dX4_readHeld_24 : decode cX4_readHeld 24 = .ok (.invokevirtual 180, 3) := by decide +kernel
theorem dX4_readHeld_27 : decode cX4_readHeld 27 = .ok (.istore_n 2, 1) := by decide +kernel
theorem dX4_readHeld_28 : decode cX4_readHeld 28 = .ok (.iload_n 2, 1) := by decide +kernel
theorem dX4_readHeld_29 : decode cX4_readHeld 29 = .ok (.iconst (-1), 1) := by decide +kernel
theorem dX4_readHeld_30 : decode cX4_readHeld 30 = .ok (.if_icmp .ne 5, 3) := by decide +kernel
theorem dX4_readHeld_33 : decode cX4_readHeld 33 = .ok (.iconst 0, 1) := by decide +kernel
theorem dX4_readHeld_34 : decode cX4_readHeld 34 = .ok (.ireturn, 1) := by decide +kernel
theorem dX4_readHeld_35 : decode cX4_readHeld 35 = .ok (.aload_n 0, 1) := by decide +kernel
theorem dX4_readHeld_36 : decode cX4_readHeld 36 = .ok (.getfield 12, 3) := by decide +kernel
theorem dX4_readHeld_39 : decode cX4_readHeld 39 = .ok (.getfield 124, 3) := by decide +kernel
theorem dX4_readHeld_42 : decode cX4_readHeld 42 = .ok (.iload_n 2, 1) := by decide +kernel
theorem dX4_readHeld_43 : decode cX4_readHeld 43 = .ok (.invokevirtual 196, 3) := by decide +kernel
theorem dX4_readHeld_46 : decode cX4_readHeld 46 = .ok (.iconst (-1), 1) := by decide +kernel
theorem dX4_readHeld_47 : decode cX4_readHeld 47 = .ok (.if_icmp .eq 9, 3) := by decide +kernel
theorem dX4_readHeld_50 : decode cX4_readHeld 50 = .ok (.aload_n 0, 1) := by decide +kernel
theorem dX4_readHeld_51 : decode cX4_readHeld 51 = .ok (.iconst 3, 1) := by decide +kernel
theorem dX4_readHeld_52 : decode cX4_readHeld 52 = .ok (.invokevirtual 59, 3) := by decide +kernel
theorem dX4_readHeld_55 : decode cX4_readHeld 55 = .ok (.ireturn, 1) := by decide +kernel
theorem dX4_readHeld_56 : decode cX4_readHeld 56 = .ok (.aload_n 0, 1) := by decide +kernel
theorem dX4_readHeld_57 : decode cX4_readHeld 57 = .ok (.getfield 12, 3) := by decide +kernel
theorem dX4_readHeld_60 : decode cX4_readHeld 60 = .ok (.getfield 124, 3) := by decide +kernel
theorem dX4_readHeld_63 : decode cX4_readHeld 63 = .ok (.iload_n 2, 1) := by decide +kernel
theorem dX4_readHeld_64 : decode cX4_readHeld 64 = .ok (.aload_n 0, 1) := by decide +kernel
theorem dX4_readHeld_65 : decode cX4_readHeld 65 = .ok (.getfield 12, 3) := by decide +kernel
theorem dX4_readHeld_68 : decode cX4_readHeld 68 = .ok (.getfield 187, 3) := by decide +kernel
theorem dX4_readHeld_71 : decode cX4_readHeld 71 = .ok (.invokevirtual 165, 3) := by decide +kernel
theorem dX4_readHeld_74 : decode cX4_readHeld 74 = .ok (.aload_n 0, 1) := by decide +kernel
theorem dX4_readHeld_75 : decode cX4_readHeld 75 = .ok (.getfield 30, 3) := by decide +kernel
theorem dX4_readHeld_78 : decode cX4_readHeld 78 = .ok (.invokevirtual 66, 3) := by decide +kernel
theorem dX4_readHeld_81 : decode cX4_readHeld 81 = .ok (.aload_n 0, 1) := by decide +kernel
theorem dX4_readHeld_82 : decode cX4_readHeld 82 = .ok (.getfield 30, 3) := by decide +kernel
theorem dX4_readHeld_85 : decode cX4_readHeld 85 = .ok (.getfield 49, 3) := by decide +kernel
theorem dX4_readHeld_88 : decode cX4_readHeld 88 = .ok (.bipush 23, 2) := by decide +kernel
theorem dX4_readHeld_90 : decode cX4_readHeld 90 = .ok (.if_icmp .eq 5, 3) := by decide +kernel
theorem dX4_readHeld_93 : decode cX4_readHeld 93 = .ok (.iconst 1, 1) := by decide +kernel
theorem dX4_readHeld_94 : decode cX4_readHeld 94 = .ok (.ireturn, 1) := by decide +kernel
theorem dX4_readHeld_95 : decode cX4_readHeld 95 = .ok (.iinc 1 1, 3) := by decide +kernel
theorem dX4_readHeld_98 : decode cX4_readHeld 98 = .ok (.goto (-89), 3) := by decide +kernel
theorem dX4_readHeld_101 : decode cX4_readHeld 101 = .ok (.aload_n 0, 1) := by decide +kernel
theorem dX4_readHeld_102 : decode cX4_readHeld 102 = .ok (.invokevirtual 63, 3) := by decide +kernel
theorem dX4_readHeld_105 : decode cX4_readHeld 105 = .ok (.ireturn, 1) := by decide +kernel
theorem dX4_readKey_0 : decode cX4_readKey 0 = .ok (.aload_n 0, 1) := by decide +kernel
theorem dX4_readKey_1 : decode cX4_readKey 1 = .ok (.iconst 0, 1) := by decide +kernel
theorem dX4_readKey_2 : decode cX4_readKey 2 = .ok (.aload_n 0, 1) := by decide +kernel
theorem dX4_readKey_3 : decode cX4_readKey 3 = .ok (.getfield 12, 3) := by decide +kernel
theorem dX4_readKey_6 : decode cX4_readKey 6 = .ok (.getfield 100, 3) := by decide +kernel
theorem dX4_readKey_9 : decode cX4_readKey 9 = .ok (.bipush 8, 2) := by decide +kernel
theorem dX4_readKey_11 : decode cX4_readKey 11 = .ok (.invokevirtual 144, 3) := by decide +kernel
theorem dX4_readKey_14 : decode cX4_readKey 14 = .ok (.ifCond .ne 5, 3) := by decide +kernel
theorem dX4_readKey_17 : decode cX4_readKey 17 = .ok (.iconst 0, 1) := by decide +kernel
theorem dX4_readKey_18 : decode cX4_readKey 18 = .ok (.ireturn, 1) := by decide +kernel
theorem dX4_readKey_19 : decode cX4_readKey 19 = .ok (.iconst 0, 1) := by decide +kernel
theorem dX4_readKey_20 : decode cX4_readKey 20 = .ok (.istore_n 1, 1) := by decide +kernel
theorem dX4_readKey_21 : decode cX4_readKey 21 = .ok (.iconst 0, 1) := by decide +kernel
theorem dX4_readKey_22 : decode cX4_readKey 22 = .ok (.istore_n 2, 1) := by decide +kernel
theorem dX4_readKey_23 : decode cX4_readKey 23 = .ok (.iconst 0, 1) := by decide +kernel
theorem dX4_readKey_24 : decode cX4_readKey 24 = .ok (.istore_n 3, 1) := by decide +kernel
theorem dX4_readKey_25 : decode cX4_readKey 25 = .ok (.iload_n 3, 1) := by decide +kernel
theorem dX4_readKey_26 : decode cX4_readKey 26 = .ok (.aload_n 0, 1) := by decide +kernel
theorem dX4_readKey_27 : decode cX4_readKey 27 = .ok (.getfield 12, 3) := by decide +kernel
theorem dX4_readKey_30 : decode cX4_readKey 30 = .ok (.getfield 109, 3) := by decide +kernel
theorem dX4_readKey_33 : decode cX4_readKey 33 = .ok (.getfield 113, 3) := by decide +kernel
theorem dX4_readKey_36 : decode cX4_readKey 36 = .ok (.if_icmp .ge 72, 3) := by decide +kernel
theorem dX4_readKey_39 : decode cX4_readKey 39 = .ok (.aload_n 0, 1) := by decide +kernel
theorem dX4_readKey_40 : decode cX4_readKey 40 = .ok (.invokevirtual 148, 3) := by decide +kernel
theorem dX4_readKey_43 : decode cX4_readKey 43 = .ok (.istore 4, 2) := by decide +kernel
theorem dX4_readKey_45 : decode cX4_readKey 45 = .ok (.iload 4, 2) := by decide +kernel
theorem dX4_readKey_47 : decode cX4_readKey 47 = .ok (.iconst (-1), 1) := by decide +kernel
theorem dX4_readKey_48 : decode cX4_readKey 48 = .ok (.if_icmp .ne 5, 3) := by decide +kernel
theorem dX4_readKey_51 : decode cX4_readKey 51 = .ok (.iconst 0, 1) := by decide +kernel
theorem dX4_readKey_52 : decode cX4_readKey 52 = .ok (.ireturn, 1) := by decide +kernel
theorem dX4_readKey_53 : decode cX4_readKey 53 = .ok (.iload_n 3, 1) := by decide +kernel
theorem dX4_readKey_54 : decode cX4_readKey 54 = .ok (.ifCond .le 29, 3) := by decide +kernel
theorem dX4_readKey_57 : decode cX4_readKey 57 = .ok (.iload 4, 2) := by decide +kernel
theorem dX4_readKey_59 : decode cX4_readKey 59 = .ok (.iload_n 2, 1) := by decide +kernel
theorem dX4_readKey_60 : decode cX4_readKey 60 = .ok (.isub, 1) := by decide +kernel
theorem dX4_readKey_61 : decode cX4_readKey 61 = .ok (.invokestatic 152, 3) := by decide +kernel
theorem dX4_readKey_64 : decode cX4_readKey 64 = .ok (.aload_n 0, 1) := by decide +kernel
theorem dX4_readKey_65 : decode cX4_readKey 65 = .ok (.getfield 12, 3) := by decide +kernel
theorem dX4_readKey_68 : decode cX4_readKey 68 = .ok (.getfield 109, 3) := by decide +kernel
theorem dX4_readKey_71 : decode cX4_readKey 71 = .ok (.getfield 121, 3) := by decide +kernel
theorem dX4_readKey_74 : decode cX4_readKey 74 = .ok (.if_icmp .le 9, 3) := by decide +kernel
theorem dX4_readKey_77 : decode cX4_readKey 77 = .ok (.aload_n 0, 1) := by decide +kernel
theorem dX4_readKey_78 : decode cX4_readKey 78 = .ok (.iconst 4, 1) := by decide +kernel
theorem dX4_readKey_79 : decode cX4_readKey 79 = .ok (.invokevirtual 59, 3) := by decide +kernel
theorem dX4_readKey_82 : decode cX4_readKey 82 = .ok (.ireturn, 1) := by decide +kernel
theorem dX4_readKey_83 : decode cX4_readKey 83 = .ok (.iload_n 1, 1) := by decide +kernel
theorem dX4_readKey_84 : decode cX4_readKey 84 = .ok (.iload_n 3, 1) := by decide +kernel
theorem dX4_readKey_85 : decode cX4_readKey 85 = .ok (.iload 4, 2) := by decide +kernel
theorem dX4_readKey_87 : decode cX4_readKey 87 = .ok (.invokestatic 158, 3) := by decide +kernel
theorem dX4_readKey_90 : decode cX4_readKey 90 = .ok (.ior, 1) := by decide +kernel
theorem dX4_readKey_91 : decode cX4_readKey 91 = .ok (.istore_n 1, 1) := by decide +kernel
theorem dX4_readKey_92 : decode cX4_readKey 92 = .ok (.iload 4, 2) := by decide +kernel
theorem dX4_readKey_94 : decode cX4_readKey 94 = .ok (.istore_n 2, 1) := by decide +kernel
theorem dX4_readKey_95 : decode cX4_readKey 95 = .ok (.aload_n 0, 1) := by decide +kernel
theorem dX4_readKey_96 : decode cX4_readKey 96 = .ok (.getfield 30, 3) := by decide +kernel
theorem dX4_readKey_99 : decode cX4_readKey 99 = .ok (.invokevirtual 66, 3) := by decide +kernel
theorem dX4_readKey_102 : decode cX4_readKey 102 = .ok (.iinc 3 1, 3) := by decide +kernel
theorem dX4_readKey_105 : decode cX4_readKey 105 = .ok (.goto (-80), 3) := by decide +kernel
theorem dX4_readKey_108 : decode cX4_readKey 108 = .ok (.aload_n 0, 1) := by decide +kernel
theorem dX4_readKey_109 : decode cX4_readKey 109 = .ok (.getfield 12, 3) := by decide +kernel
theorem dX4_readKey_112 : decode cX4_readKey 112 = .ok (.getfield 124, 3) := by decide +kernel
theorem dX4_readKey_115 : decode cX4_readKey 115 = .ok (.aload_n 0, 1) := by decide +kernel
theorem dX4_readKey_116 : decode cX4_readKey 116 = .ok (.getfield 12, 3) := by decide +kernel
theorem dX4_readKey_119 : decode cX4_readKey 119 = .ok (.getfield 100, 3) := by decide +kernel
theorem dX4_readKey_122 : decode cX4_readKey 122 = .ok (.iload_n 1, 1) := by decide +kernel
theorem dX4_readKey_123 : decode cX4_readKey 123 = .ok (.invokevirtual 161, 3) := by decide +kernel
theorem dX4_readKey_126 : decode cX4_readKey 126 = .ok (.aload_n 0, 1) := by decide +kernel
theorem dX4_readKey_127 : decode cX4_readKey 127 = .ok (.getfield 12, 3) := by decide +kernel
theorem dX4_readKey_130 : decode cX4_readKey 130 = .ok (.getfield 124, 3) := by decide +kernel
theorem dX4_readKey_133 : decode cX4_readKey 133 = .ok (.aload_n 0, 1) := by decide +kernel
theorem dX4_readKey_134 : decode cX4_readKey 134 = .ok (.getfield 12, 3) := by decide +kernel
theorem dX4_readKey_137 : decode cX4_readKey 137 = .ok (.getfield 100, 3) := by decide +kernel
theorem dX4_readKey_140 : decode cX4_readKey 140 = .ok (.iconst (-1), 1) := by decide +kernel
theorem dX4_readKey_141 : decode cX4_readKey 141 = .ok (.invokevirtual 165, 3) := by decide +kernel
theorem dX4_readKey_144 : decode cX4_readKey 144 = .ok (.aload_n 0, 1) := by decide +kernel
theorem dX4_readKey_145 : decode cX4_readKey 145 = .ok (.getfield 12, 3) := by decide +kernel
theorem dX4_readKey_148 : decode cX4_readKey 148 = .ok (.dup, 1) := by decide +kernel
theorem dX4_readKey_149 : decode cX4_readKey 149 = .ok (.getfield 100, 3) := by decide +kernel
theorem dX4_readKey_152 : decode cX4_readKey 152 = .ok (.iconst 1, 1) := by decide +kernel
theorem dX4_readKey_153 : decode cX4_readKey 153 = .ok (.iadd, 1) := by decide +kernel
theorem dX4_readKey_154 : decode cX4_readKey 154 = .ok (.putfield 100, 3) := by decide +kernel
theorem dX4_readKey_157 : decode cX4_readKey 157 = .ok (.aload_n 0, 1) := by decide +kernel
theorem dX4_readKey_158 : decode cX4_readKey 158 = .ok (.bipush 59, 2) := by decide +kernel
theorem dX4_readKey_160 : decode cX4_readKey 160 = .ok (.invokevirtual 97, 3) := by decide +kernel
theorem dX4_readKey_163 : decode cX4_readKey 163 = .ok (.ireturn, 1) := by decide +kernel
theorem dX4_readLine_0 : decode cX4_readLine 0 = .ok (.aload_n 0, 1) := by decide +kernel
theorem dX4_readLine_1 : decode cX4_readLine 1 = .ok (.getfield 30, 3) := by decide +kernel
theorem dX4_readLine_4 : decode cX4_readLine 4 = .ok (.getfield 49, 3) := by decide +kernel
theorem dX4_readLine_7 : decode cX4_readLine 7 = .ok (.tableswitch 152 0 11 #[61, 68, 76, 83, 88, 93, 98, 103, 108, 108, 113, 143], 61) := by decide +kernel
theorem dX4_readLine_68 : decode cX4_readLine 68 = .ok (.aload_n 0, 1) := by decide +kernel
theorem dX4_readLine_69 : decode cX4_readLine 69 = .ok (.iconst 2, 1) := by decide +kernel
theorem dX4_readLine_70 : decode cX4_readLine 70 = .ok (.iconst 5, 1) := by decide +kernel
theorem dX4_readLine_71 : decode cX4_readLine 71 = .ok (.invokevirtual 69, 3) := by decide +kernel
theorem dX4_readLine_74 : decode cX4_readLine 74 = .ok (.ireturn, 1) := by decide +kernel
theorem dX4_readLine_75 : decode cX4_readLine 75 = .ok (.aload_n 0, 1) := by decide +kernel
theorem dX4_readLine_76 : decode cX4_readLine 76 = .ok (.iconst 2, 1) := by decide +kernel
theorem dX4_readLine_77 : decode cX4_readLine 77 = .ok (.bipush 6, 2) := by decide +kernel
theorem dX4_readLine_79 : decode cX4_readLine 79 = .ok (.invokevirtual 69, 3) := by decide +kernel
theorem dX4_readLine_82 : decode cX4_readLine 82 = .ok (.ireturn, 1) := by decide +kernel
theorem dX4_readLine_83 : decode cX4_readLine 83 = .ok (.aload_n 0, 1) := by decide +kernel
theorem dX4_readLine_84 : decode cX4_readLine 84 = .ok (.iconst 0, 1) := by decide +kernel
theorem dX4_readLine_85 : decode cX4_readLine 85 = .ok (.iconst 5, 1) := by decide +kernel
theorem dX4_readLine_86 : decode cX4_readLine 86 = .ok (.invokevirtual 69, 3) := by decide +kernel
theorem dX4_readLine_89 : decode cX4_readLine 89 = .ok (.ireturn, 1) := by decide +kernel
theorem dX4_readLine_90 : decode cX4_readLine 90 = .ok (.aload_n 0, 1) := by decide +kernel
theorem dX4_readLine_91 : decode cX4_readLine 91 = .ok (.invokevirtual 73, 3) := by decide +kernel
theorem dX4_readLine_94 : decode cX4_readLine 94 = .ok (.ireturn, 1) := by decide +kernel
theorem dX4_readLine_95 : decode cX4_readLine 95 = .ok (.aload_n 0, 1) := by decide +kernel
theorem dX4_readLine_96 : decode cX4_readLine 96 = .ok (.invokevirtual 76, 3) := by decide +kernel
theorem dX4_readLine_99 : decode cX4_readLine 99 = .ok (.ireturn, 1) := by decide +kernel
theorem dX4_readLine_100 : decode cX4_readLine 100 = .ok (.aload_n 0, 1) := by decide +kernel
theorem dX4_readLine_101 : decode cX4_readLine 101 = .ok (.invokevirtual 79, 3) := by decide +kernel
theorem dX4_readLine_104 : decode cX4_readLine 104 = .ok (.ireturn, 1) := by decide +kernel
theorem dX4_readLine_105 : decode cX4_readLine 105 = .ok (.aload_n 0, 1) := by decide +kernel
theorem dX4_readLine_106 : decode cX4_readLine 106 = .ok (.invokevirtual 82, 3) := by decide +kernel
theorem dX4_readLine_109 : decode cX4_readLine 109 = .ok (.ireturn, 1) := by decide +kernel
theorem dX4_readLine_110 : decode cX4_readLine 110 = .ok (.aload_n 0, 1) := by decide +kernel
theorem dX4_readLine_111 : decode cX4_readLine 111 = .ok (.invokevirtual 85, 3) := by decide +kernel
theorem dX4_readLine_114 : decode cX4_readLine 114 = .ok (.ireturn, 1) := by decide +kernel
theorem dX4_readLine_115 : decode cX4_readLine 115 = .ok (.aload_n 0, 1) := by decide +kernel
theorem dX4_readLine_116 : decode cX4_readLine 116 = .ok (.invokevirtual 88, 3) := by decide +kernel
theorem dX4_readLine_119 : decode cX4_readLine 119 = .ok (.ireturn, 1) := by decide +kernel
theorem dX4_readLine_120 : decode cX4_readLine 120 = .ok (.aload_n 0, 1) := by decide +kernel
theorem dX4_readLine_121 : decode cX4_readLine 121 = .ok (.invokevirtual 91, 3) := by decide +kernel
theorem dX4_readLine_124 : decode cX4_readLine 124 = .ok (.ifCond .eq 24, 3) := by decide +kernel
theorem dX4_readLine_127 : decode cX4_readLine 127 = .ok (.aload_n 0, 1) := by decide +kernel
theorem dX4_readLine_128 : decode cX4_readLine 128 = .ok (.iconst 0, 1) := by decide +kernel
theorem dX4_readLine_129 : decode cX4_readLine 129 = .ok (.invokevirtual 94, 3) := by decide +kernel
theorem dX4_readLine_132 : decode cX4_readLine 132 = .ok (.ifCond .eq 16, 3) := by decide +kernel
theorem dX4_readLine_135 : decode cX4_readLine 135 = .ok (.aload_n 0, 1) := by decide +kernel
theorem dX4_readLine_136 : decode cX4_readLine 136 = .ok (.bipush 59, 2) := by decide +kernel
theorem dX4_readLine_138 : decode cX4_readLine 138 = .ok (.invokevirtual 97, 3) := by decide +kernel
theorem dX4_readLine_141 : decode cX4_readLine 141 = .ok (.ifCond .eq 7, 3) := by decide +kernel
theorem dX4_readLine_144 : decode cX4_readLine 144 = .ok (.iconst 1, 1) := by decide +kernel
theorem dX4_readLine_145 : decode cX4_readLine 145 = .ok (.goto 4, 3) := by decide +kernel
theorem dX4_readLine_148 : decode cX4_readLine 148 = .ok (.iconst 0, 1) := by decide +kernel
theorem dX4_readLine_149 : decode cX4_readLine 149 = .ok (.ireturn, 1) := by decide +kernel
theorem dX4_readLine_150 : decode cX4_readLine 150 = .ok (.aload_n 0, 1) := by decide +kernel
theorem dX4_readLine_151 : decode cX4_readLine 151 = .ok (.iconst 0, 1) := by decide +kernel
theorem dX4_readLine_152 : decode cX4_readLine 152 = .ok (.sipush 999, 3) := by decide +kernel
theorem dX4_readLine_155 : decode cX4_readLine 155 = .ok (.invokevirtual 69, 3) := by decide +kernel
theorem dX4_readLine_158 : decode cX4_readLine 158 = .ok (.ireturn, 1) := by decide +kernel
theorem dX4_readLine_159 : decode cX4_readLine 159 = .ok (.aload_n 0, 1) := by decide +kernel
theorem dX4_readLine_160 : decode cX4_readLine 160 = .ok (.invokevirtual 63, 3) := by decide +kernel
theorem dX4_readLine_163 : decode cX4_readLine 163 = .ok (.ireturn, 1) := by decide +kernel
theorem dX4_readLock_0 : decode cX4_readLock 0 = .ok (.aload_n 0, 1) := by decide +kernel
theorem dX4_readLock_1 : decode cX4_readLock 1 = .ok (.iconst 1, 1) := by decide +kernel
theorem dX4_readLock_2 : decode cX4_readLock 2 = .ok (.aload_n 0, 1) := by decide +kernel
theorem dX4_readLock_3 : decode cX4_readLock 3 = .ok (.getfield 12, 3) := by decide +kernel
theorem dX4_readLock_6 : decode cX4_readLock 6 = .ok (.getfield 103, 3) := by decide +kernel
theorem dX4_readLock_9 : decode cX4_readLock 9 = .ok (.bipush 6, 2) := by decide +kernel
theorem dX4_readLock_11 : decode cX4_readLock 11 = .ok (.invokevirtual 144, 3) := by decide +kernel
theorem dX4_readLock_14 : decode cX4_readLock 14 = .ok (.ifCond .ne 5, 3) := by decide +kernel
theorem dX4_readLock_17 : decode cX4_readLock 17 = .ok (.iconst 0, 1) := by decide +kernel
theorem dX4_readLock_18 : decode cX4_readLock 18 = .ok (.ireturn, 1) := by decide +kernel
theorem dX4_readLock_19 : decode cX4_readLock 19 = .ok (.iconst 0, 1) := by decide +kernel
theorem dX4_readLock_20 : decode cX4_readLock 20 = .ok (.istore_n 1, 1) := by decide +kernel
theorem dX4_readLock_21 : decode cX4_readLock 21 = .ok (.iconst 0, 1) := by decide +kernel
theorem dX4_readLock_22 : decode cX4_readLock 22 = .ok (.istore_n 2, 1) := by decide +kernel
theorem dX4_readLock_23 : decode cX4_readLock 23 = .ok (.iload_n 2, 1) := by decide +kernel
theorem dX4_readLock_24 : decode cX4_readLock 24 = .ok (.aload_n 0, 1) := by decide +kernel
theorem dX4_readLock_25 : decode cX4_readLock 25 = .ok (.getfield 12, 3) := by decide +kernel
theorem dX4_readLock_28 : decode cX4_readLock 28 = .ok (.getfield 109, 3) := by decide +kernel
theorem dX4_readLock_31 : decode cX4_readLock 31 = .ok (.getfield 113, 3) := by decide +kernel
theorem dX4_readLock_34 : decode cX4_readLock 34 = .ok (.if_icmp .ge 25, 3) := by decide +kernel
theorem dX4_readLock_37 : decode cX4_readLock 37 = .ok (.aload_n 0, 1) := by decide +kernel
theorem dX4_readLock_38 : decode cX4_readLock 38 = .ok (.iload_n 2, 1) := by decide +kernel
theorem dX4_readLock_39 : decode cX4_readLock 39 = .ok (.invokevirtual 168, 3) := by decide +kernel
theorem dX4_readLock_42 : decode cX4_readLock 42 = .ok (.istore_n 3, 1) := by decide +kernel
theorem dX4_readLock_43 : decode cX4_readLock 43 = .ok (.iload_n 3, 1) := by decide +kernel
theorem dX4_readLock_44 : decode cX4_readLock 44 = .ok (.ifCond .ne 5, 3) := by decide +kernel
theorem dX4_readLock_47 : decode cX4_readLock 47 = .ok (.iconst 0, 1) := by decide +kernel
theorem dX4_readLock_48 : decode cX4_readLock 48 = .ok (.ireturn, 1) := by decide +kernel
theorem dX4_readLock_49 : decode cX4_readLock 49 = .ok (.iload_n 1, 1) := by decide +kernel
theorem dX4_readLock_50 : decode cX4_readLock 50 = .ok (.iload_n 3, 1) := by decide +kernel
theorem dX4_readLock_51 : decode cX4_readLock 51 = .ok (.ior, 1) := by decide +kernel
theorem dX4_readLock_52 : decode cX4_readLock 52 = .ok (.istore_n 1, 1) := by decide +kernel
theorem dX4_readLock_53 : decode cX4_readLock 53 = .ok (.iinc 2 1, 3) := by decide +kernel
theorem dX4_readLock_56 : decode cX4_readLock 56 = .ok (.goto (-33), 3) := by decide +kernel
theorem dX4_readLock_59 : decode cX4_readLock 59 = .ok (.aload_n 0, 1) := by decide +kernel
theorem dX4_readLock_60 : decode cX4_readLock 60 = .ok (.getfield 12, 3) := by decide +kernel
theorem dX4_readLock_63 : decode cX4_readLock 63 = .ok (.getfield 124, 3) := by decide +kernel
theorem dX4_readLock_66 : decode cX4_readLock 66 = .ok (.aload_n 0, 1) := by decide +kernel
theorem dX4_readLock_67 : decode cX4_readLock 67 = .ok (.getfield 12, 3) := by decide +kernel
theorem dX4_readLock_70 : decode cX4_readLock 70 = .ok (.getfield 103, 3) := by decide +kernel
theorem dX4_readLock_73 : decode cX4_readLock 73 = .ok (.iload_n 1, 1) := by decide +kernel
theorem dX4_readLock_74 : decode cX4_readLock 74 = .ok (.invokevirtual 171, 3) := by decide +kernel
theorem dX4_readLock_77 : decode cX4_readLock 77 = .ok (.aload_n 0, 1) := by decide +kernel
theorem dX4_readLock_78 : decode cX4_readLock 78 = .ok (.getfield 12, 3) := by decide +kernel
theorem dX4_readLock_81 : decode cX4_readLock 81 = .ok (.dup, 1) := by decide +kernel
theorem dX4_readLock_82 : decode cX4_readLock 82 = .ok (.getfield 103, 3) := by decide +kernel
theorem dX4_readLock_85 : decode cX4_readLock 85 = .ok (.iconst 1, 1) := by decide +kernel
theorem dX4_readLock_86 : decode cX4_readLock 86 = .ok (.iadd, 1) := by decide +kernel
theorem dX4_readLock_87 : decode cX4_readLock 87 = .ok (.putfield 103, 3) := by decide +kernel
theorem dX4_readLock_90 : decode cX4_readLock 90 = .ok (.aload_n 0, 1) := by decide +kernel
theorem dX4_readLock_91 : decode cX4_readLock 91 = .ok (.bipush 59, 2) := by decide +kernel
theorem dX4_readLock_93 : decode cX4_readLock 93 = .ok (.invokevirtual 97, 3) := by decide +kernel
theorem dX4_readLock_96 : decode cX4_readLock 96 = .ok (.ireturn, 1) := by decide +kernel
theorem dX4_readNewName_0 : decode cX4_readNewName 0 = .ok (.iload_n 2, 1) := by decide +kernel
theorem dX4_readNewName_1 : decode cX4_readNewName 1 = .ok (.iload_n 3, 1) := by decide +kernel
theorem dX4_readNewName_2 : decode cX4_readNewName 2 = .ok (.if_icmp .lt 8, 3) := by decide +kernel
theorem dX4_readNewName_5 : decode cX4_readNewName 5 = .ok (.aload_n 0, 1) := by decide +kernel
theorem dX4_readNewName_6 : decode cX4_readNewName 6 = .ok (.invokevirtual 63, 3) := by decide +kernel
theorem dX4_readNewName_9 : decode cX4_readNewName 9 = .ok (.ireturn, 1) := by decide +kernel
theorem dX4_readNewName_10 : decode cX4_readNewName 10 = .ok (.aload_n 0, 1) := by decide +kernel
theorem dX4_readNewName_11 : decode cX4_readNewName 11 = .ok (.getfield 30, 3) := by decide +kernel
theorem dX4_readNewName_14 : decode cX4_readNewName 14 = .ok (.invokevirtual 66, 3) := by decide +kernel
theorem dX4_readNewName_17 : decode cX4_readNewName 17 = .ok (.aload_n 0, 1) := by decide +kernel
theorem dX4_readNewName_18 : decode cX4_readNewName 18 = .ok (.getfield 30, 3) := by decide +kernel
theorem dX4_readNewName_21 : decode cX4_readNewName 21 = .ok (.getfield 49, 3) := by decide +kernel
theorem dX4_readNewName_24 : decode cX4_readNewName 24 = .ok (.bipush 23, 2) := by decide +kernel
theorem dX4_readNewName_26 : decode cX4_readNewName 26 = .ok (.if_icmp .eq 8, 3) := by decide +kernel
theorem dX4_readNewName_29 : decode cX4_readNewName 29 = .ok (.aload_n 0, 1) := by decide +kernel
theorem dX4_readNewName_30 : decode cX4_readNewName 30 = .ok (.invokevirtual 63, 3) := by decide +kernel
theorem dX4_readNewName_33 : decode cX4_readNewName 33 = .ok (.ireturn, 1) := by decide +kernel
theorem dX4_readNewName_34 : decode cX4_readNewName 34 = .ok (.aload_n 0, 1) := by decide +kernel
theorem dX4_readNewName_35 : decode cX4_readNewName 35 = .ok (.iload_n 1, 1) := by decide +kernel
theorem dX4_readNewName_36 : decode cX4_readNewName 36 = .ok (.iload_n 2, 1) := by decide +kernel
theorem dX4_readNewName_37 : decode cX4_readNewName 37 = .ok (.invokevirtual 137, 3) := by decide +kernel
theorem dX4_readNewName_40 : decode cX4_readNewName 40 = .ok (.iconst (-1), 1) := by decide +kernel
theorem dX4_readNewName_41 : decode cX4_readNewName 41 = .ok (.if_icmp .eq 9, 3) := by decide +kernel
theorem dX4_readNewName_44 : decode cX4_readNewName 44 = .ok (.aload_n 0, 1) := by decide +kernel
theorem dX4_readNewName_45 : decode cX4_readNewName 45 = .ok (.iconst 3, 1) := by decide +kernel
theorem dX4_readNewName_46 : decode cX4_readNewName 46 = .ok (.invokevirtual 59, 3) := by decide +kernel
theorem dX4_readNewName_49 : decode cX4_readNewName 49 = .ok (.ireturn, 1) := by decide +kernel
theorem dX4_readNewName_50 : decode cX4_readNewName 50 = .ok (.iload_n 1, 1) := by decide +kernel
theorem dX4_readNewName_51 : decode cX4_readNewName 51 = .ok (.ifCond .lt 33, 3) := by decide +kernel
theorem dX4_readNewName_54 : decode cX4_readNewName 54 = .ok (.iload_n 1, 1) := by decide +kernel
theorem dX4_readNewName_55 : decode cX4_readNewName 55 = .ok (.iconst 5, 1) := by decide +kernel
theorem dX4_readNewName_56 : decode cX4_readNewName 56 = .ok (.if_icmp .ge 28, 3) := by decide +kernel
theorem dX4_readNewName_59 : decode cX4_readNewName 59 = .ok (.iload_n 2, 1) := by decide +kernel
theorem dX4_readNewName_60 : decode cX4_readNewName 60 = .ok (.ifCond .lt 24, 3) := by decide +kernel
theorem dX4_readNewName_63 : decode cX4_readNewName 63 = .ok (.iload_n 2, 1) := by decide +kernel
theorem dX4_readNewName_64 : decode cX4_readNewName 64 = .ok (.bipush 8, 2) := by decide +kernel
theorem dX4_readNewName_66 : decode cX4_readNewName 66 = .ok (.if_icmp .ge 18, 3) := by decide +kernel
theorem dX4_readNewName_69 : decode cX4_readNewName 69 = .ok (.aload_n 0, 1) := by decide +kernel
theorem dX4_readNewName_70 : decode cX4_readNewName 70 = .ok (.getfield 36, 3) := by decide +kernel
theorem dX4_readNewName_73 : decode cX4_readNewName 73 = .ok (.iload_n 1, 1) := by decide +kernel
theorem dX4_readNewName_74 : decode cX4_readNewName 74 = .ok (.aaload, 1) := by decide +kernel
theorem dX4_readNewName_75 : decode cX4_readNewName 75 = .ok (.iload_n 2, 1) := by decide +kernel
theorem dX4_readNewName_76 : decode cX4_readNewName 76 = .ok (.aload_n 0, 1) := by decide +kernel
theorem dX4_readNewName_77 : decode cX4_readNewName 77 = .ok (.getfield 30, 3) := by decide +kernel
theorem dX4_readNewName_80 : decode cX4_readNewName 80 = .ok (.getfield 133, 3) := by decide +kernel
theorem dX4_readNewName_83 : decode cX4_readNewName 83 = .ok (.lastore, 1) := by decide +kernel
theorem dX4_readNewName_84 : decode cX4_readNewName 84 = .ok (.aload_n 0, 1) := by decide +kernel
theorem dX4_readNewName_85 : decode cX4_readNewName 85 = .ok (.getfield 30, 3) := by decide +kernel
theorem dX4_readNewName_88 : decode cX4_readNewName 88 = .ok (.invokevirtual 66, 3) := by decide +kernel
theorem dX4_readNewName_91 : decode cX4_readNewName 91 = .ok (.iconst 1, 1) := by decide +kernel
theorem dX4_readNewName_92 : decode cX4_readNewName 92 = .ok (.ireturn, 1) := by decide +kernel
theorem dX4_readOnce_0 : decode cX4_readOnce 0 = .ok (.aload_n 0, 1) := by decide +kernel
theorem dX4_readOnce_1 : decode cX4_readOnce 1 = .ok (.getfield 30, 3) := by decide +kernel
theorem dX4_readOnce_4 : decode cX4_readOnce 4 = .ok (.getfield 49, 3) := by decide +kernel
theorem dX4_readOnce_7 : decode cX4_readOnce 7 = .ok (.istore_n 3, 1) := by decide +kernel
theorem dX4_readOnce_8 : decode cX4_readOnce 8 = .ok (.aload_n 0, 1) := by decide +kernel
theorem dX4_readOnce_9 : decode cX4_readOnce 9 = .ok (.getfield 12, 3) := by decide +kernel
theorem dX4_readOnce_12 : decode cX4_readOnce 12 = .ok (.getfield 100, 3) := by decide +kernel
theorem dX4_readOnce_15 : decode cX4_readOnce 15 = .ok (.ifCond .gt 13, 3) := by decide +kernel
theorem dX4_readOnce_18 : decode cX4_readOnce 18 = .ok (.aload_n 0, 1) := by decide +kernel
theorem dX4_readOnce_19 : decode cX4_readOnce 19 = .ok (.getfield 12, 3) := by decide +kernel
theorem dX4_readOnce_22 : decode cX4_readOnce 22 = .ok (.getfield 103, 3) := by decide +kernel
theorem dX4_readOnce_25 : decode cX4_readOnce 25 = .ok (.ifCond .le 7, 3) := by decide +kernel
theorem dX4_readOnce_28 : decode cX4_readOnce 28 = .ok (.iconst 1, 1) := by decide +kernel
theorem dX4_readOnce_29 : decode cX4_readOnce 29 = .ok (.goto 4, 3) := by decide +kernel
theorem dX4_readOnce_32 : decode cX4_readOnce 32 = .ok (.iconst 0, 1) := by decide +kernel
theorem dX4_readOnce_33 : decode cX4_readOnce 33 = .ok (.istore 4, 2) := by decide +kernel
theorem dX4_readOnce_35 : decode cX4_readOnce 35 = .ok (.iload 4, 2) := by decide +kernel
theorem dX4_readOnce_37 : decode cX4_readOnce 37 = .ok (.ifCond .eq 14, 3) := by decide +kernel
theorem dX4_readOnce_40 : decode cX4_readOnce 40 = .ok (.iload_n 3, 1) := by decide +kernel
theorem dX4_readOnce_41 : decode cX4_readOnce 41 = .ok (.bipush 11, 2) := by decide +kernel
theorem dX4_readOnce_43 : decode cX4_readOnce 43 = .ok (.if_icmp .eq 8, 3) := by decide +kernel
theorem dX4_readOnce_46 : decode cX4_readOnce 46 = .ok (.aload_n 0, 1) := by decide +kernel
theorem dX4_readOnce_47 : decode cX4_readOnce 47 = .ok (.invokevirtual 63, 3) := by decide +kernel
theorem dX4_readOnce_50 : decode cX4_readOnce 50 = .ok (.ireturn, 1) := by decide +kernel
theorem dX4_readOnce_51 : decode cX4_readOnce 51 = .ok (.aload_n 0, 1) := by decide +kernel
theorem dX4_readOnce_52 : decode cX4_readOnce 52 = .ok (.invokevirtual 91, 3) := by decide +kernel
theorem dX4_readOnce_55 : decode cX4_readOnce 55 = .ok (.ifCond .ne 5, 3) := by decide +kernel
theorem dX4_readOnce_58 : decode cX4_readOnce 58 = .ok (.iconst 0, 1) := by decide +kernel
theorem dX4_readOnce_59 : decode cX4_readOnce 59 = .ok (.ireturn, 1) := by decide +kernel
theorem dX4_readOnce_60 : decode cX4_readOnce 60 = .ok (.aload_n 0, 1) := by decide +kernel
theorem dX4_readOnce_61 : decode cX4_readOnce 61 = .ok (.getfield 30, 3) := by decide +kernel
theorem dX4_readOnce_64 : decode cX4_readOnce 64 = .ok (.getfield 49, 3) := by decide +kernel
theorem dX4_readOnce_67 : decode cX4_readOnce 67 = .ok (.bipush 24, 2) := by decide +kernel
theorem dX4_readOnce_69 : decode cX4_readOnce 69 = .ok (.if_icmp .eq 8, 3) := by decide +kernel
theorem dX4_readOnce_72 : decode cX4_readOnce 72 = .ok (.aload_n 0, 1) := by decide +kernel
theorem dX4_readOnce_73 : decode cX4_readOnce 73 = .ok (.invokevirtual 63, 3) := by decide +kernel
theorem dX4_readOnce_76 : decode cX4_readOnce 76 = .ok (.ireturn, 1) := by decide +kernel
theorem dX4_readOnce_77 : decode cX4_readOnce 77 = .ok (.aload_n 0, 1) := by decide +kernel
theorem dX4_readOnce_78 : decode cX4_readOnce 78 = .ok (.getfield 30, 3) := by decide +kernel
theorem dX4_readOnce_81 : decode cX4_readOnce 81 = .ok (.getfield 106, 3) := by decide +kernel
theorem dX4_readOnce_84 : decode cX4_readOnce 84 = .ok (.istore 5, 2) := by decide +kernel
theorem dX4_readOnce_86 : decode cX4_readOnce 86 = .ok (.iload 5, 2) := by decide +kernel
theorem dX4_readOnce_88 : decode cX4_readOnce 88 = .ok (.iload_n 1, 1) := by decide +kernel
theorem dX4_readOnce_89 : decode cX4_readOnce 89 = .ok (.if_icmp .lt 9, 3) := by decide +kernel
theorem dX4_readOnce_92 : decode cX4_readOnce 92 = .ok (.iload 5, 2) := by decide +kernel
theorem dX4_readOnce_94 : decode cX4_readOnce 94 = .ok (.iload_n 2, 1) := by decide +kernel
theorem dX4_readOnce_95 : decode cX4_readOnce 95 = .ok (.if_icmp .le 9, 3) := by decide +kernel
theorem dX4_readOnce_98 : decode cX4_readOnce 98 = .ok (.aload_n 0, 1) := by decide +kernel
theorem dX4_readOnce_99 : decode cX4_readOnce 99 = .ok (.iconst 4, 1) := by decide +kernel
theorem dX4_readOnce_100 : decode cX4_readOnce 100 = .ok (.invokevirtual 59, 3) := by decide +kernel
theorem dX4_readOnce_103 : decode cX4_readOnce 103 = .ok (.ireturn, 1) := by decide +kernel
theorem dX4_readOnce_104 : decode cX4_readOnce 104 = .ok (.iload_n 3, 1) := by decide +kernel
theorem dX4_readOnce_105 : decode cX4_readOnce 105 = .ok (.ifCond .ne 18, 3) := by decide +kernel
theorem dX4_readOnce_108 : decode cX4_readOnce 108 = .ok (.aload_n 0, 1) := by decide +kernel
theorem dX4_readOnce_109 : decode cX4_readOnce 109 = .ok (.getfield 12, 3) := by decide +kernel
theorem dX4_readOnce_112 : decode cX4_readOnce 112 = .ok (.getfield 109, 3) := by decide +kernel
theorem dX4_readOnce_115 : decode cX4_readOnce 115 = .ok (.iload 5, 2) := by decide +kernel
theorem dX4_readOnce_117 : decode cX4_readOnce 117 = .ok (.putfield 113, 3) := by decide +kernel
theorem dX4_readOnce_120 : decode cX4_readOnce 120 = .ok (.goto 55, 3) := by decide +kernel
theorem dX4_readOnce_123 : decode cX4_readOnce 123 = .ok (.iload_n 3, 1) := by decide +kernel
theorem dX4_readOnce_124 : decode cX4_readOnce 124 = .ok (.iconst 1, 1) := by decide +kernel
theorem dX4_readOnce_125 : decode cX4_readOnce 125 = .ok (.if_icmp .ne 18, 3) := by decide +kernel
theorem dX4_readOnce_128 : decode cX4_readOnce 128 = .ok (.aload_n 0, 1) := by decide +kernel
theorem dX4_readOnce_129 : decode cX4_readOnce 129 = .ok (.getfield 12, 3) := by decide +kernel
theorem dX4_readOnce_132 : decode cX4_readOnce 132 = .ok (.getfield 109, 3) := by decide +kernel
theorem dX4_readOnce_135 : decode cX4_readOnce 135 = .ok (.iload 5, 2) := by decide +kernel
theorem dX4_readOnce_137 : decode cX4_readOnce 137 = .ok (.putfield 118, 3) := by decide +kernel
theorem dX4_readOnce_140 : decode cX4_readOnce 140 = .ok (.goto 35, 3) := by decide +kernel
theorem dX4_readOnce_143 : decode cX4_readOnce 143 = .ok (.iload_n 3, 1) := by decide +kernel
theorem dX4_readOnce_144 : decode cX4_readOnce 144 = .ok (.iconst 2, 1) := by decide +kernel
theorem dX4_readOnce_145 : decode cX4_readOnce 145 = .ok (.if_icmp .ne 18, 3) := by decide +kernel
theorem dX4_readOnce_148 : decode cX4_readOnce 148 = .ok (.aload_n 0, 1) := by decide +kernel
theorem dX4_readOnce_149 : decode cX4_readOnce 149 = .ok (.getfield 12, 3) := by decide +kernel
theorem dX4_readOnce_152 : decode cX4_readOnce 152 = .ok (.getfield 109, 3) := by decide +kernel
theorem dX4_readOnce_155 : decode cX4_readOnce 155 = .ok (.iload 5, 2) := by decide +kernel
theorem dX4_readOnce_157 : decode cX4_readOnce 157 = .ok (.putfield 121, 3) := by decide +kernel
theorem dX4_readOnce_160 : decode cX4_readOnce 160 = .ok (.goto 15, 3) := by decide +kernel
theorem dX4_readOnce_163 : decode cX4_readOnce 163 = .ok (.aload_n 0, 1) := by decide +kernel
theorem dX4_readOnce_164 : decode cX4_readOnce 164 = .ok (.getfield 12, 3) := by decide +kernel
theorem dX4_readOnce_167 : decode cX4_readOnce 167 = .ok (.getfield 124, 3) := by decide +kernel
theorem dX4_readOnce_170 : decode cX4_readOnce 170 = .ok (.iload 5, 2) := by decide +kernel
theorem dX4_readOnce_172 : decode cX4_readOnce 172 = .ok (.invokevirtual 128, 3) := by decide +kernel
theorem dX4_readOnce_175 : decode cX4_readOnce 175 = .ok (.aload_n 0, 1) := by decide +kernel
theorem dX4_readOnce_176 : decode cX4_readOnce 176 = .ok (.getfield 30, 3) := by decide +kernel
theorem dX4_readOnce_179 : decode cX4_readOnce 179 = .ok (.invokevirtual 66, 3) := by decide +kernel
theorem dX4_readOnce_182 : decode cX4_readOnce 182 = .ok (.aload_n 0, 1) := by decide +kernel
theorem dX4_readOnce_183 : decode cX4_readOnce 183 = .ok (.bipush 59, 2) := by decide +kernel
theorem dX4_readOnce_185 : decode cX4_readOnce 185 = .ok (.invokevirtual 97, 3) := by decide +kernel
theorem dX4_readOnce_188 : decode cX4_readOnce 188 = .ok (.ireturn, 1) := by decide +kernel
theorem dX4_readOne_0 : decode cX4_readOne 0 = .ok (.aload_n 0, 1) := by decide +kernel
theorem dX4_readOne_1 : decode cX4_readOne 1 = .ok (.getfield 30, 3) := by decide +kernel
theorem dX4_readOne_4 : decode cX4_readOne 4 = .ok (.getfield 49, 3) := by decide +kernel
theorem dX4_readOne_7 : decode cX4_readOne 7 = .ok (.bipush 18, 2) := by decide +kernel
theorem dX4_readOne_9 : decode cX4_readOne 9 = .ok (.if_icmp .ne 43, 3) := by decide +kernel
theorem dX4_readOne_12 : decode cX4_readOne 12 = .ok (.iload_n 1, 1) := by decide +kernel
theorem dX4_readOne_13 : decode cX4_readOne 13 = .ok (.bipush 6, 2) := by decide +kernel
theorem dX4_readOne_15 : decode cX4_readOne 15 = .ok (.if_icmp .le 8, 3) := by decide +kernel
theorem dX4_readOne_18 : decode cX4_readOne 18 = .ok (.aload_n 0, 1) := by decide +kernel
theorem dX4_readOne_19 : decode cX4_readOne 19 = .ok (.invokevirtual 63, 3) := by decide +kernel
theorem dX4_readOne_22 : decode cX4_readOne 22 = .ok (.ireturn, 1) := by decide +kernel
theorem dX4_readOne_23 : decode cX4_readOne 23 = .ok (.aload_n 0, 1) := by decide +kernel
theorem dX4_readOne_24 : decode cX4_readOne 24 = .ok (.getfield 30, 3) := by decide +kernel
theorem dX4_readOne_27 : decode cX4_readOne 27 = .ok (.invokevirtual 66, 3) := by decide +kernel
theorem dX4_readOne_30 : decode cX4_readOne 30 = .ok (.aload_n 0, 1) := by decide +kernel
theorem dX4_readOne_31 : decode cX4_readOne 31 = .ok (.iload_n 1, 1) := by decide +kernel
theorem dX4_readOne_32 : decode cX4_readOne 32 = .ok (.iconst 1, 1) := by decide +kernel
theorem dX4_readOne_33 : decode cX4_readOne 33 = .ok (.iadd, 1) := by decide +kernel
theorem dX4_readOne_34 : decode cX4_readOne 34 = .ok (.invokevirtual 223, 3) := by decide +kernel
theorem dX4_readOne_37 : decode cX4_readOne 37 = .ok (.istore_n 2, 1) := by decide +kernel
theorem dX4_readOne_38 : decode cX4_readOne 38 = .ok (.aload_n 0, 1) := by decide +kernel
theorem dX4_readOne_39 : decode cX4_readOne 39 = .ok (.getfield 12, 3) := by decide +kernel
theorem dX4_readOne_42 : decode cX4_readOne 42 = .ok (.getfield 214, 3) := by decide +kernel
theorem dX4_readOne_45 : decode cX4_readOne 45 = .ok (.iconst 5, 1) := by decide +kernel
theorem dX4_readOne_46 : decode cX4_readOne 46 = .ok (.iconst 0, 1) := by decide +kernel
theorem dX4_readOne_47 : decode cX4_readOne 47 = .ok (.invokevirtual 220, 3) := by decide +kernel
theorem dX4_readOne_50 : decode cX4_readOne 50 = .ok (.iload_n 2, 1) := by decide +kernel
theorem dX4_readOne_51 : decode cX4_readOne 51 = .ok (.ireturn, 1) := by decide +kernel
theorem dX4_readOne_52 : decode cX4_readOne 52 = .ok (.aload_n 0, 1) := by decide +kernel
theorem dX4_readOne_53 : decode cX4_readOne 53 = .ok (.iload_n 1, 1) := by decide +kernel
theorem dX4_readOne_54 : decode cX4_readOne 54 = .ok (.invokevirtual 226, 3) := by decide +kernel
theorem dX4_readOne_57 : decode cX4_readOne 57 = .ok (.istore_n 2, 1) := by decide +kernel
theorem dX4_readOne_58 : decode cX4_readOne 58 = .ok (.aload_n 0, 1) := by decide +kernel
theorem dX4_readOne_59 : decode cX4_readOne 59 = .ok (.invokevirtual 229, 3) := by decide +kernel
theorem dX4_readOne_62 : decode cX4_readOne 62 = .ok (.istore_n 3, 1) := by decide +kernel
theorem dX4_readOne_63 : decode cX4_readOne 63 = .ok (.iload_n 2, 1) := by decide +kernel
theorem dX4_readOne_64 : decode cX4_readOne 64 = .ok (.ifCond .eq 33, 3) := by decide +kernel
theorem dX4_readOne_67 : decode cX4_readOne 67 = .ok (.iload_n 3, 1) := by decide +kernel
theorem dX4_readOne_68 : decode cX4_readOne 68 = .ok (.iconst (-1), 1) := by decide +kernel
theorem dX4_readOne_69 : decode cX4_readOne 69 = .ok (.if_icmp .eq 28, 3) := by decide +kernel
theorem dX4_readOne_72 : decode cX4_readOne 72 = .ok (.aload_n 0, 1) := by decide +kernel
theorem dX4_readOne_73 : decode cX4_readOne 73 = .ok (.getfield 30, 3) := by decide +kernel
theorem dX4_readOne_76 : decode cX4_readOne 76 = .ok (.invokevirtual 66, 3) := by decide +kernel
theorem dX4_readOne_79 : decode cX4_readOne 79 = .ok (.aload_n 0, 1) := by decide +kernel
theorem dX4_readOne_80 : decode cX4_readOne 80 = .ok (.iload_n 1, 1) := by decide +kernel
theorem dX4_readOne_81 : decode cX4_readOne 81 = .ok (.invokevirtual 226, 3) := by decide +kernel
theorem dX4_readOne_84 : decode cX4_readOne 84 = .ok (.istore_n 2, 1) := by decide +kernel
theorem dX4_readOne_85 : decode cX4_readOne 85 = .ok (.aload_n 0, 1) := by decide +kernel
theorem dX4_readOne_86 : decode cX4_readOne 86 = .ok (.getfield 12, 3) := by decide +kernel
theorem dX4_readOne_89 : decode cX4_readOne 89 = .ok (.getfield 214, 3) := by decide +kernel
theorem dX4_readOne_92 : decode cX4_readOne 92 = .ok (.iload_n 3, 1) := by decide +kernel
theorem dX4_readOne_93 : decode cX4_readOne 93 = .ok (.iconst 0, 1) := by decide +kernel
theorem dX4_readOne_94 : decode cX4_readOne 94 = .ok (.invokevirtual 220, 3) := by decide +kernel
theorem dX4_readOne_97 : decode cX4_readOne 97 = .ok (.iload_n 2, 1) := by decide +kernel
theorem dX4_readOne_98 : decode cX4_readOne 98 = .ok (.ireturn, 1) := by decide +kernel
theorem dX4_readPart_0 : decode cX4_readPart 0 = .ok (.iconst 0, 1) := by decide +kernel
theorem dX4_readPart_1 : decode cX4_readPart 1 = .ok (.istore_n 2, 1) := by decide +kernel
theorem dX4_readPart_2 : decode cX4_readPart 2 = .ok (.iconst 0, 1) := by decide +kernel
theorem dX4_readPart_3 : decode cX4_readPart 3 = .ok (.istore_n 3, 1) := by decide +kernel
theorem dX4_readPart_4 : decode cX4_readPart 4 = .ok (.iload_n 3, 1) := by decide +kernel
theorem dX4_readPart_5 : decode cX4_readPart 5 = .ok (.bipush 6, 2) := by decide +kernel
theorem dX4_readPart_7 : decode cX4_readPart 7 = .ok (.if_icmp .gt 79, 3) := by decide +kernel
theorem dX4_readPart_10 : decode cX4_readPart 10 = .ok (.aload_n 0, 1) := by decide +kernel
theorem dX4_readPart_11 : decode cX4_readPart 11 = .ok (.invokevirtual 148, 3) := by decide +kernel
theorem dX4_readPart_14 : decode cX4_readPart 14 = .ok (.istore 4, 2) := by decide +kernel
theorem dX4_readPart_16 : decode cX4_readPart 16 = .ok (.iload 4, 2) := by decide +kernel
theorem dX4_readPart_18 : decode cX4_readPart 18 = .ok (.iconst (-1), 1) := by decide +kernel
theorem dX4_readPart_19 : decode cX4_readPart 19 = .ok (.if_icmp .ne 5, 3) := by decide +kernel
theorem dX4_readPart_22 : decode cX4_readPart 22 = .ok (.iconst 0, 1) := by decide +kernel
theorem dX4_readPart_23 : decode cX4_readPart 23 = .ok (.ireturn, 1) := by decide +kernel
theorem dX4_readPart_24 : decode cX4_readPart 24 = .ok (.iload_n 2, 1) := by decide +kernel
theorem dX4_readPart_25 : decode cX4_readPart 25 = .ok (.iload_n 1, 1) := by decide +kernel
theorem dX4_readPart_26 : decode cX4_readPart 26 = .ok (.iload 4, 2) := by decide +kernel
theorem dX4_readPart_28 : decode cX4_readPart 28 = .ok (.invokestatic 158, 3) := by decide +kernel
theorem dX4_readPart_31 : decode cX4_readPart 31 = .ok (.iand, 1) := by decide +kernel
theorem dX4_readPart_32 : decode cX4_readPart 32 = .ok (.ifCond .eq 11, 3) := by decide +kernel
theorem dX4_readPart_35 : decode cX4_readPart 35 = .ok (.aload_n 0, 1) := by decide +kernel
theorem dX4_readPart_36 : decode cX4_readPart 36 = .ok (.iconst 3, 1) := by decide +kernel
theorem dX4_readPart_37 : decode cX4_readPart 37 = .ok (.invokevirtual 59, 3) := by decide +kernel
theorem dX4_readPart_40 : decode cX4_readPart 40 = .ok (.pop, 1) := by decide +kernel
theorem dX4_readPart_41 : decode cX4_readPart 41 = .ok (.iconst 0, 1) := by decide +kernel
theorem dX4_readPart_42 : decode cX4_readPart 42 = .ok (.ireturn, 1) := by decide +kernel
theorem dX4_readPart_43 : decode cX4_readPart 43 = .ok (.iload_n 2, 1) := by decide +kernel
theorem dX4_readPart_44 : decode cX4_readPart 44 = .ok (.iload_n 1, 1) := by decide +kernel
theorem dX4_readPart_45 : decode cX4_readPart 45 = .ok (.iload 4, 2) := by decide +kernel
theorem dX4_readPart_47 : decode cX4_readPart 47 = .ok (.invokestatic 158, 3) := by decide +kernel
theorem dX4_readPart_50 : decode cX4_readPart 50 = .ok (.ior, 1) := by decide +kernel
theorem dX4_readPart_51 : decode cX4_readPart 51 = .ok (.istore_n 2, 1) := by decide +kernel
theorem dX4_readPart_52 : decode cX4_readPart 52 = .ok (.aload_n 0, 1) := by decide +kernel
theorem dX4_readPart_53 : decode cX4_readPart 53 = .ok (.getfield 30, 3) := by decide +kernel
theorem dX4_readPart_56 : decode cX4_readPart 56 = .ok (.invokevirtual 66, 3) := by decide +kernel
theorem dX4_readPart_59 : decode cX4_readPart 59 = .ok (.aload_n 0, 1) := by decide +kernel
theorem dX4_readPart_60 : decode cX4_readPart 60 = .ok (.getfield 30, 3) := by decide +kernel
theorem dX4_readPart_63 : decode cX4_readPart 63 = .ok (.getfield 49, 3) := by decide +kernel
theorem dX4_readPart_66 : decode cX4_readPart 66 = .ok (.bipush 47, 2) := by decide +kernel
theorem dX4_readPart_68 : decode cX4_readPart 68 = .ok (.if_icmp .eq 5, 3) := by decide +kernel
theorem dX4_readPart_71 : decode cX4_readPart 71 = .ok (.iload_n 2, 1) := by decide +kernel
theorem dX4_readPart_72 : decode cX4_readPart 72 = .ok (.ireturn, 1) := by decide +kernel
theorem dX4_readPart_73 : decode cX4_readPart 73 = .ok (.aload_n 0, 1) := by decide +kernel
theorem dX4_readPart_74 : decode cX4_readPart 74 = .ok (.getfield 30, 3) := by decide +kernel
theorem dX4_readPart_77 : decode cX4_readPart 77 = .ok (.invokevirtual 66, 3) := by decide +kernel
theorem dX4_readPart_80 : decode cX4_readPart 80 = .ok (.iinc 3 1, 3) := by decide +kernel
theorem dX4_readPart_83 : decode cX4_readPart 83 = .ok (.goto (-79), 3) := by decide +kernel
theorem dX4_readPart_86 : decode cX4_readPart 86 = .ok (.iconst 0, 1) := by decide +kernel
theorem dX4_readPart_87 : decode cX4_readPart 87 = .ok (.ireturn, 1) := by decide +kernel
theorem dX4_readPerson_0 : decode cX4_readPerson 0 = .ok (.aload_n 0, 1) := by decide +kernel
theorem dX4_readPerson_1 : decode cX4_readPerson 1 = .ok (.iconst 4, 1) := by decide +kernel
theorem dX4_readPerson_2 : decode cX4_readPerson 2 = .ok (.aload_n 0, 1) := by decide +kernel
theorem dX4_readPerson_3 : decode cX4_readPerson 3 = .ok (.getfield 12, 3) := by decide +kernel
theorem dX4_readPerson_6 : decode cX4_readPerson 6 = .ok (.getfield 187, 3) := by decide +kernel
theorem dX4_readPerson_9 : decode cX4_readPerson 9 = .ok (.iconst 4, 1) := by decide +kernel
theorem dX4_readPerson_10 : decode cX4_readPerson 10 = .ok (.invokevirtual 144, 3) := by decide +kernel
theorem dX4_readPerson_13 : decode cX4_readPerson 13 = .ok (.ifCond .eq 12, 3) := by decide +kernel
theorem dX4_readPerson_16 : decode cX4_readPerson 16 = .ok (.aload_n 0, 1) := by decide +kernel
theorem dX4_readPerson_17 : decode cX4_readPerson 17 = .ok (.bipush 14, 2) := by decide +kernel
theorem dX4_readPerson_19 : decode cX4_readPerson 19 = .ok (.invokevirtual 97, 3) := by decide +kernel
theorem dX4_readPerson_22 : decode cX4_readPerson 22 = .ok (.ifCond .ne 5, 3) := by decide +kernel
theorem dX4_readPerson_25 : decode cX4_readPerson 25 = .ok (.iconst 0, 1) := by decide +kernel
theorem dX4_readPerson_26 : decode cX4_readPerson 26 = .ok (.ireturn, 1) := by decide +kernel
theorem dX4_readPerson_27 : decode cX4_readPerson 27 = .ok (.aload_n 0, 1) := by decide +kernel
theorem dX4_readPerson_28 : decode cX4_readPerson 28 = .ok (.iconst 2, 1) := by decide +kernel
theorem dX4_readPerson_29 : decode cX4_readPerson 29 = .ok (.aload_n 0, 1) := by decide +kernel
theorem dX4_readPerson_30 : decode cX4_readPerson 30 = .ok (.getfield 12, 3) := by decide +kernel
theorem dX4_readPerson_33 : decode cX4_readPerson 33 = .ok (.getfield 174, 3) := by decide +kernel
theorem dX4_readPerson_36 : decode cX4_readPerson 36 = .ok (.invokevirtual 180, 3) := by decide +kernel
theorem dX4_readPerson_39 : decode cX4_readPerson 39 = .ok (.istore_n 1, 1) := by decide +kernel
theorem dX4_readPerson_40 : decode cX4_readPerson 40 = .ok (.iload_n 1, 1) := by decide +kernel
theorem dX4_readPerson_41 : decode cX4_readPerson 41 = .ok (.iconst (-1), 1) := by decide +kernel
theorem dX4_readPerson_42 : decode cX4_readPerson 42 = .ok (.if_icmp .ne 5, 3) := by decide +kernel
theorem dX4_readPerson_45 : decode cX4_readPerson 45 = .ok (.iconst 0, 1) := by decide +kernel
theorem dX4_readPerson_46 : decode cX4_readPerson 46 = .ok (.ireturn, 1) := by decide +kernel
theorem dX4_readPerson_47 : decode cX4_readPerson 47 = .ok (.aload_n 0, 1) := by decide +kernel
theorem dX4_readPerson_48 : decode cX4_readPerson 48 = .ok (.getfield 30, 3) := by decide +kernel
theorem dX4_readPerson_51 : decode cX4_readPerson 51 = .ok (.invokevirtual 66, 3) := by decide +kernel
theorem dX4_readPerson_54 : decode cX4_readPerson 54 = .ok (.aload_n 0, 1) := by decide +kernel
theorem dX4_readPerson_55 : decode cX4_readPerson 55 = .ok (.getfield 30, 3) := by decide +kernel
theorem dX4_readPerson_58 : decode cX4_readPerson 58 = .ok (.getfield 49, 3) := by decide +kernel
theorem dX4_readPerson_61 : decode cX4_readPerson 61 = .ok (.bipush 15, 2) := by decide +kernel
theorem dX4_readPerson_63 : decode cX4_readPerson 63 = .ok (.if_icmp .ne 12, 3) := by decide +kernel
theorem dX4_readPerson_66 : decode cX4_readPerson 66 = .ok (.aload_n 0, 1) := by decide +kernel
theorem dX4_readPerson_67 : decode cX4_readPerson 67 = .ok (.invokevirtual 190, 3) := by decide +kernel
theorem dX4_readPerson_70 : decode cX4_readPerson 70 = .ok (.ifCond .ne 5, 3) := by decide +kernel
theorem dX4_readPerson_73 : decode cX4_readPerson 73 = .ok (.iconst 0, 1) := by decide +kernel
theorem dX4_readPerson_74 : decode cX4_readPerson 74 = .ok (.ireturn, 1) := by decide +kernel
theorem dX4_readPerson_75 : decode cX4_readPerson 75 = .ok (.aload_n 0, 1) := by decide +kernel
theorem dX4_readPerson_76 : decode cX4_readPerson 76 = .ok (.getfield 12, 3) := by decide +kernel
theorem dX4_readPerson_79 : decode cX4_readPerson 79 = .ok (.getfield 124, 3) := by decide +kernel
theorem dX4_readPerson_82 : decode cX4_readPerson 82 = .ok (.aload_n 0, 1) := by decide +kernel
theorem dX4_readPerson_83 : decode cX4_readPerson 83 = .ok (.getfield 12, 3) := by decide +kernel
theorem dX4_readPerson_86 : decode cX4_readPerson 86 = .ok (.getfield 187, 3) := by decide +kernel
theorem dX4_readPerson_89 : decode cX4_readPerson 89 = .ok (.iload_n 1, 1) := by decide +kernel
theorem dX4_readPerson_90 : decode cX4_readPerson 90 = .ok (.invokevirtual 193, 3) := by decide +kernel
theorem dX4_readPerson_93 : decode cX4_readPerson 93 = .ok (.aload_n 0, 1) := by decide +kernel
theorem dX4_readPerson_94 : decode cX4_readPerson 94 = .ok (.getfield 12, 3) := by decide +kernel
theorem dX4_readPerson_97 : decode cX4_readPerson 97 = .ok (.dup, 1) := by decide +kernel
theorem dX4_readPerson_98 : decode cX4_readPerson 98 = .ok (.getfield 187, 3) := by decide +kernel
theorem dX4_readPerson_101 : decode cX4_readPerson 101 = .ok (.iconst 1, 1) := by decide +kernel
theorem dX4_readPerson_102 : decode cX4_readPerson 102 = .ok (.iadd, 1) := by decide +kernel
theorem dX4_readPerson_103 : decode cX4_readPerson 103 = .ok (.putfield 187, 3) := by decide +kernel
theorem dX4_readPerson_106 : decode cX4_readPerson 106 = .ok (.aload_n 0, 1) := by decide +kernel
theorem dX4_readPerson_107 : decode cX4_readPerson 107 = .ok (.bipush 59, 2) := by decide +kernel
theorem dX4_readPerson_109 : decode cX4_readPerson 109 = .ok (.invokevirtual 97, 3) := by decide +kernel
theorem dX4_readPerson_112 : decode cX4_readPerson 112 = .ok (.ireturn, 1) := by decide +kernel
theorem dX4_readRoom_0 : decode cX4_readRoom 0 = .ok (.aload_n 0, 1) := by decide +kernel
theorem dX4_readRoom_1 : decode cX4_readRoom 1 = .ok (.iconst 2, 1) := by decide +kernel
theorem dX4_readRoom_2 : decode cX4_readRoom 2 = .ok (.aload_n 0, 1) := by decide +kernel
theorem dX4_readRoom_3 : decode cX4_readRoom 3 = .ok (.getfield 12, 3) := by decide +kernel
theorem dX4_readRoom_6 : decode cX4_readRoom 6 = .ok (.getfield 174, 3) := by decide +kernel
theorem dX4_readRoom_9 : decode cX4_readRoom 9 = .ok (.bipush 6, 2) := by decide +kernel
theorem dX4_readRoom_11 : decode cX4_readRoom 11 = .ok (.invokevirtual 144, 3) := by decide +kernel
theorem dX4_readRoom_14 : decode cX4_readRoom 14 = .ok (.ifCond .ne 5, 3) := by decide +kernel
theorem dX4_readRoom_17 : decode cX4_readRoom 17 = .ok (.iconst 0, 1) := by decide +kernel
theorem dX4_readRoom_18 : decode cX4_readRoom 18 = .ok (.ireturn, 1) := by decide +kernel
theorem dX4_readRoom_19 : decode cX4_readRoom 19 = .ok (.aload_n 0, 1) := by decide +kernel
theorem dX4_readRoom_20 : decode cX4_readRoom 20 = .ok (.getfield 12, 3) := by decide +kernel
theorem dX4_readRoom_23 : decode cX4_readRoom 23 = .ok (.dup, 1) := by decide +kernel
theorem dX4_readRoom_24 : decode cX4_readRoom 24 = .ok (.getfield 174, 3) := by decide +kernel
theorem dX4_readRoom_27 : decode cX4_readRoom 27 = .ok (.iconst 1, 1) := by decide +kernel
theorem dX4_readRoom_28 : decode cX4_readRoom 28 = .ok (.iadd, 1) := by decide +kernel
theorem dX4_readRoom_29 : decode cX4_readRoom 29 = .ok (.putfield 174, 3) := by decide +kernel
theorem dX4_readRoom_32 : decode cX4_readRoom 32 = .ok (.aload_n 0, 1) := by decide +kernel
theorem dX4_readRoom_33 : decode cX4_readRoom 33 = .ok (.bipush 59, 2) := by decide +kernel
theorem dX4_readRoom_35 : decode cX4_readRoom 35 = .ok (.invokevirtual 97, 3) := by decide +kernel
theorem dX4_readRoom_38 : decode cX4_readRoom 38 = .ok (.ireturn, 1) := by decide +kernel
theorem dX4_readRule_0 : decode cX4_readRule 0 = .ok (.aload_n 0, 1) := by decide +kernel
theorem dX4_readRule_1 : decode cX4_readRule 1 = .ok (.getfield 30, 3) := by decide +kernel
theorem dX4_readRule_4 : decode cX4_readRule 4 = .ok (.getfield 49, 3) := by decide +kernel
theorem dX4_readRule_7 : decode cX4_readRule 7 = .ok (.bipush 8, 2) := by decide +kernel
theorem dX4_readRule_9 : decode cX4_readRule 9 = .ok (.if_icmp .ne 7, 3) := by decide +kernel
theorem dX4_readRule_12 : decode cX4_readRule 12 = .ok (.iconst 1, 1) := by decide +kernel
theorem dX4_readRule_13 : decode cX4_readRule 13 = .ok (.goto 4, 3) := by decide +kernel
theorem dX4_readRule_16 : decode cX4_readRule 16 = .ok (.iconst 0, 1) := by decide +kernel
theorem dX4_readRule_17 : decode cX4_readRule 17 = .ok (.istore_n 1, 1) := by decide +kernel
theorem dX4_readRule_18 : decode cX4_readRule 18 = .ok (.aload_n 0, 1) := by decide +kernel
theorem dX4_readRule_19 : decode cX4_readRule 19 = .ok (.getfield 30, 3) := by decide +kernel
theorem dX4_readRule_22 : decode cX4_readRule 22 = .ok (.invokevirtual 66, 3) := by decide +kernel
theorem dX4_readRule_25 : decode cX4_readRule 25 = .ok (.aload_n 0, 1) := by decide +kernel
theorem dX4_readRule_26 : decode cX4_readRule 26 = .ok (.iconst 0, 1) := by decide +kernel
theorem dX4_readRule_27 : decode cX4_readRule 27 = .ok (.aload_n 0, 1) := by decide +kernel
theorem dX4_readRule_28 : decode cX4_readRule 28 = .ok (.getfield 12, 3) := by decide +kernel
theorem dX4_readRule_31 : decode cX4_readRule 31 = .ok (.getfield 100, 3) := by decide +kernel
theorem dX4_readRule_34 : decode cX4_readRule 34 = .ok (.invokevirtual 180, 3) := by decide +kernel
theorem dX4_readRule_37 : decode cX4_readRule 37 = .ok (.istore_n 2, 1) := by decide +kernel
theorem dX4_readRule_38 : decode cX4_readRule 38 = .ok (.iload_n 2, 1) := by decide +kernel
theorem dX4_readRule_39 : decode cX4_readRule 39 = .ok (.iconst (-1), 1) := by decide +kernel
theorem dX4_readRule_40 : decode cX4_readRule 40 = .ok (.if_icmp .ne 5, 3) := by decide +kernel
theorem dX4_readRule_43 : decode cX4_readRule 43 = .ok (.iconst 0, 1) := by decide +kernel
theorem dX4_readRule_44 : decode cX4_readRule 44 = .ok (.ireturn, 1) := by decide +kernel
theorem dX4_readRule_45 : decode cX4_readRule 45 = .ok (.aload_n 0, 1) := by decide +kernel
theorem dX4_readRule_46 : decode cX4_readRule 46 = .ok (.getfield 30, 3) := by decide +kernel
theorem dX4_readRule_49 : decode cX4_readRule 49 = .ok (.invokevirtual 66, 3) := by decide +kernel
theorem dX4_readRule_52 : decode cX4_readRule 52 = .ok (.aload_n 0, 1) := by decide +kernel
theorem dX4_readRule_53 : decode cX4_readRule 53 = .ok (.iconst 1, 1) := by decide +kernel
theorem dX4_readRule_54 : decode cX4_readRule 54 = .ok (.aload_n 0, 1) := by decide +kernel
theorem dX4_readRule_55 : decode cX4_readRule 55 = .ok (.getfield 12, 3) := by decide +kernel
theorem dX4_readRule_58 : decode cX4_readRule 58 = .ok (.getfield 103, 3) := by decide +kernel
theorem dX4_readRule_61 : decode cX4_readRule 61 = .ok (.invokevirtual 180, 3) := by decide +kernel
theorem dX4_readRule_64 : decode cX4_readRule 64 = .ok (.istore_n 3, 1) := by decide +kernel
theorem dX4_readRule_65 : decode cX4_readRule 65 = .ok (.iload_n 3, 1) := by decide +kernel
theorem dX4_readRule_66 : decode cX4_readRule 66 = .ok (.iconst (-1), 1) := by decide +kernel
theorem dX4_readRule_67 : decode cX4_readRule 67 = .ok (.if_icmp .ne 5, 3) := by decide +kernel
theorem dX4_readRule_70 : decode cX4_readRule 70 = .ok (.iconst 0, 1) := by decide +kernel
theorem dX4_readRule_71 : decode cX4_readRule 71 = .ok (.ireturn, 1) := by decide +kernel
theorem dX4_readRule_72 : decode cX4_readRule 72 = .ok (.aload_n 0, 1) := by decide +kernel
theorem dX4_readRule_73 : decode cX4_readRule 73 = .ok (.getfield 12, 3) := by decide +kernel
theorem dX4_readRule_76 : decode cX4_readRule 76 = .ok (.iload_n 3, 1) := by decide +kernel
theorem dX4_readRule_77 : decode cX4_readRule 77 = .ok (.invokevirtual 199, 3) := by decide +kernel
theorem dX4_readRule_80 : decode cX4_readRule 80 = .ok (.aload_n 0, 1) := by decide +kernel
theorem dX4_readRule_81 : decode cX4_readRule 81 = .ok (.getfield 12, 3) := by decide +kernel
theorem dX4_readRule_84 : decode cX4_readRule 84 = .ok (.iload_n 3, 1) := by decide +kernel
theorem dX4_readRule_85 : decode cX4_readRule 85 = .ok (.invokevirtual 202, 3) := by decide +kernel
theorem dX4_readRule_88 : decode cX4_readRule 88 = .ok (.ior, 1) := by decide +kernel
theorem dX4_readRule_89 : decode cX4_readRule 89 = .ok (.iload_n 2, 1) := by decide +kernel
theorem dX4_readRule_90 : decode cX4_readRule 90 = .ok (.ishr, 1) := by decide +kernel
theorem dX4_readRule_91 : decode cX4_readRule 91 = .ok (.iconst 1, 1) := by decide +kernel
theorem dX4_readRule_92 : decode cX4_readRule 92 = .ok (.iand, 1) := by decide +kernel
theorem dX4_readRule_93 : decode cX4_readRule 93 = .ok (.ifCond .eq 9, 3) := by decide +kernel
theorem dX4_readRule_96 : decode cX4_readRule 96 = .ok (.aload_n 0, 1) := by decide +kernel
theorem dX4_readRule_97 : decode cX4_readRule 97 = .ok (.iconst 3, 1) := by decide +kernel
theorem dX4_readRule_98 : decode cX4_readRule 98 = .ok (.invokevirtual 59, 3) := by decide +kernel
theorem dX4_readRule_101 : decode cX4_readRule 101 = .ok (.ireturn, 1) := by decide +kernel
theorem dX4_readRule_102 : decode cX4_readRule 102 = .ok (.iload_n 1, 1) := by decide +kernel
theorem dX4_readRule_103 : decode cX4_readRule 103 = .ok (.ifCond .eq 15, 3) := by decide +kernel
theorem dX4_readRule_106 : decode cX4_readRule 106 = .ok (.aload_n 0, 1) := by decide +kernel
theorem dX4_readRule_107 : decode cX4_readRule 107 = .ok (.getfield 12, 3) := by decide +kernel
theorem dX4_readRule_110 : decode cX4_readRule 110 = .ok (.iload_n 2, 1) := by decide +kernel
theorem dX4_readRule_111 : decode cX4_readRule 111 = .ok (.iload_n 3, 1) := by decide +kernel
theorem dX4_readRule_112 : decode cX4_readRule 112 = .ok (.invokevirtual 205, 3) := by decide +kernel
theorem dX4_readRule_115 : decode cX4_readRule 115 = .ok (.goto 12, 3) := by decide +kernel
theorem dX4_readRule_118 : decode cX4_readRule 118 = .ok (.aload_n 0, 1) := by decide +kernel
theorem dX4_readRule_119 : decode cX4_readRule 119 = .ok (.getfield 12, 3) := by decide +kernel
theorem dX4_readRule_122 : decode cX4_readRule 122 = .ok (.iload_n 2, 1) := by decide +kernel
theorem dX4_readRule_123 : decode cX4_readRule 123 = .ok (.iload_n 3, 1) := by decide +kernel
theorem dX4_readRule_124 : decode cX4_readRule 124 = .ok (.invokevirtual 208, 3) := by decide +kernel
theorem dX4_readRule_127 : decode cX4_readRule 127 = .ok (.aload_n 0, 1) := by decide +kernel
theorem dX4_readRule_128 : decode cX4_readRule 128 = .ok (.getfield 30, 3) := by decide +kernel
theorem dX4_readRule_131 : decode cX4_readRule 131 = .ok (.invokevirtual 66, 3) := by decide +kernel
theorem dX4_readRule_134 : decode cX4_readRule 134 = .ok (.aload_n 0, 1) := by decide +kernel
theorem dX4_readRule_135 : decode cX4_readRule 135 = .ok (.bipush 59, 2) := by decide +kernel
theorem dX4_readRule_137 : decode cX4_readRule 137 = .ok (.invokevirtual 97, 3) := by decide +kernel
theorem dX4_readRule_140 : decode cX4_readRule 140 = .ok (.ireturn, 1) := by decide +kernel
theorem dX4_readSum_0 : decode cX4_readSum 0 = .ok (.aload_n 0, 1) := by decide +kernel
theorem dX4_readSum_1 : decode cX4_readSum 1 = .ok (.iload_n 1, 1) := by decide +kernel
theorem dX4_readSum_2 : decode cX4_readSum 2 = .ok (.invokevirtual 232, 3) := by decide +kernel
theorem dX4_readSum_5 : decode cX4_readSum 5 = .ok (.istore_n 2, 1) := by decide +kernel
theorem dX4_readSum_6 : decode cX4_readSum 6 = .ok (.iconst 0, 1) := by decide +kernel
theorem dX4_readSum_7 : decode cX4_readSum 7 = .ok (.istore_n 3, 1) := by decide +kernel
theorem dX4_readSum_8 : decode cX4_readSum 8 = .ok (.iload_n 3, 1) := by decide +kernel
theorem dX4_readSum_9 : decode cX4_readSum 9 = .ok (.sipush 1600, 3) := by decide +kernel
theorem dX4_readSum_12 : decode cX4_readSum 12 = .ok (.if_icmp .ge 84, 3) := by decide +kernel
theorem dX4_readSum_15 : decode cX4_readSum 15 = .ok (.iload_n 2, 1) := by decide +kernel
theorem dX4_readSum_16 : decode cX4_readSum 16 = .ok (.ifCond .eq 80, 3) := by decide +kernel
theorem dX4_readSum_19 : decode cX4_readSum 19 = .ok (.aload_n 0, 1) := by decide +kernel
theorem dX4_readSum_20 : decode cX4_readSum 20 = .ok (.getfield 30, 3) := by decide +kernel
theorem dX4_readSum_23 : decode cX4_readSum 23 = .ok (.getfield 49, 3) := by decide +kernel
theorem dX4_readSum_26 : decode cX4_readSum 26 = .ok (.bipush 43, 2) := by decide +kernel
theorem dX4_readSum_28 : decode cX4_readSum 28 = .ok (.if_icmp .eq 15, 3) := by decide +kernel
theorem dX4_readSum_31 : decode cX4_readSum 31 = .ok (.aload_n 0, 1) := by decide +kernel
theorem dX4_readSum_32 : decode cX4_readSum 32 = .ok (.getfield 30, 3) := by decide +kernel
theorem dX4_readSum_35 : decode cX4_readSum 35 = .ok (.getfield 49, 3) := by decide +kernel
theorem dX4_readSum_38 : decode cX4_readSum 38 = .ok (.bipush 45, 2) := by decide +kernel
theorem dX4_readSum_40 : decode cX4_readSum 40 = .ok (.if_icmp .ne 56, 3) := by decide +kernel
theorem dX4_readSum_43 : decode cX4_readSum 43 = .ok (.aload_n 0, 1) := by decide +kernel
theorem dX4_readSum_44 : decode cX4_readSum 44 = .ok (.getfield 30, 3) := by decide +kernel
theorem dX4_readSum_47 : decode cX4_readSum 47 = .ok (.getfield 49, 3) := by decide +kernel
theorem dX4_readSum_50 : decode cX4_readSum 50 = .ok (.bipush 43, 2) := by decide +kernel
theorem dX4_readSum_52 : decode cX4_readSum 52 = .ok (.if_icmp .ne 8, 3) := by decide +kernel
theorem dX4_readSum_55 : decode cX4_readSum 55 = .ok (.bipush 11, 2) := by decide +kernel
theorem dX4_readSum_57 : decode cX4_readSum 57 = .ok (.goto 5, 3) := by decide +kernel
theorem dX4_readSum_60 : decode cX4_readSum 60 = .ok (.bipush 12, 2) := by decide +kernel
theorem dX4_readSum_62 : decode cX4_readSum 62 = .ok (.istore 4, 2) := by decide +kernel
theorem dX4_readSum_64 : decode cX4_readSum 64 = .ok (.aload_n 0, 1) := by decide +kernel
theorem dX4_readSum_65 : decode cX4_readSum 65 = .ok (.getfield 30, 3) := by decide +kernel
theorem dX4_readSum_68 : decode cX4_readSum 68 = .ok (.invokevirtual 66, 3) := by decide +kernel
theorem dX4_readSum_71 : decode cX4_readSum 71 = .ok (.aload_n 0, 1) := by decide +kernel
theorem dX4_readSum_72 : decode cX4_readSum 72 = .ok (.iload_n 1, 1) := by decide +kernel
theorem dX4_readSum_73 : decode cX4_readSum 73 = .ok (.invokevirtual 232, 3) := by decide +kernel
theorem dX4_readSum_76 : decode cX4_readSum 76 = .ok (.istore_n 2, 1) := by decide +kernel
theorem dX4_readSum_77 : decode cX4_readSum 77 = .ok (.aload_n 0, 1) := by decide +kernel
theorem dX4_readSum_78 : decode cX4_readSum 78 = .ok (.getfield 12, 3) := by decide +kernel
theorem dX4_readSum_81 : decode cX4_readSum 81 = .ok (.getfield 214, 3) := by decide +kernel
theorem dX4_readSum_84 : decode cX4_readSum 84 = .ok (.iload 4, 2) := by decide +kernel
theorem dX4_readSum_86 : decode cX4_readSum 86 = .ok (.iconst 0, 1) := by decide +kernel
theorem dX4_readSum_87 : decode cX4_readSum 87 = .ok (.invokevirtual 220, 3) := by decide +kernel
theorem dX4_readSum_90 : decode cX4_readSum 90 = .ok (.iinc 3 1, 3) := by decide +kernel
theorem dX4_readSum_93 : decode cX4_readSum 93 = .ok (.goto (-85), 3) := by decide +kernel
theorem dX4_readSum_96 : decode cX4_readSum 96 = .ok (.iload_n 2, 1) := by decide +kernel
theorem dX4_readSum_97 : decode cX4_readSum 97 = .ok (.ireturn, 1) := by decide +kernel
theorem dX4_readTerm_0 : decode cX4_readTerm 0 = .ok (.aload_n 0, 1) := by decide +kernel
theorem dX4_readTerm_1 : decode cX4_readTerm 1 = .ok (.iload_n 1, 1) := by decide +kernel
theorem dX4_readTerm_2 : decode cX4_readTerm 2 = .ok (.invokevirtual 235, 3) := by decide +kernel
theorem dX4_readTerm_5 : decode cX4_readTerm 5 = .ok (.istore_n 2, 1) := by decide +kernel
theorem dX4_readTerm_6 : decode cX4_readTerm 6 = .ok (.iconst 0, 1) := by decide +kernel
theorem dX4_readTerm_7 : decode cX4_readTerm 7 = .ok (.istore_n 3, 1) := by decide +kernel
theorem dX4_readTerm_8 : decode cX4_readTerm 8 = .ok (.iload_n 3, 1) := by decide +kernel
theorem dX4_readTerm_9 : decode cX4_readTerm 9 = .ok (.sipush 1600, 3) := by decide +kernel
theorem dX4_readTerm_12 : decode cX4_readTerm 12 = .ok (.if_icmp .ge 53, 3) := by decide +kernel
theorem dX4_readTerm_15 : decode cX4_readTerm 15 = .ok (.iload_n 2, 1) := by decide +kernel
theorem dX4_readTerm_16 : decode cX4_readTerm 16 = .ok (.ifCond .eq 49, 3) := by decide +kernel
theorem dX4_readTerm_19 : decode cX4_readTerm 19 = .ok (.aload_n 0, 1) := by decide +kernel
theorem dX4_readTerm_20 : decode cX4_readTerm 20 = .ok (.invokevirtual 238, 3) := by decide +kernel
theorem dX4_readTerm_23 : decode cX4_readTerm 23 = .ok (.iconst (-1), 1) := by decide +kernel
theorem dX4_readTerm_24 : decode cX4_readTerm 24 = .ok (.if_icmp .eq 41, 3) := by decide +kernel
theorem dX4_readTerm_27 : decode cX4_readTerm 27 = .ok (.aload_n 0, 1) := by decide +kernel
theorem dX4_readTerm_28 : decode cX4_readTerm 28 = .ok (.invokevirtual 238, 3) := by decide +kernel
theorem dX4_readTerm_31 : decode cX4_readTerm 31 = .ok (.istore 4, 2) := by decide +kernel
theorem dX4_readTerm_33 : decode cX4_readTerm 33 = .ok (.aload_n 0, 1) := by decide +kernel
theorem dX4_readTerm_34 : decode cX4_readTerm 34 = .ok (.getfield 30, 3) := by decide +kernel
theorem dX4_readTerm_37 : decode cX4_readTerm 37 = .ok (.invokevirtual 66, 3) := by decide +kernel
theorem dX4_readTerm_40 : decode cX4_readTerm 40 = .ok (.aload_n 0, 1) := by decide +kernel
theorem dX4_readTerm_41 : decode cX4_readTerm 41 = .ok (.iload_n 1, 1) := by decide +kernel
theorem dX4_readTerm_42 : decode cX4_readTerm 42 = .ok (.invokevirtual 235, 3) := by decide +kernel
theorem dX4_readTerm_45 : decode cX4_readTerm 45 = .ok (.istore_n 2, 1) := by decide +kernel
theorem dX4_readTerm_46 : decode cX4_readTerm 46 = .ok (.aload_n 0, 1) := by decide +kernel
theorem dX4_readTerm_47 : decode cX4_readTerm 47 = .ok (.getfield 12, 3) := by decide +kernel
theorem dX4_readTerm_50 : decode cX4_readTerm 50 = .ok (.getfield 214, 3) := by decide +kernel
theorem dX4_readTerm_53 : decode cX4_readTerm 53 = .ok (.iload 4, 2) := by decide +kernel
theorem dX4_readTerm_55 : decode cX4_readTerm 55 = .ok (.iconst 0, 1) := by decide +kernel
theorem dX4_readTerm_56 : decode cX4_readTerm 56 = .ok (.invokevirtual 220, 3) := by decide +kernel
theorem dX4_readTerm_59 : decode cX4_readTerm 59 = .ok (.iinc 3 1, 3) := by decide +kernel
theorem dX4_readTerm_62 : decode cX4_readTerm 62 = .ok (.goto (-54), 3) := by decide +kernel
theorem dX4_readTerm_65 : decode cX4_readTerm 65 = .ok (.iload_n 2, 1) := by decide +kernel
theorem dX4_readTerm_66 : decode cX4_readTerm 66 = .ok (.ireturn, 1) := by decide +kernel
theorem dX4_readUnit_0 : decode cX4_readUnit 0 = .ok (.aload_n 0, 1) := by decide +kernel
theorem dX4_readUnit_1 : decode cX4_readUnit 1 = .ok (.getfield 30, 3) := by decide +kernel
theorem dX4_readUnit_4 : decode cX4_readUnit 4 = .ok (.getfield 49, 3) := by decide +kernel
theorem dX4_readUnit_7 : decode cX4_readUnit 7 = .ok (.bipush 40, 2) := by decide +kernel
theorem dX4_readUnit_9 : decode cX4_readUnit 9 = .ok (.if_icmp .ne 7, 3) := by decide +kernel
theorem dX4_readUnit_12 : decode cX4_readUnit 12 = .ok (.iconst 1, 1) := by decide +kernel
theorem dX4_readUnit_13 : decode cX4_readUnit 13 = .ok (.goto 4, 3) := by decide +kernel
theorem dX4_readUnit_16 : decode cX4_readUnit 16 = .ok (.iconst 0, 1) := by decide +kernel
theorem dX4_readUnit_17 : decode cX4_readUnit 17 = .ok (.istore_n 2, 1) := by decide +kernel
theorem dX4_readUnit_18 : decode cX4_readUnit 18 = .ok (.aload_n 0, 1) := by decide +kernel
theorem dX4_readUnit_19 : decode cX4_readUnit 19 = .ok (.invokevirtual 241, 3) := by decide +kernel
theorem dX4_readUnit_22 : decode cX4_readUnit 22 = .ok (.istore_n 3, 1) := by decide +kernel
theorem dX4_readUnit_23 : decode cX4_readUnit 23 = .ok (.iload_n 2, 1) := by decide +kernel
theorem dX4_readUnit_24 : decode cX4_readUnit 24 = .ok (.ifCond .ne 8, 3) := by decide +kernel
theorem dX4_readUnit_27 : decode cX4_readUnit 27 = .ok (.iload_n 3, 1) := by decide +kernel
theorem dX4_readUnit_28 : decode cX4_readUnit 28 = .ok (.iconst (-1), 1) := by decide +kernel
theorem dX4_readUnit_29 : decode cX4_readUnit 29 = .ok (.if_icmp .eq 18, 3) := by decide +kernel
theorem dX4_readUnit_32 : decode cX4_readUnit 32 = .ok (.aload_n 0, 1) := by decide +kernel
theorem dX4_readUnit_33 : decode cX4_readUnit 33 = .ok (.getfield 12, 3) := by decide +kernel
theorem dX4_readUnit_36 : decode cX4_readUnit 36 = .ok (.getfield 214, 3) := by decide +kernel
theorem dX4_readUnit_39 : decode cX4_readUnit 39 = .ok (.getfield 244, 3) := by decide +kernel
theorem dX4_readUnit_42 : decode cX4_readUnit 42 = .ok (.bipush 30, 2) := by decide +kernel
theorem dX4_readUnit_44 : decode cX4_readUnit 44 = .ok (.if_icmp .lt 8, 3) := by decide +kernel
theorem dX4_readUnit_47 : decode cX4_readUnit 47 = .ok (.aload_n 0, 1) := by decide +kernel
theorem dX4_readUnit_48 : decode cX4_readUnit 48 = .ok (.invokevirtual 63, 3) := by decide +kernel
theorem dX4_readUnit_51 : decode cX4_readUnit 51 = .ok (.ireturn, 1) := by decide +kernel
theorem dX4_readUnit_52 : decode cX4_readUnit 52 = .ok (.iload_n 2, 1) := by decide +kernel
theorem dX4_readUnit_53 : decode cX4_readUnit 53 = .ok (.ifCond .eq 14, 3) := by decide +kernel
theorem dX4_readUnit_56 : decode cX4_readUnit 56 = .ok (.iload_n 1, 1) := by decide +kernel
theorem dX4_readUnit_57 : decode cX4_readUnit 57 = .ok (.bipush 6, 2) := by decide +kernel
theorem dX4_readUnit_59 : decode cX4_readUnit 59 = .ok (.if_icmp .le 8, 3) := by decide +kernel
theorem dX4_readUnit_62 : decode cX4_readUnit 62 = .ok (.aload_n 0, 1) := by decide +kernel
theorem dX4_readUnit_63 : decode cX4_readUnit 63 = .ok (.invokevirtual 63, 3) := by decide +kernel
theorem dX4_readUnit_66 : decode cX4_readUnit 66 = .ok (.ireturn, 1) := by decide +kernel
theorem dX4_readUnit_67 : decode cX4_readUnit 67 = .ok (.aload_n 0, 1) := by decide +kernel
theorem dX4_readUnit_68 : decode cX4_readUnit 68 = .ok (.getfield 12, 3) := by decide +kernel
theorem dX4_readUnit_71 : decode cX4_readUnit 71 = .ok (.getfield 214, 3) := by decide +kernel
theorem dX4_readUnit_74 : decode cX4_readUnit 74 = .ok (.dup, 1) := by decide +kernel
theorem dX4_readUnit_75 : decode cX4_readUnit 75 = .ok (.getfield 244, 3) := by decide +kernel
theorem dX4_readUnit_78 : decode cX4_readUnit 78 = .ok (.iconst 1, 1) := by decide +kernel
theorem dX4_readUnit_79 : decode cX4_readUnit 79 = .ok (.iadd, 1) := by decide +kernel
theorem dX4_readUnit_80 : decode cX4_readUnit 80 = .ok (.putfield 244, 3) := by decide +kernel
theorem dX4_readUnit_83 : decode cX4_readUnit 83 = .ok (.iload_n 2, 1) := by decide +kernel
theorem dX4_readUnit_84 : decode cX4_readUnit 84 = .ok (.ifCond .ne 21, 3) := by decide +kernel
theorem dX4_readUnit_87 : decode cX4_readUnit 87 = .ok (.aload_n 0, 1) := by decide +kernel
theorem dX4_readUnit_88 : decode cX4_readUnit 88 = .ok (.getfield 12, 3) := by decide +kernel
theorem dX4_readUnit_91 : decode cX4_readUnit 91 = .ok (.getfield 214, 3) := by decide +kernel
theorem dX4_readUnit_94 : decode cX4_readUnit 94 = .ok (.iload_n 3, 1) := by decide +kernel
theorem dX4_readUnit_95 : decode cX4_readUnit 95 = .ok (.aload_n 0, 1) := by decide +kernel
theorem dX4_readUnit_96 : decode cX4_readUnit 96 = .ok (.getfield 30, 3) := by decide +kernel
theorem dX4_readUnit_99 : decode cX4_readUnit 99 = .ok (.getfield 106, 3) := by decide +kernel
theorem dX4_readUnit_102 : decode cX4_readUnit 102 = .ok (.invokevirtual 220, 3) := by decide +kernel
theorem dX4_readUnit_105 : decode cX4_readUnit 105 = .ok (.aload_n 0, 1) := by decide +kernel
theorem dX4_readUnit_106 : decode cX4_readUnit 106 = .ok (.getfield 30, 3) := by decide +kernel
theorem dX4_readUnit_109 : decode cX4_readUnit 109 = .ok (.invokevirtual 66, 3) := by decide +kernel
theorem dX4_readUnit_112 : decode cX4_readUnit 112 = .ok (.iload_n 2, 1) := by decide +kernel
theorem dX4_readUnit_113 : decode cX4_readUnit 113 = .ok (.ifCond .eq 22, 3) := by decide +kernel
theorem dX4_readUnit_116 : decode cX4_readUnit 116 = .ok (.aload_n 0, 1) := by decide +kernel
theorem dX4_readUnit_117 : decode cX4_readUnit 117 = .ok (.iload_n 1, 1) := by decide +kernel
theorem dX4_readUnit_118 : decode cX4_readUnit 118 = .ok (.iconst 1, 1) := by decide +kernel
theorem dX4_readUnit_119 : decode cX4_readUnit 119 = .ok (.iadd, 1) := by decide +kernel
theorem dX4_readUnit_120 : decode cX4_readUnit 120 = .ok (.invokevirtual 94, 3) := by decide +kernel
theorem dX4_readUnit_123 : decode cX4_readUnit 123 = .ok (.ifCond .eq 16, 3) := by decide +kernel
theorem dX4_readUnit_126 : decode cX4_readUnit 126 = .ok (.aload_n 0, 1) := by decide +kernel
theorem dX4_readUnit_127 : decode cX4_readUnit 127 = .ok (.bipush 41, 2) := by decide +kernel
theorem dX4_readUnit_129 : decode cX4_readUnit 129 = .ok (.invokevirtual 97, 3) := by decide +kernel
theorem dX4_readUnit_132 : decode cX4_readUnit 132 = .ok (.ifCond .eq 7, 3) := by decide +kernel
theorem dX4_readUnit_135 : decode cX4_readUnit 135 = .ok (.iconst 1, 1) := by decide +kernel
theorem dX4_readUnit_136 : decode cX4_readUnit 136 = .ok (.goto 4, 3) := by decide +kernel
theorem dX4_readUnit_139 : decode cX4_readUnit 139 = .ok (.iconst 0, 1) := by decide +kernel
theorem dX4_readUnit_140 : decode cX4_readUnit 140 = .ok (.ireturn, 1) := by decide +kernel
theorem dX4_refuse_0 : decode cX4_refuse 0 = .ok (.aload_n 0, 1) := by decide +kernel
theorem dX4_refuse_1 : decode cX4_refuse 1 = .ok (.aload_n 0, 1) := by decide +kernel
theorem dX4_refuse_2 : decode cX4_refuse 2 = .ok (.getfield 30, 3) := by decide +kernel
theorem dX4_refuse_5 : decode cX4_refuse 5 = .ok (.getfield 49, 3) := by decide +kernel
theorem dX4_refuse_8 : decode cX4_refuse 8 = .ok (.bipush 25, 2) := by decide +kernel
theorem dX4_refuse_10 : decode cX4_refuse 10 = .ok (.if_icmp .ne 7, 3) := by decide +kernel
theorem dX4_refuse_13 : decode cX4_refuse 13 = .ok (.iconst 1, 1) := by decide +kernel
theorem dX4_refuse_14 : decode cX4_refuse 14 = .ok (.goto 4, 3) := by decide +kernel
theorem dX4_refuse_17 : decode cX4_refuse 17 = .ok (.iconst 2, 1) := by decide +kernel
theorem dX4_refuse_18 : decode cX4_refuse 18 = .ok (.invokevirtual 59, 3) := by decide +kernel
theorem dX4_refuse_21 : decode cX4_refuse 21 = .ok (.ireturn, 1) := by decide +kernel
theorem dX4_relationHere_0 : decode cX4_relationHere 0 = .ok (.aload_n 0, 1) := by decide +kernel
theorem dX4_relationHere_1 : decode cX4_relationHere 1 = .ok (.getfield 30, 3) := by decide +kernel
theorem dX4_relationHere_4 : decode cX4_relationHere 4 = .ok (.getfield 49, 3) := by decide +kernel
theorem dX4_relationHere_7 : decode cX4_relationHere 7 = .ok (.tableswitch 34 60 62 #[25, 31, 28], 25) := by decide +kernel
theorem dX4_relationHere_32 : decode cX4_relationHere 32 = .ok (.bipush 8, 2) := by decide +kernel
theorem dX4_relationHere_34 : decode cX4_relationHere 34 = .ok (.ireturn, 1) := by decide +kernel
theorem dX4_relationHere_35 : decode cX4_relationHere 35 = .ok (.bipush 9, 2) := by decide +kernel
theorem dX4_relationHere_37 : decode cX4_relationHere 37 = .ok (.ireturn, 1) := by decide +kernel
theorem dX4_relationHere_38 : decode cX4_relationHere 38 = .ok (.bipush 10, 2) := by decide +kernel
theorem dX4_relationHere_40 : decode cX4_relationHere 40 = .ok (.ireturn, 1) := by decide +kernel
theorem dX4_relationHere_41 : decode cX4_relationHere 41 = .ok (.iconst (-1), 1) := by decide +kernel
theorem dX4_relationHere_42 : decode cX4_relationHere 42 = .ok (.ireturn, 1) := by decide +kernel
theorem dX4_unitHere_0 : decode cX4_unitHere 0 = .ok (.aload_n 0, 1) := by decide +kernel
theorem dX4_unitHere_1 : decode cX4_unitHere 1 = .ok (.getfield 30, 3) := by decide +kernel
theorem dX4_unitHere_4 : decode cX4_unitHere 4 = .ok (.getfield 49, 3) := by decide +kernel
theorem dX4_unitHere_7 : decode cX4_unitHere 7 = .ok (.tableswitch 47 19 24 #[39, 41, 43, 45, 47, 37], 37) := by decide +kernel
theorem dX4_unitHere_44 : decode cX4_unitHere 44 = .ok (.iconst 0, 1) := by decide +kernel
theorem dX4_unitHere_45 : decode cX4_unitHere 45 = .ok (.ireturn, 1) := by decide +kernel
theorem dX4_unitHere_46 : decode cX4_unitHere 46 = .ok (.iconst 1, 1) := by decide +kernel
theorem dX4_unitHere_47 : decode cX4_unitHere 47 = .ok (.ireturn, 1) := by decide +kernel
theorem dX4_unitHere_48 : decode cX4_unitHere 48 = .ok (.iconst 2, 1) := by decide +kernel
theorem dX4_unitHere_49 : decode cX4_unitHere 49 = .ok (.ireturn, 1) := by decide +kernel
theorem dX4_unitHere_50 : decode cX4_unitHere 50 = .ok (.iconst 3, 1) := by decide +kernel
theorem dX4_unitHere_51 : decode cX4_unitHere 51 = .ok (.ireturn, 1) := by decide +kernel
theorem dX4_unitHere_52 : decode cX4_unitHere 52 = .ok (.iconst 4, 1) := by decide +kernel
theorem dX4_unitHere_53 : decode cX4_unitHere 53 = .ok (.ireturn, 1) := by decide +kernel
theorem dX4_unitHere_54 : decode cX4_unitHere 54 = .ok (.iconst (-1), 1) := by decide +kernel
theorem dX4_unitHere_55 : decode cX4_unitHere 55 = .ok (.ireturn, 1) := by decide +kernel
theorem dX5_addBar_0 : decode cX5_addBar 0 = .ok (.iload_n 1, 1) := by decide +kernel
theorem dX5_addBar_1 : decode cX5_addBar 1 = .ok (.ifCond .eq 39, 3) := by decide +kernel
theorem dX5_addBar_4 : decode cX5_addBar 4 = .ok (.aload_n 0, 1) := by decide +kernel
theorem dX5_addBar_5 : decode cX5_addBar 5 = .ok (.getfield 30, 3) := by decide +kernel
theorem dX5_addBar_8 : decode cX5_addBar 8 = .ok (.ifCond .lt 32, 3) := by decide +kernel
theorem dX5_addBar_11 : decode cX5_addBar 11 = .ok (.aload_n 0, 1) := by decide +kernel
theorem dX5_addBar_12 : decode cX5_addBar 12 = .ok (.getfield 30, 3) := by decide +kernel
theorem dX5_addBar_15 : decode cX5_addBar 15 = .ok (.bipush 48, 2) := by decide +kernel
theorem dX5_addBar_17 : decode cX5_addBar 17 = .ok (.if_icmp .ge 23, 3) := by decide +kernel
theorem dX5_addBar_20 : decode cX5_addBar 20 = .ok (.aload_n 0, 1) := by decide +kernel
theorem dX5_addBar_21 : decode cX5_addBar 21 = .ok (.getfield 26, 3) := by decide +kernel
theorem dX5_addBar_24 : decode cX5_addBar 24 = .ok (.aload_n 0, 1) := by decide +kernel
theorem dX5_addBar_25 : decode cX5_addBar 25 = .ok (.getfield 30, 3) := by decide +kernel
theorem dX5_addBar_28 : decode cX5_addBar 28 = .ok (.iload_n 1, 1) := by decide +kernel
theorem dX5_addBar_29 : decode cX5_addBar 29 = .ok (.iastore, 1) := by decide +kernel
theorem dX5_addBar_30 : decode cX5_addBar 30 = .ok (.aload_n 0, 1) := by decide +kernel
theorem dX5_addBar_31 : decode cX5_addBar 31 = .ok (.dup, 1) := by decide +kernel
theorem dX5_addBar_32 : decode cX5_addBar 32 = .ok (.getfield 30, 3) := by decide +kernel
theorem dX5_addBar_35 : decode cX5_addBar 35 = .ok (.iconst 1, 1) := by decide +kernel
theorem dX5_addBar_36 : decode cX5_addBar 36 = .ok (.iadd, 1) := by decide +kernel
theorem dX5_addBar_37 : decode cX5_addBar 37 = .ok (.putfield 30, 3) := by decide +kernel
theorem dX5_addBar_40 : decode cX5_addBar 40 = .ok (.return_, 1) := by decide +kernel
theorem dX5_gatherBars_0 : decode cX5_gatherBars 0 = .ok (.aload_n 0, 1) := by decide +kernel
theorem dX5_gatherBars_1 : decode cX5_gatherBars 1 = .ok (.iconst 0, 1) := by decide +kernel
theorem dX5_gatherBars_2 : decode cX5_gatherBars 2 = .ok (.putfield 30, 3) := by decide +kernel
theorem dX5_gatherBars_5 : decode cX5_gatherBars 5 = .ok (.iconst 0, 1) := by decide +kernel
theorem dX5_gatherBars_6 : decode cX5_gatherBars 6 = .ok (.istore_n 2, 1) := by decide +kernel
theorem dX5_gatherBars_7 : decode cX5_gatherBars 7 = .ok (.iload_n 2, 1) := by decide +kernel
theorem dX5_gatherBars_8 : decode cX5_gatherBars 8 = .ok (.aload_n 0, 1) := by decide +kernel
theorem dX5_gatherBars_9 : decode cX5_gatherBars 9 = .ok (.getfield 9, 3) := by decide +kernel
theorem dX5_gatherBars_12 : decode cX5_gatherBars 12 = .ok (.getfield 64, 3) := by decide +kernel
theorem dX5_gatherBars_15 : decode cX5_gatherBars 15 = .ok (.if_icmp .ge 67, 3) := by decide +kernel
theorem dX5_gatherBars_18 : decode cX5_gatherBars 18 = .ok (.iconst 0, 1) := by decide +kernel
theorem dX5_gatherBars_19 : decode cX5_gatherBars 19 = .ok (.istore_n 3, 1) := by decide +kernel
theorem dX5_gatherBars_20 : decode cX5_gatherBars 20 = .ok (.iload_n 3, 1) := by decide +kernel
theorem dX5_gatherBars_21 : decode cX5_gatherBars 21 = .ok (.aload_n 0, 1) := by decide +kernel
theorem dX5_gatherBars_22 : decode cX5_gatherBars 22 = .ok (.getfield 9, 3) := by decide +kernel
theorem dX5_gatherBars_25 : decode cX5_gatherBars 25 = .ok (.getfield 34, 3) := by decide +kernel
theorem dX5_gatherBars_28 : decode cX5_gatherBars 28 = .ok (.if_icmp .ge 48, 3) := by decide +kernel
theorem dX5_gatherBars_31 : decode cX5_gatherBars 31 = .ok (.aload_n 0, 1) := by decide +kernel
theorem dX5_gatherBars_32 : decode cX5_gatherBars 32 = .ok (.getfield 9, 3) := by decide +kernel
theorem dX5_gatherBars_35 : decode cX5_gatherBars 35 = .ok (.iload_n 2, 1) := by decide +kernel
theorem dX5_gatherBars_36 : decode cX5_gatherBars 36 = .ok (.invokevirtual 52, 3) := by decide +kernel
theorem dX5_gatherBars_39 : decode cX5_gatherBars 39 = .ok (.iload_n 3, 1) := by decide +kernel
theorem dX5_gatherBars_40 : decode cX5_gatherBars 40 = .ok (.ishr, 1) := by decide +kernel
theorem dX5_gatherBars_41 : decode cX5_gatherBars 41 = .ok (.iconst 1, 1) := by decide +kernel
theorem dX5_gatherBars_42 : decode cX5_gatherBars 42 = .ok (.iand, 1) := by decide +kernel
theorem dX5_gatherBars_43 : decode cX5_gatherBars 43 = .ok (.ifCond .eq 27, 3) := by decide +kernel
theorem dX5_gatherBars_46 : decode cX5_gatherBars 46 = .ok (.aload_n 0, 1) := by decide +kernel
theorem dX5_gatherBars_47 : decode cX5_gatherBars 47 = .ok (.iload_n 3, 1) := by decide +kernel
theorem dX5_gatherBars_48 : decode cX5_gatherBars 48 = .ok (.iload_n 1, 1) := by decide +kernel
theorem dX5_gatherBars_49 : decode cX5_gatherBars 49 = .ok (.if_icmp .ne 11, 3) := by decide +kernel
theorem dX5_gatherBars_52 : decode cX5_gatherBars 52 = .ok (.aload_n 0, 1) := by decide +kernel
theorem dX5_gatherBars_53 : decode cX5_gatherBars 53 = .ok (.iload_n 2, 1) := by decide +kernel
theorem dX5_gatherBars_54 : decode cX5_gatherBars 54 = .ok (.invokevirtual 61, 3) := by decide +kernel
theorem dX5_gatherBars_57 : decode cX5_gatherBars 57 = .ok (.goto 10, 3) := by decide +kernel
theorem dX5_gatherBars_60 : decode cX5_gatherBars 60 = .ok (.aload_n 0, 1) := by decide +kernel
theorem dX5_gatherBars_61 : decode cX5_gatherBars 61 = .ok (.iload_n 3, 1) := by decide +kernel
theorem dX5_gatherBars_62 : decode cX5_gatherBars 62 = .ok (.iload_n 2, 1) := by decide +kernel
theorem dX5_gatherBars_63 : decode cX5_gatherBars 63 = .ok (.iload_n 1, 1) := by decide +kernel
theorem dX5_gatherBars_64 : decode cX5_gatherBars 64 = .ok (.invokevirtual 88, 3) := by decide +kernel
theorem dX5_gatherBars_67 : decode cX5_gatherBars 67 = .ok (.invokevirtual 92, 3) := by decide +kernel
theorem dX5_gatherBars_70 : decode cX5_gatherBars 70 = .ok (.iinc 3 1, 3) := by decide +kernel
theorem dX5_gatherBars_73 : decode cX5_gatherBars 73 = .ok (.goto (-53), 3) := by decide +kernel
theorem dX5_gatherBars_76 : decode cX5_gatherBars 76 = .ok (.iinc 2 1, 3) := by decide +kernel
theorem dX5_gatherBars_79 : decode cX5_gatherBars 79 = .ok (.goto (-72), 3) := by decide +kernel
theorem dX5_gatherBars_82 : decode cX5_gatherBars 82 = .ok (.return_, 1) := by decide +kernel
theorem dX5_init_0 : decode cX5_init 0 = .ok (.aload_n 0, 1) := by decide +kernel
theorem dX5_init_1 : decode cX5_init 1 = .ok (.invokespecial 3, 3) := by decide +kernel
theorem dX5_init_4 : decode cX5_init 4 = .ok (.aload_n 0, 1) := by decide +kernel
theorem dX5_init_5 : decode cX5_init 5 = .ok (.aload_n 1, 1) := by decide +kernel
theorem dX5_init_6 : decode cX5_init 6 = .ok (.putfield 9, 3) := by decide +kernel
theorem dX5_init_9 : decode cX5_init 9 = .ok (.aload_n 0, 1) := by decide +kernel
theorem dX5_init_10 : decode cX5_init 10 = .ok (.aload_n 2, 1) := by decide +kernel
theorem dX5_init_11 : decode cX5_init 11 = .ok (.putfield 15, 3) := by decide +kernel
theorem dX5_init_14 : decode cX5_init 14 = .ok (.aload_n 0, 1) := by decide +kernel
theorem dX5_init_15 : decode cX5_init 15 = .ok (.aload_n 1, 1) := by decide +kernel
theorem dX5_init_16 : decode cX5_init 16 = .ok (.getfield 19, 3) := by decide +kernel
theorem dX5_init_19 : decode cX5_init 19 = .ok (.putfield 25, 3) := by decide +kernel
theorem dX5_init_22 : decode cX5_init 22 = .ok (.aload_n 0, 1) := by decide +kernel
theorem dX5_init_23 : decode cX5_init 23 = .ok (.bipush 48, 2) := by decide +kernel
theorem dX5_init_25 : decode cX5_init 25 = .ok (.newarray .int, 2) := by decide +kernel
theorem dX5_init_27 : decode cX5_init 27 = .ok (.putfield 26, 3) := by decide +kernel
theorem dX5_init_30 : decode cX5_init 30 = .ok (.aload_n 0, 1) := by decide +kernel
theorem dX5_init_31 : decode cX5_init 31 = .ok (.iconst 0, 1) := by decide +kernel
theorem dX5_init_32 : decode cX5_init 32 = .ok (.putfield 30, 3) := by decide +kernel
theorem dX5_init_35 : decode cX5_init 35 = .ok (.return_, 1) := by decide +kernel
theorem dX5_isBarred_0 : decode cX5_isBarred 0 = .ok (.iconst 0, 1) := by decide +kernel
theorem dX5_isBarred_1 : decode cX5_isBarred 1 = .ok (.istore_n 2, 1) := by decide +kernel
theorem dX5_isBarred_2 : decode cX5_isBarred 2 = .ok (.iload_n 2, 1) := by decide +kernel
theorem dX5_isBarred_3 : decode cX5_isBarred 3 = .ok (.aload_n 0, 1) := by decide +kernel
theorem dX5_isBarred_4 : decode cX5_isBarred 4 = .ok (.getfield 30, 3) := by decide +kernel
theorem dX5_isBarred_7 : decode cX5_isBarred 7 = .ok (.if_icmp .ge 30, 3) := by decide +kernel
theorem dX5_isBarred_10 : decode cX5_isBarred 10 = .ok (.iload_n 2, 1) := by decide +kernel
theorem dX5_isBarred_11 : decode cX5_isBarred 11 = .ok (.bipush 48, 2) := by decide +kernel
theorem dX5_isBarred_13 : decode cX5_isBarred 13 = .ok (.if_icmp .ge 24, 3) := by decide +kernel
theorem dX5_isBarred_16 : decode cX5_isBarred 16 = .ok (.iload_n 1, 1) := by decide +kernel
theorem dX5_isBarred_17 : decode cX5_isBarred 17 = .ok (.aload_n 0, 1) := by decide +kernel
theorem dX5_isBarred_18 : decode cX5_isBarred 18 = .ok (.getfield 26, 3) := by decide +kernel
theorem dX5_isBarred_21 : decode cX5_isBarred 21 = .ok (.iload_n 2, 1) := by decide +kernel
theorem dX5_isBarred_22 : decode cX5_isBarred 22 = .ok (.iaload, 1) := by decide +kernel
theorem dX5_isBarred_23 : decode cX5_isBarred 23 = .ok (.invokestatic 46, 3) := by decide +kernel
theorem dX5_isBarred_26 : decode cX5_isBarred 26 = .ok (.ifCond .eq 5, 3) := by decide +kernel
theorem dX5_isBarred_29 : decode cX5_isBarred 29 = .ok (.iconst 1, 1) := by decide +kernel
theorem dX5_isBarred_30 : decode cX5_isBarred 30 = .ok (.ireturn, 1) := by decide +kernel
theorem dX5_isBarred_31 : decode cX5_isBarred 31 = .ok (.iinc 2 1, 3) := by decide +kernel
theorem dX5_isBarred_34 : decode cX5_isBarred 34 = .ok (.goto (-32), 3) := by decide +kernel
theorem dX5_isBarred_37 : decode cX5_isBarred 37 = .ok (.iconst 0, 1) := by decide +kernel
theorem dX5_isBarred_38 : decode cX5_isBarred 38 = .ok (.ireturn, 1) := by decide +kernel
theorem dX5_isBroken_0 : decode cX5_isBroken 0 = .ok (.aload_n 0, 1) := by decide +kernel
theorem dX5_isBroken_1 : decode cX5_isBroken 1 = .ok (.getfield 15, 3) := by decide +kernel
theorem dX5_isBroken_4 : decode cX5_isBroken 4 = .ok (.iload_n 1, 1) := by decide +kernel
theorem dX5_isBroken_5 : decode cX5_isBroken 5 = .ok (.invokevirtual 37, 3) := by decide +kernel
theorem dX5_isBroken_8 : decode cX5_isBroken 8 = .ok (.aload_n 0, 1) := by decide +kernel
theorem dX5_isBroken_9 : decode cX5_isBroken 9 = .ok (.getfield 15, 3) := by decide +kernel
theorem dX5_isBroken_12 : decode cX5_isBroken 12 = .ok (.iload_n 2, 1) := by decide +kernel
theorem dX5_isBroken_13 : decode cX5_isBroken 13 = .ok (.invokevirtual 43, 3) := by decide +kernel
theorem dX5_isBroken_16 : decode cX5_isBroken 16 = .ok (.invokestatic 46, 3) := by decide +kernel
theorem dX5_isBroken_19 : decode cX5_isBroken 19 = .ok (.istore_n 3, 1) := by decide +kernel
theorem dX5_isBroken_20 : decode cX5_isBroken 20 = .ok (.iload_n 3, 1) := by decide +kernel
theorem dX5_isBroken_21 : decode cX5_isBroken 21 = .ok (.ifCond .eq 14, 3) := by decide +kernel
theorem dX5_isBroken_24 : decode cX5_isBroken 24 = .ok (.aload_n 0, 1) := by decide +kernel
theorem dX5_isBroken_25 : decode cX5_isBroken 25 = .ok (.getfield 9, 3) := by decide +kernel
theorem dX5_isBroken_28 : decode cX5_isBroken 28 = .ok (.iload_n 2, 1) := by decide +kernel
theorem dX5_isBroken_29 : decode cX5_isBroken 29 = .ok (.invokevirtual 52, 3) := by decide +kernel
theorem dX5_isBroken_32 : decode cX5_isBroken 32 = .ok (.goto 11, 3) := by decide +kernel
theorem dX5_isBroken_35 : decode cX5_isBroken 35 = .ok (.aload_n 0, 1) := by decide +kernel
theorem dX5_isBroken_36 : decode cX5_isBroken 36 = .ok (.getfield 9, 3) := by decide +kernel
theorem dX5_isBroken_39 : decode cX5_isBroken 39 = .ok (.iload_n 2, 1) := by decide +kernel
theorem dX5_isBroken_40 : decode cX5_isBroken 40 = .ok (.invokevirtual 55, 3) := by decide +kernel
theorem dX5_isBroken_43 : decode cX5_isBroken 43 = .ok (.istore 4, 2) := by decide +kernel
theorem dX5_isBroken_45 : decode cX5_isBroken 45 = .ok (.iload 4, 2) := by decide +kernel
theorem dX5_isBroken_47 : decode cX5_isBroken 47 = .ok (.iload_n 1, 1) := by decide +kernel
theorem dX5_isBroken_48 : decode cX5_isBroken 48 = .ok (.ishr, 1) := by decide +kernel
theorem dX5_isBroken_49 : decode cX5_isBroken 49 = .ok (.iconst 1, 1) := by decide +kernel
theorem dX5_isBroken_50 : decode cX5_isBroken 50 = .ok (.iand, 1) := by decide +kernel
theorem dX5_isBroken_51 : decode cX5_isBroken 51 = .ok (.ifCond .eq 7, 3) := by decide +kernel
theorem dX5_isBroken_54 : decode cX5_isBroken 54 = .ok (.iconst 1, 1) := by decide +kernel
theorem dX5_isBroken_55 : decode cX5_isBroken 55 = .ok (.goto 4, 3) := by decide +kernel
theorem dX5_isBroken_58 : decode cX5_isBroken 58 = .ok (.iconst 0, 1) := by decide +kernel
theorem dX5_isBroken_59 : decode cX5_isBroken 59 = .ok (.ireturn, 1) := by decide +kernel
theorem dX5_isStray_0 : decode cX5_isStray 0 = .ok (.aload_n 0, 1) := by decide +kernel
theorem dX5_isStray_1 : decode cX5_isStray 1 = .ok (.getfield 9, 3) := by decide +kernel
theorem dX5_isStray_4 : decode cX5_isStray 4 = .ok (.iload_n 2, 1) := by decide +kernel
theorem dX5_isStray_5 : decode cX5_isStray 5 = .ok (.invokevirtual 52, 3) := by decide +kernel
theorem dX5_isStray_8 : decode cX5_isStray 8 = .ok (.iload_n 1, 1) := by decide +kernel
theorem dX5_isStray_9 : decode cX5_isStray 9 = .ok (.ishr, 1) := by decide +kernel
theorem dX5_isStray_10 : decode cX5_isStray 10 = .ok (.iconst 1, 1) := by decide +kernel
theorem dX5_isStray_11 : decode cX5_isStray 11 = .ok (.iand, 1) := by decide +kernel
theorem dX5_isStray_12 : decode cX5_isStray 12 = .ok (.ifCond .eq 26, 3) := by decide +kernel
theorem dX5_isStray_15 : decode cX5_isStray 15 = .ok (.aload_n 0, 1) := by decide +kernel
theorem dX5_isStray_16 : decode cX5_isStray 16 = .ok (.getfield 15, 3) := by decide +kernel
theorem dX5_isStray_19 : decode cX5_isStray 19 = .ok (.iload_n 1, 1) := by decide +kernel
theorem dX5_isStray_20 : decode cX5_isStray 20 = .ok (.invokevirtual 37, 3) := by decide +kernel
theorem dX5_isStray_23 : decode cX5_isStray 23 = .ok (.aload_n 0, 1) := by decide +kernel
theorem dX5_isStray_24 : decode cX5_isStray 24 = .ok (.iload_n 2, 1) := by decide +kernel
theorem dX5_isStray_25 : decode cX5_isStray 25 = .ok (.invokevirtual 61, 3) := by decide +kernel
theorem dX5_isStray_28 : decode cX5_isStray 28 = .ok (.invokestatic 46, 3) := by decide +kernel
theorem dX5_isStray_31 : decode cX5_isStray 31 = .ok (.ifCond .eq 7, 3) := by decide +kernel
theorem dX5_isStray_34 : decode cX5_isStray 34 = .ok (.iconst 1, 1) := by decide +kernel
theorem dX5_isStray_35 : decode cX5_isStray 35 = .ok (.goto 4, 3) := by decide +kernel
theorem dX5_isStray_38 : decode cX5_isStray 38 = .ok (.iconst 0, 1) := by decide +kernel
theorem dX5_isStray_39 : decode cX5_isStray 39 = .ok (.ireturn, 1) := by decide +kernel
theorem dX5_keepingCut_0 : decode cX5_keepingCut 0 = .ok (.aload_n 0, 1) := by decide +kernel
theorem dX5_keepingCut_1 : decode cX5_keepingCut 1 = .ok (.iload_n 1, 1) := by decide +kernel
theorem dX5_keepingCut_2 : decode cX5_keepingCut 2 = .ok (.invokevirtual 73, 3) := by decide +kernel
theorem dX5_keepingCut_5 : decode cX5_keepingCut 5 = .ok (.aload_n 0, 1) := by decide +kernel
theorem dX5_keepingCut_6 : decode cX5_keepingCut 6 = .ok (.getfield 25, 3) := by decide +kernel
theorem dX5_keepingCut_9 : decode cX5_keepingCut 9 = .ok (.invokevirtual 77, 3) := by decide +kernel
theorem dX5_keepingCut_12 : decode cX5_keepingCut 12 = .ok (.istore_n 2, 1) := by decide +kernel
theorem dX5_keepingCut_13 : decode cX5_keepingCut 13 = .ok (.iconst 0, 1) := by decide +kernel
theorem dX5_keepingCut_14 : decode cX5_keepingCut 14 = .ok (.istore_n 3, 1) := by decide +kernel
theorem dX5_keepingCut_15 : decode cX5_keepingCut 15 = .ok (.iload_n 3, 1) := by decide +kernel
theorem dX5_keepingCut_16 : decode cX5_keepingCut 16 = .ok (.sipush 7776, 3) := by decide +kernel
theorem dX5_keepingCut_19 : decode cX5_keepingCut 19 = .ok (.if_icmp .ge 32, 3) := by decide +kernel
theorem dX5_keepingCut_22 : decode cX5_keepingCut 22 = .ok (.iload_n 2, 1) := by decide +kernel
theorem dX5_keepingCut_23 : decode cX5_keepingCut 23 = .ok (.ifCond .eq 28, 3) := by decide +kernel
theorem dX5_keepingCut_26 : decode cX5_keepingCut 26 = .ok (.aload_n 0, 1) := by decide +kernel
theorem dX5_keepingCut_27 : decode cX5_keepingCut 27 = .ok (.iload_n 2, 1) := by decide +kernel
theorem dX5_keepingCut_28 : decode cX5_keepingCut 28 = .ok (.invokevirtual 81, 3) := by decide +kernel
theorem dX5_keepingCut_31 : decode cX5_keepingCut 31 = .ok (.ifCond .ne 5, 3) := by decide +kernel
theorem dX5_keepingCut_34 : decode cX5_keepingCut 34 = .ok (.iload_n 2, 1) := by decide +kernel
theorem dX5_keepingCut_35 : decode cX5_keepingCut 35 = .ok (.ireturn, 1) := by decide +kernel
theorem dX5_keepingCut_36 : decode cX5_keepingCut 36 = .ok (.aload_n 0, 1) := by decide +kernel
theorem dX5_keepingCut_37 : decode cX5_keepingCut 37 = .ok (.getfield 25, 3) := by decide +kernel
theorem dX5_keepingCut_40 : decode cX5_keepingCut 40 = .ok (.iload_n 2, 1) := by decide +kernel
theorem dX5_keepingCut_41 : decode cX5_keepingCut 41 = .ok (.invokevirtual 85, 3) := by decide +kernel
theorem dX5_keepingCut_44 : decode cX5_keepingCut 44 = .ok (.istore_n 2, 1) := by decide +kernel
theorem dX5_keepingCut_45 : decode cX5_keepingCut 45 = .ok (.iinc 3 1, 3) := by decide +kernel
theorem dX5_keepingCut_48 : decode cX5_keepingCut 48 = .ok (.goto (-33), 3) := by decide +kernel
theorem dX5_keepingCut_51 : decode cX5_keepingCut 51 = .ok (.iconst 0, 1) := by decide +kernel
theorem dX5_keepingCut_52 : decode cX5_keepingCut 52 = .ok (.ireturn, 1) := by decide +kernel
theorem dX5_lawfulPins_0 : decode cX5_lawfulPins 0 = .ok (.aload_n 0, 1) := by decide +kernel
theorem dX5_lawfulPins_1 : decode cX5_lawfulPins 1 = .ok (.getfield 9, 3) := by decide +kernel
theorem dX5_lawfulPins_4 : decode cX5_lawfulPins 4 = .ok (.iload_n 1, 1) := by decide +kernel
theorem dX5_lawfulPins_5 : decode cX5_lawfulPins 5 = .ok (.invokevirtual 55, 3) := by decide +kernel
theorem dX5_lawfulPins_8 : decode cX5_lawfulPins 8 = .ok (.istore_n 2, 1) := by decide +kernel
theorem dX5_lawfulPins_9 : decode cX5_lawfulPins 9 = .ok (.iload_n 2, 1) := by decide +kernel
theorem dX5_lawfulPins_10 : decode cX5_lawfulPins 10 = .ok (.ifCond .ne 14, 3) := by decide +kernel
theorem dX5_lawfulPins_13 : decode cX5_lawfulPins 13 = .ok (.aload_n 0, 1) := by decide +kernel
theorem dX5_lawfulPins_14 : decode cX5_lawfulPins 14 = .ok (.getfield 15, 3) := by decide +kernel
theorem dX5_lawfulPins_17 : decode cX5_lawfulPins 17 = .ok (.iload_n 1, 1) := by decide +kernel
theorem dX5_lawfulPins_18 : decode cX5_lawfulPins 18 = .ok (.invokevirtual 43, 3) := by decide +kernel
theorem dX5_lawfulPins_21 : decode cX5_lawfulPins 21 = .ok (.goto 8, 3) := by decide +kernel
theorem dX5_lawfulPins_24 : decode cX5_lawfulPins 24 = .ok (.aload_n 0, 1) := by decide +kernel
theorem dX5_lawfulPins_25 : decode cX5_lawfulPins 25 = .ok (.iload_n 2, 1) := by decide +kernel
theorem dX5_lawfulPins_26 : decode cX5_lawfulPins 26 = .ok (.invokevirtual 58, 3) := by decide +kernel
theorem dX5_lawfulPins_29 : decode cX5_lawfulPins 29 = .ok (.ireturn, 1) := by decide +kernel
theorem dX5_lettingIn_0 : decode cX5_lettingIn 0 = .ok (.aload_n 0, 1) := by decide +kernel
theorem dX5_lettingIn_1 : decode cX5_lettingIn 1 = .ok (.getfield 9, 3) := by decide +kernel
theorem dX5_lettingIn_4 : decode cX5_lettingIn 4 = .ok (.iload_n 2, 1) := by decide +kernel
theorem dX5_lettingIn_5 : decode cX5_lettingIn 5 = .ok (.invokevirtual 55, 3) := by decide +kernel
theorem dX5_lettingIn_8 : decode cX5_lettingIn 8 = .ok (.iload_n 3, 1) := by decide +kernel
theorem dX5_lettingIn_9 : decode cX5_lettingIn 9 = .ok (.ishr, 1) := by decide +kernel
theorem dX5_lettingIn_10 : decode cX5_lettingIn 10 = .ok (.iconst 1, 1) := by decide +kernel
theorem dX5_lettingIn_11 : decode cX5_lettingIn 11 = .ok (.iand, 1) := by decide +kernel
theorem dX5_lettingIn_12 : decode cX5_lettingIn 12 = .ok (.ifCond .ne 34, 3) := by decide +kernel
theorem dX5_lettingIn_15 : decode cX5_lettingIn 15 = .ok (.aload_n 0, 1) := by decide +kernel
theorem dX5_lettingIn_16 : decode cX5_lettingIn 16 = .ok (.getfield 15, 3) := by decide +kernel
theorem dX5_lettingIn_19 : decode cX5_lettingIn 19 = .ok (.iload_n 1, 1) := by decide +kernel
theorem dX5_lettingIn_20 : decode cX5_lettingIn 20 = .ok (.invokevirtual 37, 3) := by decide +kernel
theorem dX5_lettingIn_23 : decode cX5_lettingIn 23 = .ok (.aload_n 0, 1) := by decide +kernel
theorem dX5_lettingIn_24 : decode cX5_lettingIn 24 = .ok (.iload_n 2, 1) := by decide +kernel
theorem dX5_lettingIn_25 : decode cX5_lettingIn 25 = .ok (.invokevirtual 61, 3) := by decide +kernel
theorem dX5_lettingIn_28 : decode cX5_lettingIn 28 = .ok (.invokestatic 46, 3) := by decide +kernel
theorem dX5_lettingIn_31 : decode cX5_lettingIn 31 = .ok (.ifCond .eq 13, 3) := by decide +kernel
theorem dX5_lettingIn_34 : decode cX5_lettingIn 34 = .ok (.aload_n 0, 1) := by decide +kernel
theorem dX5_lettingIn_35 : decode cX5_lettingIn 35 = .ok (.getfield 25, 3) := by decide +kernel
theorem dX5_lettingIn_38 : decode cX5_lettingIn 38 = .ok (.invokevirtual 95, 3) := by decide +kernel
theorem dX5_lettingIn_41 : decode cX5_lettingIn 41 = .ok (.goto 4, 3) := by decide +kernel
theorem dX5_lettingIn_44 : decode cX5_lettingIn 44 = .ok (.iconst 0, 1) := by decide +kernel
theorem dX5_lettingIn_45 : decode cX5_lettingIn 45 = .ok (.ireturn, 1) := by decide +kernel
theorem dX5_lettingIn_46 : decode cX5_lettingIn 46 = .ok (.aload_n 0, 1) := by decide +kernel
theorem dX5_lettingIn_47 : decode cX5_lettingIn 47 = .ok (.getfield 15, 3) := by decide +kernel
theorem dX5_lettingIn_50 : decode cX5_lettingIn 50 = .ok (.iload_n 1, 1) := by decide +kernel
theorem dX5_lettingIn_51 : decode cX5_lettingIn 51 = .ok (.invokevirtual 37, 3) := by decide +kernel
theorem dX5_lettingIn_54 : decode cX5_lettingIn 54 = .ok (.aload_n 0, 1) := by decide +kernel
theorem dX5_lettingIn_55 : decode cX5_lettingIn 55 = .ok (.aload_n 0, 1) := by decide +kernel
theorem dX5_lettingIn_56 : decode cX5_lettingIn 56 = .ok (.getfield 9, 3) := by decide +kernel
theorem dX5_lettingIn_59 : decode cX5_lettingIn 59 = .ok (.iload_n 2, 1) := by decide +kernel
theorem dX5_lettingIn_60 : decode cX5_lettingIn 60 = .ok (.invokevirtual 55, 3) := by decide +kernel
theorem dX5_lettingIn_63 : decode cX5_lettingIn 63 = .ok (.iconst 1, 1) := by decide +kernel
theorem dX5_lettingIn_64 : decode cX5_lettingIn 64 = .ok (.iload_n 3, 1) := by decide +kernel
theorem dX5_lettingIn_65 : decode cX5_lettingIn 65 = .ok (.ishl, 1) := by decide +kernel
theorem dX5_lettingIn_66 : decode cX5_lettingIn 66 = .ok (.iconst (-1), 1) := by decide +kernel
theorem dX5_lettingIn_67 : decode cX5_lettingIn 67 = .ok (.ixor, 1) := by decide +kernel
theorem dX5_lettingIn_68 : decode cX5_lettingIn 68 = .ok (.iand, 1) := by decide +kernel
theorem dX5_lettingIn_69 : decode cX5_lettingIn 69 = .ok (.invokevirtual 58, 3) := by decide +kernel
theorem dX5_lettingIn_72 : decode cX5_lettingIn 72 = .ok (.iconst (-1), 1) := by decide +kernel
theorem dX5_lettingIn_73 : decode cX5_lettingIn 73 = .ok (.ixor, 1) := by decide +kernel
theorem dX5_lettingIn_74 : decode cX5_lettingIn 74 = .ok (.iand, 1) := by decide +kernel
theorem dX5_lettingIn_75 : decode cX5_lettingIn 75 = .ok (.istore 4, 2) := by decide +kernel
theorem dX5_lettingIn_77 : decode cX5_lettingIn 77 = .ok (.iload 4, 2) := by decide +kernel
theorem dX5_lettingIn_79 : decode cX5_lettingIn 79 = .ok (.aload_n 0, 1) := by decide +kernel
theorem dX5_lettingIn_80 : decode cX5_lettingIn 80 = .ok (.getfield 25, 3) := by decide +kernel
theorem dX5_lettingIn_83 : decode cX5_lettingIn 83 = .ok (.iload 4, 2) := by decide +kernel
theorem dX5_lettingIn_85 : decode cX5_lettingIn 85 = .ok (.invokevirtual 98, 3) := by decide +kernel
theorem dX5_lettingIn_88 : decode cX5_lettingIn 88 = .ok (.ior, 1) := by decide +kernel
theorem dX5_lettingIn_89 : decode cX5_lettingIn 89 = .ok (.ireturn, 1) := by decide +kernel
theorem dX5_pinsFor_0 : decode cX5_pinsFor 0 = .ok (.iconst 0, 1) := by decide +kernel
theorem dX5_pinsFor_1 : decode cX5_pinsFor 1 = .ok (.istore_n 2, 1) := by decide +kernel
theorem dX5_pinsFor_2 : decode cX5_pinsFor 2 = .ok (.iconst 0, 1) := by decide +kernel
theorem dX5_pinsFor_3 : decode cX5_pinsFor 3 = .ok (.istore_n 3, 1) := by decide +kernel
theorem dX5_pinsFor_4 : decode cX5_pinsFor 4 = .ok (.iload_n 3, 1) := by decide +kernel
theorem dX5_pinsFor_5 : decode cX5_pinsFor 5 = .ok (.aload_n 0, 1) := by decide +kernel
theorem dX5_pinsFor_6 : decode cX5_pinsFor 6 = .ok (.getfield 9, 3) := by decide +kernel
theorem dX5_pinsFor_9 : decode cX5_pinsFor 9 = .ok (.getfield 34, 3) := by decide +kernel
theorem dX5_pinsFor_12 : decode cX5_pinsFor 12 = .ok (.if_icmp .ge 28, 3) := by decide +kernel
theorem dX5_pinsFor_15 : decode cX5_pinsFor 15 = .ok (.iload_n 1, 1) := by decide +kernel
theorem dX5_pinsFor_16 : decode cX5_pinsFor 16 = .ok (.iload_n 3, 1) := by decide +kernel
theorem dX5_pinsFor_17 : decode cX5_pinsFor 17 = .ok (.ishr, 1) := by decide +kernel
theorem dX5_pinsFor_18 : decode cX5_pinsFor 18 = .ok (.iconst 1, 1) := by decide +kernel
theorem dX5_pinsFor_19 : decode cX5_pinsFor 19 = .ok (.iand, 1) := by decide +kernel
theorem dX5_pinsFor_20 : decode cX5_pinsFor 20 = .ok (.ifCond .eq 14, 3) := by decide +kernel
theorem dX5_pinsFor_23 : decode cX5_pinsFor 23 = .ok (.iload_n 2, 1) := by decide +kernel
theorem dX5_pinsFor_24 : decode cX5_pinsFor 24 = .ok (.aload_n 0, 1) := by decide +kernel
theorem dX5_pinsFor_25 : decode cX5_pinsFor 25 = .ok (.getfield 15, 3) := by decide +kernel
theorem dX5_pinsFor_28 : decode cX5_pinsFor 28 = .ok (.iload_n 3, 1) := by decide +kernel
theorem dX5_pinsFor_29 : decode cX5_pinsFor 29 = .ok (.invokevirtual 37, 3) := by decide +kernel
theorem dX5_pinsFor_32 : decode cX5_pinsFor 32 = .ok (.ior, 1) := by decide +kernel
theorem dX5_pinsFor_33 : decode cX5_pinsFor 33 = .ok (.istore_n 2, 1) := by decide +kernel
theorem dX5_pinsFor_34 : decode cX5_pinsFor 34 = .ok (.iinc 3 1, 3) := by decide +kernel
theorem dX5_pinsFor_37 : decode cX5_pinsFor 37 = .ok (.goto (-33), 3) := by decide +kernel
theorem dX5_pinsFor_40 : decode cX5_pinsFor 40 = .ok (.iload_n 2, 1) := by decide +kernel
theorem dX5_pinsFor_41 : decode cX5_pinsFor 41 = .ok (.ireturn, 1) := by decide +kernel
theorem dX5_stillOpened_0 : decode cX5_stillOpened 0 = .ok (.iconst 0, 1) := by decide +kernel
theorem dX5_stillOpened_1 : decode cX5_stillOpened 1 = .ok (.istore_n 2, 1) := by decide +kernel
theorem dX5_stillOpened_2 : decode cX5_stillOpened 2 = .ok (.iconst 0, 1) := by decide +kernel
theorem dX5_stillOpened_3 : decode cX5_stillOpened 3 = .ok (.istore_n 3, 1) := by decide +kernel
theorem dX5_stillOpened_4 : decode cX5_stillOpened 4 = .ok (.iload_n 3, 1) := by decide +kernel
theorem dX5_stillOpened_5 : decode cX5_stillOpened 5 = .ok (.aload_n 0, 1) := by decide +kernel
theorem dX5_stillOpened_6 : decode cX5_stillOpened 6 = .ok (.getfield 9, 3) := by decide +kernel
theorem dX5_stillOpened_9 : decode cX5_stillOpened 9 = .ok (.getfield 64, 3) := by decide +kernel
theorem dX5_stillOpened_12 : decode cX5_stillOpened 12 = .ok (.if_icmp .ge 56, 3) := by decide +kernel
theorem dX5_stillOpened_15 : decode cX5_stillOpened 15 = .ok (.aload_n 0, 1) := by decide +kernel
theorem dX5_stillOpened_16 : decode cX5_stillOpened 16 = .ok (.getfield 9, 3) := by decide +kernel
theorem dX5_stillOpened_19 : decode cX5_stillOpened 19 = .ok (.iload_n 3, 1) := by decide +kernel
theorem dX5_stillOpened_20 : decode cX5_stillOpened 20 = .ok (.invokevirtual 55, 3) := by decide +kernel
theorem dX5_stillOpened_23 : decode cX5_stillOpened 23 = .ok (.iconst 1, 1) := by decide +kernel
theorem dX5_stillOpened_24 : decode cX5_stillOpened 24 = .ok (.iload_n 1, 1) := by decide +kernel
theorem dX5_stillOpened_25 : decode cX5_stillOpened 25 = .ok (.ishl, 1) := by decide +kernel
theorem dX5_stillOpened_26 : decode cX5_stillOpened 26 = .ok (.iconst (-1), 1) := by decide +kernel
theorem dX5_stillOpened_27 : decode cX5_stillOpened 27 = .ok (.ixor, 1) := by decide +kernel
theorem dX5_stillOpened_28 : decode cX5_stillOpened 28 = .ok (.iand, 1) := by decide +kernel
theorem dX5_stillOpened_29 : decode cX5_stillOpened 29 = .ok (.istore 4, 2) := by decide +kernel
theorem dX5_stillOpened_31 : decode cX5_stillOpened 31 = .ok (.iload 4, 2) := by decide +kernel
theorem dX5_stillOpened_33 : decode cX5_stillOpened 33 = .ok (.ifCond .eq 29, 3) := by decide +kernel
theorem dX5_stillOpened_36 : decode cX5_stillOpened 36 = .ok (.aload_n 0, 1) := by decide +kernel
theorem dX5_stillOpened_37 : decode cX5_stillOpened 37 = .ok (.getfield 15, 3) := by decide +kernel
theorem dX5_stillOpened_40 : decode cX5_stillOpened 40 = .ok (.iload_n 1, 1) := by decide +kernel
theorem dX5_stillOpened_41 : decode cX5_stillOpened 41 = .ok (.invokevirtual 37, 3) := by decide +kernel
theorem dX5_stillOpened_44 : decode cX5_stillOpened 44 = .ok (.aload_n 0, 1) := by decide +kernel
theorem dX5_stillOpened_45 : decode cX5_stillOpened 45 = .ok (.iload 4, 2) := by decide +kernel
theorem dX5_stillOpened_47 : decode cX5_stillOpened 47 = .ok (.invokevirtual 58, 3) := by decide +kernel
theorem dX5_stillOpened_50 : decode cX5_stillOpened 50 = .ok (.invokestatic 46, 3) := by decide +kernel
theorem dX5_stillOpened_53 : decode cX5_stillOpened 53 = .ok (.ifCond .eq 9, 3) := by decide +kernel
theorem dX5_stillOpened_56 : decode cX5_stillOpened 56 = .ok (.iload_n 2, 1) := by decide +kernel
theorem dX5_stillOpened_57 : decode cX5_stillOpened 57 = .ok (.iconst 1, 1) := by decide +kernel
theorem dX5_stillOpened_58 : decode cX5_stillOpened 58 = .ok (.iload_n 3, 1) := by decide +kernel
theorem dX5_stillOpened_59 : decode cX5_stillOpened 59 = .ok (.ishl, 1) := by decide +kernel
theorem dX5_stillOpened_60 : decode cX5_stillOpened 60 = .ok (.ior, 1) := by decide +kernel
theorem dX5_stillOpened_61 : decode cX5_stillOpened 61 = .ok (.istore_n 2, 1) := by decide +kernel
theorem dX5_stillOpened_62 : decode cX5_stillOpened 62 = .ok (.iinc 3 1, 3) := by decide +kernel
theorem dX5_stillOpened_65 : decode cX5_stillOpened 65 = .ok (.goto (-61), 3) := by decide +kernel
theorem dX5_stillOpened_68 : decode cX5_stillOpened 68 = .ok (.iload_n 2, 1) := by decide +kernel
theorem dX5_stillOpened_69 : decode cX5_stillOpened 69 = .ok (.ireturn, 1) := by decide +kernel
theorem dX5_tellPairs_0 : decode cX5_tellPairs 0 = .ok (.iconst 0, 1) := by decide +kernel
theorem dX5_tellPairs_1 : decode cX5_tellPairs 1 = .ok (.istore_n 3, 1) := by decide +kernel
theorem dX5_tellPairs_2 : decode cX5_tellPairs 2 = .ok (.iconst (-1), 1) := by decide +kernel
theorem dX5_tellPairs_3 : decode cX5_tellPairs 3 = .ok (.istore 4, 2) := by decide +kernel
theorem dX5_tellPairs_5 : decode cX5_tellPairs 5 = .ok (.iconst (-1), 1) := by decide +kernel
theorem dX5_tellPairs_6 : decode cX5_tellPairs 6 = .ok (.istore 5, 2) := by decide +kernel
theorem dX5_tellPairs_8 : decode cX5_tellPairs 8 = .ok (.iconst 0, 1) := by decide +kernel
theorem dX5_tellPairs_9 : decode cX5_tellPairs 9 = .ok (.istore 6, 2) := by decide +kernel
theorem dX5_tellPairs_11 : decode cX5_tellPairs 11 = .ok (.iload 6, 2) := by decide +kernel
theorem dX5_tellPairs_13 : decode cX5_tellPairs 13 = .ok (.aload_n 0, 1) := by decide +kernel
theorem dX5_tellPairs_14 : decode cX5_tellPairs 14 = .ok (.getfield 9, 3) := by decide +kernel
theorem dX5_tellPairs_17 : decode cX5_tellPairs 17 = .ok (.getfield 34, 3) := by decide +kernel
theorem dX5_tellPairs_20 : decode cX5_tellPairs 20 = .ok (.if_icmp .ge 88, 3) := by decide +kernel
theorem dX5_tellPairs_23 : decode cX5_tellPairs 23 = .ok (.iconst 0, 1) := by decide +kernel
theorem dX5_tellPairs_24 : decode cX5_tellPairs 24 = .ok (.istore 7, 2) := by decide +kernel
theorem dX5_tellPairs_26 : decode cX5_tellPairs 26 = .ok (.iload 7, 2) := by decide +kernel
theorem dX5_tellPairs_28 : decode cX5_tellPairs 28 = .ok (.aload_n 0, 1) := by decide +kernel
theorem dX5_tellPairs_29 : decode cX5_tellPairs 29 = .ok (.getfield 9, 3) := by decide +kernel
theorem dX5_tellPairs_32 : decode cX5_tellPairs 32 = .ok (.getfield 64, 3) := by decide +kernel
theorem dX5_tellPairs_35 : decode cX5_tellPairs 35 = .ok (.if_icmp .ge 67, 3) := by decide +kernel
theorem dX5_tellPairs_38 : decode cX5_tellPairs 38 = .ok (.iload_n 2, 1) := by decide +kernel
theorem dX5_tellPairs_39 : decode cX5_tellPairs 39 = .ok (.ifCond .eq 17, 3) := by decide +kernel
theorem dX5_tellPairs_42 : decode cX5_tellPairs 42 = .ok (.aload_n 0, 1) := by decide +kernel
theorem dX5_tellPairs_43 : decode cX5_tellPairs 43 = .ok (.iload 6, 2) := by decide +kernel
theorem dX5_tellPairs_45 : decode cX5_tellPairs 45 = .ok (.iload 7, 2) := by decide +kernel
theorem dX5_tellPairs_47 : decode cX5_tellPairs 47 = .ok (.invokevirtual 67, 3) := by decide +kernel
theorem dX5_tellPairs_50 : decode cX5_tellPairs 50 = .ok (.ifCond .eq 46, 3) := by decide +kernel
theorem dX5_tellPairs_53 : decode cX5_tellPairs 53 = .ok (.goto 14, 3) := by decide +kernel
theorem dX5_tellPairs_56 : decode cX5_tellPairs 56 = .ok (.aload_n 0, 1) := by decide +kernel
theorem dX5_tellPairs_57 : decode cX5_tellPairs 57 = .ok (.iload 6, 2) := by decide +kernel
theorem dX5_tellPairs_59 : decode cX5_tellPairs 59 = .ok (.iload 7, 2) := by decide +kernel
theorem dX5_tellPairs_61 : decode cX5_tellPairs 61 = .ok (.invokevirtual 70, 3) := by decide +kernel
theorem dX5_tellPairs_64 : decode cX5_tellPairs 64 = .ok (.ifCond .eq 32, 3) := by decide +kernel
theorem dX5_tellPairs_67 : decode cX5_tellPairs 67 = .ok (.iload_n 3, 1) := by decide +kernel
theorem dX5_tellPairs_68 : decode cX5_tellPairs 68 = .ok (.ifCond .ne 8, 3) := by decide +kernel
theorem dX5_tellPairs_71 : decode cX5_tellPairs 71 = .ok (.iload 6, 2) := by decide +kernel
theorem dX5_tellPairs_73 : decode cX5_tellPairs 73 = .ok (.goto 5, 3) := by decide +kernel
theorem dX5_tellPairs_76 : decode cX5_tellPairs 76 = .ok (.iload 4, 2) := by decide +kernel
theorem dX5_tellPairs_78 : decode cX5_tellPairs 78 = .ok (.istore 4, 2) := by decide +kernel
theorem dX5_tellPairs_80 : decode cX5_tellPairs 80 = .ok (.iload_n 3, 1) := by decide +kernel
theorem dX5_tellPairs_81 : decode cX5_tellPairs 81 = .ok (.ifCond .ne 8, 3) := by decide +kernel
theorem dX5_tellPairs_84 : decode cX5_tellPairs 84 = .ok (.iload 7, 2) := by decide +kernel
theorem dX5_tellPairs_86 : decode cX5_tellPairs 86 = .ok (.goto 5, 3) := by decide +kernel
theorem dX5_tellPairs_89 : decode cX5_tellPairs 89 = .ok (.iload 5, 2) := by decide +kernel
theorem dX5_tellPairs_91 : decode cX5_tellPairs 91 = .ok (.istore 5, 2) := by decide +kernel
theorem dX5_tellPairs_93 : decode cX5_tellPairs 93 = .ok (.iinc 3 1, 3) := by decide +kernel
theorem dX5_tellPairs_96 : decode cX5_tellPairs 96 = .ok (.iinc 7 1, 3) := by decide +kernel
theorem dX5_tellPairs_99 : decode cX5_tellPairs 99 = .ok (.goto (-73), 3) := by decide +kernel
theorem dX5_tellPairs_102 : decode cX5_tellPairs 102 = .ok (.iinc 6 1, 3) := by decide +kernel
theorem dX5_tellPairs_105 : decode cX5_tellPairs 105 = .ok (.goto (-94), 3) := by decide +kernel
theorem dX5_tellPairs_108 : decode cX5_tellPairs 108 = .ok (.iload_n 1, 1) := by decide +kernel
theorem dX5_tellPairs_109 : decode cX5_tellPairs 109 = .ok (.tableswitch 35 0 2 #[27, 29, 32], 27) := by decide +kernel
theorem dX5_tellPairs_136 : decode cX5_tellPairs 136 = .ok (.iload_n 3, 1) := by decide +kernel
theorem dX5_tellPairs_137 : decode cX5_tellPairs 137 = .ok (.ireturn, 1) := by decide +kernel
theorem dX5_tellPairs_138 : decode cX5_tellPairs 138 = .ok (.iload 4, 2) := by decide +kernel
theorem dX5_tellPairs_140 : decode cX5_tellPairs 140 = .ok (.ireturn, 1) := by decide +kernel
theorem dX5_tellPairs_141 : decode cX5_tellPairs 141 = .ok (.iload 5, 2) := by decide +kernel
theorem dX5_tellPairs_143 : decode cX5_tellPairs 143 = .ok (.ireturn, 1) := by decide +kernel
theorem dX5_tellPairs_144 : decode cX5_tellPairs 144 = .ok (.iconst (-1), 1) := by decide +kernel
theorem dX5_tellPairs_145 : decode cX5_tellPairs 145 = .ok (.ireturn, 1) := by decide +kernel
theorem dX6_after_0 : decode cX6_after 0 = .ok (.aload_n 0, 1) := by decide +kernel
theorem dX6_after_1 : decode cX6_after 1 = .ok (.getfield 18, 3) := by decide +kernel
theorem dX6_after_4 : decode cX6_after 4 = .ok (.iconst 1, 1) := by decide +kernel
theorem dX6_after_5 : decode cX6_after 5 = .ok (.isub, 1) := by decide +kernel
theorem dX6_after_6 : decode cX6_after 6 = .ok (.istore_n 2, 1) := by decide +kernel
theorem dX6_after_7 : decode cX6_after 7 = .ok (.iload_n 2, 1) := by decide +kernel
theorem dX6_after_8 : decode cX6_after 8 = .ok (.ifCond .lt 79, 3) := by decide +kernel
theorem dX6_after_11 : decode cX6_after 11 = .ok (.aload_n 0, 1) := by decide +kernel
theorem dX6_after_12 : decode cX6_after 12 = .ok (.iload_n 1, 1) := by decide +kernel
theorem dX6_after_13 : decode cX6_after 13 = .ok (.iload_n 2, 1) := by decide +kernel
theorem dX6_after_14 : decode cX6_after 14 = .ok (.invokevirtual 41, 3) := by decide +kernel
theorem dX6_after_17 : decode cX6_after 17 = .ok (.iconst 1, 1) := by decide +kernel
theorem dX6_after_18 : decode cX6_after 18 = .ok (.iadd, 1) := by decide +kernel
theorem dX6_after_19 : decode cX6_after 19 = .ok (.istore_n 3, 1) := by decide +kernel
theorem dX6_after_20 : decode cX6_after 20 = .ok (.iload_n 2, 1) := by decide +kernel
theorem dX6_after_21 : decode cX6_after 21 = .ok (.ifCond .ne 12, 3) := by decide +kernel
theorem dX6_after_24 : decode cX6_after 24 = .ok (.aload_n 0, 1) := by decide +kernel
theorem dX6_after_25 : decode cX6_after 25 = .ok (.getfield 22, 3) := by decide +kernel
theorem dX6_after_28 : decode cX6_after 28 = .ok (.iconst 1, 1) := by decide +kernel
theorem dX6_after_29 : decode cX6_after 29 = .ok (.isub, 1) := by decide +kernel
theorem dX6_after_30 : decode cX6_after 30 = .ok (.goto 15, 3) := by decide +kernel
theorem dX6_after_33 : decode cX6_after 33 = .ok (.aload_n 0, 1) := by decide +kernel
theorem dX6_after_34 : decode cX6_after 34 = .ok (.aload_n 0, 1) := by decide +kernel
theorem dX6_after_35 : decode cX6_after 35 = .ok (.iload_n 1, 1) := by decide +kernel
theorem dX6_after_36 : decode cX6_after 36 = .ok (.iload_n 2, 1) := by decide +kernel
theorem dX6_after_37 : decode cX6_after 37 = .ok (.iconst 1, 1) := by decide +kernel
theorem dX6_after_38 : decode cX6_after 38 = .ok (.isub, 1) := by decide +kernel
theorem dX6_after_39 : decode cX6_after 39 = .ok (.invokevirtual 41, 3) := by decide +kernel
theorem dX6_after_42 : decode cX6_after 42 = .ok (.invokevirtual 69, 3) := by decide +kernel
theorem dX6_after_45 : decode cX6_after 45 = .ok (.istore 4, 2) := by decide +kernel
theorem dX6_after_47 : decode cX6_after 47 = .ok (.iload_n 3, 1) := by decide +kernel
theorem dX6_after_48 : decode cX6_after 48 = .ok (.iload 4, 2) := by decide +kernel
theorem dX6_after_50 : decode cX6_after 50 = .ok (.if_icmp .gt 31, 3) := by decide +kernel
theorem dX6_after_53 : decode cX6_after 53 = .ok (.iload_n 1, 1) := by decide +kernel
theorem dX6_after_54 : decode cX6_after 54 = .ok (.iload_n 2, 1) := by decide +kernel
theorem dX6_after_55 : decode cX6_after 55 = .ok (.iconst 0, 1) := by decide +kernel
theorem dX6_after_56 : decode cX6_after 56 = .ok (.invokestatic 44, 3) := by decide +kernel
theorem dX6_after_59 : decode cX6_after 59 = .ok (.iconst 1, 1) := by decide +kernel
theorem dX6_after_60 : decode cX6_after 60 = .ok (.isub, 1) := by decide +kernel
theorem dX6_after_61 : decode cX6_after 61 = .ok (.iand, 1) := by decide +kernel
theorem dX6_after_62 : decode cX6_after 62 = .ok (.istore 5, 2) := by decide +kernel
theorem dX6_after_64 : decode cX6_after 64 = .ok (.aload_n 0, 1) := by decide +kernel
theorem dX6_after_65 : decode cX6_after 65 = .ok (.iload 5, 2) := by decide +kernel
theorem dX6_after_67 : decode cX6_after 67 = .ok (.iload_n 2, 1) := by decide +kernel
theorem dX6_after_68 : decode cX6_after 68 = .ok (.iload_n 3, 1) := by decide +kernel
theorem dX6_after_69 : decode cX6_after 69 = .ok (.invokestatic 44, 3) := by decide +kernel
theorem dX6_after_72 : decode cX6_after 72 = .ok (.ior, 1) := by decide +kernel
theorem dX6_after_73 : decode cX6_after 73 = .ok (.iload_n 2, 1) := by decide +kernel
theorem dX6_after_74 : decode cX6_after 74 = .ok (.iconst 1, 1) := by decide +kernel
theorem dX6_after_75 : decode cX6_after 75 = .ok (.iadd, 1) := by decide +kernel
theorem dX6_after_76 : decode cX6_after 76 = .ok (.iload_n 3, 1) := by decide +kernel
theorem dX6_after_77 : decode cX6_after 77 = .ok (.invokevirtual 62, 3) := by decide +kernel
theorem dX6_after_80 : decode cX6_after 80 = .ok (.ireturn, 1) := by decide +kernel
theorem dX6_after_81 : decode cX6_after 81 = .ok (.iinc 2 (-1), 3) := by decide +kernel
theorem dX6_after_84 : decode cX6_after 84 = .ok (.goto (-77), 3) := by decide +kernel
theorem dX6_after_87 : decode cX6_after 87 = .ok (.iconst 0, 1) := by decide +kernel
theorem dX6_after_88 : decode cX6_after 88 = .ok (.ireturn, 1) := by decide +kernel
theorem dX6_apart_0 : decode cX6_apart 0 = .ok (.iconst 0, 1) := by decide +kernel
theorem dX6_apart_1 : decode cX6_apart 1 = .ok (.istore_n 3, 1) := by decide +kernel
theorem dX6_apart_2 : decode cX6_apart 2 = .ok (.iconst 0, 1) := by decide +kernel
theorem dX6_apart_3 : decode cX6_apart 3 = .ok (.istore 4, 2) := by decide +kernel
theorem dX6_apart_5 : decode cX6_apart 5 = .ok (.iload 4, 2) := by decide +kernel
theorem dX6_apart_7 : decode cX6_apart 7 = .ok (.aload_n 0, 1) := by decide +kernel
theorem dX6_apart_8 : decode cX6_apart 8 = .ok (.getfield 18, 3) := by decide +kernel
theorem dX6_apart_11 : decode cX6_apart 11 = .ok (.if_icmp .ge 30, 3) := by decide +kernel
theorem dX6_apart_14 : decode cX6_apart 14 = .ok (.iload_n 3, 1) := by decide +kernel
theorem dX6_apart_15 : decode cX6_apart 15 = .ok (.aload_n 0, 1) := by decide +kernel
theorem dX6_apart_16 : decode cX6_apart 16 = .ok (.iload_n 1, 1) := by decide +kernel
theorem dX6_apart_17 : decode cX6_apart 17 = .ok (.iload 4, 2) := by decide +kernel
theorem dX6_apart_19 : decode cX6_apart 19 = .ok (.invokevirtual 41, 3) := by decide +kernel
theorem dX6_apart_22 : decode cX6_apart 22 = .ok (.aload_n 0, 1) := by decide +kernel
theorem dX6_apart_23 : decode cX6_apart 23 = .ok (.iload_n 2, 1) := by decide +kernel
theorem dX6_apart_24 : decode cX6_apart 24 = .ok (.iload 4, 2) := by decide +kernel
theorem dX6_apart_26 : decode cX6_apart 26 = .ok (.invokevirtual 41, 3) := by decide +kernel
theorem dX6_apart_29 : decode cX6_apart 29 = .ok (.isub, 1) := by decide +kernel
theorem dX6_apart_30 : decode cX6_apart 30 = .ok (.invokestatic 59, 3) := by decide +kernel
theorem dX6_apart_33 : decode cX6_apart 33 = .ok (.iadd, 1) := by decide +kernel
theorem dX6_apart_34 : decode cX6_apart 34 = .ok (.istore_n 3, 1) := by decide +kernel
theorem dX6_apart_35 : decode cX6_apart 35 = .ok (.iinc 4 1, 3) := by decide +kernel
theorem dX6_apart_38 : decode cX6_apart 38 = .ok (.goto (-33), 3) := by decide +kernel
theorem dX6_apart_41 : decode cX6_apart 41 = .ok (.iload_n 3, 1) := by decide +kernel
theorem dX6_apart_42 : decode cX6_apart 42 = .ok (.ireturn, 1) := by decide +kernel
theorem dX6_besideOf_0 : decode cX6_besideOf 0 = .ok (.iload_n 2, 1) := by decide +kernel
theorem dX6_besideOf_1 : decode cX6_besideOf 1 = .ok (.ifCond .le 14, 3) := by decide +kernel
theorem dX6_besideOf_4 : decode cX6_besideOf 4 = .ok (.aload_n 0, 1) := by decide +kernel
theorem dX6_besideOf_5 : decode cX6_besideOf 5 = .ok (.iload_n 1, 1) := by decide +kernel
theorem dX6_besideOf_6 : decode cX6_besideOf 6 = .ok (.iload_n 2, 1) := by decide +kernel
theorem dX6_besideOf_7 : decode cX6_besideOf 7 = .ok (.iconst 1, 1) := by decide +kernel
theorem dX6_besideOf_8 : decode cX6_besideOf 8 = .ok (.isub, 1) := by decide +kernel
theorem dX6_besideOf_9 : decode cX6_besideOf 9 = .ok (.invokevirtual 41, 3) := by decide +kernel
theorem dX6_besideOf_12 : decode cX6_besideOf 12 = .ok (.goto 4, 3) := by decide +kernel
theorem dX6_besideOf_15 : decode cX6_besideOf 15 = .ok (.iconst 0, 1) := by decide +kernel
theorem dX6_besideOf_16 : decode cX6_besideOf 16 = .ok (.istore_n 3, 1) := by decide +kernel
theorem dX6_besideOf_17 : decode cX6_besideOf 17 = .ok (.iload_n 2, 1) := by decide +kernel
theorem dX6_besideOf_18 : decode cX6_besideOf 18 = .ok (.iconst 1, 1) := by decide +kernel
theorem dX6_besideOf_19 : decode cX6_besideOf 19 = .ok (.iadd, 1) := by decide +kernel
theorem dX6_besideOf_20 : decode cX6_besideOf 20 = .ok (.aload_n 0, 1) := by decide +kernel
theorem dX6_besideOf_21 : decode cX6_besideOf 21 = .ok (.getfield 18, 3) := by decide +kernel
theorem dX6_besideOf_24 : decode cX6_besideOf 24 = .ok (.if_icmp .ge 14, 3) := by decide +kernel
theorem dX6_besideOf_27 : decode cX6_besideOf 27 = .ok (.aload_n 0, 1) := by decide +kernel
theorem dX6_besideOf_28 : decode cX6_besideOf 28 = .ok (.iload_n 1, 1) := by decide +kernel
theorem dX6_besideOf_29 : decode cX6_besideOf 29 = .ok (.iload_n 2, 1) := by decide +kernel
theorem dX6_besideOf_30 : decode cX6_besideOf 30 = .ok (.iconst 1, 1) := by decide +kernel
theorem dX6_besideOf_31 : decode cX6_besideOf 31 = .ok (.iadd, 1) := by decide +kernel
theorem dX6_besideOf_32 : decode cX6_besideOf 32 = .ok (.invokevirtual 41, 3) := by decide +kernel
theorem dX6_besideOf_35 : decode cX6_besideOf 35 = .ok (.goto 4, 3) := by decide +kernel
theorem dX6_besideOf_38 : decode cX6_besideOf 38 = .ok (.iconst 0, 1) := by decide +kernel
theorem dX6_besideOf_39 : decode cX6_besideOf 39 = .ok (.istore 4, 2) := by decide +kernel
theorem dX6_besideOf_41 : decode cX6_besideOf 41 = .ok (.iload_n 3, 1) := by decide +kernel
theorem dX6_besideOf_42 : decode cX6_besideOf 42 = .ok (.iload 4, 2) := by decide +kernel
theorem dX6_besideOf_44 : decode cX6_besideOf 44 = .ok (.invokestatic 47, 3) := by decide +kernel
theorem dX6_besideOf_47 : decode cX6_besideOf 47 = .ok (.ireturn, 1) := by decide +kernel
theorem dX6_bitsOf_0 : decode cX6_bitsOf 0 = .ok (.iload_n 1, 1) := by decide +kernel
theorem dX6_bitsOf_1 : decode cX6_bitsOf 1 = .ok (.istore_n 2, 1) := by decide +kernel
theorem dX6_bitsOf_2 : decode cX6_bitsOf 2 = .ok (.iconst 0, 1) := by decide +kernel
theorem dX6_bitsOf_3 : decode cX6_bitsOf 3 = .ok (.istore_n 3, 1) := by decide +kernel
theorem dX6_bitsOf_4 : decode cX6_bitsOf 4 = .ok (.iconst 1, 1) := by decide +kernel
theorem dX6_bitsOf_5 : decode cX6_bitsOf 5 = .ok (.aload_n 0, 1) := by decide +kernel
theorem dX6_bitsOf_6 : decode cX6_bitsOf 6 = .ok (.getfield 22, 3) := by decide +kernel
theorem dX6_bitsOf_9 : decode cX6_bitsOf 9 = .ok (.invokestatic 47, 3) := by decide +kernel
theorem dX6_bitsOf_12 : decode cX6_bitsOf 12 = .ok (.istore 4, 2) := by decide +kernel
theorem dX6_bitsOf_14 : decode cX6_bitsOf 14 = .ok (.aload_n 0, 1) := by decide +kernel
theorem dX6_bitsOf_15 : decode cX6_bitsOf 15 = .ok (.getfield 18, 3) := by decide +kernel
theorem dX6_bitsOf_18 : decode cX6_bitsOf 18 = .ok (.iconst 1, 1) := by decide +kernel
theorem dX6_bitsOf_19 : decode cX6_bitsOf 19 = .ok (.isub, 1) := by decide +kernel
theorem dX6_bitsOf_20 : decode cX6_bitsOf 20 = .ok (.istore 5, 2) := by decide +kernel
theorem dX6_bitsOf_22 : decode cX6_bitsOf 22 = .ok (.iload 5, 2) := by decide +kernel
theorem dX6_bitsOf_24 : decode cX6_bitsOf 24 = .ok (.ifCond .lt 30, 3) := by decide +kernel
theorem dX6_bitsOf_27 : decode cX6_bitsOf 27 = .ok (.iload_n 3, 1) := by decide +kernel
theorem dX6_bitsOf_28 : decode cX6_bitsOf 28 = .ok (.iload 5, 2) := by decide +kernel
theorem dX6_bitsOf_30 : decode cX6_bitsOf 30 = .ok (.iconst 0, 1) := by decide +kernel
theorem dX6_bitsOf_31 : decode cX6_bitsOf 31 = .ok (.iload_n 2, 1) := by decide +kernel
theorem dX6_bitsOf_32 : decode cX6_bitsOf 32 = .ok (.iload 4, 2) := by decide +kernel
theorem dX6_bitsOf_34 : decode cX6_bitsOf 34 = .ok (.irem, 1) := by decide +kernel
theorem dX6_bitsOf_35 : decode cX6_bitsOf 35 = .ok (.invokestatic 47, 3) := by decide +kernel
theorem dX6_bitsOf_38 : decode cX6_bitsOf 38 = .ok (.invokestatic 44, 3) := by decide +kernel
theorem dX6_bitsOf_41 : decode cX6_bitsOf 41 = .ok (.ior, 1) := by decide +kernel
theorem dX6_bitsOf_42 : decode cX6_bitsOf 42 = .ok (.istore_n 3, 1) := by decide +kernel
theorem dX6_bitsOf_43 : decode cX6_bitsOf 43 = .ok (.iload_n 2, 1) := by decide +kernel
theorem dX6_bitsOf_44 : decode cX6_bitsOf 44 = .ok (.iload 4, 2) := by decide +kernel
theorem dX6_bitsOf_46 : decode cX6_bitsOf 46 = .ok (.idiv, 1) := by decide +kernel
theorem dX6_bitsOf_47 : decode cX6_bitsOf 47 = .ok (.istore_n 2, 1) := by decide +kernel
theorem dX6_bitsOf_48 : decode cX6_bitsOf 48 = .ok (.iinc 5 (-1), 3) := by decide +kernel
theorem dX6_bitsOf_51 : decode cX6_bitsOf 51 = .ok (.goto (-29), 3) := by decide +kernel
theorem dX6_bitsOf_54 : decode cX6_bitsOf 54 = .ok (.iload_n 1, 1) := by decide +kernel
theorem dX6_bitsOf_55 : decode cX6_bitsOf 55 = .ok (.ifCond .lt 19, 3) := by decide +kernel
theorem dX6_bitsOf_58 : decode cX6_bitsOf 58 = .ok (.iload_n 2, 1) := by decide +kernel
theorem dX6_bitsOf_59 : decode cX6_bitsOf 59 = .ok (.ifCond .ne 15, 3) := by decide +kernel
theorem dX6_bitsOf_62 : decode cX6_bitsOf 62 = .ok (.aload_n 0, 1) := by decide +kernel
theorem dX6_bitsOf_63 : decode cX6_bitsOf 63 = .ok (.iload_n 3, 1) := by decide +kernel
theorem dX6_bitsOf_64 : decode cX6_bitsOf 64 = .ok (.invokevirtual 55, 3) := by decide +kernel
theorem dX6_bitsOf_67 : decode cX6_bitsOf 67 = .ok (.ifCond .eq 7, 3) := by decide +kernel
theorem dX6_bitsOf_70 : decode cX6_bitsOf 70 = .ok (.iload_n 3, 1) := by decide +kernel
theorem dX6_bitsOf_71 : decode cX6_bitsOf 71 = .ok (.goto 4, 3) := by decide +kernel
theorem dX6_bitsOf_74 : decode cX6_bitsOf 74 = .ok (.iconst 0, 1) := by decide +kernel
theorem dX6_bitsOf_75 : decode cX6_bitsOf 75 = .ok (.ireturn, 1) := by decide +kernel
theorem dX6_cheapest_0 : decode cX6_cheapest 0 = .ok (.iload_n 2, 1) := by decide +kernel
theorem dX6_cheapest_1 : decode cX6_cheapest 1 = .ok (.istore 4, 2) := by decide +kernel
theorem dX6_cheapest_3 : decode cX6_cheapest 3 = .ok (.iload_n 2, 1) := by decide +kernel
theorem dX6_cheapest_4 : decode cX6_cheapest 4 = .ok (.iconst 1, 1) := by decide +kernel
theorem dX6_cheapest_5 : decode cX6_cheapest 5 = .ok (.iadd, 1) := by decide +kernel
theorem dX6_cheapest_6 : decode cX6_cheapest 6 = .ok (.istore 5, 2) := by decide +kernel
theorem dX6_cheapest_8 : decode cX6_cheapest 8 = .ok (.iload 5, 2) := by decide +kernel
theorem dX6_cheapest_10 : decode cX6_cheapest 10 = .ok (.iload_n 3, 1) := by decide +kernel
theorem dX6_cheapest_11 : decode cX6_cheapest 11 = .ok (.if_icmp .gt 30, 3) := by decide +kernel
theorem dX6_cheapest_14 : decode cX6_cheapest 14 = .ok (.aload_n 0, 1) := by decide +kernel
theorem dX6_cheapest_15 : decode cX6_cheapest 15 = .ok (.iload_n 1, 1) := by decide +kernel
theorem dX6_cheapest_16 : decode cX6_cheapest 16 = .ok (.iload 5, 2) := by decide +kernel
theorem dX6_cheapest_18 : decode cX6_cheapest 18 = .ok (.invokevirtual 79, 3) := by decide +kernel
theorem dX6_cheapest_21 : decode cX6_cheapest 21 = .ok (.aload_n 0, 1) := by decide +kernel
theorem dX6_cheapest_22 : decode cX6_cheapest 22 = .ok (.iload_n 1, 1) := by decide +kernel
theorem dX6_cheapest_23 : decode cX6_cheapest 23 = .ok (.iload 4, 2) := by decide +kernel
theorem dX6_cheapest_25 : decode cX6_cheapest 25 = .ok (.invokevirtual 79, 3) := by decide +kernel
theorem dX6_cheapest_28 : decode cX6_cheapest 28 = .ok (.if_icmp .ge 7, 3) := by decide +kernel
theorem dX6_cheapest_31 : decode cX6_cheapest 31 = .ok (.iload 5, 2) := by decide +kernel
theorem dX6_cheapest_33 : decode cX6_cheapest 33 = .ok (.istore 4, 2) := by decide +kernel
theorem dX6_cheapest_35 : decode cX6_cheapest 35 = .ok (.iinc 5 1, 3) := by decide +kernel
theorem dX6_cheapest_38 : decode cX6_cheapest 38 = .ok (.goto (-30), 3) := by decide +kernel
theorem dX6_cheapest_41 : decode cX6_cheapest 41 = .ok (.iload 4, 2) := by decide +kernel
theorem dX6_cheapest_43 : decode cX6_cheapest 43 = .ok (.ireturn, 1) := by decide +kernel
theorem dX6_copyFrom_0 : decode cX6_copyFrom 0 = .ok (.aload_n 0, 1) := by decide +kernel
theorem dX6_copyFrom_1 : decode cX6_copyFrom 1 = .ok (.aload_n 1, 1) := by decide +kernel
theorem dX6_copyFrom_2 : decode cX6_copyFrom 2 = .ok (.getfield 18, 3) := by decide +kernel
theorem dX6_copyFrom_5 : decode cX6_copyFrom 5 = .ok (.putfield 18, 3) := by decide +kernel
theorem dX6_copyFrom_8 : decode cX6_copyFrom 8 = .ok (.aload_n 0, 1) := by decide +kernel
theorem dX6_copyFrom_9 : decode cX6_copyFrom 9 = .ok (.aload_n 1, 1) := by decide +kernel
theorem dX6_copyFrom_10 : decode cX6_copyFrom 10 = .ok (.getfield 22, 3) := by decide +kernel
theorem dX6_copyFrom_13 : decode cX6_copyFrom 13 = .ok (.putfield 22, 3) := by decide +kernel
theorem dX6_copyFrom_16 : decode cX6_copyFrom 16 = .ok (.aload_n 0, 1) := by decide +kernel
theorem dX6_copyFrom_17 : decode cX6_copyFrom 17 = .ok (.aload_n 1, 1) := by decide +kernel
theorem dX6_copyFrom_18 : decode cX6_copyFrom 18 = .ok (.getfield 25, 3) := by decide +kernel
theorem dX6_copyFrom_21 : decode cX6_copyFrom 21 = .ok (.putfield 25, 3) := by decide +kernel
theorem dX6_copyFrom_24 : decode cX6_copyFrom 24 = .ok (.return_, 1) := by decide +kernel
theorem dX6_deeper_0 : decode cX6_deeper 0 = .ok (.aload_n 0, 1) := by decide +kernel
theorem dX6_deeper_1 : decode cX6_deeper 1 = .ok (.iload_n 1, 1) := by decide +kernel
theorem dX6_deeper_2 : decode cX6_deeper 2 = .ok (.iload_n 2, 1) := by decide +kernel
theorem dX6_deeper_3 : decode cX6_deeper 3 = .ok (.invokevirtual 41, 3) := by decide +kernel
theorem dX6_deeper_6 : decode cX6_deeper 6 = .ok (.istore_n 3, 1) := by decide +kernel
theorem dX6_deeper_7 : decode cX6_deeper 7 = .ok (.iload_n 3, 1) := by decide +kernel
theorem dX6_deeper_8 : decode cX6_deeper 8 = .ok (.iconst 1, 1) := by decide +kernel
theorem dX6_deeper_9 : decode cX6_deeper 9 = .ok (.iadd, 1) := by decide +kernel
theorem dX6_deeper_10 : decode cX6_deeper 10 = .ok (.aload_n 0, 1) := by decide +kernel
theorem dX6_deeper_11 : decode cX6_deeper 11 = .ok (.getfield 22, 3) := by decide +kernel
theorem dX6_deeper_14 : decode cX6_deeper 14 = .ok (.if_icmp .lt 5, 3) := by decide +kernel
theorem dX6_deeper_17 : decode cX6_deeper 17 = .ok (.iconst 0, 1) := by decide +kernel
theorem dX6_deeper_18 : decode cX6_deeper 18 = .ok (.ireturn, 1) := by decide +kernel
theorem dX6_deeper_19 : decode cX6_deeper 19 = .ok (.iload_n 1, 1) := by decide +kernel
theorem dX6_deeper_20 : decode cX6_deeper 20 = .ok (.iload_n 2, 1) := by decide +kernel
theorem dX6_deeper_21 : decode cX6_deeper 21 = .ok (.iload_n 3, 1) := by decide +kernel
theorem dX6_deeper_22 : decode cX6_deeper 22 = .ok (.invokestatic 44, 3) := by decide +kernel
theorem dX6_deeper_25 : decode cX6_deeper 25 = .ok (.ixor, 1) := by decide +kernel
theorem dX6_deeper_26 : decode cX6_deeper 26 = .ok (.iload_n 2, 1) := by decide +kernel
theorem dX6_deeper_27 : decode cX6_deeper 27 = .ok (.iload_n 3, 1) := by decide +kernel
theorem dX6_deeper_28 : decode cX6_deeper 28 = .ok (.iconst 1, 1) := by decide +kernel
theorem dX6_deeper_29 : decode cX6_deeper 29 = .ok (.iadd, 1) := by decide +kernel
theorem dX6_deeper_30 : decode cX6_deeper 30 = .ok (.invokestatic 44, 3) := by decide +kernel
theorem dX6_deeper_33 : decode cX6_deeper 33 = .ok (.ixor, 1) := by decide +kernel
theorem dX6_deeper_34 : decode cX6_deeper 34 = .ok (.istore 4, 2) := by decide +kernel
theorem dX6_deeper_36 : decode cX6_deeper 36 = .ok (.aload_n 0, 1) := by decide +kernel
theorem dX6_deeper_37 : decode cX6_deeper 37 = .ok (.iload 4, 2) := by decide +kernel
theorem dX6_deeper_39 : decode cX6_deeper 39 = .ok (.invokevirtual 55, 3) := by decide +kernel
theorem dX6_deeper_42 : decode cX6_deeper 42 = .ok (.ifCond .eq 8, 3) := by decide +kernel
theorem dX6_deeper_45 : decode cX6_deeper 45 = .ok (.iload 4, 2) := by decide +kernel
theorem dX6_deeper_47 : decode cX6_deeper 47 = .ok (.goto 4, 3) := by decide +kernel
theorem dX6_deeper_50 : decode cX6_deeper 50 = .ok (.iconst 0, 1) := by decide +kernel
theorem dX6_deeper_51 : decode cX6_deeper 51 = .ok (.ireturn, 1) := by decide +kernel
theorem dX6_depthAt_0 : decode cX6_depthAt 0 = .ok (.iload_n 1, 1) := by decide +kernel
theorem dX6_depthAt_1 : decode cX6_depthAt 1 = .ok (.iload_n 2, 1) := by decide +kernel
theorem dX6_depthAt_2 : decode cX6_depthAt 2 = .ok (.invokestatic 28, 3) := by decide +kernel
theorem dX6_depthAt_5 : decode cX6_depthAt 5 = .ok (.invokestatic 32, 3) := by decide +kernel
theorem dX6_depthAt_8 : decode cX6_depthAt 8 = .ok (.ireturn, 1) := by decide +kernel
theorem dX6_depthBehind_0 : decode cX6_depthBehind 0 = .ok (.iload_n 1, 1) := by decide +kernel
theorem dX6_depthBehind_1 : decode cX6_depthBehind 1 = .ok (.iconst 1, 1) := by decide +kernel
theorem dX6_depthBehind_2 : decode cX6_depthBehind 2 = .ok (.iadd, 1) := by decide +kernel
theorem dX6_depthBehind_3 : decode cX6_depthBehind 3 = .ok (.aload_n 0, 1) := by decide +kernel
theorem dX6_depthBehind_4 : decode cX6_depthBehind 4 = .ok (.getfield 18, 3) := by decide +kernel
theorem dX6_depthBehind_7 : decode cX6_depthBehind 7 = .ok (.if_icmp .lt 5, 3) := by decide +kernel
theorem dX6_depthBehind_10 : decode cX6_depthBehind 10 = .ok (.iconst 0, 1) := by decide +kernel
theorem dX6_depthBehind_11 : decode cX6_depthBehind 11 = .ok (.ireturn, 1) := by decide +kernel
theorem dX6_depthBehind_12 : decode cX6_depthBehind 12 = .ok (.aload_n 0, 1) := by decide +kernel
theorem dX6_depthBehind_13 : decode cX6_depthBehind 13 = .ok (.iload_n 1, 1) := by decide +kernel
theorem dX6_depthBehind_14 : decode cX6_depthBehind 14 = .ok (.iconst 1, 1) := by decide +kernel
theorem dX6_depthBehind_15 : decode cX6_depthBehind 15 = .ok (.iadd, 1) := by decide +kernel
theorem dX6_depthBehind_16 : decode cX6_depthBehind 16 = .ok (.aload_n 0, 1) := by decide +kernel
theorem dX6_depthBehind_17 : decode cX6_depthBehind 17 = .ok (.iload_n 1, 1) := by decide +kernel
theorem dX6_depthBehind_18 : decode cX6_depthBehind 18 = .ok (.iconst 1, 1) := by decide +kernel
theorem dX6_depthBehind_19 : decode cX6_depthBehind 19 = .ok (.iadd, 1) := by decide +kernel
theorem dX6_depthBehind_20 : decode cX6_depthBehind 20 = .ok (.aload_n 0, 1) := by decide +kernel
theorem dX6_depthBehind_21 : decode cX6_depthBehind 21 = .ok (.iload_n 2, 1) := by decide +kernel
theorem dX6_depthBehind_22 : decode cX6_depthBehind 22 = .ok (.invokevirtual 66, 3) := by decide +kernel
theorem dX6_depthBehind_25 : decode cX6_depthBehind 25 = .ok (.aload_n 0, 1) := by decide +kernel
theorem dX6_depthBehind_26 : decode cX6_depthBehind 26 = .ok (.iload_n 2, 1) := by decide +kernel
theorem dX6_depthBehind_27 : decode cX6_depthBehind 27 = .ok (.invokevirtual 69, 3) := by decide +kernel
theorem dX6_depthBehind_30 : decode cX6_depthBehind 30 = .ok (.invokevirtual 92, 3) := by decide +kernel
theorem dX6_depthBehind_33 : decode cX6_depthBehind 33 = .ok (.invokevirtual 79, 3) := by decide +kernel
theorem dX6_depthBehind_36 : decode cX6_depthBehind 36 = .ok (.ireturn, 1) := by decide +kernel
theorem dX6_depthsAt_0 : decode cX6_depthsAt 0 = .ok (.iload_n 0, 1) := by decide +kernel
theorem dX6_depthsAt_1 : decode cX6_depthsAt 1 = .ok (.iload_n 1, 1) := by decide +kernel
theorem dX6_depthsAt_2 : decode cX6_depthsAt 2 = .ok (.bipush 6, 2) := by decide +kernel
theorem dX6_depthsAt_4 : decode cX6_depthsAt 4 = .ok (.imul, 1) := by decide +kernel
theorem dX6_depthsAt_5 : decode cX6_depthsAt 5 = .ok (.ishr, 1) := by decide +kernel
theorem dX6_depthsAt_6 : decode cX6_depthsAt 6 = .ok (.bipush 63, 2) := by decide +kernel
theorem dX6_depthsAt_8 : decode cX6_depthsAt 8 = .ok (.iand, 1) := by decide +kernel
theorem dX6_depthsAt_9 : decode cX6_depthsAt 9 = .ok (.ireturn, 1) := by decide +kernel
theorem dX6_everything_0 : decode cX6_everything 0 = .ok (.aload_n 0, 1) := by decide +kernel
theorem dX6_everything_1 : decode cX6_everything 1 = .ok (.iconst 0, 1) := by decide +kernel
theorem dX6_everything_2 : decode cX6_everything 2 = .ok (.invokevirtual 38, 3) := by decide +kernel
theorem dX6_everything_5 : decode cX6_everything 5 = .ok (.ireturn, 1) := by decide +kernel
theorem dX6_everythingBut_0 : decode cX6_everythingBut 0 = .ok (.iconst 0, 1) := by decide +kernel
theorem dX6_everythingBut_1 : decode cX6_everythingBut 1 = .ok (.istore_n 2, 1) := by decide +kernel
theorem dX6_everythingBut_2 : decode cX6_everythingBut 2 = .ok (.iconst 0, 1) := by decide +kernel
theorem dX6_everythingBut_3 : decode cX6_everythingBut 3 = .ok (.istore_n 3, 1) := by decide +kernel
theorem dX6_everythingBut_4 : decode cX6_everythingBut 4 = .ok (.iload_n 3, 1) := by decide +kernel
theorem dX6_everythingBut_5 : decode cX6_everythingBut 5 = .ok (.aload_n 0, 1) := by decide +kernel
theorem dX6_everythingBut_6 : decode cX6_everythingBut 6 = .ok (.getfield 18, 3) := by decide +kernel
theorem dX6_everythingBut_9 : decode cX6_everythingBut 9 = .ok (.if_icmp .ge 33, 3) := by decide +kernel
theorem dX6_everythingBut_12 : decode cX6_everythingBut 12 = .ok (.iload_n 1, 1) := by decide +kernel
theorem dX6_everythingBut_13 : decode cX6_everythingBut 13 = .ok (.iload_n 3, 1) := by decide +kernel
theorem dX6_everythingBut_14 : decode cX6_everythingBut 14 = .ok (.invokestatic 28, 3) := by decide +kernel
theorem dX6_everythingBut_17 : decode cX6_everythingBut 17 = .ok (.ifCond .ne 19, 3) := by decide +kernel
theorem dX6_everythingBut_20 : decode cX6_everythingBut 20 = .ok (.iload_n 2, 1) := by decide +kernel
theorem dX6_everythingBut_21 : decode cX6_everythingBut 21 = .ok (.iconst 1, 1) := by decide +kernel
theorem dX6_everythingBut_22 : decode cX6_everythingBut 22 = .ok (.aload_n 0, 1) := by decide +kernel
theorem dX6_everythingBut_23 : decode cX6_everythingBut 23 = .ok (.getfield 22, 3) := by decide +kernel
theorem dX6_everythingBut_26 : decode cX6_everythingBut 26 = .ok (.ishl, 1) := by decide +kernel
theorem dX6_everythingBut_27 : decode cX6_everythingBut 27 = .ok (.iconst 1, 1) := by decide +kernel
theorem dX6_everythingBut_28 : decode cX6_everythingBut 28 = .ok (.isub, 1) := by decide +kernel
theorem dX6_everythingBut_29 : decode cX6_everythingBut 29 = .ok (.iload_n 3, 1) := by decide +kernel
theorem dX6_everythingBut_30 : decode cX6_everythingBut 30 = .ok (.bipush 6, 2) := by decide +kernel
theorem dX6_everythingBut_32 : decode cX6_everythingBut 32 = .ok (.imul, 1) := by decide +kernel
theorem dX6_everythingBut_33 : decode cX6_everythingBut 33 = .ok (.ishl, 1) := by decide +kernel
theorem dX6_everythingBut_34 : decode cX6_everythingBut 34 = .ok (.ior, 1) := by decide +kernel
theorem dX6_everythingBut_35 : decode cX6_everythingBut 35 = .ok (.istore_n 2, 1) := by decide +kernel
theorem dX6_everythingBut_36 : decode cX6_everythingBut 36 = .ok (.iinc 3 1, 3) := by decide +kernel
theorem dX6_everythingBut_39 : decode cX6_everythingBut 39 = .ok (.goto (-35), 3) := by decide +kernel
theorem dX6_everythingBut_42 : decode cX6_everythingBut 42 = .ok (.iload_n 2, 1) := by decide +kernel
theorem dX6_everythingBut_43 : decode cX6_everythingBut 43 = .ok (.ireturn, 1) := by decide +kernel
theorem dX6_fillUp_0 : decode cX6_fillUp 0 = .ok (.iload_n 1, 1) := by decide +kernel
theorem dX6_fillUp_1 : decode cX6_fillUp 1 = .ok (.istore 4, 2) := by decide +kernel
theorem dX6_fillUp_3 : decode cX6_fillUp 3 = .ok (.iload_n 3, 1) := by decide +kernel
theorem dX6_fillUp_4 : decode cX6_fillUp 4 = .ok (.istore 5, 2) := by decide +kernel
theorem dX6_fillUp_6 : decode cX6_fillUp 6 = .ok (.iload_n 2, 1) := by decide +kernel
theorem dX6_fillUp_7 : decode cX6_fillUp 7 = .ok (.istore 6, 2) := by decide +kernel
theorem dX6_fillUp_9 : decode cX6_fillUp 9 = .ok (.iload 6, 2) := by decide +kernel
theorem dX6_fillUp_11 : decode cX6_fillUp 11 = .ok (.aload_n 0, 1) := by decide +kernel
theorem dX6_fillUp_12 : decode cX6_fillUp 12 = .ok (.getfield 18, 3) := by decide +kernel
theorem dX6_fillUp_15 : decode cX6_fillUp 15 = .ok (.if_icmp .ge 29, 3) := by decide +kernel
theorem dX6_fillUp_18 : decode cX6_fillUp 18 = .ok (.aload_n 0, 1) := by decide +kernel
theorem dX6_fillUp_19 : decode cX6_fillUp 19 = .ok (.iload 5, 2) := by decide +kernel
theorem dX6_fillUp_21 : decode cX6_fillUp 21 = .ok (.invokevirtual 66, 3) := by decide +kernel
theorem dX6_fillUp_24 : decode cX6_fillUp 24 = .ok (.istore 5, 2) := by decide +kernel
theorem dX6_fillUp_26 : decode cX6_fillUp 26 = .ok (.iload 4, 2) := by decide +kernel
theorem dX6_fillUp_28 : decode cX6_fillUp 28 = .ok (.iload 6, 2) := by decide +kernel
theorem dX6_fillUp_30 : decode cX6_fillUp 30 = .ok (.iload 5, 2) := by decide +kernel
theorem dX6_fillUp_32 : decode cX6_fillUp 32 = .ok (.invokestatic 44, 3) := by decide +kernel
theorem dX6_fillUp_35 : decode cX6_fillUp 35 = .ok (.ior, 1) := by decide +kernel
theorem dX6_fillUp_36 : decode cX6_fillUp 36 = .ok (.istore 4, 2) := by decide +kernel
theorem dX6_fillUp_38 : decode cX6_fillUp 38 = .ok (.iinc 6 1, 3) := by decide +kernel
theorem dX6_fillUp_41 : decode cX6_fillUp 41 = .ok (.goto (-32), 3) := by decide +kernel
theorem dX6_fillUp_44 : decode cX6_fillUp 44 = .ok (.iload 4, 2) := by decide +kernel
theorem dX6_fillUp_46 : decode cX6_fillUp 46 = .ok (.ireturn, 1) := by decide +kernel
theorem dX6_fitsIn_0 : decode cX6_fitsIn 0 = .ok (.iload_n 0, 1) := by decide +kernel
theorem dX6_fitsIn_1 : decode cX6_fitsIn 1 = .ok (.iload_n 1, 1) := by decide +kernel
theorem dX6_fitsIn_2 : decode cX6_fitsIn 2 = .ok (.iconst (-1), 1) := by decide +kernel
theorem dX6_fitsIn_3 : decode cX6_fitsIn 3 = .ok (.ixor, 1) := by decide +kernel
theorem dX6_fitsIn_4 : decode cX6_fitsIn 4 = .ok (.iand, 1) := by decide +kernel
theorem dX6_fitsIn_5 : decode cX6_fitsIn 5 = .ok (.ifCond .ne 7, 3) := by decide +kernel
theorem dX6_fitsIn_8 : decode cX6_fitsIn 8 = .ok (.iconst 1, 1) := by decide +kernel
theorem dX6_fitsIn_9 : decode cX6_fitsIn 9 = .ok (.goto 4, 3) := by decide +kernel
theorem dX6_fitsIn_12 : decode cX6_fitsIn 12 = .ok (.iconst 0, 1) := by decide +kernel
theorem dX6_fitsIn_13 : decode cX6_fitsIn 13 = .ok (.ireturn, 1) := by decide +kernel
theorem dX6_fromDepthsOf_0 : decode cX6_fromDepthsOf 0 = .ok (.iconst 0, 1) := by decide +kernel
theorem dX6_fromDepthsOf_1 : decode cX6_fromDepthsOf 1 = .ok (.istore_n 2, 1) := by decide +kernel
theorem dX6_fromDepthsOf_2 : decode cX6_fromDepthsOf 2 = .ok (.iconst 0, 1) := by decide +kernel
theorem dX6_fromDepthsOf_3 : decode cX6_fromDepthsOf 3 = .ok (.istore_n 3, 1) := by decide +kernel
theorem dX6_fromDepthsOf_4 : decode cX6_fromDepthsOf 4 = .ok (.iload_n 3, 1) := by decide +kernel
theorem dX6_fromDepthsOf_5 : decode cX6_fromDepthsOf 5 = .ok (.aload_n 0, 1) := by decide +kernel
theorem dX6_fromDepthsOf_6 : decode cX6_fromDepthsOf 6 = .ok (.getfield 18, 3) := by decide +kernel
theorem dX6_fromDepthsOf_9 : decode cX6_fromDepthsOf 9 = .ok (.if_icmp .ge 47, 3) := by decide +kernel
theorem dX6_fromDepthsOf_12 : decode cX6_fromDepthsOf 12 = .ok (.iload_n 3, 1) := by decide +kernel
theorem dX6_fromDepthsOf_13 : decode cX6_fromDepthsOf 13 = .ok (.aload_n 0, 1) := by decide +kernel
theorem dX6_fromDepthsOf_14 : decode cX6_fromDepthsOf 14 = .ok (.iload_n 1, 1) := by decide +kernel
theorem dX6_fromDepthsOf_15 : decode cX6_fromDepthsOf 15 = .ok (.iload_n 3, 1) := by decide +kernel
theorem dX6_fromDepthsOf_16 : decode cX6_fromDepthsOf 16 = .ok (.invokevirtual 41, 3) := by decide +kernel
theorem dX6_fromDepthsOf_19 : decode cX6_fromDepthsOf 19 = .ok (.invokestatic 44, 3) := by decide +kernel
theorem dX6_fromDepthsOf_22 : decode cX6_fromDepthsOf 22 = .ok (.iload_n 3, 1) := by decide +kernel
theorem dX6_fromDepthsOf_23 : decode cX6_fromDepthsOf 23 = .ok (.iconst 0, 1) := by decide +kernel
theorem dX6_fromDepthsOf_24 : decode cX6_fromDepthsOf 24 = .ok (.invokestatic 44, 3) := by decide +kernel
theorem dX6_fromDepthsOf_27 : decode cX6_fromDepthsOf 27 = .ok (.isub, 1) := by decide +kernel
theorem dX6_fromDepthsOf_28 : decode cX6_fromDepthsOf 28 = .ok (.istore 4, 2) := by decide +kernel
theorem dX6_fromDepthsOf_30 : decode cX6_fromDepthsOf 30 = .ok (.iload_n 2, 1) := by decide +kernel
theorem dX6_fromDepthsOf_31 : decode cX6_fromDepthsOf 31 = .ok (.iload_n 3, 1) := by decide +kernel
theorem dX6_fromDepthsOf_32 : decode cX6_fromDepthsOf 32 = .ok (.bipush 6, 2) := by decide +kernel
theorem dX6_fromDepthsOf_34 : decode cX6_fromDepthsOf 34 = .ok (.invokestatic 44, 3) := by decide +kernel
theorem dX6_fromDepthsOf_37 : decode cX6_fromDepthsOf 37 = .ok (.iload_n 3, 1) := by decide +kernel
theorem dX6_fromDepthsOf_38 : decode cX6_fromDepthsOf 38 = .ok (.iconst 0, 1) := by decide +kernel
theorem dX6_fromDepthsOf_39 : decode cX6_fromDepthsOf 39 = .ok (.invokestatic 44, 3) := by decide +kernel
theorem dX6_fromDepthsOf_42 : decode cX6_fromDepthsOf 42 = .ok (.isub, 1) := by decide +kernel
theorem dX6_fromDepthsOf_43 : decode cX6_fromDepthsOf 43 = .ok (.iload 4, 2) := by decide +kernel
theorem dX6_fromDepthsOf_45 : decode cX6_fromDepthsOf 45 = .ok (.iconst (-1), 1) := by decide +kernel
theorem dX6_fromDepthsOf_46 : decode cX6_fromDepthsOf 46 = .ok (.ixor, 1) := by decide +kernel
theorem dX6_fromDepthsOf_47 : decode cX6_fromDepthsOf 47 = .ok (.iand, 1) := by decide +kernel
theorem dX6_fromDepthsOf_48 : decode cX6_fromDepthsOf 48 = .ok (.ior, 1) := by decide +kernel
theorem dX6_fromDepthsOf_49 : decode cX6_fromDepthsOf 49 = .ok (.istore_n 2, 1) := by decide +kernel
theorem dX6_fromDepthsOf_50 : decode cX6_fromDepthsOf 50 = .ok (.iinc 3 1, 3) := by decide +kernel
theorem dX6_fromDepthsOf_53 : decode cX6_fromDepthsOf 53 = .ok (.goto (-49), 3) := by decide +kernel
theorem dX6_fromDepthsOf_56 : decode cX6_fromDepthsOf 56 = .ok (.iload_n 2, 1) := by decide +kernel
theorem dX6_fromDepthsOf_57 : decode cX6_fromDepthsOf 57 = .ok (.ireturn, 1) := by decide +kernel
theorem dX6_hasChamber_0 : decode cX6_hasChamber 0 = .ok (.iload_n 1, 1) := by decide +kernel
theorem dX6_hasChamber_1 : decode cX6_hasChamber 1 = .ok (.ifCond .lt 15, 3) := by decide +kernel
theorem dX6_hasChamber_4 : decode cX6_hasChamber 4 = .ok (.iload_n 1, 1) := by decide +kernel
theorem dX6_hasChamber_5 : decode cX6_hasChamber 5 = .ok (.aload_n 0, 1) := by decide +kernel
theorem dX6_hasChamber_6 : decode cX6_hasChamber 6 = .ok (.getfield 18, 3) := by decide +kernel
theorem dX6_hasChamber_9 : decode cX6_hasChamber 9 = .ok (.if_icmp .ge 7, 3) := by decide +kernel
theorem dX6_hasChamber_12 : decode cX6_hasChamber 12 = .ok (.iconst 1, 1) := by decide +kernel
theorem dX6_hasChamber_13 : decode cX6_hasChamber 13 = .ok (.goto 4, 3) := by decide +kernel
theorem dX6_hasChamber_16 : decode cX6_hasChamber 16 = .ok (.iconst 0, 1) := by decide +kernel
theorem dX6_hasChamber_17 : decode cX6_hasChamber 17 = .ok (.ireturn, 1) := by decide +kernel
theorem dX6_hasDepth_0 : decode cX6_hasDepth 0 = .ok (.iload_n 1, 1) := by decide +kernel
theorem dX6_hasDepth_1 : decode cX6_hasDepth 1 = .ok (.ifCond .lt 15, 3) := by decide +kernel
theorem dX6_hasDepth_4 : decode cX6_hasDepth 4 = .ok (.iload_n 1, 1) := by decide +kernel
theorem dX6_hasDepth_5 : decode cX6_hasDepth 5 = .ok (.aload_n 0, 1) := by decide +kernel
theorem dX6_hasDepth_6 : decode cX6_hasDepth 6 = .ok (.getfield 22, 3) := by decide +kernel
theorem dX6_hasDepth_9 : decode cX6_hasDepth 9 = .ok (.if_icmp .ge 7, 3) := by decide +kernel
theorem dX6_hasDepth_12 : decode cX6_hasDepth 12 = .ok (.iconst 1, 1) := by decide +kernel
theorem dX6_hasDepth_13 : decode cX6_hasDepth 13 = .ok (.goto 4, 3) := by decide +kernel
theorem dX6_hasDepth_16 : decode cX6_hasDepth 16 = .ok (.iconst 0, 1) := by decide +kernel
theorem dX6_hasDepth_17 : decode cX6_hasDepth 17 = .ok (.ireturn, 1) := by decide +kernel
theorem dX6_highest_0 : decode cX6_highest 0 = .ok (.aload_n 0, 1) := by decide +kernel
theorem dX6_highest_1 : decode cX6_highest 1 = .ok (.getfield 22, 3) := by decide +kernel
theorem dX6_highest_4 : decode cX6_highest 4 = .ok (.iconst 1, 1) := by decide +kernel
theorem dX6_highest_5 : decode cX6_highest 5 = .ok (.isub, 1) := by decide +kernel
theorem dX6_highest_6 : decode cX6_highest 6 = .ok (.iload_n 1, 1) := by decide +kernel
theorem dX6_highest_7 : decode cX6_highest 7 = .ok (.aload_n 0, 1) := by decide +kernel
theorem dX6_highest_8 : decode cX6_highest 8 = .ok (.getfield 25, 3) := by decide +kernel
theorem dX6_highest_11 : decode cX6_highest 11 = .ok (.iadd, 1) := by decide +kernel
theorem dX6_highest_12 : decode cX6_highest 12 = .ok (.invokestatic 52, 3) := by decide +kernel
theorem dX6_highest_15 : decode cX6_highest 15 = .ok (.ireturn, 1) := by decide +kernel
theorem dX6_howMany_0 : decode cX6_howMany 0 = .ok (.aload_n 0, 1) := by decide +kernel
theorem dX6_howMany_1 : decode cX6_howMany 1 = .ok (.getfield 18, 3) := by decide +kernel
theorem dX6_howMany_4 : decode cX6_howMany 4 = .ok (.iconst 1, 1) := by decide +kernel
theorem dX6_howMany_5 : decode cX6_howMany 5 = .ok (.isub, 1) := by decide +kernel
theorem dX6_howMany_6 : decode cX6_howMany 6 = .ok (.istore_n 3, 1) := by decide +kernel
theorem dX6_howMany_7 : decode cX6_howMany 7 = .ok (.iload_n 3, 1) := by decide +kernel
theorem dX6_howMany_8 : decode cX6_howMany 8 = .ok (.ifCond .lt 57, 3) := by decide +kernel
theorem dX6_howMany_11 : decode cX6_howMany 11 = .ok (.iconst 0, 1) := by decide +kernel
theorem dX6_howMany_12 : decode cX6_howMany 12 = .ok (.istore 4, 2) := by decide +kernel
theorem dX6_howMany_14 : decode cX6_howMany 14 = .ok (.iload 4, 2) := by decide +kernel
theorem dX6_howMany_16 : decode cX6_howMany 16 = .ok (.aload_n 0, 1) := by decide +kernel
theorem dX6_howMany_17 : decode cX6_howMany 17 = .ok (.getfield 22, 3) := by decide +kernel
theorem dX6_howMany_20 : decode cX6_howMany 20 = .ok (.if_icmp .ge 39, 3) := by decide +kernel
theorem dX6_howMany_23 : decode cX6_howMany 23 = .ok (.aload_n 0, 1) := by decide +kernel
theorem dX6_howMany_24 : decode cX6_howMany 24 = .ok (.iload_n 3, 1) := by decide +kernel
theorem dX6_howMany_25 : decode cX6_howMany 25 = .ok (.iload 4, 2) := by decide +kernel
theorem dX6_howMany_27 : decode cX6_howMany 27 = .ok (.iload_n 1, 1) := by decide +kernel
theorem dX6_howMany_28 : decode cX6_howMany 28 = .ok (.iload_n 3, 1) := by decide +kernel
theorem dX6_howMany_29 : decode cX6_howMany 29 = .ok (.iload 4, 2) := by decide +kernel
theorem dX6_howMany_31 : decode cX6_howMany 31 = .ok (.invokestatic 44, 3) := by decide +kernel
theorem dX6_howMany_34 : decode cX6_howMany 34 = .ok (.iand, 1) := by decide +kernel
theorem dX6_howMany_35 : decode cX6_howMany 35 = .ok (.ifCond .ne 7, 3) := by decide +kernel
theorem dX6_howMany_38 : decode cX6_howMany 38 = .ok (.iconst 0, 1) := by decide +kernel
theorem dX6_howMany_39 : decode cX6_howMany 39 = .ok (.goto 11, 3) := by decide +kernel
theorem dX6_howMany_42 : decode cX6_howMany 42 = .ok (.aload_n 0, 1) := by decide +kernel
theorem dX6_howMany_43 : decode cX6_howMany 43 = .ok (.iload_n 3, 1) := by decide +kernel
theorem dX6_howMany_44 : decode cX6_howMany 44 = .ok (.iload 4, 2) := by decide +kernel
theorem dX6_howMany_46 : decode cX6_howMany 46 = .ok (.iload_n 2, 1) := by decide +kernel
theorem dX6_howMany_47 : decode cX6_howMany 47 = .ok (.invokevirtual 72, 3) := by decide +kernel
theorem dX6_howMany_50 : decode cX6_howMany 50 = .ok (.invokevirtual 75, 3) := by decide +kernel
theorem dX6_howMany_53 : decode cX6_howMany 53 = .ok (.iinc 4 1, 3) := by decide +kernel
theorem dX6_howMany_56 : decode cX6_howMany 56 = .ok (.goto (-42), 3) := by decide +kernel
theorem dX6_howMany_59 : decode cX6_howMany 59 = .ok (.iinc 3 (-1), 3) := by decide +kernel
theorem dX6_howMany_62 : decode cX6_howMany 62 = .ok (.goto (-55), 3) := by decide +kernel
theorem dX6_howMany_65 : decode cX6_howMany 65 = .ok (.iconst 0, 1) := by decide +kernel
theorem dX6_howMany_66 : decode cX6_howMany 66 = .ok (.istore_n 3, 1) := by decide +kernel
theorem dX6_howMany_67 : decode cX6_howMany 67 = .ok (.iconst 0, 1) := by decide +kernel
theorem dX6_howMany_68 : decode cX6_howMany 68 = .ok (.istore 4, 2) := by decide +kernel
theorem dX6_howMany_70 : decode cX6_howMany 70 = .ok (.iload 4, 2) := by decide +kernel
theorem dX6_howMany_72 : decode cX6_howMany 72 = .ok (.aload_n 0, 1) := by decide +kernel
theorem dX6_howMany_73 : decode cX6_howMany 73 = .ok (.getfield 22, 3) := by decide +kernel
theorem dX6_howMany_76 : decode cX6_howMany 76 = .ok (.if_icmp .ge 19, 3) := by decide +kernel
theorem dX6_howMany_79 : decode cX6_howMany 79 = .ok (.iload_n 3, 1) := by decide +kernel
theorem dX6_howMany_80 : decode cX6_howMany 80 = .ok (.aload_n 0, 1) := by decide +kernel
theorem dX6_howMany_81 : decode cX6_howMany 81 = .ok (.iconst 0, 1) := by decide +kernel
theorem dX6_howMany_82 : decode cX6_howMany 82 = .ok (.iload 4, 2) := by decide +kernel
theorem dX6_howMany_84 : decode cX6_howMany 84 = .ok (.invokevirtual 79, 3) := by decide +kernel
theorem dX6_howMany_87 : decode cX6_howMany 87 = .ok (.iadd, 1) := by decide +kernel
theorem dX6_howMany_88 : decode cX6_howMany 88 = .ok (.istore_n 3, 1) := by decide +kernel
theorem dX6_howMany_89 : decode cX6_howMany 89 = .ok (.iinc 4 1, 3) := by decide +kernel
theorem dX6_howMany_92 : decode cX6_howMany 92 = .ok (.goto (-22), 3) := by decide +kernel
theorem dX6_howMany_95 : decode cX6_howMany 95 = .ok (.iload_n 3, 1) := by decide +kernel
theorem dX6_howMany_96 : decode cX6_howMany 96 = .ok (.ireturn, 1) := by decide +kernel
theorem dX6_init_0 : decode cX6_init 0 = .ok (.aload_n 0, 1) := by decide +kernel
theorem dX6_init_1 : decode cX6_init 1 = .ok (.invokespecial 3, 3) := by decide +kernel
theorem dX6_init_4 : decode cX6_init 4 = .ok (.aload_n 0, 1) := by decide +kernel
theorem dX6_init_5 : decode cX6_init 5 = .ok (.bipush 30, 2) := by decide +kernel
theorem dX6_init_7 : decode cX6_init 7 = .ok (.newarray .int, 2) := by decide +kernel
theorem dX6_init_9 : decode cX6_init 9 = .ok (.putfield 9, 3) := by decide +kernel
theorem dX6_init_12 : decode cX6_init 12 = .ok (.aload_n 0, 1) := by decide +kernel
theorem dX6_init_13 : decode cX6_init 13 = .ok (.invokevirtual 15, 3) := by decide +kernel
theorem dX6_init_16 : decode cX6_init 16 = .ok (.return_, 1) := by decide +kernel
theorem dX6_isLegal_0 : decode cX6_isLegal 0 = .ok (.iconst 1, 1) := by decide +kernel
theorem dX6_isLegal_1 : decode cX6_isLegal 1 = .ok (.istore_n 2, 1) := by decide +kernel
theorem dX6_isLegal_2 : decode cX6_isLegal 2 = .ok (.iload_n 2, 1) := by decide +kernel
theorem dX6_isLegal_3 : decode cX6_isLegal 3 = .ok (.aload_n 0, 1) := by decide +kernel
theorem dX6_isLegal_4 : decode cX6_isLegal 4 = .ok (.getfield 18, 3) := by decide +kernel
theorem dX6_isLegal_7 : decode cX6_isLegal 7 = .ok (.if_icmp .ge 36, 3) := by decide +kernel
theorem dX6_isLegal_10 : decode cX6_isLegal 10 = .ok (.aload_n 0, 1) := by decide +kernel
theorem dX6_isLegal_11 : decode cX6_isLegal 11 = .ok (.iload_n 1, 1) := by decide +kernel
theorem dX6_isLegal_12 : decode cX6_isLegal 12 = .ok (.iload_n 2, 1) := by decide +kernel
theorem dX6_isLegal_13 : decode cX6_isLegal 13 = .ok (.invokevirtual 41, 3) := by decide +kernel
theorem dX6_isLegal_16 : decode cX6_isLegal 16 = .ok (.aload_n 0, 1) := by decide +kernel
theorem dX6_isLegal_17 : decode cX6_isLegal 17 = .ok (.iload_n 1, 1) := by decide +kernel
theorem dX6_isLegal_18 : decode cX6_isLegal 18 = .ok (.iload_n 2, 1) := by decide +kernel
theorem dX6_isLegal_19 : decode cX6_isLegal 19 = .ok (.iconst 1, 1) := by decide +kernel
theorem dX6_isLegal_20 : decode cX6_isLegal 20 = .ok (.isub, 1) := by decide +kernel
theorem dX6_isLegal_21 : decode cX6_isLegal 21 = .ok (.invokevirtual 41, 3) := by decide +kernel
theorem dX6_isLegal_24 : decode cX6_isLegal 24 = .ok (.isub, 1) := by decide +kernel
theorem dX6_isLegal_25 : decode cX6_isLegal 25 = .ok (.invokestatic 59, 3) := by decide +kernel
theorem dX6_isLegal_28 : decode cX6_isLegal 28 = .ok (.aload_n 0, 1) := by decide +kernel
theorem dX6_isLegal_29 : decode cX6_isLegal 29 = .ok (.getfield 25, 3) := by decide +kernel
theorem dX6_isLegal_32 : decode cX6_isLegal 32 = .ok (.if_icmp .le 5, 3) := by decide +kernel
theorem dX6_isLegal_35 : decode cX6_isLegal 35 = .ok (.iconst 0, 1) := by decide +kernel
theorem dX6_isLegal_36 : decode cX6_isLegal 36 = .ok (.ireturn, 1) := by decide +kernel
theorem dX6_isLegal_37 : decode cX6_isLegal 37 = .ok (.iinc 2 1, 3) := by decide +kernel
theorem dX6_isLegal_40 : decode cX6_isLegal 40 = .ok (.goto (-38), 3) := by decide +kernel
theorem dX6_isLegal_43 : decode cX6_isLegal 43 = .ok (.iconst 1, 1) := by decide +kernel
theorem dX6_isLegal_44 : decode cX6_isLegal 44 = .ok (.ireturn, 1) := by decide +kernel
theorem dX6_least_0 : decode cX6_least 0 = .ok (.aload_n 0, 1) := by decide +kernel
theorem dX6_least_1 : decode cX6_least 1 = .ok (.iconst 0, 1) := by decide +kernel
theorem dX6_least_2 : decode cX6_least 2 = .ok (.iconst 0, 1) := by decide +kernel
theorem dX6_least_3 : decode cX6_least 3 = .ok (.iconst 0, 1) := by decide +kernel
theorem dX6_least_4 : decode cX6_least 4 = .ok (.invokevirtual 62, 3) := by decide +kernel
theorem dX6_least_7 : decode cX6_least 7 = .ok (.ireturn, 1) := by decide +kernel
theorem dX6_lowest_0 : decode cX6_lowest 0 = .ok (.iconst 0, 1) := by decide +kernel
theorem dX6_lowest_1 : decode cX6_lowest 1 = .ok (.iload_n 1, 1) := by decide +kernel
theorem dX6_lowest_2 : decode cX6_lowest 2 = .ok (.aload_n 0, 1) := by decide +kernel
theorem dX6_lowest_3 : decode cX6_lowest 3 = .ok (.getfield 25, 3) := by decide +kernel
theorem dX6_lowest_6 : decode cX6_lowest 6 = .ok (.isub, 1) := by decide +kernel
theorem dX6_lowest_7 : decode cX6_lowest 7 = .ok (.invokestatic 47, 3) := by decide +kernel
theorem dX6_lowest_10 : decode cX6_lowest 10 = .ok (.ireturn, 1) := by decide +kernel
theorem dX6_notch_0 : decode cX6_notch 0 = .ok (.iconst 1, 1) := by decide +kernel
theorem dX6_notch_1 : decode cX6_notch 1 = .ok (.iload_n 0, 1) := by decide +kernel
theorem dX6_notch_2 : decode cX6_notch 2 = .ok (.bipush 6, 2) := by decide +kernel
theorem dX6_notch_4 : decode cX6_notch 4 = .ok (.imul, 1) := by decide +kernel
theorem dX6_notch_5 : decode cX6_notch 5 = .ok (.iload_n 1, 1) := by decide +kernel
theorem dX6_notch_6 : decode cX6_notch 6 = .ok (.iadd, 1) := by decide +kernel
theorem dX6_notch_7 : decode cX6_notch 7 = .ok (.ishl, 1) := by decide +kernel
theorem dX6_notch_8 : decode cX6_notch 8 = .ok (.ireturn, 1) := by decide +kernel
theorem dX6_nth_0 : decode cX6_nth 0 = .ok (.iload_n 2, 1) := by decide +kernel
theorem dX6_nth_1 : decode cX6_nth 1 = .ok (.ifCond .lt 16, 3) := by decide +kernel
theorem dX6_nth_4 : decode cX6_nth 4 = .ok (.iload_n 2, 1) := by decide +kernel
theorem dX6_nth_5 : decode cX6_nth 5 = .ok (.aload_n 0, 1) := by decide +kernel
theorem dX6_nth_6 : decode cX6_nth 6 = .ok (.iload_n 1, 1) := by decide +kernel
theorem dX6_nth_7 : decode cX6_nth 7 = .ok (.aload_n 0, 1) := by decide +kernel
theorem dX6_nth_8 : decode cX6_nth 8 = .ok (.getfield 25, 3) := by decide +kernel
theorem dX6_nth_11 : decode cX6_nth 11 = .ok (.invokevirtual 82, 3) := by decide +kernel
theorem dX6_nth_14 : decode cX6_nth 14 = .ok (.if_icmp .lt 5, 3) := by decide +kernel
theorem dX6_nth_17 : decode cX6_nth 17 = .ok (.iconst 0, 1) := by decide +kernel
theorem dX6_nth_18 : decode cX6_nth 18 = .ok (.ireturn, 1) := by decide +kernel
theorem dX6_nth_19 : decode cX6_nth 19 = .ok (.iload_n 2, 1) := by decide +kernel
theorem dX6_nth_20 : decode cX6_nth 20 = .ok (.istore_n 3, 1) := by decide +kernel
theorem dX6_nth_21 : decode cX6_nth 21 = .ok (.iconst 0, 1) := by decide +kernel
theorem dX6_nth_22 : decode cX6_nth 22 = .ok (.istore 4, 2) := by decide +kernel
theorem dX6_nth_24 : decode cX6_nth 24 = .ok (.iconst 0, 1) := by decide +kernel
theorem dX6_nth_25 : decode cX6_nth 25 = .ok (.istore 5, 2) := by decide +kernel
theorem dX6_nth_27 : decode cX6_nth 27 = .ok (.aload_n 0, 1) := by decide +kernel
theorem dX6_nth_28 : decode cX6_nth 28 = .ok (.getfield 22, 3) := by decide +kernel
theorem dX6_nth_31 : decode cX6_nth 31 = .ok (.iconst 1, 1) := by decide +kernel
theorem dX6_nth_32 : decode cX6_nth 32 = .ok (.isub, 1) := by decide +kernel
theorem dX6_nth_33 : decode cX6_nth 33 = .ok (.istore 6, 2) := by decide +kernel
theorem dX6_nth_35 : decode cX6_nth 35 = .ok (.iconst 0, 1) := by decide +kernel
theorem dX6_nth_36 : decode cX6_nth 36 = .ok (.istore 7, 2) := by decide +kernel
theorem dX6_nth_38 : decode cX6_nth 38 = .ok (.iload 7, 2) := by decide +kernel
theorem dX6_nth_40 : decode cX6_nth 40 = .ok (.aload_n 0, 1) := by decide +kernel
theorem dX6_nth_41 : decode cX6_nth 41 = .ok (.getfield 18, 3) := by decide +kernel
theorem dX6_nth_44 : decode cX6_nth 44 = .ok (.if_icmp .ge 77, 3) := by decide +kernel
theorem dX6_nth_47 : decode cX6_nth 47 = .ok (.iload 5, 2) := by decide +kernel
theorem dX6_nth_49 : decode cX6_nth 49 = .ok (.istore 8, 2) := by decide +kernel
theorem dX6_nth_51 : decode cX6_nth 51 = .ok (.iload 8, 2) := by decide +kernel
theorem dX6_nth_53 : decode cX6_nth 53 = .ok (.iload 6, 2) := by decide +kernel
theorem dX6_nth_55 : decode cX6_nth 55 = .ok (.if_icmp .ge 32, 3) := by decide +kernel
theorem dX6_nth_58 : decode cX6_nth 58 = .ok (.iload_n 3, 1) := by decide +kernel
theorem dX6_nth_59 : decode cX6_nth 59 = .ok (.aload_n 0, 1) := by decide +kernel
theorem dX6_nth_60 : decode cX6_nth 60 = .ok (.iload 7, 2) := by decide +kernel
theorem dX6_nth_62 : decode cX6_nth 62 = .ok (.iload 8, 2) := by decide +kernel
theorem dX6_nth_64 : decode cX6_nth 64 = .ok (.invokevirtual 79, 3) := by decide +kernel
theorem dX6_nth_67 : decode cX6_nth 67 = .ok (.if_icmp .lt 20, 3) := by decide +kernel
theorem dX6_nth_70 : decode cX6_nth 70 = .ok (.iload_n 3, 1) := by decide +kernel
theorem dX6_nth_71 : decode cX6_nth 71 = .ok (.aload_n 0, 1) := by decide +kernel
theorem dX6_nth_72 : decode cX6_nth 72 = .ok (.iload 7, 2) := by decide +kernel
theorem dX6_nth_74 : decode cX6_nth 74 = .ok (.iload 8, 2) := by decide +kernel
theorem dX6_nth_76 : decode cX6_nth 76 = .ok (.invokevirtual 79, 3) := by decide +kernel
theorem dX6_nth_79 : decode cX6_nth 79 = .ok (.isub, 1) := by decide +kernel
theorem dX6_nth_80 : decode cX6_nth 80 = .ok (.istore_n 3, 1) := by decide +kernel
theorem dX6_nth_81 : decode cX6_nth 81 = .ok (.iinc 8 1, 3) := by decide +kernel
theorem dX6_nth_84 : decode cX6_nth 84 = .ok (.goto (-33), 3) := by decide +kernel
theorem dX6_nth_87 : decode cX6_nth 87 = .ok (.iload 4, 2) := by decide +kernel
theorem dX6_nth_89 : decode cX6_nth 89 = .ok (.iload 7, 2) := by decide +kernel
theorem dX6_nth_91 : decode cX6_nth 91 = .ok (.iload 8, 2) := by decide +kernel
theorem dX6_nth_93 : decode cX6_nth 93 = .ok (.invokestatic 44, 3) := by decide +kernel
theorem dX6_nth_96 : decode cX6_nth 96 = .ok (.ior, 1) := by decide +kernel
theorem dX6_nth_97 : decode cX6_nth 97 = .ok (.istore 4, 2) := by decide +kernel
theorem dX6_nth_99 : decode cX6_nth 99 = .ok (.aload_n 0, 1) := by decide +kernel
theorem dX6_nth_100 : decode cX6_nth 100 = .ok (.iload 8, 2) := by decide +kernel
theorem dX6_nth_102 : decode cX6_nth 102 = .ok (.invokevirtual 66, 3) := by decide +kernel
theorem dX6_nth_105 : decode cX6_nth 105 = .ok (.istore 5, 2) := by decide +kernel
theorem dX6_nth_107 : decode cX6_nth 107 = .ok (.aload_n 0, 1) := by decide +kernel
theorem dX6_nth_108 : decode cX6_nth 108 = .ok (.iload 8, 2) := by decide +kernel
theorem dX6_nth_110 : decode cX6_nth 110 = .ok (.invokevirtual 69, 3) := by decide +kernel
theorem dX6_nth_113 : decode cX6_nth 113 = .ok (.istore 6, 2) := by decide +kernel
theorem dX6_nth_115 : decode cX6_nth 115 = .ok (.iinc 7 1, 3) := by decide +kernel
theorem dX6_nth_118 : decode cX6_nth 118 = .ok (.goto (-80), 3) := by decide +kernel
theorem dX6_nth_121 : decode cX6_nth 121 = .ok (.iload 4, 2) := by decide +kernel
theorem dX6_nth_123 : decode cX6_nth 123 = .ok (.ireturn, 1) := by decide +kernel
theorem dX6_numberOf_0 : decode cX6_numberOf 0 = .ok (.iload_n 1, 1) := by decide +kernel
theorem dX6_numberOf_1 : decode cX6_numberOf 1 = .ok (.ifCond .ne 5, 3) := by decide +kernel
theorem dX6_numberOf_4 : decode cX6_numberOf 4 = .ok (.iconst (-1), 1) := by decide +kernel
theorem dX6_numberOf_5 : decode cX6_numberOf 5 = .ok (.ireturn, 1) := by decide +kernel
theorem dX6_numberOf_6 : decode cX6_numberOf 6 = .ok (.iconst 0, 1) := by decide +kernel
theorem dX6_numberOf_7 : decode cX6_numberOf 7 = .ok (.istore_n 2, 1) := by decide +kernel
theorem dX6_numberOf_8 : decode cX6_numberOf 8 = .ok (.iconst 0, 1) := by decide +kernel
theorem dX6_numberOf_9 : decode cX6_numberOf 9 = .ok (.istore_n 3, 1) := by decide +kernel
theorem dX6_numberOf_10 : decode cX6_numberOf 10 = .ok (.iload_n 3, 1) := by decide +kernel
theorem dX6_numberOf_11 : decode cX6_numberOf 11 = .ok (.aload_n 0, 1) := by decide +kernel
theorem dX6_numberOf_12 : decode cX6_numberOf 12 = .ok (.getfield 18, 3) := by decide +kernel
theorem dX6_numberOf_15 : decode cX6_numberOf 15 = .ok (.if_icmp .ge 23, 3) := by decide +kernel
theorem dX6_numberOf_18 : decode cX6_numberOf 18 = .ok (.iload_n 2, 1) := by decide +kernel
theorem dX6_numberOf_19 : decode cX6_numberOf 19 = .ok (.aload_n 0, 1) := by decide +kernel
theorem dX6_numberOf_20 : decode cX6_numberOf 20 = .ok (.getfield 22, 3) := by decide +kernel
theorem dX6_numberOf_23 : decode cX6_numberOf 23 = .ok (.imul, 1) := by decide +kernel
theorem dX6_numberOf_24 : decode cX6_numberOf 24 = .ok (.aload_n 0, 1) := by decide +kernel
theorem dX6_numberOf_25 : decode cX6_numberOf 25 = .ok (.iload_n 1, 1) := by decide +kernel
theorem dX6_numberOf_26 : decode cX6_numberOf 26 = .ok (.iload_n 3, 1) := by decide +kernel
theorem dX6_numberOf_27 : decode cX6_numberOf 27 = .ok (.invokevirtual 41, 3) := by decide +kernel
theorem dX6_numberOf_30 : decode cX6_numberOf 30 = .ok (.iadd, 1) := by decide +kernel
theorem dX6_numberOf_31 : decode cX6_numberOf 31 = .ok (.istore_n 2, 1) := by decide +kernel
theorem dX6_numberOf_32 : decode cX6_numberOf 32 = .ok (.iinc 3 1, 3) := by decide +kernel
theorem dX6_numberOf_35 : decode cX6_numberOf 35 = .ok (.goto (-25), 3) := by decide +kernel
theorem dX6_numberOf_38 : decode cX6_numberOf 38 = .ok (.iload_n 2, 1) := by decide +kernel
theorem dX6_numberOf_39 : decode cX6_numberOf 39 = .ok (.ireturn, 1) := by decide +kernel
theorem dX6_onwardAt_0 : decode cX6_onwardAt 0 = .ok (.iload_n 1, 1) := by decide +kernel
theorem dX6_onwardAt_1 : decode cX6_onwardAt 1 = .ok (.bipush 6, 2) := by decide +kernel
theorem dX6_onwardAt_3 : decode cX6_onwardAt 3 = .ok (.imul, 1) := by decide +kernel
theorem dX6_onwardAt_4 : decode cX6_onwardAt 4 = .ok (.iload_n 2, 1) := by decide +kernel
theorem dX6_onwardAt_5 : decode cX6_onwardAt 5 = .ok (.iadd, 1) := by decide +kernel
theorem dX6_onwardAt_6 : decode cX6_onwardAt 6 = .ok (.istore_n 3, 1) := by decide +kernel
theorem dX6_onwardAt_7 : decode cX6_onwardAt 7 = .ok (.iload_n 3, 1) := by decide +kernel
theorem dX6_onwardAt_8 : decode cX6_onwardAt 8 = .ok (.ifCond .lt 21, 3) := by decide +kernel
theorem dX6_onwardAt_11 : decode cX6_onwardAt 11 = .ok (.iload_n 3, 1) := by decide +kernel
theorem dX6_onwardAt_12 : decode cX6_onwardAt 12 = .ok (.aload_n 0, 1) := by decide +kernel
theorem dX6_onwardAt_13 : decode cX6_onwardAt 13 = .ok (.getfield 9, 3) := by decide +kernel
theorem dX6_onwardAt_16 : decode cX6_onwardAt 16 = .ok (.arraylength, 1) := by decide +kernel
theorem dX6_onwardAt_17 : decode cX6_onwardAt 17 = .ok (.if_icmp .ge 12, 3) := by decide +kernel
theorem dX6_onwardAt_20 : decode cX6_onwardAt 20 = .ok (.aload_n 0, 1) := by decide +kernel
theorem dX6_onwardAt_21 : decode cX6_onwardAt 21 = .ok (.getfield 9, 3) := by decide +kernel
theorem dX6_onwardAt_24 : decode cX6_onwardAt 24 = .ok (.iload_n 3, 1) := by decide +kernel
theorem dX6_onwardAt_25 : decode cX6_onwardAt 25 = .ok (.iaload, 1) := by decide +kernel
theorem dX6_onwardAt_26 : decode cX6_onwardAt 26 = .ok (.goto 4, 3) := by decide +kernel
theorem dX6_onwardAt_29 : decode cX6_onwardAt 29 = .ok (.iconst 0, 1) := by decide +kernel
theorem dX6_onwardAt_30 : decode cX6_onwardAt 30 = .ok (.ireturn, 1) := by decide +kernel
theorem dX6_placeOf_0 : decode cX6_placeOf 0 = .ok (.aload_n 0, 1) := by decide +kernel
theorem dX6_placeOf_1 : decode cX6_placeOf 1 = .ok (.aload_n 0, 1) := by decide +kernel
theorem dX6_placeOf_2 : decode cX6_placeOf 2 = .ok (.invokevirtual 85, 3) := by decide +kernel
theorem dX6_placeOf_5 : decode cX6_placeOf 5 = .ok (.aload_n 0, 1) := by decide +kernel
theorem dX6_placeOf_6 : decode cX6_placeOf 6 = .ok (.getfield 25, 3) := by decide +kernel
theorem dX6_placeOf_9 : decode cX6_placeOf 9 = .ok (.invokevirtual 82, 3) := by decide +kernel
theorem dX6_placeOf_12 : decode cX6_placeOf 12 = .ok (.pop, 1) := by decide +kernel
theorem dX6_placeOf_13 : decode cX6_placeOf 13 = .ok (.iconst 0, 1) := by decide +kernel
theorem dX6_placeOf_14 : decode cX6_placeOf 14 = .ok (.istore_n 2, 1) := by decide +kernel
theorem dX6_placeOf_15 : decode cX6_placeOf 15 = .ok (.iconst 0, 1) := by decide +kernel
theorem dX6_placeOf_16 : decode cX6_placeOf 16 = .ok (.istore_n 3, 1) := by decide +kernel
theorem dX6_placeOf_17 : decode cX6_placeOf 17 = .ok (.iconst 0, 1) := by decide +kernel
theorem dX6_placeOf_18 : decode cX6_placeOf 18 = .ok (.istore 4, 2) := by decide +kernel
theorem dX6_placeOf_20 : decode cX6_placeOf 20 = .ok (.iload 4, 2) := by decide +kernel
theorem dX6_placeOf_22 : decode cX6_placeOf 22 = .ok (.aload_n 0, 1) := by decide +kernel
theorem dX6_placeOf_23 : decode cX6_placeOf 23 = .ok (.getfield 18, 3) := by decide +kernel
theorem dX6_placeOf_26 : decode cX6_placeOf 26 = .ok (.if_icmp .ge 52, 3) := by decide +kernel
theorem dX6_placeOf_29 : decode cX6_placeOf 29 = .ok (.aload_n 0, 1) := by decide +kernel
theorem dX6_placeOf_30 : decode cX6_placeOf 30 = .ok (.iload_n 1, 1) := by decide +kernel
theorem dX6_placeOf_31 : decode cX6_placeOf 31 = .ok (.iload 4, 2) := by decide +kernel
theorem dX6_placeOf_33 : decode cX6_placeOf 33 = .ok (.invokevirtual 41, 3) := by decide +kernel
theorem dX6_placeOf_36 : decode cX6_placeOf 36 = .ok (.istore 5, 2) := by decide +kernel
theorem dX6_placeOf_38 : decode cX6_placeOf 38 = .ok (.iload_n 3, 1) := by decide +kernel
theorem dX6_placeOf_39 : decode cX6_placeOf 39 = .ok (.istore 6, 2) := by decide +kernel
theorem dX6_placeOf_41 : decode cX6_placeOf 41 = .ok (.iload 6, 2) := by decide +kernel
theorem dX6_placeOf_43 : decode cX6_placeOf 43 = .ok (.iload 5, 2) := by decide +kernel
theorem dX6_placeOf_45 : decode cX6_placeOf 45 = .ok (.if_icmp .ge 20, 3) := by decide +kernel
theorem dX6_placeOf_48 : decode cX6_placeOf 48 = .ok (.iload_n 2, 1) := by decide +kernel
theorem dX6_placeOf_49 : decode cX6_placeOf 49 = .ok (.aload_n 0, 1) := by decide +kernel
theorem dX6_placeOf_50 : decode cX6_placeOf 50 = .ok (.iload 4, 2) := by decide +kernel
theorem dX6_placeOf_52 : decode cX6_placeOf 52 = .ok (.iload 6, 2) := by decide +kernel
theorem dX6_placeOf_54 : decode cX6_placeOf 54 = .ok (.invokevirtual 79, 3) := by decide +kernel
theorem dX6_placeOf_57 : decode cX6_placeOf 57 = .ok (.iadd, 1) := by decide +kernel
theorem dX6_placeOf_58 : decode cX6_placeOf 58 = .ok (.istore_n 2, 1) := by decide +kernel
theorem dX6_placeOf_59 : decode cX6_placeOf 59 = .ok (.iinc 6 1, 3) := by decide +kernel
theorem dX6_placeOf_62 : decode cX6_placeOf 62 = .ok (.goto (-21), 3) := by decide +kernel
theorem dX6_placeOf_65 : decode cX6_placeOf 65 = .ok (.aload_n 0, 1) := by decide +kernel
theorem dX6_placeOf_66 : decode cX6_placeOf 66 = .ok (.iload 5, 2) := by decide +kernel
theorem dX6_placeOf_68 : decode cX6_placeOf 68 = .ok (.invokevirtual 66, 3) := by decide +kernel
theorem dX6_placeOf_71 : decode cX6_placeOf 71 = .ok (.istore_n 3, 1) := by decide +kernel
theorem dX6_placeOf_72 : decode cX6_placeOf 72 = .ok (.iinc 4 1, 3) := by decide +kernel
theorem dX6_placeOf_75 : decode cX6_placeOf 75 = .ok (.goto (-55), 3) := by decide +kernel
theorem dX6_placeOf_78 : decode cX6_placeOf 78 = .ok (.iload_n 2, 1) := by decide +kernel
theorem dX6_placeOf_79 : decode cX6_placeOf 79 = .ok (.ireturn, 1) := by decide +kernel
theorem dX6_putOnward_0 : decode cX6_putOnward 0 = .ok (.iload_n 1, 1) := by decide +kernel
theorem dX6_putOnward_1 : decode cX6_putOnward 1 = .ok (.bipush 6, 2) := by decide +kernel
theorem dX6_putOnward_3 : decode cX6_putOnward 3 = .ok (.imul, 1) := by decide +kernel
theorem dX6_putOnward_4 : decode cX6_putOnward 4 = .ok (.iload_n 2, 1) := by decide +kernel
theorem dX6_putOnward_5 : decode cX6_putOnward 5 = .ok (.iadd, 1) := by decide +kernel
theorem dX6_putOnward_6 : decode cX6_putOnward 6 = .ok (.istore 4, 2) := by decide +kernel
theorem dX6_putOnward_8 : decode cX6_putOnward 8 = .ok (.iload 4, 2) := by decide +kernel
theorem dX6_putOnward_10 : decode cX6_putOnward 10 = .ok (.ifCond .lt 21, 3) := by decide +kernel
theorem dX6_putOnward_13 : decode cX6_putOnward 13 = .ok (.iload 4, 2) := by decide +kernel
theorem dX6_putOnward_15 : decode cX6_putOnward 15 = .ok (.aload_n 0, 1) := by decide +kernel
theorem dX6_putOnward_16 : decode cX6_putOnward 16 = .ok (.getfield 9, 3) := by decide +kernel
theorem dX6_putOnward_19 : decode cX6_putOnward 19 = .ok (.arraylength, 1) := by decide +kernel
theorem dX6_putOnward_20 : decode cX6_putOnward 20 = .ok (.if_icmp .ge 11, 3) := by decide +kernel
theorem dX6_putOnward_23 : decode cX6_putOnward 23 = .ok (.aload_n 0, 1) := by decide +kernel
theorem dX6_putOnward_24 : decode cX6_putOnward 24 = .ok (.getfield 9, 3) := by decide +kernel
theorem dX6_putOnward_27 : decode cX6_putOnward 27 = .ok (.iload 4, 2) := by decide +kernel
theorem dX6_putOnward_29 : decode cX6_putOnward 29 = .ok (.iload_n 3, 1) := by decide +kernel
theorem dX6_putOnward_30 : decode cX6_putOnward 30 = .ok (.iastore, 1) := by decide +kernel
theorem dX6_putOnward_31 : decode cX6_putOnward 31 = .ok (.return_, 1) := by decide +kernel
theorem dX6_reset_0 : decode cX6_reset 0 = .ok (.aload_n 0, 1) := by decide +kernel
theorem dX6_reset_1 : decode cX6_reset 1 = .ok (.iconst 5, 1) := by decide +kernel
theorem dX6_reset_2 : decode cX6_reset 2 = .ok (.putfield 18, 3) := by decide +kernel
theorem dX6_reset_5 : decode cX6_reset 5 = .ok (.aload_n 0, 1) := by decide +kernel
theorem dX6_reset_6 : decode cX6_reset 6 = .ok (.bipush 6, 2) := by decide +kernel
theorem dX6_reset_8 : decode cX6_reset 8 = .ok (.putfield 22, 3) := by decide +kernel
theorem dX6_reset_11 : decode cX6_reset 11 = .ok (.aload_n 0, 1) := by decide +kernel
theorem dX6_reset_12 : decode cX6_reset 12 = .ok (.iconst 5, 1) := by decide +kernel
theorem dX6_reset_13 : decode cX6_reset 13 = .ok (.putfield 25, 3) := by decide +kernel
theorem dX6_reset_16 : decode cX6_reset 16 = .ok (.return_, 1) := by decide +kernel
theorem dX6_shallowest_0 : decode cX6_shallowest 0 = .ok (.aload_n 0, 1) := by decide +kernel
theorem dX6_shallowest_1 : decode cX6_shallowest 1 = .ok (.getfield 18, 3) := by decide +kernel
theorem dX6_shallowest_4 : decode cX6_shallowest 4 = .ok (.iconst 1, 1) := by decide +kernel
theorem dX6_shallowest_5 : decode cX6_shallowest 5 = .ok (.isub, 1) := by decide +kernel
theorem dX6_shallowest_6 : decode cX6_shallowest 6 = .ok (.istore_n 2, 1) := by decide +kernel
theorem dX6_shallowest_7 : decode cX6_shallowest 7 = .ok (.iload_n 2, 1) := by decide +kernel
theorem dX6_shallowest_8 : decode cX6_shallowest 8 = .ok (.ifCond .lt 73, 3) := by decide +kernel
theorem dX6_shallowest_11 : decode cX6_shallowest 11 = .ok (.iconst 0, 1) := by decide +kernel
theorem dX6_shallowest_12 : decode cX6_shallowest 12 = .ok (.istore_n 3, 1) := by decide +kernel
theorem dX6_shallowest_13 : decode cX6_shallowest 13 = .ok (.iload_n 3, 1) := by decide +kernel
theorem dX6_shallowest_14 : decode cX6_shallowest 14 = .ok (.aload_n 0, 1) := by decide +kernel
theorem dX6_shallowest_15 : decode cX6_shallowest 15 = .ok (.getfield 22, 3) := by decide +kernel
theorem dX6_shallowest_18 : decode cX6_shallowest 18 = .ok (.if_icmp .ge 57, 3) := by decide +kernel
theorem dX6_shallowest_21 : decode cX6_shallowest 21 = .ok (.iload_n 1, 1) := by decide +kernel
theorem dX6_shallowest_22 : decode cX6_shallowest 22 = .ok (.iload_n 2, 1) := by decide +kernel
theorem dX6_shallowest_23 : decode cX6_shallowest 23 = .ok (.iload_n 3, 1) := by decide +kernel
theorem dX6_shallowest_24 : decode cX6_shallowest 24 = .ok (.invokestatic 44, 3) := by decide +kernel
theorem dX6_shallowest_27 : decode cX6_shallowest 27 = .ok (.iand, 1) := by decide +kernel
theorem dX6_shallowest_28 : decode cX6_shallowest 28 = .ok (.ifCond .eq 7, 3) := by decide +kernel
theorem dX6_shallowest_31 : decode cX6_shallowest 31 = .ok (.iconst 1, 1) := by decide +kernel
theorem dX6_shallowest_32 : decode cX6_shallowest 32 = .ok (.goto 4, 3) := by decide +kernel
theorem dX6_shallowest_35 : decode cX6_shallowest 35 = .ok (.iconst 0, 1) := by decide +kernel
theorem dX6_shallowest_36 : decode cX6_shallowest 36 = .ok (.istore 4, 2) := by decide +kernel
theorem dX6_shallowest_38 : decode cX6_shallowest 38 = .ok (.aload_n 0, 1) := by decide +kernel
theorem dX6_shallowest_39 : decode cX6_shallowest 39 = .ok (.iload_n 2, 1) := by decide +kernel
theorem dX6_shallowest_40 : decode cX6_shallowest 40 = .ok (.iload_n 3, 1) := by decide +kernel
theorem dX6_shallowest_41 : decode cX6_shallowest 41 = .ok (.iload 4, 2) := by decide +kernel
theorem dX6_shallowest_43 : decode cX6_shallowest 43 = .ok (.ifCond .eq 20, 3) := by decide +kernel
theorem dX6_shallowest_46 : decode cX6_shallowest 46 = .ok (.sipush 1000, 3) := by decide +kernel
theorem dX6_shallowest_49 : decode cX6_shallowest 49 = .ok (.iload_n 3, 1) := by decide +kernel
theorem dX6_shallowest_50 : decode cX6_shallowest 50 = .ok (.aload_n 0, 1) := by decide +kernel
theorem dX6_shallowest_51 : decode cX6_shallowest 51 = .ok (.iload_n 2, 1) := by decide +kernel
theorem dX6_shallowest_52 : decode cX6_shallowest 52 = .ok (.iload_n 3, 1) := by decide +kernel
theorem dX6_shallowest_53 : decode cX6_shallowest 53 = .ok (.invokevirtual 89, 3) := by decide +kernel
theorem dX6_shallowest_56 : decode cX6_shallowest 56 = .ok (.iadd, 1) := by decide +kernel
theorem dX6_shallowest_57 : decode cX6_shallowest 57 = .ok (.invokestatic 52, 3) := by decide +kernel
theorem dX6_shallowest_60 : decode cX6_shallowest 60 = .ok (.goto 6, 3) := by decide +kernel
theorem dX6_shallowest_63 : decode cX6_shallowest 63 = .ok (.sipush 1000, 3) := by decide +kernel
theorem dX6_shallowest_66 : decode cX6_shallowest 66 = .ok (.invokevirtual 75, 3) := by decide +kernel
theorem dX6_shallowest_69 : decode cX6_shallowest 69 = .ok (.iinc 3 1, 3) := by decide +kernel
theorem dX6_shallowest_72 : decode cX6_shallowest 72 = .ok (.goto (-59), 3) := by decide +kernel
theorem dX6_shallowest_75 : decode cX6_shallowest 75 = .ok (.iinc 2 (-1), 3) := by decide +kernel
theorem dX6_shallowest_78 : decode cX6_shallowest 78 = .ok (.goto (-71), 3) := by decide +kernel
theorem dX6_shallowest_81 : decode cX6_shallowest 81 = .ok (.iconst 0, 1) := by decide +kernel
theorem dX6_shallowest_82 : decode cX6_shallowest 82 = .ok (.istore_n 2, 1) := by decide +kernel
theorem dX6_shallowest_83 : decode cX6_shallowest 83 = .ok (.iconst 0, 1) := by decide +kernel
theorem dX6_shallowest_84 : decode cX6_shallowest 84 = .ok (.istore_n 3, 1) := by decide +kernel
theorem dX6_shallowest_85 : decode cX6_shallowest 85 = .ok (.aload_n 0, 1) := by decide +kernel
theorem dX6_shallowest_86 : decode cX6_shallowest 86 = .ok (.getfield 22, 3) := by decide +kernel
theorem dX6_shallowest_89 : decode cX6_shallowest 89 = .ok (.iconst 1, 1) := by decide +kernel
theorem dX6_shallowest_90 : decode cX6_shallowest 90 = .ok (.isub, 1) := by decide +kernel
theorem dX6_shallowest_91 : decode cX6_shallowest 91 = .ok (.istore 4, 2) := by decide +kernel
theorem dX6_shallowest_93 : decode cX6_shallowest 93 = .ok (.iconst 0, 1) := by decide +kernel
theorem dX6_shallowest_94 : decode cX6_shallowest 94 = .ok (.istore 5, 2) := by decide +kernel
theorem dX6_shallowest_96 : decode cX6_shallowest 96 = .ok (.iload 5, 2) := by decide +kernel
theorem dX6_shallowest_98 : decode cX6_shallowest 98 = .ok (.aload_n 0, 1) := by decide +kernel
theorem dX6_shallowest_99 : decode cX6_shallowest 99 = .ok (.getfield 18, 3) := by decide +kernel
theorem dX6_shallowest_102 : decode cX6_shallowest 102 = .ok (.if_icmp .ge 61, 3) := by decide +kernel
theorem dX6_shallowest_105 : decode cX6_shallowest 105 = .ok (.aload_n 0, 1) := by decide +kernel
theorem dX6_shallowest_106 : decode cX6_shallowest 106 = .ok (.iload 5, 2) := by decide +kernel
theorem dX6_shallowest_108 : decode cX6_shallowest 108 = .ok (.iload_n 3, 1) := by decide +kernel
theorem dX6_shallowest_109 : decode cX6_shallowest 109 = .ok (.iload 4, 2) := by decide +kernel
theorem dX6_shallowest_111 : decode cX6_shallowest 111 = .ok (.invokevirtual 92, 3) := by decide +kernel
theorem dX6_shallowest_114 : decode cX6_shallowest 114 = .ok (.istore 6, 2) := by decide +kernel
theorem dX6_shallowest_116 : decode cX6_shallowest 116 = .ok (.aload_n 0, 1) := by decide +kernel
theorem dX6_shallowest_117 : decode cX6_shallowest 117 = .ok (.iload 5, 2) := by decide +kernel
theorem dX6_shallowest_119 : decode cX6_shallowest 119 = .ok (.iload 6, 2) := by decide +kernel
theorem dX6_shallowest_121 : decode cX6_shallowest 121 = .ok (.invokevirtual 79, 3) := by decide +kernel
theorem dX6_shallowest_124 : decode cX6_shallowest 124 = .ok (.sipush 1000, 3) := by decide +kernel
theorem dX6_shallowest_127 : decode cX6_shallowest 127 = .ok (.if_icmp .lt 5, 3) := by decide +kernel
theorem dX6_shallowest_130 : decode cX6_shallowest 130 = .ok (.iconst 0, 1) := by decide +kernel
theorem dX6_shallowest_131 : decode cX6_shallowest 131 = .ok (.ireturn, 1) := by decide +kernel
theorem dX6_shallowest_132 : decode cX6_shallowest 132 = .ok (.iload_n 2, 1) := by decide +kernel
theorem dX6_shallowest_133 : decode cX6_shallowest 133 = .ok (.iload 5, 2) := by decide +kernel
theorem dX6_shallowest_135 : decode cX6_shallowest 135 = .ok (.iload 6, 2) := by decide +kernel
theorem dX6_shallowest_137 : decode cX6_shallowest 137 = .ok (.invokestatic 44, 3) := by decide +kernel
theorem dX6_shallowest_140 : decode cX6_shallowest 140 = .ok (.ior, 1) := by decide +kernel
theorem dX6_shallowest_141 : decode cX6_shallowest 141 = .ok (.istore_n 2, 1) := by decide +kernel
theorem dX6_shallowest_142 : decode cX6_shallowest 142 = .ok (.aload_n 0, 1) := by decide +kernel
theorem dX6_shallowest_143 : decode cX6_shallowest 143 = .ok (.iload 6, 2) := by decide +kernel
theorem dX6_shallowest_145 : decode cX6_shallowest 145 = .ok (.invokevirtual 66, 3) := by decide +kernel
theorem dX6_shallowest_148 : decode cX6_shallowest 148 = .ok (.istore_n 3, 1) := by decide +kernel
theorem dX6_shallowest_149 : decode cX6_shallowest 149 = .ok (.aload_n 0, 1) := by decide +kernel
theorem dX6_shallowest_150 : decode cX6_shallowest 150 = .ok (.iload 6, 2) := by decide +kernel
theorem dX6_shallowest_152 : decode cX6_shallowest 152 = .ok (.invokevirtual 69, 3) := by decide +kernel
theorem dX6_shallowest_155 : decode cX6_shallowest 155 = .ok (.istore 4, 2) := by decide +kernel
theorem dX6_shallowest_157 : decode cX6_shallowest 157 = .ok (.iinc 5 1, 3) := by decide +kernel
theorem dX6_shallowest_160 : decode cX6_shallowest 160 = .ok (.goto (-64), 3) := by decide +kernel
theorem dX6_shallowest_163 : decode cX6_shallowest 163 = .ok (.iload_n 2, 1) := by decide +kernel
theorem dX6_shallowest_164 : decode cX6_shallowest 164 = .ok (.ireturn, 1) := by decide +kernel
theorem dX6_waysFrom_0 : decode cX6_waysFrom 0 = .ok (.iload_n 1, 1) := by decide +kernel
theorem dX6_waysFrom_1 : decode cX6_waysFrom 1 = .ok (.iconst 1, 1) := by decide +kernel
theorem dX6_waysFrom_2 : decode cX6_waysFrom 2 = .ok (.iadd, 1) := by decide +kernel
theorem dX6_waysFrom_3 : decode cX6_waysFrom 3 = .ok (.aload_n 0, 1) := by decide +kernel
theorem dX6_waysFrom_4 : decode cX6_waysFrom 4 = .ok (.getfield 18, 3) := by decide +kernel
theorem dX6_waysFrom_7 : decode cX6_waysFrom 7 = .ok (.if_icmp .lt 5, 3) := by decide +kernel
theorem dX6_waysFrom_10 : decode cX6_waysFrom 10 = .ok (.iconst 1, 1) := by decide +kernel
theorem dX6_waysFrom_11 : decode cX6_waysFrom 11 = .ok (.ireturn, 1) := by decide +kernel
theorem dX6_waysFrom_12 : decode cX6_waysFrom 12 = .ok (.iconst 0, 1) := by decide +kernel
theorem dX6_waysFrom_13 : decode cX6_waysFrom 13 = .ok (.istore 4, 2) := by decide +kernel
theorem dX6_waysFrom_15 : decode cX6_waysFrom 15 = .ok (.iconst 0, 1) := by decide +kernel
theorem dX6_waysFrom_16 : decode cX6_waysFrom 16 = .ok (.istore 5, 2) := by decide +kernel
theorem dX6_waysFrom_18 : decode cX6_waysFrom 18 = .ok (.iload 5, 2) := by decide +kernel
theorem dX6_waysFrom_20 : decode cX6_waysFrom 20 = .ok (.aload_n 0, 1) := by decide +kernel
theorem dX6_waysFrom_21 : decode cX6_waysFrom 21 = .ok (.getfield 22, 3) := by decide +kernel
theorem dX6_waysFrom_24 : decode cX6_waysFrom 24 = .ok (.if_icmp .ge 34, 3) := by decide +kernel
theorem dX6_waysFrom_27 : decode cX6_waysFrom 27 = .ok (.iload 5, 2) := by decide +kernel
theorem dX6_waysFrom_29 : decode cX6_waysFrom 29 = .ok (.iload_n 2, 1) := by decide +kernel
theorem dX6_waysFrom_30 : decode cX6_waysFrom 30 = .ok (.isub, 1) := by decide +kernel
theorem dX6_waysFrom_31 : decode cX6_waysFrom 31 = .ok (.invokestatic 59, 3) := by decide +kernel
theorem dX6_waysFrom_34 : decode cX6_waysFrom 34 = .ok (.iload_n 3, 1) := by decide +kernel
theorem dX6_waysFrom_35 : decode cX6_waysFrom 35 = .ok (.if_icmp .gt 17, 3) := by decide +kernel
theorem dX6_waysFrom_38 : decode cX6_waysFrom 38 = .ok (.iload 4, 2) := by decide +kernel
theorem dX6_waysFrom_40 : decode cX6_waysFrom 40 = .ok (.aload_n 0, 1) := by decide +kernel
theorem dX6_waysFrom_41 : decode cX6_waysFrom 41 = .ok (.iload_n 1, 1) := by decide +kernel
theorem dX6_waysFrom_42 : decode cX6_waysFrom 42 = .ok (.iconst 1, 1) := by decide +kernel
theorem dX6_waysFrom_43 : decode cX6_waysFrom 43 = .ok (.iadd, 1) := by decide +kernel
theorem dX6_waysFrom_44 : decode cX6_waysFrom 44 = .ok (.iload 5, 2) := by decide +kernel
theorem dX6_waysFrom_46 : decode cX6_waysFrom 46 = .ok (.invokevirtual 79, 3) := by decide +kernel
theorem dX6_waysFrom_49 : decode cX6_waysFrom 49 = .ok (.iadd, 1) := by decide +kernel
theorem dX6_waysFrom_50 : decode cX6_waysFrom 50 = .ok (.istore 4, 2) := by decide +kernel
theorem dX6_waysFrom_52 : decode cX6_waysFrom 52 = .ok (.iinc 5 1, 3) := by decide +kernel
theorem dX6_waysFrom_55 : decode cX6_waysFrom 55 = .ok (.goto (-37), 3) := by decide +kernel
theorem dX6_waysFrom_58 : decode cX6_waysFrom 58 = .ok (.iload 4, 2) := by decide +kernel
theorem dX6_waysFrom_60 : decode cX6_waysFrom 60 = .ok (.ireturn, 1) := by decide +kernel
theorem dX7_bits_0 : decode cX7_bits 0 = .ok (.aload_n 0, 1) := by decide +kernel
theorem dX7_bits_1 : decode cX7_bits 1 = .ok (.iload_n 1, 1) := by decide +kernel
theorem dX7_bits_2 : decode cX7_bits 2 = .ok (.invokevirtual 27, 3) := by decide +kernel
theorem dX7_bits_5 : decode cX7_bits 5 = .ok (.ireturn, 1) := by decide +kernel
theorem dX7_clear_0 : decode cX7_clear 0 = .ok (.aload_n 0, 1) := by decide +kernel
theorem dX7_clear_1 : decode cX7_clear 1 = .ok (.getfield 11, 3) := by decide +kernel
theorem dX7_clear_4 : decode cX7_clear 4 = .ok (.iconst 0, 1) := by decide +kernel
theorem dX7_clear_5 : decode cX7_clear 5 = .ok (.invokestatic 15, 3) := by decide +kernel
theorem dX7_clear_8 : decode cX7_clear 8 = .ok (.return_, 1) := by decide +kernel
theorem dX7_copyFrom_0 : decode cX7_copyFrom 0 = .ok (.aload_n 1, 1) := by decide +kernel
theorem dX7_copyFrom_1 : decode cX7_copyFrom 1 = .ok (.getfield 11, 3) := by decide +kernel
theorem dX7_copyFrom_4 : decode cX7_copyFrom 4 = .ok (.iconst 0, 1) := by decide +kernel
theorem dX7_copyFrom_5 : decode cX7_copyFrom 5 = .ok (.aload_n 0, 1) := by decide +kernel
theorem dX7_copyFrom_6 : decode cX7_copyFrom 6 = .ok (.getfield 11, 3) := by decide +kernel
theorem dX7_copyFrom_9 : decode cX7_copyFrom 9 = .ok (.iconst 0, 1) := by decide +kernel
theorem dX7_copyFrom_10 : decode cX7_copyFrom 10 = .ok (.bipush 35, 2) := by decide +kernel
theorem dX7_copyFrom_12 : decode cX7_copyFrom 12 = .ok (.invokestatic 21, 3) := by decide +kernel
theorem dX7_copyFrom_15 : decode cX7_copyFrom 15 = .ok (.return_, 1) := by decide +kernel
theorem dX7_firstWith_0 : decode cX7_firstWith 0 = .ok (.iconst 0, 1) := by decide +kernel
theorem dX7_firstWith_1 : decode cX7_firstWith 1 = .ok (.istore_n 3, 1) := by decide +kernel
theorem dX7_firstWith_2 : decode cX7_firstWith 2 = .ok (.iload_n 3, 1) := by decide +kernel
theorem dX7_firstWith_3 : decode cX7_firstWith 3 = .ok (.iload_n 2, 1) := by decide +kernel
theorem dX7_firstWith_4 : decode cX7_firstWith 4 = .ok (.if_icmp .ge 26, 3) := by decide +kernel
theorem dX7_firstWith_7 : decode cX7_firstWith 7 = .ok (.iload_n 3, 1) := by decide +kernel
theorem dX7_firstWith_8 : decode cX7_firstWith 8 = .ok (.bipush 8, 2) := by decide +kernel
theorem dX7_firstWith_10 : decode cX7_firstWith 10 = .ok (.if_icmp .ge 20, 3) := by decide +kernel
theorem dX7_firstWith_13 : decode cX7_firstWith 13 = .ok (.aload_n 0, 1) := by decide +kernel
theorem dX7_firstWith_14 : decode cX7_firstWith 14 = .ok (.iload_n 3, 1) := by decide +kernel
theorem dX7_firstWith_15 : decode cX7_firstWith 15 = .ok (.invokevirtual 38, 3) := by decide +kernel
theorem dX7_firstWith_18 : decode cX7_firstWith 18 = .ok (.iload_n 1, 1) := by decide +kernel
theorem dX7_firstWith_19 : decode cX7_firstWith 19 = .ok (.if_icmp .ne 5, 3) := by decide +kernel
theorem dX7_firstWith_22 : decode cX7_firstWith 22 = .ok (.iload_n 3, 1) := by decide +kernel
theorem dX7_firstWith_23 : decode cX7_firstWith 23 = .ok (.ireturn, 1) := by decide +kernel
theorem dX7_firstWith_24 : decode cX7_firstWith 24 = .ok (.iinc 3 1, 3) := by decide +kernel
theorem dX7_firstWith_27 : decode cX7_firstWith 27 = .ok (.goto (-25), 3) := by decide +kernel
theorem dX7_firstWith_30 : decode cX7_firstWith 30 = .ok (.iconst (-1), 1) := by decide +kernel
theorem dX7_firstWith_31 : decode cX7_firstWith 31 = .ok (.ireturn, 1) := by decide +kernel
theorem dX7_heldBy_0 : decode cX7_heldBy 0 = .ok (.iconst 0, 1) := by decide +kernel
theorem dX7_heldBy_1 : decode cX7_heldBy 1 = .ok (.istore_n 3, 1) := by decide +kernel
theorem dX7_heldBy_2 : decode cX7_heldBy 2 = .ok (.iconst 0, 1) := by decide +kernel
theorem dX7_heldBy_3 : decode cX7_heldBy 3 = .ok (.istore 4, 2) := by decide +kernel
theorem dX7_heldBy_5 : decode cX7_heldBy 5 = .ok (.iload 4, 2) := by decide +kernel
theorem dX7_heldBy_7 : decode cX7_heldBy 7 = .ok (.iload_n 2, 1) := by decide +kernel
theorem dX7_heldBy_8 : decode cX7_heldBy 8 = .ok (.if_icmp .ge 33, 3) := by decide +kernel
theorem dX7_heldBy_11 : decode cX7_heldBy 11 = .ok (.iload 4, 2) := by decide +kernel
theorem dX7_heldBy_13 : decode cX7_heldBy 13 = .ok (.bipush 8, 2) := by decide +kernel
theorem dX7_heldBy_15 : decode cX7_heldBy 15 = .ok (.if_icmp .ge 26, 3) := by decide +kernel
theorem dX7_heldBy_18 : decode cX7_heldBy 18 = .ok (.aload_n 0, 1) := by decide +kernel
theorem dX7_heldBy_19 : decode cX7_heldBy 19 = .ok (.iload 4, 2) := by decide +kernel
theorem dX7_heldBy_21 : decode cX7_heldBy 21 = .ok (.invokevirtual 35, 3) := by decide +kernel
theorem dX7_heldBy_24 : decode cX7_heldBy 24 = .ok (.iload_n 1, 1) := by decide +kernel
theorem dX7_heldBy_25 : decode cX7_heldBy 25 = .ok (.if_icmp .ne 10, 3) := by decide +kernel
theorem dX7_heldBy_28 : decode cX7_heldBy 28 = .ok (.iload_n 3, 1) := by decide +kernel
theorem dX7_heldBy_29 : decode cX7_heldBy 29 = .ok (.iconst 1, 1) := by decide +kernel
theorem dX7_heldBy_30 : decode cX7_heldBy 30 = .ok (.iload 4, 2) := by decide +kernel
theorem dX7_heldBy_32 : decode cX7_heldBy 32 = .ok (.ishl, 1) := by decide +kernel
theorem dX7_heldBy_33 : decode cX7_heldBy 33 = .ok (.ior, 1) := by decide +kernel
theorem dX7_heldBy_34 : decode cX7_heldBy 34 = .ok (.istore_n 3, 1) := by decide +kernel
theorem dX7_heldBy_35 : decode cX7_heldBy 35 = .ok (.iinc 4 1, 3) := by decide +kernel
theorem dX7_heldBy_38 : decode cX7_heldBy 38 = .ok (.goto (-33), 3) := by decide +kernel
theorem dX7_heldBy_41 : decode cX7_heldBy 41 = .ok (.iload_n 3, 1) := by decide +kernel
theorem dX7_heldBy_42 : decode cX7_heldBy 42 = .ok (.ireturn, 1) := by decide +kernel
theorem dX7_holder_0 : decode cX7_holder 0 = .ok (.aload_n 0, 1) := by decide +kernel
theorem dX7_holder_1 : decode cX7_holder 1 = .ok (.bipush 16, 2) := by decide +kernel
theorem dX7_holder_3 : decode cX7_holder 3 = .ok (.iload_n 1, 1) := by decide +kernel
theorem dX7_holder_4 : decode cX7_holder 4 = .ok (.iadd, 1) := by decide +kernel
theorem dX7_holder_5 : decode cX7_holder 5 = .ok (.invokevirtual 27, 3) := by decide +kernel
theorem dX7_holder_8 : decode cX7_holder 8 = .ok (.ireturn, 1) := by decide +kernel
theorem dX7_init_0 : decode cX7_init 0 = .ok (.aload_n 0, 1) := by decide +kernel
theorem dX7_init_1 : decode cX7_init 1 = .ok (.invokespecial 5, 3) := by decide +kernel
theorem dX7_init_4 : decode cX7_init 4 = .ok (.aload_n 0, 1) := by decide +kernel
theorem dX7_init_5 : decode cX7_init 5 = .ok (.bipush 35, 2) := by decide +kernel
theorem dX7_init_7 : decode cX7_init 7 = .ok (.newarray .int, 2) := by decide +kernel
theorem dX7_init_9 : decode cX7_init 9 = .ok (.putfield 11, 3) := by decide +kernel
theorem dX7_init_12 : decode cX7_init 12 = .ok (.return_, 1) := by decide +kernel
theorem dX7_look_0 : decode cX7_look 0 = .ok (.iload_n 1, 1) := by decide +kernel
theorem dX7_look_1 : decode cX7_look 1 = .ok (.ifCond .lt 18, 3) := by decide +kernel
theorem dX7_look_4 : decode cX7_look 4 = .ok (.iload_n 1, 1) := by decide +kernel
theorem dX7_look_5 : decode cX7_look 5 = .ok (.bipush 35, 2) := by decide +kernel
theorem dX7_look_7 : decode cX7_look 7 = .ok (.if_icmp .ge 12, 3) := by decide +kernel
theorem dX7_look_10 : decode cX7_look 10 = .ok (.aload_n 0, 1) := by decide +kernel
theorem dX7_look_11 : decode cX7_look 11 = .ok (.getfield 11, 3) := by decide +kernel
theorem dX7_look_14 : decode cX7_look 14 = .ok (.iload_n 1, 1) := by decide +kernel
theorem dX7_look_15 : decode cX7_look 15 = .ok (.iaload, 1) := by decide +kernel
theorem dX7_look_16 : decode cX7_look 16 = .ok (.goto 4, 3) := by decide +kernel
theorem dX7_look_19 : decode cX7_look 19 = .ok (.iconst 0, 1) := by decide +kernel
theorem dX7_look_20 : decode cX7_look 20 = .ok (.ireturn, 1) := by decide +kernel
theorem dX7_pins_0 : decode cX7_pins 0 = .ok (.aload_n 0, 1) := by decide +kernel
theorem dX7_pins_1 : decode cX7_pins 1 = .ok (.bipush 24, 2) := by decide +kernel
theorem dX7_pins_3 : decode cX7_pins 3 = .ok (.iload_n 1, 1) := by decide +kernel
theorem dX7_pins_4 : decode cX7_pins 4 = .ok (.iadd, 1) := by decide +kernel
theorem dX7_pins_5 : decode cX7_pins 5 = .ok (.invokevirtual 27, 3) := by decide +kernel
theorem dX7_pins_8 : decode cX7_pins 8 = .ok (.ireturn, 1) := by decide +kernel
theorem dX7_put_0 : decode cX7_put 0 = .ok (.iload_n 1, 1) := by decide +kernel
theorem dX7_put_1 : decode cX7_put 1 = .ok (.ifCond .lt 16, 3) := by decide +kernel
theorem dX7_put_4 : decode cX7_put 4 = .ok (.iload_n 1, 1) := by decide +kernel
theorem dX7_put_5 : decode cX7_put 5 = .ok (.bipush 35, 2) := by decide +kernel
theorem dX7_put_7 : decode cX7_put 7 = .ok (.if_icmp .ge 10, 3) := by decide +kernel
theorem dX7_put_10 : decode cX7_put 10 = .ok (.aload_n 0, 1) := by decide +kernel
theorem dX7_put_11 : decode cX7_put 11 = .ok (.getfield 11, 3) := by decide +kernel
theorem dX7_put_14 : decode cX7_put 14 = .ok (.iload_n 1, 1) := by decide +kernel
theorem dX7_put_15 : decode cX7_put 15 = .ok (.iload_n 2, 1) := by decide +kernel
theorem dX7_put_16 : decode cX7_put 16 = .ok (.iastore, 1) := by decide +kernel
theorem dX7_put_17 : decode cX7_put 17 = .ok (.return_, 1) := by decide +kernel
theorem dX7_putBits_0 : decode cX7_putBits 0 = .ok (.aload_n 0, 1) := by decide +kernel
theorem dX7_putBits_1 : decode cX7_putBits 1 = .ok (.iload_n 1, 1) := by decide +kernel
theorem dX7_putBits_2 : decode cX7_putBits 2 = .ok (.iload_n 2, 1) := by decide +kernel
theorem dX7_putBits_3 : decode cX7_putBits 3 = .ok (.invokevirtual 31, 3) := by decide +kernel
theorem dX7_putBits_6 : decode cX7_putBits 6 = .ok (.return_, 1) := by decide +kernel
theorem dX7_putHolder_0 : decode cX7_putHolder 0 = .ok (.aload_n 0, 1) := by decide +kernel
theorem dX7_putHolder_1 : decode cX7_putHolder 1 = .ok (.bipush 16, 2) := by decide +kernel
theorem dX7_putHolder_3 : decode cX7_putHolder 3 = .ok (.iload_n 1, 1) := by decide +kernel
theorem dX7_putHolder_4 : decode cX7_putHolder 4 = .ok (.iadd, 1) := by decide +kernel
theorem dX7_putHolder_5 : decode cX7_putHolder 5 = .ok (.iload_n 2, 1) := by decide +kernel
theorem dX7_putHolder_6 : decode cX7_putHolder 6 = .ok (.invokevirtual 31, 3) := by decide +kernel
theorem dX7_putHolder_9 : decode cX7_putHolder 9 = .ok (.return_, 1) := by decide +kernel
theorem dX7_putPins_0 : decode cX7_putPins 0 = .ok (.aload_n 0, 1) := by decide +kernel
theorem dX7_putPins_1 : decode cX7_putPins 1 = .ok (.bipush 24, 2) := by decide +kernel
theorem dX7_putPins_3 : decode cX7_putPins 3 = .ok (.iload_n 1, 1) := by decide +kernel
theorem dX7_putPins_4 : decode cX7_putPins 4 = .ok (.iadd, 1) := by decide +kernel
theorem dX7_putPins_5 : decode cX7_putPins 5 = .ok (.iload_n 2, 1) := by decide +kernel
theorem dX7_putPins_6 : decode cX7_putPins 6 = .ok (.invokevirtual 31, 3) := by decide +kernel
theorem dX7_putPins_9 : decode cX7_putPins 9 = .ok (.return_, 1) := by decide +kernel
theorem dX7_putRoom_0 : decode cX7_putRoom 0 = .ok (.aload_n 0, 1) := by decide +kernel
theorem dX7_putRoom_1 : decode cX7_putRoom 1 = .ok (.bipush 30, 2) := by decide +kernel
theorem dX7_putRoom_3 : decode cX7_putRoom 3 = .ok (.iload_n 1, 1) := by decide +kernel
theorem dX7_putRoom_4 : decode cX7_putRoom 4 = .ok (.iadd, 1) := by decide +kernel
theorem dX7_putRoom_5 : decode cX7_putRoom 5 = .ok (.iload_n 2, 1) := by decide +kernel
theorem dX7_putRoom_6 : decode cX7_putRoom 6 = .ok (.invokevirtual 31, 3) := by decide +kernel
theorem dX7_putRoom_9 : decode cX7_putRoom 9 = .ok (.return_, 1) := by decide +kernel
theorem dX7_putSeed_0 : decode cX7_putSeed 0 = .ok (.aload_n 0, 1) := by decide +kernel
theorem dX7_putSeed_1 : decode cX7_putSeed 1 = .ok (.bipush 34, 2) := by decide +kernel
theorem dX7_putSeed_3 : decode cX7_putSeed 3 = .ok (.iload_n 1, 1) := by decide +kernel
theorem dX7_putSeed_4 : decode cX7_putSeed 4 = .ok (.invokevirtual 31, 3) := by decide +kernel
theorem dX7_putSeed_7 : decode cX7_putSeed 7 = .ok (.return_, 1) := by decide +kernel
theorem dX7_putUsed_0 : decode cX7_putUsed 0 = .ok (.aload_n 0, 1) := by decide +kernel
theorem dX7_putUsed_1 : decode cX7_putUsed 1 = .ok (.bipush 8, 2) := by decide +kernel
theorem dX7_putUsed_3 : decode cX7_putUsed 3 = .ok (.iload_n 1, 1) := by decide +kernel
theorem dX7_putUsed_4 : decode cX7_putUsed 4 = .ok (.iadd, 1) := by decide +kernel
theorem dX7_putUsed_5 : decode cX7_putUsed 5 = .ok (.iload_n 2, 1) := by decide +kernel
theorem dX7_putUsed_6 : decode cX7_putUsed 6 = .ok (.invokevirtual 31, 3) := by decide +kernel
theorem dX7_putUsed_9 : decode cX7_putUsed 9 = .ok (.return_, 1) := by decide +kernel
theorem dX7_room_0 : decode cX7_room 0 = .ok (.aload_n 0, 1) := by decide +kernel
theorem dX7_room_1 : decode cX7_room 1 = .ok (.bipush 30, 2) := by decide +kernel
theorem dX7_room_3 : decode cX7_room 3 = .ok (.iload_n 1, 1) := by decide +kernel
theorem dX7_room_4 : decode cX7_room 4 = .ok (.iadd, 1) := by decide +kernel
theorem dX7_room_5 : decode cX7_room 5 = .ok (.invokevirtual 27, 3) := by decide +kernel
theorem dX7_room_8 : decode cX7_room 8 = .ok (.ireturn, 1) := by decide +kernel
theorem dX7_seed_0 : decode cX7_seed 0 = .ok (.aload_n 0, 1) := by decide +kernel
theorem dX7_seed_1 : decode cX7_seed 1 = .ok (.bipush 34, 2) := by decide +kernel
theorem dX7_seed_3 : decode cX7_seed 3 = .ok (.invokevirtual 27, 3) := by decide +kernel
theorem dX7_seed_6 : decode cX7_seed 6 = .ok (.ireturn, 1) := by decide +kernel
theorem dX7_used_0 : decode cX7_used 0 = .ok (.aload_n 0, 1) := by decide +kernel
theorem dX7_used_1 : decode cX7_used 1 = .ok (.bipush 8, 2) := by decide +kernel
theorem dX7_used_3 : decode cX7_used 3 = .ok (.iload_n 1, 1) := by decide +kernel
theorem dX7_used_4 : decode cX7_used 4 = .ok (.iadd, 1) := by decide +kernel
theorem dX7_used_5 : decode cX7_used 5 = .ok (.invokevirtual 27, 3) := by decide +kernel
theorem dX7_used_8 : decode cX7_used 8 = .ok (.ireturn, 1) := by decide +kernel
theorem dX8_add_0 : decode cX8_add 0 = .ok (.iload_n 1, 1) := by decide +kernel
theorem dX8_add_1 : decode cX8_add 1 = .ok (.bipush 64, 2) := by decide +kernel
theorem dX8_add_3 : decode cX8_add 3 = .ok (.imul, 1) := by decide +kernel
theorem dX8_add_4 : decode cX8_add 4 = .ok (.iload_n 2, 1) := by decide +kernel
theorem dX8_add_5 : decode cX8_add 5 = .ok (.iadd, 1) := by decide +kernel
theorem dX8_add_6 : decode cX8_add 6 = .ok (.istore 6, 2) := by decide +kernel
theorem dX8_add_8 : decode cX8_add 8 = .ok (.iload 6, 2) := by decide +kernel
theorem dX8_add_10 : decode cX8_add 10 = .ok (.ifCond .lt 11, 3) := by decide +kernel
theorem dX8_add_13 : decode cX8_add 13 = .ok (.iload 6, 2) := by decide +kernel
theorem dX8_add_15 : decode cX8_add 15 = .ok (.sipush 384, 3) := by decide +kernel
theorem dX8_add_18 : decode cX8_add 18 = .ok (.if_icmp .lt 4, 3) := by decide +kernel
theorem dX8_add_21 : decode cX8_add 21 = .ok (.return_, 1) := by decide +kernel
theorem dX8_add_22 : decode cX8_add 22 = .ok (.aload_n 0, 1) := by decide +kernel
theorem dX8_add_23 : decode cX8_add 23 = .ok (.getfield 38, 3) := by decide +kernel
theorem dX8_add_26 : decode cX8_add 26 = .ok (.iload 6, 2) := by decide +kernel
theorem dX8_add_28 : decode cX8_add 28 = .ok (.iaload, 1) := by decide +kernel
theorem dX8_add_29 : decode cX8_add 29 = .ok (.ifCond .ne 7, 3) := by decide +kernel
theorem dX8_add_32 : decode cX8_add 32 = .ok (.iconst 1, 1) := by decide +kernel
theorem dX8_add_33 : decode cX8_add 33 = .ok (.goto 4, 3) := by decide +kernel
theorem dX8_add_36 : decode cX8_add 36 = .ok (.iconst 0, 1) := by decide +kernel
theorem dX8_add_37 : decode cX8_add 37 = .ok (.istore 7, 2) := by decide +kernel
theorem dX8_add_39 : decode cX8_add 39 = .ok (.aload_n 0, 1) := by decide +kernel
theorem dX8_add_40 : decode cX8_add 40 = .ok (.getfield 41, 3) := by decide +kernel
theorem dX8_add_43 : decode cX8_add 43 = .ok (.iload 6, 2) := by decide +kernel
theorem dX8_add_45 : decode cX8_add 45 = .ok (.iload 7, 2) := by decide +kernel
theorem dX8_add_47 : decode cX8_add 47 = .ok (.ifCond .eq 8, 3) := by decide +kernel
theorem dX8_add_50 : decode cX8_add 50 = .ok (.iload 4, 2) := by decide +kernel
theorem dX8_add_52 : decode cX8_add 52 = .ok (.goto 15, 3) := by decide +kernel
theorem dX8_add_55 : decode cX8_add 55 = .ok (.aload_n 0, 1) := by decide +kernel
theorem dX8_add_56 : decode cX8_add 56 = .ok (.getfield 41, 3) := by decide +kernel
theorem dX8_add_59 : decode cX8_add 59 = .ok (.iload 6, 2) := by decide +kernel
theorem dX8_add_61 : decode cX8_add 61 = .ok (.iaload, 1) := by decide +kernel
theorem dX8_add_62 : decode cX8_add 62 = .ok (.iload 4, 2) := by decide +kernel
theorem dX8_add_64 : decode cX8_add 64 = .ok (.invokestatic 109, 3) := by decide +kernel
theorem dX8_add_67 : decode cX8_add 67 = .ok (.iastore, 1) := by decide +kernel
theorem dX8_add_68 : decode cX8_add 68 = .ok (.aload_n 0, 1) := by decide +kernel
theorem dX8_add_69 : decode cX8_add 69 = .ok (.getfield 44, 3) := by decide +kernel
theorem dX8_add_72 : decode cX8_add 72 = .ok (.iload 6, 2) := by decide +kernel
theorem dX8_add_74 : decode cX8_add 74 = .ok (.iload 7, 2) := by decide +kernel
theorem dX8_add_76 : decode cX8_add 76 = .ok (.ifCond .eq 8, 3) := by decide +kernel
theorem dX8_add_79 : decode cX8_add 79 = .ok (.iload 5, 2) := by decide +kernel
theorem dX8_add_81 : decode cX8_add 81 = .ok (.goto 13, 3) := by decide +kernel
theorem dX8_add_84 : decode cX8_add 84 = .ok (.aload_n 0, 1) := by decide +kernel
theorem dX8_add_85 : decode cX8_add 85 = .ok (.getfield 44, 3) := by decide +kernel
theorem dX8_add_88 : decode cX8_add 88 = .ok (.iload 6, 2) := by decide +kernel
theorem dX8_add_90 : decode cX8_add 90 = .ok (.iaload, 1) := by decide +kernel
theorem dX8_add_91 : decode cX8_add 91 = .ok (.iload 5, 2) := by decide +kernel
theorem dX8_add_93 : decode cX8_add 93 = .ok (.ior, 1) := by decide +kernel
theorem dX8_add_94 : decode cX8_add 94 = .ok (.iastore, 1) := by decide +kernel
theorem dX8_add_95 : decode cX8_add 95 = .ok (.aload_n 0, 1) := by decide +kernel
theorem dX8_add_96 : decode cX8_add 96 = .ok (.getfield 38, 3) := by decide +kernel
theorem dX8_add_99 : decode cX8_add 99 = .ok (.iload 6, 2) := by decide +kernel
theorem dX8_add_101 : decode cX8_add 101 = .ok (.dup2, 1) := by decide +kernel
theorem dX8_add_102 : decode cX8_add 102 = .ok (.iaload, 1) := by decide +kernel
theorem dX8_add_103 : decode cX8_add 103 = .ok (.iload_n 3, 1) := by decide +kernel
theorem dX8_add_104 : decode cX8_add 104 = .ok (.iadd, 1) := by decide +kernel
theorem dX8_add_105 : decode cX8_add 105 = .ok (.iastore, 1) := by decide +kernel
theorem dX8_add_106 : decode cX8_add 106 = .ok (.return_, 1) := by decide +kernel
theorem dX8_addChamber_0 : decode cX8_addChamber 0 = .ok (.aload_n 0, 1) := by decide +kernel
theorem dX8_addChamber_1 : decode cX8_addChamber 1 = .ok (.getfield 38, 3) := by decide +kernel
theorem dX8_addChamber_4 : decode cX8_addChamber 4 = .ok (.iconst 0, 1) := by decide +kernel
theorem dX8_addChamber_5 : decode cX8_addChamber 5 = .ok (.invokestatic 81, 3) := by decide +kernel
theorem dX8_addChamber_8 : decode cX8_addChamber 8 = .ok (.iconst 0, 1) := by decide +kernel
theorem dX8_addChamber_9 : decode cX8_addChamber 9 = .ok (.istore_n 2, 1) := by decide +kernel
theorem dX8_addChamber_10 : decode cX8_addChamber 10 = .ok (.iload_n 2, 1) := by decide +kernel
theorem dX8_addChamber_11 : decode cX8_addChamber 11 = .ok (.sipush 384, 3) := by decide +kernel
theorem dX8_addChamber_14 : decode cX8_addChamber 14 = .ok (.if_icmp .ge 113, 3) := by decide +kernel
theorem dX8_addChamber_17 : decode cX8_addChamber 17 = .ok (.aload_n 0, 1) := by decide +kernel
theorem dX8_addChamber_18 : decode cX8_addChamber 18 = .ok (.getfield 29, 3) := by decide +kernel
theorem dX8_addChamber_21 : decode cX8_addChamber 21 = .ok (.iload_n 2, 1) := by decide +kernel
theorem dX8_addChamber_22 : decode cX8_addChamber 22 = .ok (.iaload, 1) := by decide +kernel
theorem dX8_addChamber_23 : decode cX8_addChamber 23 = .ok (.ifCond .le 98, 3) := by decide +kernel
theorem dX8_addChamber_26 : decode cX8_addChamber 26 = .ok (.iload_n 2, 1) := by decide +kernel
theorem dX8_addChamber_27 : decode cX8_addChamber 27 = .ok (.bipush 64, 2) := by decide +kernel
theorem dX8_addChamber_29 : decode cX8_addChamber 29 = .ok (.idiv, 1) := by decide +kernel
theorem dX8_addChamber_30 : decode cX8_addChamber 30 = .ok (.istore_n 3, 1) := by decide +kernel
theorem dX8_addChamber_31 : decode cX8_addChamber 31 = .ok (.aload_n 0, 1) := by decide +kernel
theorem dX8_addChamber_32 : decode cX8_addChamber 32 = .ok (.getfield 21, 3) := by decide +kernel
theorem dX8_addChamber_35 : decode cX8_addChamber 35 = .ok (.iload_n 3, 1) := by decide +kernel
theorem dX8_addChamber_36 : decode cX8_addChamber 36 = .ok (.invokevirtual 114, 3) := by decide +kernel
theorem dX8_addChamber_39 : decode cX8_addChamber 39 = .ok (.istore 4, 2) := by decide +kernel
theorem dX8_addChamber_41 : decode cX8_addChamber 41 = .ok (.iload 4, 2) := by decide +kernel
theorem dX8_addChamber_43 : decode cX8_addChamber 43 = .ok (.aload_n 0, 1) := by decide +kernel
theorem dX8_addChamber_44 : decode cX8_addChamber 44 = .ok (.getfield 21, 3) := by decide +kernel
theorem dX8_addChamber_47 : decode cX8_addChamber 47 = .ok (.iload_n 3, 1) := by decide +kernel
theorem dX8_addChamber_48 : decode cX8_addChamber 48 = .ok (.invokevirtual 117, 3) := by decide +kernel
theorem dX8_addChamber_51 : decode cX8_addChamber 51 = .ok (.if_icmp .gt 70, 3) := by decide +kernel
theorem dX8_addChamber_54 : decode cX8_addChamber 54 = .ok (.iload 4, 2) := by decide +kernel
theorem dX8_addChamber_56 : decode cX8_addChamber 56 = .ok (.bipush 6, 2) := by decide +kernel
theorem dX8_addChamber_58 : decode cX8_addChamber 58 = .ok (.if_icmp .ge 63, 3) := by decide +kernel
theorem dX8_addChamber_61 : decode cX8_addChamber 61 = .ok (.aload_n 0, 1) := by decide +kernel
theorem dX8_addChamber_62 : decode cX8_addChamber 62 = .ok (.iload 4, 2) := by decide +kernel
theorem dX8_addChamber_64 : decode cX8_addChamber 64 = .ok (.iload_n 2, 1) := by decide +kernel
theorem dX8_addChamber_65 : decode cX8_addChamber 65 = .ok (.bipush 64, 2) := by decide +kernel
theorem dX8_addChamber_67 : decode cX8_addChamber 67 = .ok (.irem, 1) := by decide +kernel
theorem dX8_addChamber_68 : decode cX8_addChamber 68 = .ok (.aload_n 0, 1) := by decide +kernel
theorem dX8_addChamber_69 : decode cX8_addChamber 69 = .ok (.getfield 26, 3) := by decide +kernel
theorem dX8_addChamber_72 : decode cX8_addChamber 72 = .ok (.iload 4, 2) := by decide +kernel
theorem dX8_addChamber_74 : decode cX8_addChamber 74 = .ok (.iaload, 1) := by decide +kernel
theorem dX8_addChamber_75 : decode cX8_addChamber 75 = .ok (.iand, 1) := by decide +kernel
theorem dX8_addChamber_76 : decode cX8_addChamber 76 = .ok (.aload_n 0, 1) := by decide +kernel
theorem dX8_addChamber_77 : decode cX8_addChamber 77 = .ok (.getfield 29, 3) := by decide +kernel
theorem dX8_addChamber_80 : decode cX8_addChamber 80 = .ok (.iload_n 2, 1) := by decide +kernel
theorem dX8_addChamber_81 : decode cX8_addChamber 81 = .ok (.iaload, 1) := by decide +kernel
theorem dX8_addChamber_82 : decode cX8_addChamber 82 = .ok (.aload_n 0, 1) := by decide +kernel
theorem dX8_addChamber_83 : decode cX8_addChamber 83 = .ok (.getfield 32, 3) := by decide +kernel
theorem dX8_addChamber_86 : decode cX8_addChamber 86 = .ok (.iload_n 2, 1) := by decide +kernel
theorem dX8_addChamber_87 : decode cX8_addChamber 87 = .ok (.iaload, 1) := by decide +kernel
theorem dX8_addChamber_88 : decode cX8_addChamber 88 = .ok (.aload_n 0, 1) := by decide +kernel
theorem dX8_addChamber_89 : decode cX8_addChamber 89 = .ok (.getfield 21, 3) := by decide +kernel
theorem dX8_addChamber_92 : decode cX8_addChamber 92 = .ok (.getfield 66, 3) := by decide +kernel
theorem dX8_addChamber_95 : decode cX8_addChamber 95 = .ok (.imul, 1) := by decide +kernel
theorem dX8_addChamber_96 : decode cX8_addChamber 96 = .ok (.iload 4, 2) := by decide +kernel
theorem dX8_addChamber_98 : decode cX8_addChamber 98 = .ok (.iadd, 1) := by decide +kernel
theorem dX8_addChamber_99 : decode cX8_addChamber 99 = .ok (.aload_n 0, 1) := by decide +kernel
theorem dX8_addChamber_100 : decode cX8_addChamber 100 = .ok (.getfield 35, 3) := by decide +kernel
theorem dX8_addChamber_103 : decode cX8_addChamber 103 = .ok (.iload_n 2, 1) := by decide +kernel
theorem dX8_addChamber_104 : decode cX8_addChamber 104 = .ok (.iaload, 1) := by decide +kernel
theorem dX8_addChamber_105 : decode cX8_addChamber 105 = .ok (.iload_n 1, 1) := by decide +kernel
theorem dX8_addChamber_106 : decode cX8_addChamber 106 = .ok (.iload 4, 2) := by decide +kernel
theorem dX8_addChamber_108 : decode cX8_addChamber 108 = .ok (.invokestatic 91, 3) := by decide +kernel
theorem dX8_addChamber_111 : decode cX8_addChamber 111 = .ok (.ior, 1) := by decide +kernel
theorem dX8_addChamber_112 : decode cX8_addChamber 112 = .ok (.invokevirtual 95, 3) := by decide +kernel
theorem dX8_addChamber_115 : decode cX8_addChamber 115 = .ok (.iinc 4 1, 3) := by decide +kernel
theorem dX8_addChamber_118 : decode cX8_addChamber 118 = .ok (.goto (-77), 3) := by decide +kernel
theorem dX8_addChamber_121 : decode cX8_addChamber 121 = .ok (.iinc 2 1, 3) := by decide +kernel
theorem dX8_addChamber_124 : decode cX8_addChamber 124 = .ok (.goto (-114), 3) := by decide +kernel
theorem dX8_addChamber_127 : decode cX8_addChamber 127 = .ok (.aload_n 0, 1) := by decide +kernel
theorem dX8_addChamber_128 : decode cX8_addChamber 128 = .ok (.invokevirtual 99, 3) := by decide +kernel
theorem dX8_addChamber_131 : decode cX8_addChamber 131 = .ok (.return_, 1) := by decide +kernel
theorem dX8_allowIn_0 : decode cX8_allowIn 0 = .ok (.iconst 0, 1) := by decide +kernel
theorem dX8_allowIn_1 : decode cX8_allowIn 1 = .ok (.istore_n 3, 1) := by decide +kernel
theorem dX8_allowIn_2 : decode cX8_allowIn 2 = .ok (.iload_n 3, 1) := by decide +kernel
theorem dX8_allowIn_3 : decode cX8_allowIn 3 = .ok (.bipush 6, 2) := by decide +kernel
theorem dX8_allowIn_5 : decode cX8_allowIn 5 = .ok (.if_icmp .ge 65, 3) := by decide +kernel
theorem dX8_allowIn_8 : decode cX8_allowIn 8 = .ok (.iconst 0, 1) := by decide +kernel
theorem dX8_allowIn_9 : decode cX8_allowIn 9 = .ok (.istore 4, 2) := by decide +kernel
theorem dX8_allowIn_11 : decode cX8_allowIn 11 = .ok (.iconst 0, 1) := by decide +kernel
theorem dX8_allowIn_12 : decode cX8_allowIn 12 = .ok (.istore 5, 2) := by decide +kernel
theorem dX8_allowIn_14 : decode cX8_allowIn 14 = .ok (.iload 5, 2) := by decide +kernel
theorem dX8_allowIn_16 : decode cX8_allowIn 16 = .ok (.aload_n 0, 1) := by decide +kernel
theorem dX8_allowIn_17 : decode cX8_allowIn 17 = .ok (.getfield 9, 3) := by decide +kernel
theorem dX8_allowIn_20 : decode cX8_allowIn 20 = .ok (.getfield 72, 3) := by decide +kernel
theorem dX8_allowIn_23 : decode cX8_allowIn 23 = .ok (.if_icmp .ge 33, 3) := by decide +kernel
theorem dX8_allowIn_26 : decode cX8_allowIn 26 = .ok (.aload_n 2, 1) := by decide +kernel
theorem dX8_allowIn_27 : decode cX8_allowIn 27 = .ok (.iload 5, 2) := by decide +kernel
theorem dX8_allowIn_29 : decode cX8_allowIn 29 = .ok (.invokevirtual 75, 3) := by decide +kernel
theorem dX8_allowIn_32 : decode cX8_allowIn 32 = .ok (.iload_n 1, 1) := by decide +kernel
theorem dX8_allowIn_33 : decode cX8_allowIn 33 = .ok (.iload_n 3, 1) := by decide +kernel
theorem dX8_allowIn_34 : decode cX8_allowIn 34 = .ok (.invokestatic 91, 3) := by decide +kernel
theorem dX8_allowIn_37 : decode cX8_allowIn 37 = .ok (.iand, 1) := by decide +kernel
theorem dX8_allowIn_38 : decode cX8_allowIn 38 = .ok (.ifCond .eq 12, 3) := by decide +kernel
theorem dX8_allowIn_41 : decode cX8_allowIn 41 = .ok (.iload 4, 2) := by decide +kernel
theorem dX8_allowIn_43 : decode cX8_allowIn 43 = .ok (.iconst 1, 1) := by decide +kernel
theorem dX8_allowIn_44 : decode cX8_allowIn 44 = .ok (.iload 5, 2) := by decide +kernel
theorem dX8_allowIn_46 : decode cX8_allowIn 46 = .ok (.ishl, 1) := by decide +kernel
theorem dX8_allowIn_47 : decode cX8_allowIn 47 = .ok (.ior, 1) := by decide +kernel
theorem dX8_allowIn_48 : decode cX8_allowIn 48 = .ok (.istore 4, 2) := by decide +kernel
theorem dX8_allowIn_50 : decode cX8_allowIn 50 = .ok (.iinc 5 1, 3) := by decide +kernel
theorem dX8_allowIn_53 : decode cX8_allowIn 53 = .ok (.goto (-39), 3) := by decide +kernel
theorem dX8_allowIn_56 : decode cX8_allowIn 56 = .ok (.aload_n 0, 1) := by decide +kernel
theorem dX8_allowIn_57 : decode cX8_allowIn 57 = .ok (.getfield 26, 3) := by decide +kernel
theorem dX8_allowIn_60 : decode cX8_allowIn 60 = .ok (.iload_n 3, 1) := by decide +kernel
theorem dX8_allowIn_61 : decode cX8_allowIn 61 = .ok (.iload 4, 2) := by decide +kernel
theorem dX8_allowIn_63 : decode cX8_allowIn 63 = .ok (.iastore, 1) := by decide +kernel
theorem dX8_allowIn_64 : decode cX8_allowIn 64 = .ok (.iinc 3 1, 3) := by decide +kernel
theorem dX8_allowIn_67 : decode cX8_allowIn 67 = .ok (.goto (-65), 3) := by decide +kernel
theorem dX8_allowIn_70 : decode cX8_allowIn 70 = .ok (.return_, 1) := by decide +kernel
theorem dX8_changeOver_0 : decode cX8_changeOver 0 = .ok (.aload_n 0, 1) := by decide +kernel
theorem dX8_changeOver_1 : decode cX8_changeOver 1 = .ok (.getfield 29, 3) := by decide +kernel
theorem dX8_changeOver_4 : decode cX8_changeOver 4 = .ok (.astore_n 1, 1) := by decide +kernel
theorem dX8_changeOver_5 : decode cX8_changeOver 5 = .ok (.aload_n 0, 1) := by decide +kernel
theorem dX8_changeOver_6 : decode cX8_changeOver 6 = .ok (.aload_n 0, 1) := by decide +kernel
theorem dX8_changeOver_7 : decode cX8_changeOver 7 = .ok (.getfield 38, 3) := by decide +kernel
theorem dX8_changeOver_10 : decode cX8_changeOver 10 = .ok (.putfield 29, 3) := by decide +kernel
theorem dX8_changeOver_13 : decode cX8_changeOver 13 = .ok (.aload_n 0, 1) := by decide +kernel
theorem dX8_changeOver_14 : decode cX8_changeOver 14 = .ok (.aload_n 1, 1) := by decide +kernel
theorem dX8_changeOver_15 : decode cX8_changeOver 15 = .ok (.putfield 38, 3) := by decide +kernel
theorem dX8_changeOver_18 : decode cX8_changeOver 18 = .ok (.aload_n 0, 1) := by decide +kernel
theorem dX8_changeOver_19 : decode cX8_changeOver 19 = .ok (.getfield 32, 3) := by decide +kernel
theorem dX8_changeOver_22 : decode cX8_changeOver 22 = .ok (.astore_n 1, 1) := by decide +kernel
theorem dX8_changeOver_23 : decode cX8_changeOver 23 = .ok (.aload_n 0, 1) := by decide +kernel
theorem dX8_changeOver_24 : decode cX8_changeOver 24 = .ok (.aload_n 0, 1) := by decide +kernel
theorem dX8_changeOver_25 : decode cX8_changeOver 25 = .ok (.getfield 41, 3) := by decide +kernel
theorem dX8_changeOver_28 : decode cX8_changeOver 28 = .ok (.putfield 32, 3) := by decide +kernel
theorem dX8_changeOver_31 : decode cX8_changeOver 31 = .ok (.aload_n 0, 1) := by decide +kernel
theorem dX8_changeOver_32 : decode cX8_changeOver 32 = .ok (.aload_n 1, 1) := by decide +kernel
theorem dX8_changeOver_33 : decode cX8_changeOver 33 = .ok (.putfield 41, 3) := by decide +kernel
theorem dX8_changeOver_36 : decode cX8_changeOver 36 = .ok (.aload_n 0, 1) := by decide +kernel
theorem dX8_changeOver_37 : decode cX8_changeOver 37 = .ok (.getfield 35, 3) := by decide +kernel
theorem dX8_changeOver_40 : decode cX8_changeOver 40 = .ok (.astore_n 1, 1) := by decide +kernel
theorem dX8_changeOver_41 : decode cX8_changeOver 41 = .ok (.aload_n 0, 1) := by decide +kernel
theorem dX8_changeOver_42 : decode cX8_changeOver 42 = .ok (.aload_n 0, 1) := by decide +kernel
theorem dX8_changeOver_43 : decode cX8_changeOver 43 = .ok (.getfield 44, 3) := by decide +kernel
theorem dX8_changeOver_46 : decode cX8_changeOver 46 = .ok (.putfield 35, 3) := by decide +kernel
theorem dX8_changeOver_49 : decode cX8_changeOver 49 = .ok (.aload_n 0, 1) := by decide +kernel
theorem dX8_changeOver_50 : decode cX8_changeOver 50 = .ok (.aload_n 1, 1) := by decide +kernel
theorem dX8_changeOver_51 : decode cX8_changeOver 51 = .ok (.putfield 44, 3) := by decide +kernel
theorem dX8_changeOver_54 : decode cX8_changeOver 54 = .ok (.return_, 1) := by decide +kernel
theorem dX8_depthsMet_0 : decode cX8_depthsMet 0 = .ok (.iconst 0, 1) := by decide +kernel
theorem dX8_depthsMet_1 : decode cX8_depthsMet 1 = .ok (.istore_n 3, 1) := by decide +kernel
theorem dX8_depthsMet_2 : decode cX8_depthsMet 2 = .ok (.iconst 0, 1) := by decide +kernel
theorem dX8_depthsMet_3 : decode cX8_depthsMet 3 = .ok (.istore 4, 2) := by decide +kernel
theorem dX8_depthsMet_5 : decode cX8_depthsMet 5 = .ok (.iload 4, 2) := by decide +kernel
theorem dX8_depthsMet_7 : decode cX8_depthsMet 7 = .ok (.bipush 64, 2) := by decide +kernel
theorem dX8_depthsMet_9 : decode cX8_depthsMet 9 = .ok (.if_icmp .ge 30, 3) := by decide +kernel
theorem dX8_depthsMet_12 : decode cX8_depthsMet 12 = .ok (.aload_n 0, 1) := by decide +kernel
theorem dX8_depthsMet_13 : decode cX8_depthsMet 13 = .ok (.iload 4, 2) := by decide +kernel
theorem dX8_depthsMet_15 : decode cX8_depthsMet 15 = .ok (.iload_n 1, 1) := by decide +kernel
theorem dX8_depthsMet_16 : decode cX8_depthsMet 16 = .ok (.iload_n 2, 1) := by decide +kernel
theorem dX8_depthsMet_17 : decode cX8_depthsMet 17 = .ok (.invokevirtual 120, 3) := by decide +kernel
theorem dX8_depthsMet_20 : decode cX8_depthsMet 20 = .ok (.ifCond .eq 13, 3) := by decide +kernel
theorem dX8_depthsMet_23 : decode cX8_depthsMet 23 = .ok (.iload_n 3, 1) := by decide +kernel
theorem dX8_depthsMet_24 : decode cX8_depthsMet 24 = .ok (.aload_n 0, 1) := by decide +kernel
theorem dX8_depthsMet_25 : decode cX8_depthsMet 25 = .ok (.getfield 53, 3) := by decide +kernel
theorem dX8_depthsMet_28 : decode cX8_depthsMet 28 = .ok (.iload 4, 2) := by decide +kernel
theorem dX8_depthsMet_30 : decode cX8_depthsMet 30 = .ok (.iaload, 1) := by decide +kernel
theorem dX8_depthsMet_31 : decode cX8_depthsMet 31 = .ok (.ior, 1) := by decide +kernel
theorem dX8_depthsMet_32 : decode cX8_depthsMet 32 = .ok (.istore_n 3, 1) := by decide +kernel
theorem dX8_depthsMet_33 : decode cX8_depthsMet 33 = .ok (.iinc 4 1, 3) := by decide +kernel
theorem dX8_depthsMet_36 : decode cX8_depthsMet 36 = .ok (.goto (-31), 3) := by decide +kernel
theorem dX8_depthsMet_39 : decode cX8_depthsMet 39 = .ok (.iload_n 3, 1) := by decide +kernel
theorem dX8_depthsMet_40 : decode cX8_depthsMet 40 = .ok (.ireturn, 1) := by decide +kernel
theorem dX8_gather_0 : decode cX8_gather 0 = .ok (.aload_n 0, 1) := by decide +kernel
theorem dX8_gather_1 : decode cX8_gather 1 = .ok (.getfield 47, 3) := by decide +kernel
theorem dX8_gather_4 : decode cX8_gather 4 = .ok (.iconst 0, 1) := by decide +kernel
theorem dX8_gather_5 : decode cX8_gather 5 = .ok (.invokestatic 81, 3) := by decide +kernel
theorem dX8_gather_8 : decode cX8_gather 8 = .ok (.iconst 0, 1) := by decide +kernel
theorem dX8_gather_9 : decode cX8_gather 9 = .ok (.istore_n 1, 1) := by decide +kernel
theorem dX8_gather_10 : decode cX8_gather 10 = .ok (.iload_n 1, 1) := by decide +kernel
theorem dX8_gather_11 : decode cX8_gather 11 = .ok (.sipush 384, 3) := by decide +kernel
theorem dX8_gather_14 : decode cX8_gather 14 = .ok (.if_icmp .ge 119, 3) := by decide +kernel
theorem dX8_gather_17 : decode cX8_gather 17 = .ok (.iload_n 1, 1) := by decide +kernel
theorem dX8_gather_18 : decode cX8_gather 18 = .ok (.bipush 64, 2) := by decide +kernel
theorem dX8_gather_20 : decode cX8_gather 20 = .ok (.irem, 1) := by decide +kernel
theorem dX8_gather_21 : decode cX8_gather 21 = .ok (.istore_n 2, 1) := by decide +kernel
theorem dX8_gather_22 : decode cX8_gather 22 = .ok (.aload_n 0, 1) := by decide +kernel
theorem dX8_gather_23 : decode cX8_gather 23 = .ok (.getfield 29, 3) := by decide +kernel
theorem dX8_gather_26 : decode cX8_gather 26 = .ok (.iload_n 1, 1) := by decide +kernel
theorem dX8_gather_27 : decode cX8_gather 27 = .ok (.iaload, 1) := by decide +kernel
theorem dX8_gather_28 : decode cX8_gather 28 = .ok (.ifCond .le 99, 3) := by decide +kernel
theorem dX8_gather_31 : decode cX8_gather 31 = .ok (.aload_n 0, 1) := by decide +kernel
theorem dX8_gather_32 : decode cX8_gather 32 = .ok (.getfield 47, 3) := by decide +kernel
theorem dX8_gather_35 : decode cX8_gather 35 = .ok (.iload_n 2, 1) := by decide +kernel
theorem dX8_gather_36 : decode cX8_gather 36 = .ok (.iaload, 1) := by decide +kernel
theorem dX8_gather_37 : decode cX8_gather 37 = .ok (.ifCond .ne 7, 3) := by decide +kernel
theorem dX8_gather_40 : decode cX8_gather 40 = .ok (.iconst 1, 1) := by decide +kernel
theorem dX8_gather_41 : decode cX8_gather 41 = .ok (.goto 4, 3) := by decide +kernel
theorem dX8_gather_44 : decode cX8_gather 44 = .ok (.iconst 0, 1) := by decide +kernel
theorem dX8_gather_45 : decode cX8_gather 45 = .ok (.istore_n 3, 1) := by decide +kernel
theorem dX8_gather_46 : decode cX8_gather 46 = .ok (.aload_n 0, 1) := by decide +kernel
theorem dX8_gather_47 : decode cX8_gather 47 = .ok (.getfield 50, 3) := by decide +kernel
theorem dX8_gather_50 : decode cX8_gather 50 = .ok (.iload_n 2, 1) := by decide +kernel
theorem dX8_gather_51 : decode cX8_gather 51 = .ok (.iload_n 3, 1) := by decide +kernel
theorem dX8_gather_52 : decode cX8_gather 52 = .ok (.ifCond .eq 12, 3) := by decide +kernel
theorem dX8_gather_55 : decode cX8_gather 55 = .ok (.aload_n 0, 1) := by decide +kernel
theorem dX8_gather_56 : decode cX8_gather 56 = .ok (.getfield 32, 3) := by decide +kernel
theorem dX8_gather_59 : decode cX8_gather 59 = .ok (.iload_n 1, 1) := by decide +kernel
theorem dX8_gather_60 : decode cX8_gather 60 = .ok (.iaload, 1) := by decide +kernel
theorem dX8_gather_61 : decode cX8_gather 61 = .ok (.goto 18, 3) := by decide +kernel
theorem dX8_gather_64 : decode cX8_gather 64 = .ok (.aload_n 0, 1) := by decide +kernel
theorem dX8_gather_65 : decode cX8_gather 65 = .ok (.getfield 50, 3) := by decide +kernel
theorem dX8_gather_68 : decode cX8_gather 68 = .ok (.iload_n 2, 1) := by decide +kernel
theorem dX8_gather_69 : decode cX8_gather 69 = .ok (.iaload, 1) := by decide +kernel
theorem dX8_gather_70 : decode cX8_gather 70 = .ok (.aload_n 0, 1) := by decide +kernel
theorem dX8_gather_71 : decode cX8_gather 71 = .ok (.getfield 32, 3) := by decide +kernel
theorem dX8_gather_74 : decode cX8_gather 74 = .ok (.iload_n 1, 1) := by decide +kernel
theorem dX8_gather_75 : decode cX8_gather 75 = .ok (.iaload, 1) := by decide +kernel
theorem dX8_gather_76 : decode cX8_gather 76 = .ok (.invokestatic 109, 3) := by decide +kernel
theorem dX8_gather_79 : decode cX8_gather 79 = .ok (.iastore, 1) := by decide +kernel
theorem dX8_gather_80 : decode cX8_gather 80 = .ok (.aload_n 0, 1) := by decide +kernel
theorem dX8_gather_81 : decode cX8_gather 81 = .ok (.getfield 53, 3) := by decide +kernel
theorem dX8_gather_84 : decode cX8_gather 84 = .ok (.iload_n 2, 1) := by decide +kernel
theorem dX8_gather_85 : decode cX8_gather 85 = .ok (.iload_n 3, 1) := by decide +kernel
theorem dX8_gather_86 : decode cX8_gather 86 = .ok (.ifCond .eq 12, 3) := by decide +kernel
theorem dX8_gather_89 : decode cX8_gather 89 = .ok (.aload_n 0, 1) := by decide +kernel
theorem dX8_gather_90 : decode cX8_gather 90 = .ok (.getfield 35, 3) := by decide +kernel
theorem dX8_gather_93 : decode cX8_gather 93 = .ok (.iload_n 1, 1) := by decide +kernel
theorem dX8_gather_94 : decode cX8_gather 94 = .ok (.iaload, 1) := by decide +kernel
theorem dX8_gather_95 : decode cX8_gather 95 = .ok (.goto 16, 3) := by decide +kernel
theorem dX8_gather_98 : decode cX8_gather 98 = .ok (.aload_n 0, 1) := by decide +kernel
theorem dX8_gather_99 : decode cX8_gather 99 = .ok (.getfield 53, 3) := by decide +kernel
theorem dX8_gather_102 : decode cX8_gather 102 = .ok (.iload_n 2, 1) := by decide +kernel
theorem dX8_gather_103 : decode cX8_gather 103 = .ok (.iaload, 1) := by decide +kernel
theorem dX8_gather_104 : decode cX8_gather 104 = .ok (.aload_n 0, 1) := by decide +kernel
theorem dX8_gather_105 : decode cX8_gather 105 = .ok (.getfield 35, 3) := by decide +kernel
theorem dX8_gather_108 : decode cX8_gather 108 = .ok (.iload_n 1, 1) := by decide +kernel
theorem dX8_gather_109 : decode cX8_gather 109 = .ok (.iaload, 1) := by decide +kernel
theorem dX8_gather_110 : decode cX8_gather 110 = .ok (.ior, 1) := by decide +kernel
theorem dX8_gather_111 : decode cX8_gather 111 = .ok (.iastore, 1) := by decide +kernel
theorem dX8_gather_112 : decode cX8_gather 112 = .ok (.aload_n 0, 1) := by decide +kernel
theorem dX8_gather_113 : decode cX8_gather 113 = .ok (.getfield 47, 3) := by decide +kernel
theorem dX8_gather_116 : decode cX8_gather 116 = .ok (.iload_n 2, 1) := by decide +kernel
theorem dX8_gather_117 : decode cX8_gather 117 = .ok (.dup2, 1) := by decide +kernel
theorem dX8_gather_118 : decode cX8_gather 118 = .ok (.iaload, 1) := by decide +kernel
theorem dX8_gather_119 : decode cX8_gather 119 = .ok (.aload_n 0, 1) := by decide +kernel
theorem dX8_gather_120 : decode cX8_gather 120 = .ok (.getfield 29, 3) := by decide +kernel
theorem dX8_gather_123 : decode cX8_gather 123 = .ok (.iload_n 1, 1) := by decide +kernel
theorem dX8_gather_124 : decode cX8_gather 124 = .ok (.iaload, 1) := by decide +kernel
theorem dX8_gather_125 : decode cX8_gather 125 = .ok (.iadd, 1) := by decide +kernel
theorem dX8_gather_126 : decode cX8_gather 126 = .ok (.iastore, 1) := by decide +kernel
theorem dX8_gather_127 : decode cX8_gather 127 = .ok (.iinc 1 1, 3) := by decide +kernel
theorem dX8_gather_130 : decode cX8_gather 130 = .ok (.goto (-120), 3) := by decide +kernel
theorem dX8_gather_133 : decode cX8_gather 133 = .ok (.return_, 1) := by decide +kernel
theorem dX8_init_0 : decode cX8_init 0 = .ok (.aload_n 0, 1) := by decide +kernel
theorem dX8_init_1 : decode cX8_init 1 = .ok (.invokespecial 3, 3) := by decide +kernel
theorem dX8_init_4 : decode cX8_init 4 = .ok (.aload_n 0, 1) := by decide +kernel
theorem dX8_init_5 : decode cX8_init 5 = .ok (.aload_n 1, 1) := by decide +kernel
theorem dX8_init_6 : decode cX8_init 6 = .ok (.putfield 9, 3) := by decide +kernel
theorem dX8_init_9 : decode cX8_init 9 = .ok (.aload_n 0, 1) := by decide +kernel
theorem dX8_init_10 : decode cX8_init 10 = .ok (.aload_n 1, 1) := by decide +kernel
theorem dX8_init_11 : decode cX8_init 11 = .ok (.getfield 15, 3) := by decide +kernel
theorem dX8_init_14 : decode cX8_init 14 = .ok (.putfield 21, 3) := by decide +kernel
theorem dX8_init_17 : decode cX8_init 17 = .ok (.aload_n 0, 1) := by decide +kernel
theorem dX8_init_18 : decode cX8_init 18 = .ok (.bipush 10, 2) := by decide +kernel
theorem dX8_init_20 : decode cX8_init 20 = .ok (.newarray .int, 2) := by decide +kernel
theorem dX8_init_22 : decode cX8_init 22 = .ok (.putfield 22, 3) := by decide +kernel
theorem dX8_init_25 : decode cX8_init 25 = .ok (.aload_n 0, 1) := by decide +kernel
theorem dX8_init_26 : decode cX8_init 26 = .ok (.bipush 6, 2) := by decide +kernel
theorem dX8_init_28 : decode cX8_init 28 = .ok (.newarray .int, 2) := by decide +kernel
theorem dX8_init_30 : decode cX8_init 30 = .ok (.putfield 26, 3) := by decide +kernel
theorem dX8_init_33 : decode cX8_init 33 = .ok (.aload_n 0, 1) := by decide +kernel
theorem dX8_init_34 : decode cX8_init 34 = .ok (.sipush 384, 3) := by decide +kernel
theorem dX8_init_37 : decode cX8_init 37 = .ok (.newarray .int, 2) := by decide +kernel
theorem dX8_init_39 : decode cX8_init 39 = .ok (.putfield 29, 3) := by decide +kernel
theorem dX8_init_42 : decode cX8_init 42 = .ok (.aload_n 0, 1) := by decide +kernel
theorem dX8_init_43 : decode cX8_init 43 = .ok (.sipush 384, 3) := by decide +kernel
theorem dX8_init_46 : decode cX8_init 46 = .ok (.newarray .int, 2) := by decide +kernel
theorem dX8_init_48 : decode cX8_init 48 = .ok (.putfield 32, 3) := by decide +kernel
theorem dX8_init_51 : decode cX8_init 51 = .ok (.aload_n 0, 1) := by decide +kernel
theorem dX8_init_52 : decode cX8_init 52 = .ok (.sipush 384, 3) := by decide +kernel
theorem dX8_init_55 : decode cX8_init 55 = .ok (.newarray .int, 2) := by decide +kernel
theorem dX8_init_57 : decode cX8_init 57 = .ok (.putfield 35, 3) := by decide +kernel
theorem dX8_init_60 : decode cX8_init 60 = .ok (.aload_n 0, 1) := by decide +kernel
theorem dX8_init_61 : decode cX8_init 61 = .ok (.sipush 384, 3) := by decide +kernel
theorem dX8_init_64 : decode cX8_init 64 = .ok (.newarray .int, 2) := by decide +kernel
theorem dX8_init_66 : decode cX8_init 66 = .ok (.putfield 38, 3) := by decide +kernel
theorem dX8_init_69 : decode cX8_init 69 = .ok (.aload_n 0, 1) := by decide +kernel
theorem dX8_init_70 : decode cX8_init 70 = .ok (.sipush 384, 3) := by decide +kernel
theorem dX8_init_73 : decode cX8_init 73 = .ok (.newarray .int, 2) := by decide +kernel
theorem dX8_init_75 : decode cX8_init 75 = .ok (.putfield 41, 3) := by decide +kernel
theorem dX8_init_78 : decode cX8_init 78 = .ok (.aload_n 0, 1) := by decide +kernel
theorem dX8_init_79 : decode cX8_init 79 = .ok (.sipush 384, 3) := by decide +kernel
theorem dX8_init_82 : decode cX8_init 82 = .ok (.newarray .int, 2) := by decide +kernel
theorem dX8_init_84 : decode cX8_init 84 = .ok (.putfield 44, 3) := by decide +kernel
theorem dX8_init_87 : decode cX8_init 87 = .ok (.aload_n 0, 1) := by decide +kernel
theorem dX8_init_88 : decode cX8_init 88 = .ok (.bipush 64, 2) := by decide +kernel
theorem dX8_init_90 : decode cX8_init 90 = .ok (.newarray .int, 2) := by decide +kernel
theorem dX8_init_92 : decode cX8_init 92 = .ok (.putfield 47, 3) := by decide +kernel
theorem dX8_init_95 : decode cX8_init 95 = .ok (.aload_n 0, 1) := by decide +kernel
theorem dX8_init_96 : decode cX8_init 96 = .ok (.bipush 64, 2) := by decide +kernel
theorem dX8_init_98 : decode cX8_init 98 = .ok (.newarray .int, 2) := by decide +kernel
theorem dX8_init_100 : decode cX8_init 100 = .ok (.putfield 50, 3) := by decide +kernel
theorem dX8_init_103 : decode cX8_init 103 = .ok (.aload_n 0, 1) := by decide +kernel
theorem dX8_init_104 : decode cX8_init 104 = .ok (.bipush 64, 2) := by decide +kernel
theorem dX8_init_106 : decode cX8_init 106 = .ok (.newarray .int, 2) := by decide +kernel
theorem dX8_init_108 : decode cX8_init 108 = .ok (.putfield 53, 3) := by decide +kernel
theorem dX8_init_111 : decode cX8_init 111 = .ok (.return_, 1) := by decide +kernel
theorem dX8_isBetter_0 : decode cX8_isBetter 0 = .ok (.iload_n 1, 1) := by decide +kernel
theorem dX8_isBetter_1 : decode cX8_isBetter 1 = .ok (.invokestatic 130, 3) := by decide +kernel
theorem dX8_isBetter_4 : decode cX8_isBetter 4 = .ok (.iload_n 2, 1) := by decide +kernel
theorem dX8_isBetter_5 : decode cX8_isBetter 5 = .ok (.invokestatic 130, 3) := by decide +kernel
theorem dX8_isBetter_8 : decode cX8_isBetter 8 = .ok (.isub, 1) := by decide +kernel
theorem dX8_isBetter_9 : decode cX8_isBetter 9 = .ok (.istore_n 3, 1) := by decide +kernel
theorem dX8_isBetter_10 : decode cX8_isBetter 10 = .ok (.iload_n 3, 1) := by decide +kernel
theorem dX8_isBetter_11 : decode cX8_isBetter 11 = .ok (.ifCond .gt 22, 3) := by decide +kernel
theorem dX8_isBetter_14 : decode cX8_isBetter 14 = .ok (.iload_n 3, 1) := by decide +kernel
theorem dX8_isBetter_15 : decode cX8_isBetter 15 = .ok (.ifCond .ne 22, 3) := by decide +kernel
theorem dX8_isBetter_18 : decode cX8_isBetter 18 = .ok (.aload_n 0, 1) := by decide +kernel
theorem dX8_isBetter_19 : decode cX8_isBetter 19 = .ok (.getfield 50, 3) := by decide +kernel
theorem dX8_isBetter_22 : decode cX8_isBetter 22 = .ok (.iload_n 1, 1) := by decide +kernel
theorem dX8_isBetter_23 : decode cX8_isBetter 23 = .ok (.iaload, 1) := by decide +kernel
theorem dX8_isBetter_24 : decode cX8_isBetter 24 = .ok (.aload_n 0, 1) := by decide +kernel
theorem dX8_isBetter_25 : decode cX8_isBetter 25 = .ok (.getfield 50, 3) := by decide +kernel
theorem dX8_isBetter_28 : decode cX8_isBetter 28 = .ok (.iload_n 2, 1) := by decide +kernel
theorem dX8_isBetter_29 : decode cX8_isBetter 29 = .ok (.iaload, 1) := by decide +kernel
theorem dX8_isBetter_30 : decode cX8_isBetter 30 = .ok (.if_icmp .ge 7, 3) := by decide +kernel
theorem dX8_isBetter_33 : decode cX8_isBetter 33 = .ok (.iconst 1, 1) := by decide +kernel
theorem dX8_isBetter_34 : decode cX8_isBetter 34 = .ok (.goto 4, 3) := by decide +kernel
theorem dX8_isBetter_37 : decode cX8_isBetter 37 = .ok (.iconst 0, 1) := by decide +kernel
theorem dX8_isBetter_38 : decode cX8_isBetter 38 = .ok (.ireturn, 1) := by decide +kernel
theorem dX8_isMarked_0 : decode cX8_isMarked 0 = .ok (.iload_n 1, 1) := by decide +kernel
theorem dX8_isMarked_1 : decode cX8_isMarked 1 = .ok (.ifCond .lt 9, 3) := by decide +kernel
theorem dX8_isMarked_4 : decode cX8_isMarked 4 = .ok (.iload_n 1, 1) := by decide +kernel
theorem dX8_isMarked_5 : decode cX8_isMarked 5 = .ok (.bipush 10, 2) := by decide +kernel
theorem dX8_isMarked_7 : decode cX8_isMarked 7 = .ok (.if_icmp .lt 5, 3) := by decide +kernel
theorem dX8_isMarked_10 : decode cX8_isMarked 10 = .ok (.iconst 0, 1) := by decide +kernel
theorem dX8_isMarked_11 : decode cX8_isMarked 11 = .ok (.ireturn, 1) := by decide +kernel
theorem dX8_isMarked_12 : decode cX8_isMarked 12 = .ok (.aload_n 0, 1) := by decide +kernel
theorem dX8_isMarked_13 : decode cX8_isMarked 13 = .ok (.getfield 22, 3) := by decide +kernel
theorem dX8_isMarked_16 : decode cX8_isMarked 16 = .ok (.iload_n 1, 1) := by decide +kernel
theorem dX8_isMarked_17 : decode cX8_isMarked 17 = .ok (.iaload, 1) := by decide +kernel
theorem dX8_isMarked_18 : decode cX8_isMarked 18 = .ok (.iload_n 2, 1) := by decide +kernel
theorem dX8_isMarked_19 : decode cX8_isMarked 19 = .ok (.if_icmp .ne 7, 3) := by decide +kernel
theorem dX8_isMarked_22 : decode cX8_isMarked 22 = .ok (.iconst 1, 1) := by decide +kernel
theorem dX8_isMarked_23 : decode cX8_isMarked 23 = .ok (.goto 4, 3) := by decide +kernel
theorem dX8_isMarked_26 : decode cX8_isMarked 26 = .ok (.iconst 0, 1) := by decide +kernel
theorem dX8_isMarked_27 : decode cX8_isMarked 27 = .ok (.istore_n 3, 1) := by decide +kernel
theorem dX8_isMarked_28 : decode cX8_isMarked 28 = .ok (.aload_n 0, 1) := by decide +kernel
theorem dX8_isMarked_29 : decode cX8_isMarked 29 = .ok (.getfield 22, 3) := by decide +kernel
theorem dX8_isMarked_32 : decode cX8_isMarked 32 = .ok (.iload_n 1, 1) := by decide +kernel
theorem dX8_isMarked_33 : decode cX8_isMarked 33 = .ok (.iload_n 2, 1) := by decide +kernel
theorem dX8_isMarked_34 : decode cX8_isMarked 34 = .ok (.iastore, 1) := by decide +kernel
theorem dX8_isMarked_35 : decode cX8_isMarked 35 = .ok (.iload_n 3, 1) := by decide +kernel
theorem dX8_isMarked_36 : decode cX8_isMarked 36 = .ok (.ireturn, 1) := by decide +kernel
theorem dX8_isSuch_0 : decode cX8_isSuch 0 = .ok (.aload_n 0, 1) := by decide +kernel
theorem dX8_isSuch_1 : decode cX8_isSuch 1 = .ok (.getfield 47, 3) := by decide +kernel
theorem dX8_isSuch_4 : decode cX8_isSuch 4 = .ok (.iload_n 1, 1) := by decide +kernel
theorem dX8_isSuch_5 : decode cX8_isSuch 5 = .ok (.iaload, 1) := by decide +kernel
theorem dX8_isSuch_6 : decode cX8_isSuch 6 = .ok (.ifCond .le 20, 3) := by decide +kernel
theorem dX8_isSuch_9 : decode cX8_isSuch 9 = .ok (.iload_n 1, 1) := by decide +kernel
theorem dX8_isSuch_10 : decode cX8_isSuch 10 = .ok (.iload_n 2, 1) := by decide +kernel
theorem dX8_isSuch_11 : decode cX8_isSuch 11 = .ok (.iand, 1) := by decide +kernel
theorem dX8_isSuch_12 : decode cX8_isSuch 12 = .ok (.iload_n 2, 1) := by decide +kernel
theorem dX8_isSuch_13 : decode cX8_isSuch 13 = .ok (.if_icmp .ne 13, 3) := by decide +kernel
theorem dX8_isSuch_16 : decode cX8_isSuch 16 = .ok (.iload_n 1, 1) := by decide +kernel
theorem dX8_isSuch_17 : decode cX8_isSuch 17 = .ok (.iload_n 3, 1) := by decide +kernel
theorem dX8_isSuch_18 : decode cX8_isSuch 18 = .ok (.iand, 1) := by decide +kernel
theorem dX8_isSuch_19 : decode cX8_isSuch 19 = .ok (.ifCond .ne 7, 3) := by decide +kernel
theorem dX8_isSuch_22 : decode cX8_isSuch 22 = .ok (.iconst 1, 1) := by decide +kernel
theorem dX8_isSuch_23 : decode cX8_isSuch 23 = .ok (.goto 4, 3) := by decide +kernel
theorem dX8_isSuch_26 : decode cX8_isSuch 26 = .ok (.iconst 0, 1) := by decide +kernel
theorem dX8_isSuch_27 : decode cX8_isSuch 27 = .ok (.ireturn, 1) := by decide +kernel
theorem dX8_leastNumber_0 : decode cX8_leastNumber 0 = .ok (.iconst (-1), 1) := by decide +kernel
theorem dX8_leastNumber_1 : decode cX8_leastNumber 1 = .ok (.istore_n 3, 1) := by decide +kernel
theorem dX8_leastNumber_2 : decode cX8_leastNumber 2 = .ok (.iconst 0, 1) := by decide +kernel
theorem dX8_leastNumber_3 : decode cX8_leastNumber 3 = .ok (.istore 4, 2) := by decide +kernel
theorem dX8_leastNumber_5 : decode cX8_leastNumber 5 = .ok (.iload 4, 2) := by decide +kernel
theorem dX8_leastNumber_7 : decode cX8_leastNumber 7 = .ok (.bipush 64, 2) := by decide +kernel
theorem dX8_leastNumber_9 : decode cX8_leastNumber 9 = .ok (.if_icmp .ge 44, 3) := by decide +kernel
theorem dX8_leastNumber_12 : decode cX8_leastNumber 12 = .ok (.aload_n 0, 1) := by decide +kernel
theorem dX8_leastNumber_13 : decode cX8_leastNumber 13 = .ok (.iload 4, 2) := by decide +kernel
theorem dX8_leastNumber_15 : decode cX8_leastNumber 15 = .ok (.iload_n 1, 1) := by decide +kernel
theorem dX8_leastNumber_16 : decode cX8_leastNumber 16 = .ok (.iload_n 2, 1) := by decide +kernel
theorem dX8_leastNumber_17 : decode cX8_leastNumber 17 = .ok (.invokevirtual 120, 3) := by decide +kernel
theorem dX8_leastNumber_20 : decode cX8_leastNumber 20 = .ok (.ifCond .eq 27, 3) := by decide +kernel
theorem dX8_leastNumber_23 : decode cX8_leastNumber 23 = .ok (.iload_n 3, 1) := by decide +kernel
theorem dX8_leastNumber_24 : decode cX8_leastNumber 24 = .ok (.iconst (-1), 1) := by decide +kernel
theorem dX8_leastNumber_25 : decode cX8_leastNumber 25 = .ok (.if_icmp .eq 14, 3) := by decide +kernel
theorem dX8_leastNumber_28 : decode cX8_leastNumber 28 = .ok (.aload_n 0, 1) := by decide +kernel
theorem dX8_leastNumber_29 : decode cX8_leastNumber 29 = .ok (.getfield 50, 3) := by decide +kernel
theorem dX8_leastNumber_32 : decode cX8_leastNumber 32 = .ok (.iload 4, 2) := by decide +kernel
theorem dX8_leastNumber_34 : decode cX8_leastNumber 34 = .ok (.iaload, 1) := by decide +kernel
theorem dX8_leastNumber_35 : decode cX8_leastNumber 35 = .ok (.iload_n 3, 1) := by decide +kernel
theorem dX8_leastNumber_36 : decode cX8_leastNumber 36 = .ok (.if_icmp .ge 11, 3) := by decide +kernel
theorem dX8_leastNumber_39 : decode cX8_leastNumber 39 = .ok (.aload_n 0, 1) := by decide +kernel
theorem dX8_leastNumber_40 : decode cX8_leastNumber 40 = .ok (.getfield 50, 3) := by decide +kernel
theorem dX8_leastNumber_43 : decode cX8_leastNumber 43 = .ok (.iload 4, 2) := by decide +kernel
theorem dX8_leastNumber_45 : decode cX8_leastNumber 45 = .ok (.iaload, 1) := by decide +kernel
theorem dX8_leastNumber_46 : decode cX8_leastNumber 46 = .ok (.istore_n 3, 1) := by decide +kernel
theorem dX8_leastNumber_47 : decode cX8_leastNumber 47 = .ok (.iinc 4 1, 3) := by decide +kernel
theorem dX8_leastNumber_50 : decode cX8_leastNumber 50 = .ok (.goto (-45), 3) := by decide +kernel
theorem dX8_leastNumber_53 : decode cX8_leastNumber 53 = .ok (.iload_n 3, 1) := by decide +kernel
theorem dX8_leastNumber_54 : decode cX8_leastNumber 54 = .ok (.ireturn, 1) := by decide +kernel
theorem dX8_masterLocks_0 : decode cX8_masterLocks 0 = .ok (.iconst (-1), 1) := by decide +kernel
theorem dX8_masterLocks_1 : decode cX8_masterLocks 1 = .ok (.istore_n 1, 1) := by decide +kernel
theorem dX8_masterLocks_2 : decode cX8_masterLocks 2 = .ok (.iconst 0, 1) := by decide +kernel
theorem dX8_masterLocks_3 : decode cX8_masterLocks 3 = .ok (.istore_n 2, 1) := by decide +kernel
theorem dX8_masterLocks_4 : decode cX8_masterLocks 4 = .ok (.iload_n 2, 1) := by decide +kernel
theorem dX8_masterLocks_5 : decode cX8_masterLocks 5 = .ok (.bipush 64, 2) := by decide +kernel
theorem dX8_masterLocks_7 : decode cX8_masterLocks 7 = .ok (.if_icmp .ge 35, 3) := by decide +kernel
theorem dX8_masterLocks_10 : decode cX8_masterLocks 10 = .ok (.aload_n 0, 1) := by decide +kernel
theorem dX8_masterLocks_11 : decode cX8_masterLocks 11 = .ok (.iload_n 2, 1) := by decide +kernel
theorem dX8_masterLocks_12 : decode cX8_masterLocks 12 = .ok (.iconst 0, 1) := by decide +kernel
theorem dX8_masterLocks_13 : decode cX8_masterLocks 13 = .ok (.iconst 0, 1) := by decide +kernel
theorem dX8_masterLocks_14 : decode cX8_masterLocks 14 = .ok (.invokevirtual 120, 3) := by decide +kernel
theorem dX8_masterLocks_17 : decode cX8_masterLocks 17 = .ok (.ifCond .eq 19, 3) := by decide +kernel
theorem dX8_masterLocks_20 : decode cX8_masterLocks 20 = .ok (.iload_n 1, 1) := by decide +kernel
theorem dX8_masterLocks_21 : decode cX8_masterLocks 21 = .ok (.iconst (-1), 1) := by decide +kernel
theorem dX8_masterLocks_22 : decode cX8_masterLocks 22 = .ok (.if_icmp .eq 12, 3) := by decide +kernel
theorem dX8_masterLocks_25 : decode cX8_masterLocks 25 = .ok (.aload_n 0, 1) := by decide +kernel
theorem dX8_masterLocks_26 : decode cX8_masterLocks 26 = .ok (.iload_n 2, 1) := by decide +kernel
theorem dX8_masterLocks_27 : decode cX8_masterLocks 27 = .ok (.iload_n 1, 1) := by decide +kernel
theorem dX8_masterLocks_28 : decode cX8_masterLocks 28 = .ok (.invokevirtual 124, 3) := by decide +kernel
theorem dX8_masterLocks_31 : decode cX8_masterLocks 31 = .ok (.ifCond .eq 5, 3) := by decide +kernel
theorem dX8_masterLocks_34 : decode cX8_masterLocks 34 = .ok (.iload_n 2, 1) := by decide +kernel
theorem dX8_masterLocks_35 : decode cX8_masterLocks 35 = .ok (.istore_n 1, 1) := by decide +kernel
theorem dX8_masterLocks_36 : decode cX8_masterLocks 36 = .ok (.iinc 2 1, 3) := by decide +kernel
theorem dX8_masterLocks_39 : decode cX8_masterLocks 39 = .ok (.goto (-35), 3) := by decide +kernel
theorem dX8_masterLocks_42 : decode cX8_masterLocks 42 = .ok (.iconst 0, 1) := by decide +kernel
theorem dX8_masterLocks_43 : decode cX8_masterLocks 43 = .ok (.iload_n 1, 1) := by decide +kernel
theorem dX8_masterLocks_44 : decode cX8_masterLocks 44 = .ok (.invokestatic 127, 3) := by decide +kernel
theorem dX8_masterLocks_47 : decode cX8_masterLocks 47 = .ok (.ireturn, 1) := by decide +kernel
theorem dX8_take_0 : decode cX8_take 0 = .ok (.aload_n 0, 1) := by decide +kernel
theorem dX8_take_1 : decode cX8_take 1 = .ok (.iconst 0, 1) := by decide +kernel
theorem dX8_take_2 : decode cX8_take 2 = .ok (.aload_n 0, 1) := by decide +kernel
theorem dX8_take_3 : decode cX8_take 3 = .ok (.getfield 21, 3) := by decide +kernel
theorem dX8_take_6 : decode cX8_take 6 = .ok (.getfield 56, 3) := by decide +kernel
theorem dX8_take_9 : decode cX8_take 9 = .ok (.invokevirtual 62, 3) := by decide +kernel
theorem dX8_take_12 : decode cX8_take 12 = .ok (.aload_n 0, 1) := by decide +kernel
theorem dX8_take_13 : decode cX8_take 13 = .ok (.iconst 1, 1) := by decide +kernel
theorem dX8_take_14 : decode cX8_take 14 = .ok (.aload_n 0, 1) := by decide +kernel
theorem dX8_take_15 : decode cX8_take 15 = .ok (.getfield 21, 3) := by decide +kernel
theorem dX8_take_18 : decode cX8_take 18 = .ok (.getfield 66, 3) := by decide +kernel
theorem dX8_take_21 : decode cX8_take 21 = .ok (.invokevirtual 62, 3) := by decide +kernel
theorem dX8_take_24 : decode cX8_take 24 = .ok (.iand, 1) := by decide +kernel
theorem dX8_take_25 : decode cX8_take 25 = .ok (.aload_n 0, 1) := by decide +kernel
theorem dX8_take_26 : decode cX8_take 26 = .ok (.iconst 2, 1) := by decide +kernel
theorem dX8_take_27 : decode cX8_take 27 = .ok (.aload_n 0, 1) := by decide +kernel
theorem dX8_take_28 : decode cX8_take 28 = .ok (.getfield 21, 3) := by decide +kernel
theorem dX8_take_31 : decode cX8_take 31 = .ok (.getfield 69, 3) := by decide +kernel
theorem dX8_take_34 : decode cX8_take 34 = .ok (.invokevirtual 62, 3) := by decide +kernel
theorem dX8_take_37 : decode cX8_take 37 = .ok (.iand, 1) := by decide +kernel
theorem dX8_take_38 : decode cX8_take 38 = .ok (.aload_n 0, 1) := by decide +kernel
theorem dX8_take_39 : decode cX8_take 39 = .ok (.iconst 3, 1) := by decide +kernel
theorem dX8_take_40 : decode cX8_take 40 = .ok (.aload_n 0, 1) := by decide +kernel
theorem dX8_take_41 : decode cX8_take 41 = .ok (.getfield 9, 3) := by decide +kernel
theorem dX8_take_44 : decode cX8_take 44 = .ok (.getfield 72, 3) := by decide +kernel
theorem dX8_take_47 : decode cX8_take 47 = .ok (.invokevirtual 62, 3) := by decide +kernel
theorem dX8_take_50 : decode cX8_take 50 = .ok (.iand, 1) := by decide +kernel
theorem dX8_take_51 : decode cX8_take 51 = .ok (.istore_n 2, 1) := by decide +kernel
theorem dX8_take_52 : decode cX8_take 52 = .ok (.iconst 0, 1) := by decide +kernel
theorem dX8_take_53 : decode cX8_take 53 = .ok (.istore_n 3, 1) := by decide +kernel
theorem dX8_take_54 : decode cX8_take 54 = .ok (.iload_n 3, 1) := by decide +kernel
theorem dX8_take_55 : decode cX8_take 55 = .ok (.bipush 6, 2) := by decide +kernel
theorem dX8_take_57 : decode cX8_take 57 = .ok (.if_icmp .ge 24, 3) := by decide +kernel
theorem dX8_take_60 : decode cX8_take 60 = .ok (.iload_n 2, 1) := by decide +kernel
theorem dX8_take_61 : decode cX8_take 61 = .ok (.aload_n 0, 1) := by decide +kernel
theorem dX8_take_62 : decode cX8_take 62 = .ok (.iconst 4, 1) := by decide +kernel
theorem dX8_take_63 : decode cX8_take 63 = .ok (.iload_n 3, 1) := by decide +kernel
theorem dX8_take_64 : decode cX8_take 64 = .ok (.iadd, 1) := by decide +kernel
theorem dX8_take_65 : decode cX8_take 65 = .ok (.aload_n 1, 1) := by decide +kernel
theorem dX8_take_66 : decode cX8_take 66 = .ok (.iload_n 3, 1) := by decide +kernel
theorem dX8_take_67 : decode cX8_take 67 = .ok (.invokevirtual 75, 3) := by decide +kernel
theorem dX8_take_70 : decode cX8_take 70 = .ok (.invokevirtual 62, 3) := by decide +kernel
theorem dX8_take_73 : decode cX8_take 73 = .ok (.iand, 1) := by decide +kernel
theorem dX8_take_74 : decode cX8_take 74 = .ok (.istore_n 2, 1) := by decide +kernel
theorem dX8_take_75 : decode cX8_take 75 = .ok (.iinc 3 1, 3) := by decide +kernel
theorem dX8_take_78 : decode cX8_take 78 = .ok (.goto (-24), 3) := by decide +kernel
theorem dX8_take_81 : decode cX8_take 81 = .ok (.iload_n 2, 1) := by decide +kernel
theorem dX8_take_82 : decode cX8_take 82 = .ok (.ifCond .eq 4, 3) := by decide +kernel
theorem dX8_take_85 : decode cX8_take 85 = .ok (.return_, 1) := by decide +kernel
theorem dX8_take_86 : decode cX8_take 86 = .ok (.aload_n 0, 1) := by decide +kernel
theorem dX8_take_87 : decode cX8_take 87 = .ok (.getfield 38, 3) := by decide +kernel
theorem dX8_take_90 : decode cX8_take 90 = .ok (.iconst 0, 1) := by decide +kernel
theorem dX8_take_91 : decode cX8_take 91 = .ok (.invokestatic 81, 3) := by decide +kernel
theorem dX8_take_94 : decode cX8_take 94 = .ok (.aload_n 0, 1) := by decide +kernel
theorem dX8_take_95 : decode cX8_take 95 = .ok (.iconst 0, 1) := by decide +kernel
theorem dX8_take_96 : decode cX8_take 96 = .ok (.aload_n 1, 1) := by decide +kernel
theorem dX8_take_97 : decode cX8_take 97 = .ok (.invokevirtual 87, 3) := by decide +kernel
theorem dX8_take_100 : decode cX8_take 100 = .ok (.iconst 0, 1) := by decide +kernel
theorem dX8_take_101 : decode cX8_take 101 = .ok (.istore_n 3, 1) := by decide +kernel
theorem dX8_take_102 : decode cX8_take 102 = .ok (.iload_n 3, 1) := by decide +kernel
theorem dX8_take_103 : decode cX8_take 103 = .ok (.aload_n 0, 1) := by decide +kernel
theorem dX8_take_104 : decode cX8_take 104 = .ok (.getfield 21, 3) := by decide +kernel
theorem dX8_take_107 : decode cX8_take 107 = .ok (.getfield 66, 3) := by decide +kernel
theorem dX8_take_110 : decode cX8_take 110 = .ok (.if_icmp .ge 33, 3) := by decide +kernel
theorem dX8_take_113 : decode cX8_take 113 = .ok (.iload_n 3, 1) := by decide +kernel
theorem dX8_take_114 : decode cX8_take 114 = .ok (.bipush 6, 2) := by decide +kernel
theorem dX8_take_116 : decode cX8_take 116 = .ok (.if_icmp .ge 27, 3) := by decide +kernel
theorem dX8_take_119 : decode cX8_take 119 = .ok (.aload_n 0, 1) := by decide +kernel
theorem dX8_take_120 : decode cX8_take 120 = .ok (.iload_n 3, 1) := by decide +kernel
theorem dX8_take_121 : decode cX8_take 121 = .ok (.aload_n 0, 1) := by decide +kernel
theorem dX8_take_122 : decode cX8_take 122 = .ok (.getfield 26, 3) := by decide +kernel
theorem dX8_take_125 : decode cX8_take 125 = .ok (.iload_n 3, 1) := by decide +kernel
theorem dX8_take_126 : decode cX8_take 126 = .ok (.iaload, 1) := by decide +kernel
theorem dX8_take_127 : decode cX8_take 127 = .ok (.iconst 1, 1) := by decide +kernel
theorem dX8_take_128 : decode cX8_take 128 = .ok (.iload_n 3, 1) := by decide +kernel
theorem dX8_take_129 : decode cX8_take 129 = .ok (.iconst 0, 1) := by decide +kernel
theorem dX8_take_130 : decode cX8_take 130 = .ok (.iload_n 3, 1) := by decide +kernel
theorem dX8_take_131 : decode cX8_take 131 = .ok (.invokestatic 91, 3) := by decide +kernel
theorem dX8_take_134 : decode cX8_take 134 = .ok (.invokevirtual 95, 3) := by decide +kernel
theorem dX8_take_137 : decode cX8_take 137 = .ok (.iinc 3 1, 3) := by decide +kernel
theorem dX8_take_140 : decode cX8_take 140 = .ok (.goto (-38), 3) := by decide +kernel
theorem dX8_take_143 : decode cX8_take 143 = .ok (.aload_n 0, 1) := by decide +kernel
theorem dX8_take_144 : decode cX8_take 144 = .ok (.invokevirtual 99, 3) := by decide +kernel
theorem dX8_take_147 : decode cX8_take 147 = .ok (.iconst 1, 1) := by decide +kernel
theorem dX8_take_148 : decode cX8_take 148 = .ok (.istore_n 3, 1) := by decide +kernel
theorem dX8_take_149 : decode cX8_take 149 = .ok (.iload_n 3, 1) := by decide +kernel
theorem dX8_take_150 : decode cX8_take 150 = .ok (.aload_n 0, 1) := by decide +kernel
theorem dX8_take_151 : decode cX8_take 151 = .ok (.getfield 21, 3) := by decide +kernel
theorem dX8_take_154 : decode cX8_take 154 = .ok (.getfield 56, 3) := by decide +kernel
theorem dX8_take_157 : decode cX8_take 157 = .ok (.if_icmp .ge 20, 3) := by decide +kernel
theorem dX8_take_160 : decode cX8_take 160 = .ok (.aload_n 0, 1) := by decide +kernel
theorem dX8_take_161 : decode cX8_take 161 = .ok (.iload_n 3, 1) := by decide +kernel
theorem dX8_take_162 : decode cX8_take 162 = .ok (.aload_n 1, 1) := by decide +kernel
theorem dX8_take_163 : decode cX8_take 163 = .ok (.invokevirtual 87, 3) := by decide +kernel
theorem dX8_take_166 : decode cX8_take 166 = .ok (.aload_n 0, 1) := by decide +kernel
theorem dX8_take_167 : decode cX8_take 167 = .ok (.iload_n 3, 1) := by decide +kernel
theorem dX8_take_168 : decode cX8_take 168 = .ok (.invokevirtual 102, 3) := by decide +kernel
theorem dX8_take_171 : decode cX8_take 171 = .ok (.iinc 3 1, 3) := by decide +kernel
theorem dX8_take_174 : decode cX8_take 174 = .ok (.goto (-25), 3) := by decide +kernel
theorem dX8_take_177 : decode cX8_take 177 = .ok (.aload_n 0, 1) := by decide +kernel
theorem dX8_take_178 : decode cX8_take 178 = .ok (.invokevirtual 106, 3) := by decide +kernel
theorem dX8_take_181 : decode cX8_take 181 = .ok (.return_, 1) := by decide +kernel
theorem dX8_total_0 : decode cX8_total 0 = .ok (.iconst 0, 1) := by decide +kernel
theorem dX8_total_1 : decode cX8_total 1 = .ok (.istore_n 3, 1) := by decide +kernel
theorem dX8_total_2 : decode cX8_total 2 = .ok (.iconst 0, 1) := by decide +kernel
theorem dX8_total_3 : decode cX8_total 3 = .ok (.istore 4, 2) := by decide +kernel
theorem dX8_total_5 : decode cX8_total 5 = .ok (.iload 4, 2) := by decide +kernel
theorem dX8_total_7 : decode cX8_total 7 = .ok (.bipush 64, 2) := by decide +kernel
theorem dX8_total_9 : decode cX8_total 9 = .ok (.if_icmp .ge 30, 3) := by decide +kernel
theorem dX8_total_12 : decode cX8_total 12 = .ok (.aload_n 0, 1) := by decide +kernel
theorem dX8_total_13 : decode cX8_total 13 = .ok (.iload 4, 2) := by decide +kernel
theorem dX8_total_15 : decode cX8_total 15 = .ok (.iload_n 1, 1) := by decide +kernel
theorem dX8_total_16 : decode cX8_total 16 = .ok (.iload_n 2, 1) := by decide +kernel
theorem dX8_total_17 : decode cX8_total 17 = .ok (.invokevirtual 120, 3) := by decide +kernel
theorem dX8_total_20 : decode cX8_total 20 = .ok (.ifCond .eq 13, 3) := by decide +kernel
theorem dX8_total_23 : decode cX8_total 23 = .ok (.iload_n 3, 1) := by decide +kernel
theorem dX8_total_24 : decode cX8_total 24 = .ok (.aload_n 0, 1) := by decide +kernel
theorem dX8_total_25 : decode cX8_total 25 = .ok (.getfield 47, 3) := by decide +kernel
theorem dX8_total_28 : decode cX8_total 28 = .ok (.iload 4, 2) := by decide +kernel
theorem dX8_total_30 : decode cX8_total 30 = .ok (.iaload, 1) := by decide +kernel
theorem dX8_total_31 : decode cX8_total 31 = .ok (.iadd, 1) := by decide +kernel
theorem dX8_total_32 : decode cX8_total 32 = .ok (.istore_n 3, 1) := by decide +kernel
theorem dX8_total_33 : decode cX8_total 33 = .ok (.iinc 4 1, 3) := by decide +kernel
theorem dX8_total_36 : decode cX8_total 36 = .ok (.goto (-31), 3) := by decide +kernel
theorem dX8_total_39 : decode cX8_total 39 = .ok (.iload_n 3, 1) := by decide +kernel
theorem dX8_total_40 : decode cX8_total 40 = .ok (.ireturn, 1) := by decide +kernel
theorem dX9_advance_0 : decode cX9_advance 0 = .ok (.aload_n 0, 1) := by decide +kernel
theorem dX9_advance_1 : decode cX9_advance 1 = .ok (.getfield 44, 3) := by decide +kernel
theorem dX9_advance_4 : decode cX9_advance 4 = .ok (.aload_n 0, 1) := by decide +kernel
theorem dX9_advance_5 : decode cX9_advance 5 = .ok (.getfield 41, 3) := by decide +kernel
theorem dX9_advance_8 : decode cX9_advance 8 = .ok (.if_icmp .ge 42, 3) := by decide +kernel
theorem dX9_advance_11 : decode cX9_advance 11 = .ok (.aload_n 0, 1) := by decide +kernel
theorem dX9_advance_12 : decode cX9_advance 12 = .ok (.aload_n 0, 1) := by decide +kernel
theorem dX9_advance_13 : decode cX9_advance 13 = .ok (.getfield 44, 3) := by decide +kernel
theorem dX9_advance_16 : decode cX9_advance 16 = .ok (.invokevirtual 52, 3) := by decide +kernel
theorem dX9_advance_19 : decode cX9_advance 19 = .ok (.bipush 32, 2) := by decide +kernel
theorem dX9_advance_21 : decode cX9_advance 21 = .ok (.if_icmp .eq 16, 3) := by decide +kernel
theorem dX9_advance_24 : decode cX9_advance 24 = .ok (.aload_n 0, 1) := by decide +kernel
theorem dX9_advance_25 : decode cX9_advance 25 = .ok (.aload_n 0, 1) := by decide +kernel
theorem dX9_advance_26 : decode cX9_advance 26 = .ok (.getfield 44, 3) := by decide +kernel
theorem dX9_advance_29 : decode cX9_advance 29 = .ok (.invokevirtual 52, 3) := by decide +kernel
theorem dX9_advance_32 : decode cX9_advance 32 = .ok (.bipush 10, 2) := by decide +kernel
theorem dX9_advance_34 : decode cX9_advance 34 = .ok (.if_icmp .ne 16, 3) := by decide +kernel
theorem dX9_advance_37 : decode cX9_advance 37 = .ok (.aload_n 0, 1) := by decide +kernel
theorem dX9_advance_38 : decode cX9_advance 38 = .ok (.dup, 1) := by decide +kernel
theorem dX9_advance_39 : decode cX9_advance 39 = .ok (.getfield 44, 3) := by decide +kernel
theorem dX9_advance_42 : decode cX9_advance 42 = .ok (.iconst 1, 1) := by decide +kernel
theorem dX9_advance_43 : decode cX9_advance 43 = .ok (.iadd, 1) := by decide +kernel
theorem dX9_advance_44 : decode cX9_advance 44 = .ok (.putfield 44, 3) := by decide +kernel
theorem dX9_advance_47 : decode cX9_advance 47 = .ok (.goto (-47), 3) := by decide +kernel
theorem dX9_advance_50 : decode cX9_advance 50 = .ok (.aload_n 0, 1) := by decide +kernel
theorem dX9_advance_51 : decode cX9_advance 51 = .ok (.aload_n 0, 1) := by decide +kernel
theorem dX9_advance_52 : decode cX9_advance 52 = .ok (.getfield 44, 3) := by decide +kernel
theorem dX9_advance_55 : decode cX9_advance 55 = .ok (.putfield 56, 3) := by decide +kernel
theorem dX9_advance_58 : decode cX9_advance 58 = .ok (.aload_n 0, 1) := by decide +kernel
theorem dX9_advance_59 : decode cX9_advance 59 = .ok (.aload_n 0, 1) := by decide +kernel
theorem dX9_advance_60 : decode cX9_advance 60 = .ok (.getfield 44, 3) := by decide +kernel
theorem dX9_advance_63 : decode cX9_advance 63 = .ok (.invokevirtual 52, 3) := by decide +kernel
theorem dX9_advance_66 : decode cX9_advance 66 = .ok (.istore_n 1, 1) := by decide +kernel
theorem dX9_advance_67 : decode cX9_advance 67 = .ok (.aload_n 0, 1) := by decide +kernel
theorem dX9_advance_68 : decode cX9_advance 68 = .ok (.getfield 44, 3) := by decide +kernel
theorem dX9_advance_71 : decode cX9_advance 71 = .ok (.aload_n 0, 1) := by decide +kernel
theorem dX9_advance_72 : decode cX9_advance 72 = .ok (.getfield 41, 3) := by decide +kernel
theorem dX9_advance_75 : decode cX9_advance 75 = .ok (.if_icmp .lt 12, 3) := by decide +kernel
theorem dX9_advance_78 : decode cX9_advance 78 = .ok (.aload_n 0, 1) := by decide +kernel
theorem dX9_advance_79 : decode cX9_advance 79 = .ok (.bipush 26, 2) := by decide +kernel
theorem dX9_advance_81 : decode cX9_advance 81 = .ok (.putfield 59, 3) := by decide +kernel
theorem dX9_advance_84 : decode cX9_advance 84 = .ok (.goto 68, 3) := by decide +kernel
theorem dX9_advance_87 : decode cX9_advance 87 = .ok (.iload_n 1, 1) := by decide +kernel
theorem dX9_advance_88 : decode cX9_advance 88 = .ok (.invokestatic 62, 3) := by decide +kernel
theorem dX9_advance_91 : decode cX9_advance 91 = .ok (.ifCond .eq 10, 3) := by decide +kernel
theorem dX9_advance_94 : decode cX9_advance 94 = .ok (.aload_n 0, 1) := by decide +kernel
theorem dX9_advance_95 : decode cX9_advance 95 = .ok (.invokevirtual 66, 3) := by decide +kernel
theorem dX9_advance_98 : decode cX9_advance 98 = .ok (.goto 54, 3) := by decide +kernel
theorem dX9_advance_101 : decode cX9_advance 101 = .ok (.iload_n 1, 1) := by decide +kernel
theorem dX9_advance_102 : decode cX9_advance 102 = .ok (.invokestatic 69, 3) := by decide +kernel
theorem dX9_advance_105 : decode cX9_advance 105 = .ok (.ifCond .eq 10, 3) := by decide +kernel
theorem dX9_advance_108 : decode cX9_advance 108 = .ok (.aload_n 0, 1) := by decide +kernel
theorem dX9_advance_109 : decode cX9_advance 109 = .ok (.invokevirtual 72, 3) := by decide +kernel
theorem dX9_advance_112 : decode cX9_advance 112 = .ok (.goto 40, 3) := by decide +kernel
theorem dX9_advance_115 : decode cX9_advance 115 = .ok (.aload_n 0, 1) := by decide +kernel
theorem dX9_advance_116 : decode cX9_advance 116 = .ok (.iload_n 1, 1) := by decide +kernel
theorem dX9_advance_117 : decode cX9_advance 117 = .ok (.sipush 128, 3) := by decide +kernel
theorem dX9_advance_120 : decode cX9_advance 120 = .ok (.if_icmp .ge 17, 3) := by decide +kernel
theorem dX9_advance_123 : decode cX9_advance 123 = .ok (.ldc 75, 2) := by decide +kernel
theorem dX9_advance_125 : decode cX9_advance 125 = .ok (.iload_n 1, 1) := by decide +kernel
theorem dX9_advance_126 : decode cX9_advance 126 = .ok (.i2c, 1) := by decide +kernel
theorem dX9_advance_127 : decode cX9_advance 127 = .ok (.invokevirtual 77, 3) := by decide +kernel
theorem dX9_advance_130 : decode cX9_advance 130 = .ok (.ifCond .lt 7, 3) := by decide +kernel
theorem dX9_advance_133 : decode cX9_advance 133 = .ok (.iload_n 1, 1) := by decide +kernel
theorem dX9_advance_134 : decode cX9_advance 134 = .ok (.goto 5, 3) := by decide +kernel
theorem dX9_advance_137 : decode cX9_advance 137 = .ok (.bipush 25, 2) := by decide +kernel
theorem dX9_advance_139 : decode cX9_advance 139 = .ok (.putfield 59, 3) := by decide +kernel
theorem dX9_advance_142 : decode cX9_advance 142 = .ok (.aload_n 0, 1) := by decide +kernel
theorem dX9_advance_143 : decode cX9_advance 143 = .ok (.dup, 1) := by decide +kernel
theorem dX9_advance_144 : decode cX9_advance 144 = .ok (.getfield 44, 3) := by decide +kernel
theorem dX9_advance_147 : decode cX9_advance 147 = .ok (.iconst 1, 1) := by decide +kernel
theorem dX9_advance_148 : decode cX9_advance 148 = .ok (.iadd, 1) := by decide +kernel
theorem dX9_advance_149 : decode cX9_advance 149 = .ok (.putfield 44, 3) := by decide +kernel
theorem dX9_advance_152 : decode cX9_advance 152 = .ok (.return_, 1) := by decide +kernel
theorem dX9_begin_0 : decode cX9_begin 0 = .ok (.aload_n 0, 1) := by decide +kernel
theorem dX9_begin_1 : decode cX9_begin 1 = .ok (.iload_n 1, 1) := by decide +kernel
theorem dX9_begin_2 : decode cX9_begin 2 = .ok (.aload_n 0, 1) := by decide +kernel
theorem dX9_begin_3 : decode cX9_begin 3 = .ok (.getfield 9, 3) := by decide +kernel
theorem dX9_begin_6 : decode cX9_begin 6 = .ok (.arraylength, 1) := by decide +kernel
theorem dX9_begin_7 : decode cX9_begin 7 = .ok (.invokestatic 35, 3) := by decide +kernel
theorem dX9_begin_10 : decode cX9_begin 10 = .ok (.putfield 41, 3) := by decide +kernel
theorem dX9_begin_13 : decode cX9_begin 13 = .ok (.aload_n 0, 1) := by decide +kernel
theorem dX9_begin_14 : decode cX9_begin 14 = .ok (.iconst 0, 1) := by decide +kernel
theorem dX9_begin_15 : decode cX9_begin 15 = .ok (.putfield 44, 3) := by decide +kernel
theorem dX9_begin_18 : decode cX9_begin 18 = .ok (.aload_n 0, 1) := by decide +kernel
theorem dX9_begin_19 : decode cX9_begin 19 = .ok (.invokevirtual 47, 3) := by decide +kernel
theorem dX9_begin_22 : decode cX9_begin 22 = .ok (.return_, 1) := by decide +kernel
theorem dX9_byteAt_0 : decode cX9_byteAt 0 = .ok (.iload_n 1, 1) := by decide +kernel
theorem dX9_byteAt_1 : decode cX9_byteAt 1 = .ok (.ifCond .lt 33, 3) := by decide +kernel
theorem dX9_byteAt_4 : decode cX9_byteAt 4 = .ok (.iload_n 1, 1) := by decide +kernel
theorem dX9_byteAt_5 : decode cX9_byteAt 5 = .ok (.aload_n 0, 1) := by decide +kernel
theorem dX9_byteAt_6 : decode cX9_byteAt 6 = .ok (.getfield 41, 3) := by decide +kernel
theorem dX9_byteAt_9 : decode cX9_byteAt 9 = .ok (.if_icmp .ge 25, 3) := by decide +kernel
theorem dX9_byteAt_12 : decode cX9_byteAt 12 = .ok (.iload_n 1, 1) := by decide +kernel
theorem dX9_byteAt_13 : decode cX9_byteAt 13 = .ok (.aload_n 0, 1) := by decide +kernel
theorem dX9_byteAt_14 : decode cX9_byteAt 14 = .ok (.getfield 9, 3) := by decide +kernel
theorem dX9_byteAt_17 : decode cX9_byteAt 17 = .ok (.arraylength, 1) := by decide +kernel
theorem dX9_byteAt_18 : decode cX9_byteAt 18 = .ok (.if_icmp .ge 16, 3) := by decide +kernel
theorem dX9_byteAt_21 : decode cX9_byteAt 21 = .ok (.aload_n 0, 1) := by decide +kernel
theorem dX9_byteAt_22 : decode cX9_byteAt 22 = .ok (.getfield 9, 3) := by decide +kernel
theorem dX9_byteAt_25 : decode cX9_byteAt 25 = .ok (.iload_n 1, 1) := by decide +kernel
theorem dX9_byteAt_26 : decode cX9_byteAt 26 = .ok (.baload, 1) := by decide +kernel
theorem dX9_byteAt_27 : decode cX9_byteAt 27 = .ok (.sipush 255, 3) := by decide +kernel
theorem dX9_byteAt_30 : decode cX9_byteAt 30 = .ok (.iand, 1) := by decide +kernel
theorem dX9_byteAt_31 : decode cX9_byteAt 31 = .ok (.goto 4, 3) := by decide +kernel
theorem dX9_byteAt_34 : decode cX9_byteAt 34 = .ok (.iconst (-1), 1) := by decide +kernel
theorem dX9_byteAt_35 : decode cX9_byteAt 35 = .ok (.ireturn, 1) := by decide +kernel
theorem dX9_init_0 : decode cX9_init 0 = .ok (.aload_n 0, 1) := by decide +kernel
theorem dX9_init_1 : decode cX9_init 1 = .ok (.invokespecial 3, 3) := by decide +kernel
theorem dX9_init_4 : decode cX9_init 4 = .ok (.aload_n 0, 1) := by decide +kernel
theorem dX9_init_5 : decode cX9_init 5 = .ok (.aload_n 1, 1) := by decide +kernel
theorem dX9_init_6 : decode cX9_init 6 = .ok (.putfield 9, 3) := by decide +kernel
theorem dX9_init_9 : decode cX9_init 9 = .ok (.aload_n 0, 1) := by decide +kernel
theorem dX9_init_10 : decode cX9_init 10 = .ok (.bipush 23, 2) := by decide +kernel
theorem dX9_init_12 : decode cX9_init 12 = .ok (.newarray .long, 2) := by decide +kernel
theorem dX9_init_14 : decode cX9_init 14 = .ok (.putfield 15, 3) := by decide +kernel
theorem dX9_init_17 : decode cX9_init 17 = .ok (.iconst 0, 1) := by decide +kernel
theorem dX9_init_18 : decode cX9_init 18 = .ok (.istore_n 2, 1) := by decide +kernel
theorem dX9_init_19 : decode cX9_init 19 = .ok (.lconst 0, 1) := by decide +kernel
theorem dX9_init_20 : decode cX9_init 20 = .ok (.lstore_n 3, 1) := by decide +kernel
theorem dX9_init_21 : decode cX9_init 21 = .ok (.iconst 0, 1) := by decide +kernel
theorem dX9_init_22 : decode cX9_init 22 = .ok (.istore 5, 2) := by decide +kernel
theorem dX9_init_24 : decode cX9_init 24 = .ok (.iload 5, 2) := by decide +kernel
theorem dX9_init_26 : decode cX9_init 26 = .ok (.ldc 19, 2) := by decide +kernel
theorem dX9_init_28 : decode cX9_init 28 = .ok (.invokevirtual 21, 3) := by decide +kernel
theorem dX9_init_31 : decode cX9_init 31 = .ok (.if_icmp .ge 53, 3) := by decide +kernel
theorem dX9_init_34 : decode cX9_init 34 = .ok (.ldc 19, 2) := by decide +kernel
theorem dX9_init_36 : decode cX9_init 36 = .ok (.iload 5, 2) := by decide +kernel
theorem dX9_init_38 : decode cX9_init 38 = .ok (.invokevirtual 27, 3) := by decide +kernel
theorem dX9_init_41 : decode cX9_init 41 = .ok (.istore 6, 2) := by decide +kernel
theorem dX9_init_43 : decode cX9_init 43 = .ok (.iload 6, 2) := by decide +kernel
theorem dX9_init_45 : decode cX9_init 45 = .ok (.bipush 32, 2) := by decide +kernel
theorem dX9_init_47 : decode cX9_init 47 = .ok (.if_icmp .eq 13, 3) := by decide +kernel
theorem dX9_init_50 : decode cX9_init 50 = .ok (.lload_n 3, 1) := by decide +kernel
theorem dX9_init_51 : decode cX9_init 51 = .ok (.iload 6, 2) := by decide +kernel
theorem dX9_init_53 : decode cX9_init 53 = .ok (.invokestatic 31, 3) := by decide +kernel
theorem dX9_init_56 : decode cX9_init 56 = .ok (.lstore_n 3, 1) := by decide +kernel
theorem dX9_init_57 : decode cX9_init 57 = .ok (.goto 21, 3) := by decide +kernel
theorem dX9_init_60 : decode cX9_init 60 = .ok (.iload_n 2, 1) := by decide +kernel
theorem dX9_init_61 : decode cX9_init 61 = .ok (.bipush 23, 2) := by decide +kernel
theorem dX9_init_63 : decode cX9_init 63 = .ok (.if_icmp .ge 15, 3) := by decide +kernel
theorem dX9_init_66 : decode cX9_init 66 = .ok (.aload_n 0, 1) := by decide +kernel
theorem dX9_init_67 : decode cX9_init 67 = .ok (.getfield 15, 3) := by decide +kernel
theorem dX9_init_70 : decode cX9_init 70 = .ok (.iload_n 2, 1) := by decide +kernel
theorem dX9_init_71 : decode cX9_init 71 = .ok (.lload_n 3, 1) := by decide +kernel
theorem dX9_init_72 : decode cX9_init 72 = .ok (.lastore, 1) := by decide +kernel
theorem dX9_init_73 : decode cX9_init 73 = .ok (.iinc 2 1, 3) := by decide +kernel
theorem dX9_init_76 : decode cX9_init 76 = .ok (.lconst 0, 1) := by decide +kernel
theorem dX9_init_77 : decode cX9_init 77 = .ok (.lstore_n 3, 1) := by decide +kernel
theorem dX9_init_78 : decode cX9_init 78 = .ok (.iinc 5 1, 3) := by decide +kernel
theorem dX9_init_81 : decode cX9_init 81 = .ok (.goto (-57), 3) := by decide +kernel
theorem dX9_init_84 : decode cX9_init 84 = .ok (.return_, 1) := by decide +kernel
theorem dX9_isDigit_0 : decode cX9_isDigit 0 = .ok (.iload_n 0, 1) := by decide +kernel
theorem dX9_isDigit_1 : decode cX9_isDigit 1 = .ok (.bipush 48, 2) := by decide +kernel
theorem dX9_isDigit_3 : decode cX9_isDigit 3 = .ok (.if_icmp .lt 13, 3) := by decide +kernel
theorem dX9_isDigit_6 : decode cX9_isDigit 6 = .ok (.iload_n 0, 1) := by decide +kernel
theorem dX9_isDigit_7 : decode cX9_isDigit 7 = .ok (.bipush 57, 2) := by decide +kernel
theorem dX9_isDigit_9 : decode cX9_isDigit 9 = .ok (.if_icmp .gt 7, 3) := by decide +kernel
theorem dX9_isDigit_12 : decode cX9_isDigit 12 = .ok (.iconst 1, 1) := by decide +kernel
theorem dX9_isDigit_13 : decode cX9_isDigit 13 = .ok (.goto 4, 3) := by decide +kernel
theorem dX9_isDigit_16 : decode cX9_isDigit 16 = .ok (.iconst 0, 1) := by decide +kernel
theorem dX9_isDigit_17 : decode cX9_isDigit 17 = .ok (.ireturn, 1) := by decide +kernel
theorem dX9_isLetter_0 : decode cX9_isLetter 0 = .ok (.iload_n 0, 1) := by decide +kernel
theorem dX9_isLetter_1 : decode cX9_isLetter 1 = .ok (.bipush 97, 2) := by decide +kernel
theorem dX9_isLetter_3 : decode cX9_isLetter 3 = .ok (.if_icmp .lt 13, 3) := by decide +kernel
theorem dX9_isLetter_6 : decode cX9_isLetter 6 = .ok (.iload_n 0, 1) := by decide +kernel
theorem dX9_isLetter_7 : decode cX9_isLetter 7 = .ok (.bipush 122, 2) := by decide +kernel
theorem dX9_isLetter_9 : decode cX9_isLetter 9 = .ok (.if_icmp .gt 7, 3) := by decide +kernel
theorem dX9_isLetter_12 : decode cX9_isLetter 12 = .ok (.iconst 1, 1) := by decide +kernel
theorem dX9_isLetter_13 : decode cX9_isLetter 13 = .ok (.goto 4, 3) := by decide +kernel
theorem dX9_isLetter_16 : decode cX9_isLetter 16 = .ok (.iconst 0, 1) := by decide +kernel
theorem dX9_isLetter_17 : decode cX9_isLetter 17 = .ok (.ireturn, 1) := by decide +kernel
theorem dX9_readNumber_0 : decode cX9_readNumber 0 = .ok (.aload_n 0, 1) := by decide +kernel
theorem dX9_readNumber_1 : decode cX9_readNumber 1 = .ok (.iconst 0, 1) := by decide +kernel
theorem dX9_readNumber_2 : decode cX9_readNumber 2 = .ok (.putfield 84, 3) := by decide +kernel
theorem dX9_readNumber_5 : decode cX9_readNumber 5 = .ok (.aload_n 0, 1) := by decide +kernel
theorem dX9_readNumber_6 : decode cX9_readNumber 6 = .ok (.getfield 44, 3) := by decide +kernel
theorem dX9_readNumber_9 : decode cX9_readNumber 9 = .ok (.aload_n 0, 1) := by decide +kernel
theorem dX9_readNumber_10 : decode cX9_readNumber 10 = .ok (.getfield 41, 3) := by decide +kernel
theorem dX9_readNumber_13 : decode cX9_readNumber 13 = .ok (.if_icmp .ge 53, 3) := by decide +kernel
theorem dX9_readNumber_16 : decode cX9_readNumber 16 = .ok (.aload_n 0, 1) := by decide +kernel
theorem dX9_readNumber_17 : decode cX9_readNumber 17 = .ok (.aload_n 0, 1) := by decide +kernel
theorem dX9_readNumber_18 : decode cX9_readNumber 18 = .ok (.getfield 44, 3) := by decide +kernel
theorem dX9_readNumber_21 : decode cX9_readNumber 21 = .ok (.invokevirtual 52, 3) := by decide +kernel
theorem dX9_readNumber_24 : decode cX9_readNumber 24 = .ok (.invokestatic 69, 3) := by decide +kernel
theorem dX9_readNumber_27 : decode cX9_readNumber 27 = .ok (.ifCond .eq 39, 3) := by decide +kernel
theorem dX9_readNumber_30 : decode cX9_readNumber 30 = .ok (.aload_n 0, 1) := by decide +kernel
theorem dX9_readNumber_31 : decode cX9_readNumber 31 = .ok (.aload_n 0, 1) := by decide +kernel
theorem dX9_readNumber_32 : decode cX9_readNumber 32 = .ok (.getfield 84, 3) := by decide +kernel
theorem dX9_readNumber_35 : decode cX9_readNumber 35 = .ok (.bipush 10, 2) := by decide +kernel
theorem dX9_readNumber_37 : decode cX9_readNumber 37 = .ok (.imul, 1) := by decide +kernel
theorem dX9_readNumber_38 : decode cX9_readNumber 38 = .ok (.aload_n 0, 1) := by decide +kernel
theorem dX9_readNumber_39 : decode cX9_readNumber 39 = .ok (.aload_n 0, 1) := by decide +kernel
theorem dX9_readNumber_40 : decode cX9_readNumber 40 = .ok (.getfield 44, 3) := by decide +kernel
theorem dX9_readNumber_43 : decode cX9_readNumber 43 = .ok (.invokevirtual 52, 3) := by decide +kernel
theorem dX9_readNumber_46 : decode cX9_readNumber 46 = .ok (.bipush 48, 2) := by decide +kernel
theorem dX9_readNumber_48 : decode cX9_readNumber 48 = .ok (.isub, 1) := by decide +kernel
theorem dX9_readNumber_49 : decode cX9_readNumber 49 = .ok (.iadd, 1) := by decide +kernel
theorem dX9_readNumber_50 : decode cX9_readNumber 50 = .ok (.putfield 84, 3) := by decide +kernel
theorem dX9_readNumber_53 : decode cX9_readNumber 53 = .ok (.aload_n 0, 1) := by decide +kernel
theorem dX9_readNumber_54 : decode cX9_readNumber 54 = .ok (.dup, 1) := by decide +kernel
theorem dX9_readNumber_55 : decode cX9_readNumber 55 = .ok (.getfield 44, 3) := by decide +kernel
theorem dX9_readNumber_58 : decode cX9_readNumber 58 = .ok (.iconst 1, 1) := by decide +kernel
theorem dX9_readNumber_59 : decode cX9_readNumber 59 = .ok (.iadd, 1) := by decide +kernel
theorem dX9_readNumber_60 : decode cX9_readNumber 60 = .ok (.putfield 44, 3) := by decide +kernel
theorem dX9_readNumber_63 : decode cX9_readNumber 63 = .ok (.goto (-58), 3) := by decide +kernel
theorem dX9_readNumber_66 : decode cX9_readNumber 66 = .ok (.aload_n 0, 1) := by decide +kernel
theorem dX9_readNumber_67 : decode cX9_readNumber 67 = .ok (.aload_n 0, 1) := by decide +kernel
theorem dX9_readNumber_68 : decode cX9_readNumber 68 = .ok (.getfield 44, 3) := by decide +kernel
theorem dX9_readNumber_71 : decode cX9_readNumber 71 = .ok (.aload_n 0, 1) := by decide +kernel
theorem dX9_readNumber_72 : decode cX9_readNumber 72 = .ok (.getfield 56, 3) := by decide +kernel
theorem dX9_readNumber_75 : decode cX9_readNumber 75 = .ok (.isub, 1) := by decide +kernel
theorem dX9_readNumber_76 : decode cX9_readNumber 76 = .ok (.iconst 4, 1) := by decide +kernel
theorem dX9_readNumber_77 : decode cX9_readNumber 77 = .ok (.if_icmp .gt 17, 3) := by decide +kernel
theorem dX9_readNumber_80 : decode cX9_readNumber 80 = .ok (.aload_n 0, 1) := by decide +kernel
theorem dX9_readNumber_81 : decode cX9_readNumber 81 = .ok (.aload_n 0, 1) := by decide +kernel
theorem dX9_readNumber_82 : decode cX9_readNumber 82 = .ok (.getfield 44, 3) := by decide +kernel
theorem dX9_readNumber_85 : decode cX9_readNumber 85 = .ok (.invokevirtual 52, 3) := by decide +kernel
theorem dX9_readNumber_88 : decode cX9_readNumber 88 = .ok (.invokestatic 62, 3) := by decide +kernel
theorem dX9_readNumber_91 : decode cX9_readNumber 91 = .ok (.ifCond .eq 8, 3) := by decide +kernel
theorem dX9_readNumber_94 : decode cX9_readNumber 94 = .ok (.bipush 25, 2) := by decide +kernel
theorem dX9_readNumber_96 : decode cX9_readNumber 96 = .ok (.goto 5, 3) := by decide +kernel
theorem dX9_readNumber_99 : decode cX9_readNumber 99 = .ok (.bipush 24, 2) := by decide +kernel
theorem dX9_readNumber_101 : decode cX9_readNumber 101 = .ok (.putfield 59, 3) := by decide +kernel
theorem dX9_readNumber_104 : decode cX9_readNumber 104 = .ok (.return_, 1) := by decide +kernel
theorem dX9_readWord_0 : decode cX9_readWord 0 = .ok (.aload_n 0, 1) := by decide +kernel
theorem dX9_readWord_1 : decode cX9_readWord 1 = .ok (.lconst 0, 1) := by decide +kernel
theorem dX9_readWord_2 : decode cX9_readWord 2 = .ok (.putfield 80, 3) := by decide +kernel
theorem dX9_readWord_5 : decode cX9_readWord 5 = .ok (.aload_n 0, 1) := by decide +kernel
theorem dX9_readWord_6 : decode cX9_readWord 6 = .ok (.getfield 44, 3) := by decide +kernel
theorem dX9_readWord_9 : decode cX9_readWord 9 = .ok (.aload_n 0, 1) := by decide +kernel
theorem dX9_readWord_10 : decode cX9_readWord 10 = .ok (.getfield 41, 3) := by decide +kernel
theorem dX9_readWord_13 : decode cX9_readWord 13 = .ok (.if_icmp .ge 49, 3) := by decide +kernel
theorem dX9_readWord_16 : decode cX9_readWord 16 = .ok (.aload_n 0, 1) := by decide +kernel
theorem dX9_readWord_17 : decode cX9_readWord 17 = .ok (.aload_n 0, 1) := by decide +kernel
theorem dX9_readWord_18 : decode cX9_readWord 18 = .ok (.getfield 44, 3) := by decide +kernel
theorem dX9_readWord_21 : decode cX9_readWord 21 = .ok (.invokevirtual 52, 3) := by decide +kernel
theorem dX9_readWord_24 : decode cX9_readWord 24 = .ok (.invokestatic 62, 3) := by decide +kernel
theorem dX9_readWord_27 : decode cX9_readWord 27 = .ok (.ifCond .eq 35, 3) := by decide +kernel
theorem dX9_readWord_30 : decode cX9_readWord 30 = .ok (.aload_n 0, 1) := by decide +kernel
theorem dX9_readWord_31 : decode cX9_readWord 31 = .ok (.aload_n 0, 1) := by decide +kernel
theorem dX9_readWord_32 : decode cX9_readWord 32 = .ok (.getfield 80, 3) := by decide +kernel
theorem dX9_readWord_35 : decode cX9_readWord 35 = .ok (.aload_n 0, 1) := by decide +kernel
theorem dX9_readWord_36 : decode cX9_readWord 36 = .ok (.aload_n 0, 1) := by decide +kernel
theorem dX9_readWord_37 : decode cX9_readWord 37 = .ok (.getfield 44, 3) := by decide +kernel
theorem dX9_readWord_40 : decode cX9_readWord 40 = .ok (.invokevirtual 52, 3) := by decide +kernel
theorem dX9_readWord_43 : decode cX9_readWord 43 = .ok (.invokestatic 31, 3) := by decide +kernel
theorem dX9_readWord_46 : decode cX9_readWord 46 = .ok (.putfield 80, 3) := by decide +kernel
theorem dX9_readWord_49 : decode cX9_readWord 49 = .ok (.aload_n 0, 1) := by decide +kernel
theorem dX9_readWord_50 : decode cX9_readWord 50 = .ok (.dup, 1) := by decide +kernel
theorem dX9_readWord_51 : decode cX9_readWord 51 = .ok (.getfield 44, 3) := by decide +kernel
theorem dX9_readWord_54 : decode cX9_readWord 54 = .ok (.iconst 1, 1) := by decide +kernel
theorem dX9_readWord_55 : decode cX9_readWord 55 = .ok (.iadd, 1) := by decide +kernel
theorem dX9_readWord_56 : decode cX9_readWord 56 = .ok (.putfield 44, 3) := by decide +kernel
theorem dX9_readWord_59 : decode cX9_readWord 59 = .ok (.goto (-54), 3) := by decide +kernel
theorem dX9_readWord_62 : decode cX9_readWord 62 = .ok (.aload_n 0, 1) := by decide +kernel
theorem dX9_readWord_63 : decode cX9_readWord 63 = .ok (.aload_n 0, 1) := by decide +kernel
theorem dX9_readWord_64 : decode cX9_readWord 64 = .ok (.getfield 44, 3) := by decide +kernel
theorem dX9_readWord_67 : decode cX9_readWord 67 = .ok (.aload_n 0, 1) := by decide +kernel
theorem dX9_readWord_68 : decode cX9_readWord 68 = .ok (.getfield 56, 3) := by decide +kernel
theorem dX9_readWord_71 : decode cX9_readWord 71 = .ok (.isub, 1) := by decide +kernel
theorem dX9_readWord_72 : decode cX9_readWord 72 = .ok (.bipush 8, 2) := by decide +kernel
theorem dX9_readWord_74 : decode cX9_readWord 74 = .ok (.if_icmp .le 8, 3) := by decide +kernel
theorem dX9_readWord_77 : decode cX9_readWord 77 = .ok (.bipush 25, 2) := by decide +kernel
theorem dX9_readWord_79 : decode cX9_readWord 79 = .ok (.goto 5, 3) := by decide +kernel
theorem dX9_readWord_82 : decode cX9_readWord 82 = .ok (.bipush 23, 2) := by decide +kernel
theorem dX9_readWord_84 : decode cX9_readWord 84 = .ok (.putfield 59, 3) := by decide +kernel
theorem dX9_readWord_87 : decode cX9_readWord 87 = .ok (.iconst 0, 1) := by decide +kernel
theorem dX9_readWord_88 : decode cX9_readWord 88 = .ok (.istore_n 1, 1) := by decide +kernel
theorem dX9_readWord_89 : decode cX9_readWord 89 = .ok (.iload_n 1, 1) := by decide +kernel
theorem dX9_readWord_90 : decode cX9_readWord 90 = .ok (.bipush 23, 2) := by decide +kernel
theorem dX9_readWord_92 : decode cX9_readWord 92 = .ok (.if_icmp .ge 37, 3) := by decide +kernel
theorem dX9_readWord_95 : decode cX9_readWord 95 = .ok (.aload_n 0, 1) := by decide +kernel
theorem dX9_readWord_96 : decode cX9_readWord 96 = .ok (.getfield 59, 3) := by decide +kernel
theorem dX9_readWord_99 : decode cX9_readWord 99 = .ok (.bipush 23, 2) := by decide +kernel
theorem dX9_readWord_101 : decode cX9_readWord 101 = .ok (.if_icmp .ne 22, 3) := by decide +kernel
theorem dX9_readWord_104 : decode cX9_readWord 104 = .ok (.aload_n 0, 1) := by decide +kernel
theorem dX9_readWord_105 : decode cX9_readWord 105 = .ok (.getfield 15, 3) := by decide +kernel
theorem dX9_readWord_108 : decode cX9_readWord 108 = .ok (.iload_n 1, 1) := by decide +kernel
theorem dX9_readWord_109 : decode cX9_readWord 109 = .ok (.laload, 1) := by decide +kernel
theorem dX9_readWord_110 : decode cX9_readWord 110 = .ok (.aload_n 0, 1) := by decide +kernel
theorem dX9_readWord_111 : decode cX9_readWord 111 = .ok (.getfield 80, 3) := by decide +kernel
theorem dX9_readWord_114 : decode cX9_readWord 114 = .ok (.lcmp, 1) := by decide +kernel
theorem dX9_readWord_115 : decode cX9_readWord 115 = .ok (.ifCond .ne 8, 3) := by decide +kernel
theorem dX9_readWord_118 : decode cX9_readWord 118 = .ok (.aload_n 0, 1) := by decide +kernel
theorem dX9_readWord_119 : decode cX9_readWord 119 = .ok (.iload_n 1, 1) := by decide +kernel
theorem dX9_readWord_120 : decode cX9_readWord 120 = .ok (.putfield 59, 3) := by decide +kernel
theorem dX9_readWord_123 : decode cX9_readWord 123 = .ok (.iinc 1 1, 3) := by decide +kernel
theorem dX9_readWord_126 : decode cX9_readWord 126 = .ok (.goto (-37), 3) := by decide +kernel
theorem dX9_readWord_129 : decode cX9_readWord 129 = .ok (.return_, 1) := by decide +kernel
theorem dX9_withLetter_0 : decode cX9_withLetter 0 = .ok (.lload_n 0, 1) := by decide +kernel
theorem dX9_withLetter_1 : decode cX9_withLetter 1 = .ok (.ldc2_w 50, 3) := by decide +kernel
theorem dX9_withLetter_4 : decode cX9_withLetter 4 = .ok (.lmul, 1) := by decide +kernel
theorem dX9_withLetter_5 : decode cX9_withLetter 5 = .ok (.iload_n 2, 1) := by decide +kernel
theorem dX9_withLetter_6 : decode cX9_withLetter 6 = .ok (.bipush 97, 2) := by decide +kernel
theorem dX9_withLetter_8 : decode cX9_withLetter 8 = .ok (.isub, 1) := by decide +kernel
theorem dX9_withLetter_9 : decode cX9_withLetter 9 = .ok (.iconst 1, 1) := by decide +kernel
theorem dX9_withLetter_10 : decode cX9_withLetter 10 = .ok (.iadd, 1) := by decide +kernel
theorem dX9_withLetter_11 : decode cX9_withLetter 11 = .ok (.i2l, 1) := by decide +kernel
theorem dX9_withLetter_12 : decode cX9_withLetter 12 = .ok (.ladd, 1) := by decide +kernel
theorem dX9_withLetter_13 : decode cX9_withLetter 13 = .ok (.lreturn, 1) := by decide +kernel
