theorem dJ11_isValidCodePoint_9a6ad_0 : decode cJ11_isValidCodePoint_9a6ad 0 = .ok (.iload_n 0, 1) := by decide +kernel
theorem dJ11_isValidCodePoint_9a6ad_1 : decode cJ11_isValidCodePoint_9a6ad 1 = .ok (.bipush 16, 2) := by decide +kernel
theorem dJ11_isValidCodePoint_9a6ad_3 : decode cJ11_isValidCodePoint_9a6ad 3 = .ok (.iushr, 1) := by decide +kernel
theorem dJ11_isValidCodePoint_9a6ad_4 : decode cJ11_isValidCodePoint_9a6ad 4 = .ok (.istore_n 1, 1) := by decide +kernel
theorem dJ11_isValidCodePoint_9a6ad_5 : decode cJ11_isValidCodePoint_9a6ad 5 = .ok (.iload_n 1, 1) := by decide +kernel
theorem dJ11_isValidCodePoint_9a6ad_6 : decode cJ11_isValidCodePoint_9a6ad 6 = .ok (.bipush 17, 2) := by decide +kernel
theorem dJ11_isValidCodePoint_9a6ad_8 : decode cJ11_isValidCodePoint_9a6ad 8 = .ok (.if_icmp .ge 7, 3) := by decide +kernel
theorem dJ11_isValidCodePoint_9a6ad_11 : decode cJ11_isValidCodePoint_9a6ad 11 = .ok (.iconst 1, 1) := by decide +kernel
theorem dJ11_isValidCodePoint_9a6ad_12 : decode cJ11_isValidCodePoint_9a6ad 12 = .ok (.goto 4, 3) := by decide +kernel
theorem dJ11_isValidCodePoint_9a6ad_15 : decode cJ11_isValidCodePoint_9a6ad 15 = .ok (.iconst 0, 1) := by decide +kernel
theorem dJ11_isValidCodePoint_9a6ad_16 : decode cJ11_isValidCodePoint_9a6ad 16 = .ok (.ireturn, 1) := by decide +kernel
theorem dJ11_highSurrogate_5068e_0 : decode cJ11_highSurrogate_5068e 0 = .ok (.iload_n 0, 1) := by decide +kernel
theorem dJ11_highSurrogate_5068e_1 : decode cJ11_highSurrogate_5068e 1 = .ok (.bipush 10, 2) := by decide +kernel
theorem dJ11_highSurrogate_5068e_3 : decode cJ11_highSurrogate_5068e 3 = .ok (.iushr, 1) := by decide +kernel
theorem dJ11_highSurrogate_5068e_4 : decode cJ11_highSurrogate_5068e 4 = .ok (.ldc 110, 2) := by decide +kernel
theorem dJ11_highSurrogate_5068e_6 : decode cJ11_highSurrogate_5068e 6 = .ok (.iadd, 1) := by decide +kernel
theorem dJ11_highSurrogate_5068e_7 : decode cJ11_highSurrogate_5068e 7 = .ok (.i2c, 1) := by decide +kernel
theorem dJ11_highSurrogate_5068e_8 : decode cJ11_highSurrogate_5068e 8 = .ok (.ireturn, 1) := by decide +kernel
theorem dJ11_lowSurrogate_5068e_0 : decode cJ11_lowSurrogate_5068e 0 = .ok (.iload_n 0, 1) := by decide +kernel
theorem dJ11_lowSurrogate_5068e_1 : decode cJ11_lowSurrogate_5068e 1 = .ok (.sipush 1023, 3) := by decide +kernel
theorem dJ11_lowSurrogate_5068e_4 : decode cJ11_lowSurrogate_5068e 4 = .ok (.iand, 1) := by decide +kernel
theorem dJ11_lowSurrogate_5068e_5 : decode cJ11_lowSurrogate_5068e 5 = .ok (.ldc 76, 2) := by decide +kernel
theorem dJ11_lowSurrogate_5068e_7 : decode cJ11_lowSurrogate_5068e 7 = .ok (.iadd, 1) := by decide +kernel
theorem dJ11_lowSurrogate_5068e_8 : decode cJ11_lowSurrogate_5068e 8 = .ok (.i2c, 1) := by decide +kernel
theorem dJ11_lowSurrogate_5068e_9 : decode cJ11_lowSurrogate_5068e 9 = .ok (.ireturn, 1) := by decide +kernel
theorem dJ9_floorMod_7cf53_0 : decode cJ9_floorMod_7cf53 0 = .ok (.iload_n 0, 1) := by decide +kernel
theorem dJ9_floorMod_7cf53_1 : decode cJ9_floorMod_7cf53 1 = .ok (.iload_n 1, 1) := by decide +kernel
theorem dJ9_floorMod_7cf53_2 : decode cJ9_floorMod_7cf53 2 = .ok (.irem, 1) := by decide +kernel
theorem dJ9_floorMod_7cf53_3 : decode cJ9_floorMod_7cf53 3 = .ok (.istore_n 2, 1) := by decide +kernel
theorem dJ9_floorMod_7cf53_4 : decode cJ9_floorMod_7cf53 4 = .ok (.iload_n 0, 1) := by decide +kernel
theorem dJ9_floorMod_7cf53_5 : decode cJ9_floorMod_7cf53 5 = .ok (.iload_n 1, 1) := by decide +kernel
theorem dJ9_floorMod_7cf53_6 : decode cJ9_floorMod_7cf53 6 = .ok (.ixor, 1) := by decide +kernel
theorem dJ9_floorMod_7cf53_7 : decode cJ9_floorMod_7cf53 7 = .ok (.ifCond .ge 11, 3) := by decide +kernel
theorem dJ9_floorMod_7cf53_10 : decode cJ9_floorMod_7cf53 10 = .ok (.iload_n 2, 1) := by decide +kernel
theorem dJ9_floorMod_7cf53_11 : decode cJ9_floorMod_7cf53 11 = .ok (.ifCond .eq 7, 3) := by decide +kernel
theorem dJ9_floorMod_7cf53_14 : decode cJ9_floorMod_7cf53 14 = .ok (.iload_n 2, 1) := by decide +kernel
theorem dJ9_floorMod_7cf53_15 : decode cJ9_floorMod_7cf53 15 = .ok (.iload_n 1, 1) := by decide +kernel
theorem dJ9_floorMod_7cf53_16 : decode cJ9_floorMod_7cf53 16 = .ok (.iadd, 1) := by decide +kernel
theorem dJ9_floorMod_7cf53_17 : decode cJ9_floorMod_7cf53 17 = .ok (.ireturn, 1) := by decide +kernel
theorem dJ9_floorMod_7cf53_18 : decode cJ9_floorMod_7cf53 18 = .ok (.iload_n 2, 1) := by decide +kernel
theorem dJ9_floorMod_7cf53_19 : decode cJ9_floorMod_7cf53 19 = .ok (.ireturn, 1) := by decide +kernel
theorem dJ9_max_7cf53_0 : decode cJ9_max_7cf53 0 = .ok (.iload_n 0, 1) := by decide +kernel
theorem dJ9_max_7cf53_1 : decode cJ9_max_7cf53 1 = .ok (.iload_n 1, 1) := by decide +kernel
theorem dJ9_max_7cf53_2 : decode cJ9_max_7cf53 2 = .ok (.if_icmp .lt 7, 3) := by decide +kernel
theorem dJ9_max_7cf53_5 : decode cJ9_max_7cf53 5 = .ok (.iload_n 0, 1) := by decide +kernel
theorem dJ9_max_7cf53_6 : decode cJ9_max_7cf53 6 = .ok (.goto 4, 3) := by decide +kernel
theorem dJ9_max_7cf53_9 : decode cJ9_max_7cf53 9 = .ok (.iload_n 1, 1) := by decide +kernel
theorem dJ9_max_7cf53_10 : decode cJ9_max_7cf53 10 = .ok (.ireturn, 1) := by decide +kernel
theorem dJ9_max_f86c9_0 : decode cJ9_max_f86c9 0 = .ok (.lload_n 0, 1) := by decide +kernel
theorem dJ9_max_f86c9_1 : decode cJ9_max_f86c9 1 = .ok (.lload_n 2, 1) := by decide +kernel
theorem dJ9_max_f86c9_2 : decode cJ9_max_f86c9 2 = .ok (.lcmp, 1) := by decide +kernel
theorem dJ9_max_f86c9_3 : decode cJ9_max_f86c9 3 = .ok (.ifCond .lt 7, 3) := by decide +kernel
theorem dJ9_max_f86c9_6 : decode cJ9_max_f86c9 6 = .ok (.lload_n 0, 1) := by decide +kernel
theorem dJ9_max_f86c9_7 : decode cJ9_max_f86c9 7 = .ok (.goto 4, 3) := by decide +kernel
theorem dJ9_max_f86c9_10 : decode cJ9_max_f86c9 10 = .ok (.lload_n 2, 1) := by decide +kernel
theorem dJ9_max_f86c9_11 : decode cJ9_max_f86c9 11 = .ok (.lreturn, 1) := by decide +kernel
theorem dJ9_min_7cf53_0 : decode cJ9_min_7cf53 0 = .ok (.iload_n 0, 1) := by decide +kernel
theorem dJ9_min_7cf53_1 : decode cJ9_min_7cf53 1 = .ok (.iload_n 1, 1) := by decide +kernel
theorem dJ9_min_7cf53_2 : decode cJ9_min_7cf53 2 = .ok (.if_icmp .gt 7, 3) := by decide +kernel
theorem dJ9_min_7cf53_5 : decode cJ9_min_7cf53 5 = .ok (.iload_n 0, 1) := by decide +kernel
theorem dJ9_min_7cf53_6 : decode cJ9_min_7cf53 6 = .ok (.goto 4, 3) := by decide +kernel
theorem dJ9_min_7cf53_9 : decode cJ9_min_7cf53 9 = .ok (.iload_n 1, 1) := by decide +kernel
theorem dJ9_min_7cf53_10 : decode cJ9_min_7cf53 10 = .ok (.ireturn, 1) := by decide +kernel
theorem dJ9_min_f86c9_0 : decode cJ9_min_f86c9 0 = .ok (.lload_n 0, 1) := by decide +kernel
theorem dJ9_min_f86c9_1 : decode cJ9_min_f86c9 1 = .ok (.lload_n 2, 1) := by decide +kernel
theorem dJ9_min_f86c9_2 : decode cJ9_min_f86c9 2 = .ok (.lcmp, 1) := by decide +kernel
theorem dJ9_min_f86c9_3 : decode cJ9_min_f86c9 3 = .ok (.ifCond .gt 7, 3) := by decide +kernel
theorem dJ9_min_f86c9_6 : decode cJ9_min_f86c9 6 = .ok (.lload_n 0, 1) := by decide +kernel
theorem dJ9_min_f86c9_7 : decode cJ9_min_f86c9 7 = .ok (.goto 4, 3) := by decide +kernel
theorem dJ9_min_f86c9_10 : decode cJ9_min_f86c9 10 = .ok (.lload_n 2, 1) := by decide +kernel
theorem dJ9_min_f86c9_11 : decode cJ9_min_f86c9 11 = .ok (.lreturn, 1) := by decide +kernel
theorem dJ0_length_8abf5_0 : decode cJ0_length_8abf5 0 = .ok (.aload_n 0, 1) := by decide +kernel
theorem dJ0_length_8abf5_1 : decode cJ0_length_8abf5 1 = .ok (.getfield 9, 3) := by decide +kernel
theorem dJ0_length_8abf5_4 : decode cJ0_length_8abf5 4 = .ok (.arraylength, 1) := by decide +kernel
theorem dJ0_length_8abf5_5 : decode cJ0_length_8abf5 5 = .ok (.aload_n 0, 1) := by decide +kernel
theorem dJ0_length_8abf5_6 : decode cJ0_length_8abf5 6 = .ok (.invokevirtual 335, 3) := by decide +kernel
theorem dJ0_length_8abf5_9 : decode cJ0_length_8abf5 9 = .ok (.ishr, 1) := by decide +kernel
theorem dJ0_length_8abf5_10 : decode cJ0_length_8abf5 10 = .ok (.ireturn, 1) := by decide +kernel
theorem dJ0_charAt_5068e_0 : decode cJ0_charAt_5068e 0 = .ok (.aload_n 0, 1) := by decide +kernel
theorem dJ0_charAt_5068e_1 : decode cJ0_charAt_5068e 1 = .ok (.invokevirtual 492, 3) := by decide +kernel
theorem dJ0_charAt_5068e_4 : decode cJ0_charAt_5068e 4 = .ok (.ifCond .eq 12, 3) := by decide +kernel
theorem dJ0_charAt_5068e_7 : decode cJ0_charAt_5068e 7 = .ok (.aload_n 0, 1) := by decide +kernel
theorem dJ0_charAt_5068e_8 : decode cJ0_charAt_5068e 8 = .ok (.getfield 9, 3) := by decide +kernel
theorem dJ0_charAt_5068e_11 : decode cJ0_charAt_5068e 11 = .ok (.iload_n 1, 1) := by decide +kernel
theorem dJ0_charAt_5068e_12 : decode cJ0_charAt_5068e 12 = .ok (.invokestatic 495, 3) := by decide +kernel
theorem dJ0_charAt_5068e_15 : decode cJ0_charAt_5068e 15 = .ok (.ireturn, 1) := by decide +kernel
theorem dJ0_charAt_5068e_16 : decode cJ0_charAt_5068e 16 = .ok (.aload_n 0, 1) := by decide +kernel
theorem dJ0_charAt_5068e_17 : decode cJ0_charAt_5068e 17 = .ok (.getfield 9, 3) := by decide +kernel
theorem dJ0_charAt_5068e_20 : decode cJ0_charAt_5068e 20 = .ok (.iload_n 1, 1) := by decide +kernel
theorem dJ0_charAt_5068e_21 : decode cJ0_charAt_5068e 21 = .ok (.invokestatic 498, 3) := by decide +kernel
theorem dJ0_charAt_5068e_24 : decode cJ0_charAt_5068e 24 = .ok (.ireturn, 1) := by decide +kernel
theorem dJ0_indexOf_0f7a4_0 : decode cJ0_indexOf_0f7a4 0 = .ok (.aload_n 0, 1) := by decide +kernel
theorem dJ0_indexOf_0f7a4_1 : decode cJ0_indexOf_0f7a4 1 = .ok (.iload_n 1, 1) := by decide +kernel
theorem dJ0_indexOf_0f7a4_2 : decode cJ0_indexOf_0f7a4 2 = .ok (.iconst 0, 1) := by decide +kernel
theorem dJ0_indexOf_0f7a4_3 : decode cJ0_indexOf_0f7a4 3 = .ok (.invokevirtual 633, 3) := by decide +kernel
theorem dJ0_indexOf_0f7a4_6 : decode cJ0_indexOf_0f7a4 6 = .ok (.ireturn, 1) := by decide +kernel
theorem dJ0_indexOf_7cf53_0 : decode cJ0_indexOf_7cf53 0 = .ok (.aload_n 0, 1) := by decide +kernel
theorem dJ0_indexOf_7cf53_1 : decode cJ0_indexOf_7cf53 1 = .ok (.invokevirtual 492, 3) := by decide +kernel
theorem dJ0_indexOf_7cf53_4 : decode cJ0_indexOf_7cf53 4 = .ok (.ifCond .eq 19, 3) := by decide +kernel
theorem dJ0_indexOf_7cf53_7 : decode cJ0_indexOf_7cf53 7 = .ok (.aload_n 0, 1) := by decide +kernel
theorem dJ0_indexOf_7cf53_8 : decode cJ0_indexOf_7cf53 8 = .ok (.getfield 9, 3) := by decide +kernel
theorem dJ0_indexOf_7cf53_11 : decode cJ0_indexOf_7cf53 11 = .ok (.iload_n 1, 1) := by decide +kernel
theorem dJ0_indexOf_7cf53_12 : decode cJ0_indexOf_7cf53 12 = .ok (.iload_n 2, 1) := by decide +kernel
theorem dJ0_indexOf_7cf53_13 : decode cJ0_indexOf_7cf53 13 = .ok (.aload_n 0, 1) := by decide +kernel
theorem dJ0_indexOf_7cf53_14 : decode cJ0_indexOf_7cf53 14 = .ok (.invokevirtual 505, 3) := by decide +kernel
theorem dJ0_indexOf_7cf53_17 : decode cJ0_indexOf_7cf53 17 = .ok (.invokestatic 637, 3) := by decide +kernel
theorem dJ0_indexOf_7cf53_20 : decode cJ0_indexOf_7cf53 20 = .ok (.goto 16, 3) := by decide +kernel
theorem dJ0_indexOf_7cf53_23 : decode cJ0_indexOf_7cf53 23 = .ok (.aload_n 0, 1) := by decide +kernel
theorem dJ0_indexOf_7cf53_24 : decode cJ0_indexOf_7cf53 24 = .ok (.getfield 9, 3) := by decide +kernel
theorem dJ0_indexOf_7cf53_27 : decode cJ0_indexOf_7cf53 27 = .ok (.iload_n 1, 1) := by decide +kernel
theorem dJ0_indexOf_7cf53_28 : decode cJ0_indexOf_7cf53 28 = .ok (.iload_n 2, 1) := by decide +kernel
theorem dJ0_indexOf_7cf53_29 : decode cJ0_indexOf_7cf53 29 = .ok (.aload_n 0, 1) := by decide +kernel
theorem dJ0_indexOf_7cf53_30 : decode cJ0_indexOf_7cf53 30 = .ok (.invokevirtual 505, 3) := by decide +kernel
theorem dJ0_indexOf_7cf53_33 : decode cJ0_indexOf_7cf53 33 = .ok (.invokestatic 640, 3) := by decide +kernel
theorem dJ0_indexOf_7cf53_36 : decode cJ0_indexOf_7cf53 36 = .ok (.ireturn, 1) := by decide +kernel
theorem dJ0_coder_7d493_0 : decode cJ0_coder_7d493 0 = .ok (.getstatic 38, 3) := by decide +kernel
theorem dJ0_coder_7d493_3 : decode cJ0_coder_7d493 3 = .ok (.ifCond .eq 10, 3) := by decide +kernel
theorem dJ0_coder_7d493_6 : decode cJ0_coder_7d493 6 = .ok (.aload_n 0, 1) := by decide +kernel
theorem dJ0_coder_7d493_7 : decode cJ0_coder_7d493 7 = .ok (.getfield 15, 3) := by decide +kernel
theorem dJ0_coder_7d493_10 : decode cJ0_coder_7d493 10 = .ok (.goto 4, 3) := by decide +kernel
theorem dJ0_coder_7d493_13 : decode cJ0_coder_7d493 13 = .ok (.iconst 1, 1) := by decide +kernel
theorem dJ0_coder_7d493_14 : decode cJ0_coder_7d493 14 = .ok (.ireturn, 1) := by decide +kernel
theorem dJ0_isLatin1_aae02_0 : decode cJ0_isLatin1_aae02 0 = .ok (.getstatic 38, 3) := by decide +kernel
theorem dJ0_isLatin1_aae02_3 : decode cJ0_isLatin1_aae02 3 = .ok (.ifCond .eq 14, 3) := by decide +kernel
theorem dJ0_isLatin1_aae02_6 : decode cJ0_isLatin1_aae02 6 = .ok (.aload_n 0, 1) := by decide +kernel
theorem dJ0_isLatin1_aae02_7 : decode cJ0_isLatin1_aae02 7 = .ok (.getfield 15, 3) := by decide +kernel
theorem dJ0_isLatin1_aae02_10 : decode cJ0_isLatin1_aae02 10 = .ok (.ifCond .ne 7, 3) := by decide +kernel
theorem dJ0_isLatin1_aae02_13 : decode cJ0_isLatin1_aae02 13 = .ok (.iconst 1, 1) := by decide +kernel
theorem dJ0_isLatin1_aae02_14 : decode cJ0_isLatin1_aae02 14 = .ok (.goto 4, 3) := by decide +kernel
theorem dJ0_isLatin1_aae02_17 : decode cJ0_isLatin1_aae02 17 = .ok (.iconst 0, 1) := by decide +kernel
theorem dJ0_isLatin1_aae02_18 : decode cJ0_isLatin1_aae02 18 = .ok (.ireturn, 1) := by decide +kernel
theorem dJ0_checkIndex_df160_0 : decode cJ0_checkIndex_df160 0 = .ok (.iload_n 0, 1) := by decide +kernel
theorem dJ0_checkIndex_df160_1 : decode cJ0_checkIndex_df160 1 = .ok (.iload_n 1, 1) := by decide +kernel
theorem dJ0_checkIndex_df160_2 : decode cJ0_checkIndex_df160 2 = .ok (.getstatic 1053, 3) := by decide +kernel
theorem dJ0_checkIndex_df160_5 : decode cJ0_checkIndex_df160 5 = .ok (.invokestatic 1059, 3) := by decide +kernel
theorem dJ0_checkIndex_df160_8 : decode cJ0_checkIndex_df160 8 = .ok (.pop, 1) := by decide +kernel
theorem dJ0_checkIndex_df160_9 : decode cJ0_checkIndex_df160 9 = .ok (.return_, 1) := by decide +kernel
theorem dJ0_checkBoundsBeginEnd_23922_0 : decode cJ0_checkBoundsBeginEnd_23922 0 = .ok (.iload_n 0, 1) := by decide +kernel
theorem dJ0_checkBoundsBeginEnd_23922_1 : decode cJ0_checkBoundsBeginEnd_23922 1 = .ok (.iload_n 1, 1) := by decide +kernel
theorem dJ0_checkBoundsBeginEnd_23922_2 : decode cJ0_checkBoundsBeginEnd_23922 2 = .ok (.iload_n 2, 1) := by decide +kernel
theorem dJ0_checkBoundsBeginEnd_23922_3 : decode cJ0_checkBoundsBeginEnd_23922 3 = .ok (.getstatic 1053, 3) := by decide +kernel
theorem dJ0_checkBoundsBeginEnd_23922_6 : decode cJ0_checkBoundsBeginEnd_23922 6 = .ok (.invokestatic 1062, 3) := by decide +kernel
theorem dJ0_checkBoundsBeginEnd_23922_9 : decode cJ0_checkBoundsBeginEnd_23922 9 = .ok (.pop, 1) := by decide +kernel
theorem dJ0_checkBoundsBeginEnd_23922_10 : decode cJ0_checkBoundsBeginEnd_23922 10 = .ok (.return_, 1) := by decide +kernel
theorem dJ1_charAt_3b067_0 : decode cJ1_charAt_3b067 0 = .ok (.iload_n 1, 1) := by decide +kernel
theorem dJ1_charAt_3b067_1 : decode cJ1_charAt_3b067 1 = .ok (.aload_n 0, 1) := by decide +kernel
theorem dJ1_charAt_3b067_2 : decode cJ1_charAt_3b067 2 = .ok (.arraylength, 1) := by decide +kernel
theorem dJ1_charAt_3b067_3 : decode cJ1_charAt_3b067 3 = .ok (.invokestatic 9, 3) := by decide +kernel
theorem dJ1_charAt_3b067_6 : decode cJ1_charAt_3b067 6 = .ok (.aload_n 0, 1) := by decide +kernel
theorem dJ1_charAt_3b067_7 : decode cJ1_charAt_3b067 7 = .ok (.iload_n 1, 1) := by decide +kernel
theorem dJ1_charAt_3b067_8 : decode cJ1_charAt_3b067 8 = .ok (.baload, 1) := by decide +kernel
theorem dJ1_charAt_3b067_9 : decode cJ1_charAt_3b067 9 = .ok (.sipush 255, 3) := by decide +kernel
theorem dJ1_charAt_3b067_12 : decode cJ1_charAt_3b067 12 = .ok (.iand, 1) := by decide +kernel
theorem dJ1_charAt_3b067_13 : decode cJ1_charAt_3b067 13 = .ok (.i2c, 1) := by decide +kernel
theorem dJ1_charAt_3b067_14 : decode cJ1_charAt_3b067 14 = .ok (.ireturn, 1) := by decide +kernel
theorem dJ1_canEncode_9a6ad_0 : decode cJ1_canEncode_9a6ad 0 = .ok (.iload_n 0, 1) := by decide +kernel
theorem dJ1_canEncode_9a6ad_1 : decode cJ1_canEncode_9a6ad 1 = .ok (.ifCond .lt 14, 3) := by decide +kernel
theorem dJ1_canEncode_9a6ad_4 : decode cJ1_canEncode_9a6ad 4 = .ok (.iload_n 0, 1) := by decide +kernel
theorem dJ1_canEncode_9a6ad_5 : decode cJ1_canEncode_9a6ad 5 = .ok (.sipush 255, 3) := by decide +kernel
theorem dJ1_canEncode_9a6ad_8 : decode cJ1_canEncode_9a6ad 8 = .ok (.if_icmp .gt 7, 3) := by decide +kernel
theorem dJ1_canEncode_9a6ad_11 : decode cJ1_canEncode_9a6ad 11 = .ok (.iconst 1, 1) := by decide +kernel
theorem dJ1_canEncode_9a6ad_12 : decode cJ1_canEncode_9a6ad 12 = .ok (.goto 4, 3) := by decide +kernel
theorem dJ1_canEncode_9a6ad_15 : decode cJ1_canEncode_9a6ad 15 = .ok (.iconst 0, 1) := by decide +kernel
theorem dJ1_canEncode_9a6ad_16 : decode cJ1_canEncode_9a6ad 16 = .ok (.ireturn, 1) := by decide +kernel
theorem dJ1_indexOf_4cfef_0 : decode cJ1_indexOf_4cfef 0 = .ok (.iload_n 1, 1) := by decide +kernel
theorem dJ1_indexOf_4cfef_1 : decode cJ1_indexOf_4cfef 1 = .ok (.invokestatic 88, 3) := by decide +kernel
theorem dJ1_indexOf_4cfef_4 : decode cJ1_indexOf_4cfef 4 = .ok (.ifCond .ne 5, 3) := by decide +kernel
theorem dJ1_indexOf_4cfef_7 : decode cJ1_indexOf_4cfef 7 = .ok (.iconst (-1), 1) := by decide +kernel
theorem dJ1_indexOf_4cfef_8 : decode cJ1_indexOf_4cfef 8 = .ok (.ireturn, 1) := by decide +kernel
theorem dJ1_indexOf_4cfef_9 : decode cJ1_indexOf_4cfef 9 = .ok (.iload_n 2, 1) := by decide +kernel
theorem dJ1_indexOf_4cfef_10 : decode cJ1_indexOf_4cfef 10 = .ok (.iconst 0, 1) := by decide +kernel
theorem dJ1_indexOf_4cfef_11 : decode cJ1_indexOf_4cfef 11 = .ok (.invokestatic 92, 3) := by decide +kernel
theorem dJ1_indexOf_4cfef_14 : decode cJ1_indexOf_4cfef 14 = .ok (.istore_n 2, 1) := by decide +kernel
theorem dJ1_indexOf_4cfef_15 : decode cJ1_indexOf_4cfef 15 = .ok (.iload_n 3, 1) := by decide +kernel
theorem dJ1_indexOf_4cfef_16 : decode cJ1_indexOf_4cfef 16 = .ok (.aload_n 0, 1) := by decide +kernel
theorem dJ1_indexOf_4cfef_17 : decode cJ1_indexOf_4cfef 17 = .ok (.arraylength, 1) := by decide +kernel
theorem dJ1_indexOf_4cfef_18 : decode cJ1_indexOf_4cfef 18 = .ok (.invokestatic 38, 3) := by decide +kernel
theorem dJ1_indexOf_4cfef_21 : decode cJ1_indexOf_4cfef 21 = .ok (.istore_n 3, 1) := by decide +kernel
theorem dJ1_indexOf_4cfef_22 : decode cJ1_indexOf_4cfef 22 = .ok (.iload_n 2, 1) := by decide +kernel
theorem dJ1_indexOf_4cfef_23 : decode cJ1_indexOf_4cfef 23 = .ok (.iload_n 3, 1) := by decide +kernel
theorem dJ1_indexOf_4cfef_24 : decode cJ1_indexOf_4cfef 24 = .ok (.if_icmp .lt 5, 3) := by decide +kernel
theorem dJ1_indexOf_4cfef_27 : decode cJ1_indexOf_4cfef 27 = .ok (.iconst (-1), 1) := by decide +kernel
theorem dJ1_indexOf_4cfef_28 : decode cJ1_indexOf_4cfef 28 = .ok (.ireturn, 1) := by decide +kernel
theorem dJ1_indexOf_4cfef_29 : decode cJ1_indexOf_4cfef 29 = .ok (.aload_n 0, 1) := by decide +kernel
theorem dJ1_indexOf_4cfef_30 : decode cJ1_indexOf_4cfef 30 = .ok (.iload_n 1, 1) := by decide +kernel
theorem dJ1_indexOf_4cfef_31 : decode cJ1_indexOf_4cfef 31 = .ok (.iload_n 2, 1) := by decide +kernel
theorem dJ1_indexOf_4cfef_32 : decode cJ1_indexOf_4cfef 32 = .ok (.iload_n 3, 1) := by decide +kernel
theorem dJ1_indexOf_4cfef_33 : decode cJ1_indexOf_4cfef 33 = .ok (.invokestatic 95, 3) := by decide +kernel
theorem dJ1_indexOf_4cfef_36 : decode cJ1_indexOf_4cfef 36 = .ok (.ireturn, 1) := by decide +kernel
theorem dJ1_indexOfChar_4cfef_0 : decode cJ1_indexOfChar_4cfef 0 = .ok (.iload_n 1, 1) := by decide +kernel
theorem dJ1_indexOfChar_4cfef_1 : decode cJ1_indexOfChar_4cfef 1 = .ok (.i2b, 1) := by decide +kernel
theorem dJ1_indexOfChar_4cfef_2 : decode cJ1_indexOfChar_4cfef 2 = .ok (.istore 4, 2) := by decide +kernel
theorem dJ1_indexOfChar_4cfef_4 : decode cJ1_indexOfChar_4cfef 4 = .ok (.iload_n 2, 1) := by decide +kernel
theorem dJ1_indexOfChar_4cfef_5 : decode cJ1_indexOfChar_4cfef 5 = .ok (.istore 5, 2) := by decide +kernel
theorem dJ1_indexOfChar_4cfef_7 : decode cJ1_indexOfChar_4cfef 7 = .ok (.iload 5, 2) := by decide +kernel
theorem dJ1_indexOfChar_4cfef_9 : decode cJ1_indexOfChar_4cfef 9 = .ok (.iload_n 3, 1) := by decide +kernel
theorem dJ1_indexOfChar_4cfef_10 : decode cJ1_indexOfChar_4cfef 10 = .ok (.if_icmp .ge 21, 3) := by decide +kernel
theorem dJ1_indexOfChar_4cfef_13 : decode cJ1_indexOfChar_4cfef 13 = .ok (.aload_n 0, 1) := by decide +kernel
theorem dJ1_indexOfChar_4cfef_14 : decode cJ1_indexOfChar_4cfef 14 = .ok (.iload 5, 2) := by decide +kernel
theorem dJ1_indexOfChar_4cfef_16 : decode cJ1_indexOfChar_4cfef 16 = .ok (.baload, 1) := by decide +kernel
theorem dJ1_indexOfChar_4cfef_17 : decode cJ1_indexOfChar_4cfef 17 = .ok (.iload 4, 2) := by decide +kernel
theorem dJ1_indexOfChar_4cfef_19 : decode cJ1_indexOfChar_4cfef 19 = .ok (.if_icmp .ne 6, 3) := by decide +kernel
theorem dJ1_indexOfChar_4cfef_22 : decode cJ1_indexOfChar_4cfef 22 = .ok (.iload 5, 2) := by decide +kernel
theorem dJ1_indexOfChar_4cfef_24 : decode cJ1_indexOfChar_4cfef 24 = .ok (.ireturn, 1) := by decide +kernel
theorem dJ1_indexOfChar_4cfef_25 : decode cJ1_indexOfChar_4cfef 25 = .ok (.iinc 5 1, 3) := by decide +kernel
theorem dJ1_indexOfChar_4cfef_28 : decode cJ1_indexOfChar_4cfef 28 = .ok (.goto (-21), 3) := by decide +kernel
theorem dJ1_indexOfChar_4cfef_31 : decode cJ1_indexOfChar_4cfef 31 = .ok (.iconst (-1), 1) := by decide +kernel
theorem dJ1_indexOfChar_4cfef_32 : decode cJ1_indexOfChar_4cfef 32 = .ok (.ireturn, 1) := by decide +kernel
theorem dJ2_getChar_3b067_0 : decode cJ2_getChar_3b067 0 = .ok (.getstatic 44, 3) := by decide +kernel
theorem dJ2_getChar_3b067_3 : decode cJ2_getChar_3b067 3 = .ok (.ifCond .ne 25, 3) := by decide +kernel
theorem dJ2_getChar_3b067_6 : decode cJ2_getChar_3b067 6 = .ok (.iload_n 1, 1) := by decide +kernel
theorem dJ2_getChar_3b067_7 : decode cJ2_getChar_3b067 7 = .ok (.ifCond .lt 11, 3) := by decide +kernel
theorem dJ2_getChar_3b067_10 : decode cJ2_getChar_3b067 10 = .ok (.iload_n 1, 1) := by decide +kernel
theorem dJ2_getChar_3b067_11 : decode cJ2_getChar_3b067 11 = .ok (.aload_n 0, 1) := by decide +kernel
theorem dJ2_getChar_3b067_12 : decode cJ2_getChar_3b067 12 = .ok (.invokestatic 48, 3) := by decide +kernel
theorem dJ2_getChar_3b067_15 : decode cJ2_getChar_3b067 15 = .ok (.if_icmp .lt 13, 3) := by decide +kernel
theorem dJ2_getChar_3b067_18 : decode cJ2_getChar_3b067 18 = .ok (.new 52, 3) := by decide +kernel
theorem dJ2_getChar_3b067_21 : decode cJ2_getChar_3b067 21 = .ok (.dup, 1) := by decide +kernel
theorem dJ2_getChar_3b067_22 : decode cJ2_getChar_3b067 22 = .ok (.ldc 54, 2) := by decide +kernel
theorem dJ2_getChar_3b067_24 : decode cJ2_getChar_3b067 24 = .ok (.invokespecial 56, 3) := by decide +kernel
theorem dJ2_getChar_3b067_27 : decode cJ2_getChar_3b067 27 = .ok (.athrow, 1) := by decide +kernel
theorem dJ2_getChar_3b067_28 : decode cJ2_getChar_3b067 28 = .ok (.iload_n 1, 1) := by decide +kernel
theorem dJ2_getChar_3b067_29 : decode cJ2_getChar_3b067 29 = .ok (.iconst 1, 1) := by decide +kernel
theorem dJ2_getChar_3b067_30 : decode cJ2_getChar_3b067 30 = .ok (.ishl, 1) := by decide +kernel
theorem dJ2_getChar_3b067_31 : decode cJ2_getChar_3b067 31 = .ok (.istore_n 1, 1) := by decide +kernel
theorem dJ2_getChar_3b067_32 : decode cJ2_getChar_3b067 32 = .ok (.aload_n 0, 1) := by decide +kernel
theorem dJ2_getChar_3b067_33 : decode cJ2_getChar_3b067 33 = .ok (.iload_n 1, 1) := by decide +kernel
theorem dJ2_getChar_3b067_34 : decode cJ2_getChar_3b067 34 = .ok (.iinc 1 1, 3) := by decide +kernel
theorem dJ2_getChar_3b067_37 : decode cJ2_getChar_3b067 37 = .ok (.baload, 1) := by decide +kernel
theorem dJ2_getChar_3b067_38 : decode cJ2_getChar_3b067 38 = .ok (.sipush 255, 3) := by decide +kernel
theorem dJ2_getChar_3b067_41 : decode cJ2_getChar_3b067 41 = .ok (.iand, 1) := by decide +kernel
theorem dJ2_getChar_3b067_42 : decode cJ2_getChar_3b067 42 = .ok (.getstatic 59, 3) := by decide +kernel
theorem dJ2_getChar_3b067_45 : decode cJ2_getChar_3b067 45 = .ok (.ishl, 1) := by decide +kernel
theorem dJ2_getChar_3b067_46 : decode cJ2_getChar_3b067 46 = .ok (.aload_n 0, 1) := by decide +kernel
theorem dJ2_getChar_3b067_47 : decode cJ2_getChar_3b067 47 = .ok (.iload_n 1, 1) := by decide +kernel
theorem dJ2_getChar_3b067_48 : decode cJ2_getChar_3b067 48 = .ok (.baload, 1) := by decide +kernel
theorem dJ2_getChar_3b067_49 : decode cJ2_getChar_3b067 49 = .ok (.sipush 255, 3) := by decide +kernel
theorem dJ2_getChar_3b067_52 : decode cJ2_getChar_3b067 52 = .ok (.iand, 1) := by decide +kernel
theorem dJ2_getChar_3b067_53 : decode cJ2_getChar_3b067 53 = .ok (.getstatic 63, 3) := by decide +kernel
theorem dJ2_getChar_3b067_56 : decode cJ2_getChar_3b067 56 = .ok (.ishl, 1) := by decide +kernel
theorem dJ2_getChar_3b067_57 : decode cJ2_getChar_3b067 57 = .ok (.ior, 1) := by decide +kernel
theorem dJ2_getChar_3b067_58 : decode cJ2_getChar_3b067 58 = .ok (.i2c, 1) := by decide +kernel
theorem dJ2_getChar_3b067_59 : decode cJ2_getChar_3b067 59 = .ok (.ireturn, 1) := by decide +kernel
theorem dJ2_length_9d52b_0 : decode cJ2_length_9d52b 0 = .ok (.aload_n 0, 1) := by decide +kernel
theorem dJ2_length_9d52b_1 : decode cJ2_length_9d52b 1 = .ok (.arraylength, 1) := by decide +kernel
theorem dJ2_length_9d52b_2 : decode cJ2_length_9d52b 2 = .ok (.iconst 1, 1) := by decide +kernel
theorem dJ2_length_9d52b_3 : decode cJ2_length_9d52b 3 = .ok (.ishr, 1) := by decide +kernel
theorem dJ2_length_9d52b_4 : decode cJ2_length_9d52b 4 = .ok (.ireturn, 1) := by decide +kernel
theorem dJ2_indexOf_4cfef_0 : decode cJ2_indexOf_4cfef 0 = .ok (.iload_n 2, 1) := by decide +kernel
theorem dJ2_indexOf_4cfef_1 : decode cJ2_indexOf_4cfef 1 = .ok (.iconst 0, 1) := by decide +kernel
theorem dJ2_indexOf_4cfef_2 : decode cJ2_indexOf_4cfef 2 = .ok (.invokestatic 224, 3) := by decide +kernel
theorem dJ2_indexOf_4cfef_5 : decode cJ2_indexOf_4cfef 5 = .ok (.istore_n 2, 1) := by decide +kernel
theorem dJ2_indexOf_4cfef_6 : decode cJ2_indexOf_4cfef 6 = .ok (.iload_n 3, 1) := by decide +kernel
theorem dJ2_indexOf_4cfef_7 : decode cJ2_indexOf_4cfef 7 = .ok (.aload_n 0, 1) := by decide +kernel
theorem dJ2_indexOf_4cfef_8 : decode cJ2_indexOf_4cfef 8 = .ok (.arraylength, 1) := by decide +kernel
theorem dJ2_indexOf_4cfef_9 : decode cJ2_indexOf_4cfef 9 = .ok (.iconst 1, 1) := by decide +kernel
theorem dJ2_indexOf_4cfef_10 : decode cJ2_indexOf_4cfef 10 = .ok (.ishr, 1) := by decide +kernel
theorem dJ2_indexOf_4cfef_11 : decode cJ2_indexOf_4cfef 11 = .ok (.invokestatic 183, 3) := by decide +kernel
theorem dJ2_indexOf_4cfef_14 : decode cJ2_indexOf_4cfef 14 = .ok (.istore_n 3, 1) := by decide +kernel
theorem dJ2_indexOf_4cfef_15 : decode cJ2_indexOf_4cfef 15 = .ok (.iload_n 2, 1) := by decide +kernel
theorem dJ2_indexOf_4cfef_16 : decode cJ2_indexOf_4cfef 16 = .ok (.iload_n 3, 1) := by decide +kernel
theorem dJ2_indexOf_4cfef_17 : decode cJ2_indexOf_4cfef 17 = .ok (.if_icmp .lt 5, 3) := by decide +kernel
theorem dJ2_indexOf_4cfef_20 : decode cJ2_indexOf_4cfef 20 = .ok (.iconst (-1), 1) := by decide +kernel
theorem dJ2_indexOf_4cfef_21 : decode cJ2_indexOf_4cfef 21 = .ok (.ireturn, 1) := by decide +kernel
theorem dJ2_indexOf_4cfef_22 : decode cJ2_indexOf_4cfef 22 = .ok (.iload_n 1, 1) := by decide +kernel
theorem dJ2_indexOf_4cfef_23 : decode cJ2_indexOf_4cfef 23 = .ok (.ldc 227, 2) := by decide +kernel
theorem dJ2_indexOf_4cfef_25 : decode cJ2_indexOf_4cfef 25 = .ok (.if_icmp .ge 11, 3) := by decide +kernel
theorem dJ2_indexOf_4cfef_28 : decode cJ2_indexOf_4cfef 28 = .ok (.aload_n 0, 1) := by decide +kernel
theorem dJ2_indexOf_4cfef_29 : decode cJ2_indexOf_4cfef 29 = .ok (.iload_n 1, 1) := by decide +kernel
theorem dJ2_indexOf_4cfef_30 : decode cJ2_indexOf_4cfef 30 = .ok (.iload_n 2, 1) := by decide +kernel
theorem dJ2_indexOf_4cfef_31 : decode cJ2_indexOf_4cfef 31 = .ok (.iload_n 3, 1) := by decide +kernel
theorem dJ2_indexOf_4cfef_32 : decode cJ2_indexOf_4cfef 32 = .ok (.invokestatic 228, 3) := by decide +kernel
theorem dJ2_indexOf_4cfef_35 : decode cJ2_indexOf_4cfef 35 = .ok (.ireturn, 1) := by decide +kernel
theorem dJ2_indexOf_4cfef_36 : decode cJ2_indexOf_4cfef 36 = .ok (.aload_n 0, 1) := by decide +kernel
theorem dJ2_indexOf_4cfef_37 : decode cJ2_indexOf_4cfef 37 = .ok (.iload_n 1, 1) := by decide +kernel
theorem dJ2_indexOf_4cfef_38 : decode cJ2_indexOf_4cfef 38 = .ok (.iload_n 2, 1) := by decide +kernel
theorem dJ2_indexOf_4cfef_39 : decode cJ2_indexOf_4cfef 39 = .ok (.iload_n 3, 1) := by decide +kernel
theorem dJ2_indexOf_4cfef_40 : decode cJ2_indexOf_4cfef 40 = .ok (.invokestatic 232, 3) := by decide +kernel
theorem dJ2_indexOf_4cfef_43 : decode cJ2_indexOf_4cfef 43 = .ok (.ireturn, 1) := by decide +kernel
theorem dJ2_indexOfChar_4cfef_0 : decode cJ2_indexOfChar_4cfef 0 = .ok (.iload_n 2, 1) := by decide +kernel
theorem dJ2_indexOfChar_4cfef_1 : decode cJ2_indexOfChar_4cfef 1 = .ok (.iload_n 3, 1) := by decide +kernel
theorem dJ2_indexOfChar_4cfef_2 : decode cJ2_indexOfChar_4cfef 2 = .ok (.aload_n 0, 1) := by decide +kernel
theorem dJ2_indexOfChar_4cfef_3 : decode cJ2_indexOfChar_4cfef 3 = .ok (.invokestatic 96, 3) := by decide +kernel
theorem dJ2_indexOfChar_4cfef_6 : decode cJ2_indexOfChar_4cfef 6 = .ok (.aload_n 0, 1) := by decide +kernel
theorem dJ2_indexOfChar_4cfef_7 : decode cJ2_indexOfChar_4cfef 7 = .ok (.iload_n 1, 1) := by decide +kernel
theorem dJ2_indexOfChar_4cfef_8 : decode cJ2_indexOfChar_4cfef 8 = .ok (.iload_n 2, 1) := by decide +kernel
theorem dJ2_indexOfChar_4cfef_9 : decode cJ2_indexOfChar_4cfef 9 = .ok (.iload_n 3, 1) := by decide +kernel
theorem dJ2_indexOfChar_4cfef_10 : decode cJ2_indexOfChar_4cfef 10 = .ok (.invokestatic 244, 3) := by decide +kernel
theorem dJ2_indexOfChar_4cfef_13 : decode cJ2_indexOfChar_4cfef 13 = .ok (.ireturn, 1) := by decide +kernel
theorem dJ2_indexOfCharUnsafe_4cfef_0 : decode cJ2_indexOfCharUnsafe_4cfef 0 = .ok (.iload_n 2, 1) := by decide +kernel
theorem dJ2_indexOfCharUnsafe_4cfef_1 : decode cJ2_indexOfCharUnsafe_4cfef 1 = .ok (.istore 4, 2) := by decide +kernel
theorem dJ2_indexOfCharUnsafe_4cfef_3 : decode cJ2_indexOfCharUnsafe_4cfef 3 = .ok (.iload 4, 2) := by decide +kernel
theorem dJ2_indexOfCharUnsafe_4cfef_5 : decode cJ2_indexOfCharUnsafe_4cfef 5 = .ok (.iload_n 3, 1) := by decide +kernel
theorem dJ2_indexOfCharUnsafe_4cfef_6 : decode cJ2_indexOfCharUnsafe_4cfef 6 = .ok (.if_icmp .ge 22, 3) := by decide +kernel
theorem dJ2_indexOfCharUnsafe_4cfef_9 : decode cJ2_indexOfCharUnsafe_4cfef 9 = .ok (.aload_n 0, 1) := by decide +kernel
theorem dJ2_indexOfCharUnsafe_4cfef_10 : decode cJ2_indexOfCharUnsafe_4cfef 10 = .ok (.iload 4, 2) := by decide +kernel
theorem dJ2_indexOfCharUnsafe_4cfef_12 : decode cJ2_indexOfCharUnsafe_4cfef 12 = .ok (.invokestatic 71, 3) := by decide +kernel
theorem dJ2_indexOfCharUnsafe_4cfef_15 : decode cJ2_indexOfCharUnsafe_4cfef 15 = .ok (.iload_n 1, 1) := by decide +kernel
theorem dJ2_indexOfCharUnsafe_4cfef_16 : decode cJ2_indexOfCharUnsafe_4cfef 16 = .ok (.if_icmp .ne 6, 3) := by decide +kernel
theorem dJ2_indexOfCharUnsafe_4cfef_19 : decode cJ2_indexOfCharUnsafe_4cfef 19 = .ok (.iload 4, 2) := by decide +kernel
theorem dJ2_indexOfCharUnsafe_4cfef_21 : decode cJ2_indexOfCharUnsafe_4cfef 21 = .ok (.ireturn, 1) := by decide +kernel
theorem dJ2_indexOfCharUnsafe_4cfef_22 : decode cJ2_indexOfCharUnsafe_4cfef 22 = .ok (.iinc 4 1, 3) := by decide +kernel
theorem dJ2_indexOfCharUnsafe_4cfef_25 : decode cJ2_indexOfCharUnsafe_4cfef 25 = .ok (.goto (-22), 3) := by decide +kernel
theorem dJ2_indexOfCharUnsafe_4cfef_28 : decode cJ2_indexOfCharUnsafe_4cfef 28 = .ok (.iconst (-1), 1) := by decide +kernel
theorem dJ2_indexOfCharUnsafe_4cfef_29 : decode cJ2_indexOfCharUnsafe_4cfef 29 = .ok (.ireturn, 1) := by decide +kernel
theorem dJ2_indexOfSupplementary_4cfef_0 : decode cJ2_indexOfSupplementary_4cfef 0 = .ok (.iload_n 1, 1) := by decide +kernel
theorem dJ2_indexOfSupplementary_4cfef_1 : decode cJ2_indexOfSupplementary_4cfef 1 = .ok (.invokestatic 164, 3) := by decide +kernel
theorem dJ2_indexOfSupplementary_4cfef_4 : decode cJ2_indexOfSupplementary_4cfef 4 = .ok (.ifCond .eq 65, 3) := by decide +kernel
theorem dJ2_indexOfSupplementary_4cfef_7 : decode cJ2_indexOfSupplementary_4cfef 7 = .ok (.iload_n 1, 1) := by decide +kernel
theorem dJ2_indexOfSupplementary_4cfef_8 : decode cJ2_indexOfSupplementary_4cfef 8 = .ok (.invokestatic 157, 3) := by decide +kernel
theorem dJ2_indexOfSupplementary_4cfef_11 : decode cJ2_indexOfSupplementary_4cfef 11 = .ok (.istore 4, 2) := by decide +kernel
theorem dJ2_indexOfSupplementary_4cfef_13 : decode cJ2_indexOfSupplementary_4cfef 13 = .ok (.iload_n 1, 1) := by decide +kernel
theorem dJ2_indexOfSupplementary_4cfef_14 : decode cJ2_indexOfSupplementary_4cfef 14 = .ok (.invokestatic 161, 3) := by decide +kernel
theorem dJ2_indexOfSupplementary_4cfef_17 : decode cJ2_indexOfSupplementary_4cfef 17 = .ok (.istore 5, 2) := by decide +kernel
theorem dJ2_indexOfSupplementary_4cfef_19 : decode cJ2_indexOfSupplementary_4cfef 19 = .ok (.iload_n 2, 1) := by decide +kernel
theorem dJ2_indexOfSupplementary_4cfef_20 : decode cJ2_indexOfSupplementary_4cfef 20 = .ok (.iload_n 3, 1) := by decide +kernel
theorem dJ2_indexOfSupplementary_4cfef_21 : decode cJ2_indexOfSupplementary_4cfef 21 = .ok (.aload_n 0, 1) := by decide +kernel
theorem dJ2_indexOfSupplementary_4cfef_22 : decode cJ2_indexOfSupplementary_4cfef 22 = .ok (.invokestatic 96, 3) := by decide +kernel
theorem dJ2_indexOfSupplementary_4cfef_25 : decode cJ2_indexOfSupplementary_4cfef 25 = .ok (.iload_n 2, 1) := by decide +kernel
theorem dJ2_indexOfSupplementary_4cfef_26 : decode cJ2_indexOfSupplementary_4cfef 26 = .ok (.istore 6, 2) := by decide +kernel
theorem dJ2_indexOfSupplementary_4cfef_28 : decode cJ2_indexOfSupplementary_4cfef 28 = .ok (.iload 6, 2) := by decide +kernel
theorem dJ2_indexOfSupplementary_4cfef_30 : decode cJ2_indexOfSupplementary_4cfef 30 = .ok (.iload_n 3, 1) := by decide +kernel
theorem dJ2_indexOfSupplementary_4cfef_31 : decode cJ2_indexOfSupplementary_4cfef 31 = .ok (.iconst 1, 1) := by decide +kernel
theorem dJ2_indexOfSupplementary_4cfef_32 : decode cJ2_indexOfSupplementary_4cfef 32 = .ok (.isub, 1) := by decide +kernel
theorem dJ2_indexOfSupplementary_4cfef_33 : decode cJ2_indexOfSupplementary_4cfef 33 = .ok (.if_icmp .ge 36, 3) := by decide +kernel
theorem dJ2_indexOfSupplementary_4cfef_36 : decode cJ2_indexOfSupplementary_4cfef 36 = .ok (.aload_n 0, 1) := by decide +kernel
theorem dJ2_indexOfSupplementary_4cfef_37 : decode cJ2_indexOfSupplementary_4cfef 37 = .ok (.iload 6, 2) := by decide +kernel
theorem dJ2_indexOfSupplementary_4cfef_39 : decode cJ2_indexOfSupplementary_4cfef 39 = .ok (.invokestatic 71, 3) := by decide +kernel
theorem dJ2_indexOfSupplementary_4cfef_42 : decode cJ2_indexOfSupplementary_4cfef 42 = .ok (.iload 4, 2) := by decide +kernel
theorem dJ2_indexOfSupplementary_4cfef_44 : decode cJ2_indexOfSupplementary_4cfef 44 = .ok (.if_icmp .ne 19, 3) := by decide +kernel
theorem dJ2_indexOfSupplementary_4cfef_47 : decode cJ2_indexOfSupplementary_4cfef 47 = .ok (.aload_n 0, 1) := by decide +kernel
theorem dJ2_indexOfSupplementary_4cfef_48 : decode cJ2_indexOfSupplementary_4cfef 48 = .ok (.iload 6, 2) := by decide +kernel
theorem dJ2_indexOfSupplementary_4cfef_50 : decode cJ2_indexOfSupplementary_4cfef 50 = .ok (.iconst 1, 1) := by decide +kernel
theorem dJ2_indexOfSupplementary_4cfef_51 : decode cJ2_indexOfSupplementary_4cfef 51 = .ok (.iadd, 1) := by decide +kernel
theorem dJ2_indexOfSupplementary_4cfef_52 : decode cJ2_indexOfSupplementary_4cfef 52 = .ok (.invokestatic 71, 3) := by decide +kernel
theorem dJ2_indexOfSupplementary_4cfef_55 : decode cJ2_indexOfSupplementary_4cfef 55 = .ok (.iload 5, 2) := by decide +kernel
theorem dJ2_indexOfSupplementary_4cfef_57 : decode cJ2_indexOfSupplementary_4cfef 57 = .ok (.if_icmp .ne 6, 3) := by decide +kernel
theorem dJ2_indexOfSupplementary_4cfef_60 : decode cJ2_indexOfSupplementary_4cfef 60 = .ok (.iload 6, 2) := by decide +kernel
theorem dJ2_indexOfSupplementary_4cfef_62 : decode cJ2_indexOfSupplementary_4cfef 62 = .ok (.ireturn, 1) := by decide +kernel
theorem dJ2_indexOfSupplementary_4cfef_63 : decode cJ2_indexOfSupplementary_4cfef 63 = .ok (.iinc 6 1, 3) := by decide +kernel
theorem dJ2_indexOfSupplementary_4cfef_66 : decode cJ2_indexOfSupplementary_4cfef 66 = .ok (.goto (-38), 3) := by decide +kernel
theorem dJ2_indexOfSupplementary_4cfef_69 : decode cJ2_indexOfSupplementary_4cfef 69 = .ok (.iconst (-1), 1) := by decide +kernel
theorem dJ2_indexOfSupplementary_4cfef_70 : decode cJ2_indexOfSupplementary_4cfef 70 = .ok (.ireturn, 1) := by decide +kernel
theorem dJ2_charAt_3b067_0 : decode cJ2_charAt_3b067 0 = .ok (.iload_n 1, 1) := by decide +kernel
theorem dJ2_charAt_3b067_1 : decode cJ2_charAt_3b067 1 = .ok (.aload_n 0, 1) := by decide +kernel
theorem dJ2_charAt_3b067_2 : decode cJ2_charAt_3b067 2 = .ok (.invokestatic 67, 3) := by decide +kernel
theorem dJ2_charAt_3b067_5 : decode cJ2_charAt_3b067 5 = .ok (.aload_n 0, 1) := by decide +kernel
theorem dJ2_charAt_3b067_6 : decode cJ2_charAt_3b067 6 = .ok (.iload_n 1, 1) := by decide +kernel
theorem dJ2_charAt_3b067_7 : decode cJ2_charAt_3b067 7 = .ok (.invokestatic 71, 3) := by decide +kernel
theorem dJ2_charAt_3b067_10 : decode cJ2_charAt_3b067 10 = .ok (.ireturn, 1) := by decide +kernel
theorem dJ2_checkIndex_2214a_0 : decode cJ2_checkIndex_2214a 0 = .ok (.iload_n 0, 1) := by decide +kernel
theorem dJ2_checkIndex_2214a_1 : decode cJ2_checkIndex_2214a 1 = .ok (.aload_n 1, 1) := by decide +kernel
theorem dJ2_checkIndex_2214a_2 : decode cJ2_checkIndex_2214a 2 = .ok (.invokestatic 48, 3) := by decide +kernel
theorem dJ2_checkIndex_2214a_5 : decode cJ2_checkIndex_2214a 5 = .ok (.invokestatic 414, 3) := by decide +kernel
theorem dJ2_checkIndex_2214a_8 : decode cJ2_checkIndex_2214a 8 = .ok (.return_, 1) := by decide +kernel
theorem dJ2_checkBoundsBeginEnd_d044e_0 : decode cJ2_checkBoundsBeginEnd_d044e 0 = .ok (.iload_n 0, 1) := by decide +kernel
theorem dJ2_checkBoundsBeginEnd_d044e_1 : decode cJ2_checkBoundsBeginEnd_d044e 1 = .ok (.iload_n 1, 1) := by decide +kernel
theorem dJ2_checkBoundsBeginEnd_d044e_2 : decode cJ2_checkBoundsBeginEnd_d044e 2 = .ok (.aload_n 2, 1) := by decide +kernel
theorem dJ2_checkBoundsBeginEnd_d044e_3 : decode cJ2_checkBoundsBeginEnd_d044e 3 = .ok (.invokestatic 48, 3) := by decide +kernel
theorem dJ2_checkBoundsBeginEnd_d044e_6 : decode cJ2_checkBoundsBeginEnd_d044e 6 = .ok (.invokestatic 241, 3) := by decide +kernel
theorem dJ2_checkBoundsBeginEnd_d044e_9 : decode cJ2_checkBoundsBeginEnd_d044e 9 = .ok (.return_, 1) := by decide +kernel
theorem dJ7_rangeCheck_23922_0 : decode cJ7_rangeCheck_23922 0 = .ok (.iload_n 1, 1) := by decide +kernel
theorem dJ7_rangeCheck_23922_1 : decode cJ7_rangeCheck_23922 1 = .ok (.iload_n 2, 1) := by decide +kernel
theorem dJ7_rangeCheck_23922_2 : decode cJ7_rangeCheck_23922 2 = .ok (.if_icmp .le 44, 3) := by decide +kernel
theorem dJ7_rangeCheck_23922_5 : decode cJ7_rangeCheck_23922 5 = .ok (.new 43, 3) := by decide +kernel
theorem dJ7_rangeCheck_23922_8 : decode cJ7_rangeCheck_23922 8 = .ok (.dup, 1) := by decide +kernel
theorem dJ7_rangeCheck_23922_9 : decode cJ7_rangeCheck_23922 9 = .ok (.new 45, 3) := by decide +kernel
theorem dJ7_rangeCheck_23922_12 : decode cJ7_rangeCheck_23922 12 = .ok (.dup, 1) := by decide +kernel
theorem dJ7_rangeCheck_23922_13 : decode cJ7_rangeCheck_23922 13 = .ok (.invokespecial 47, 3) := by decide +kernel
theorem dJ7_rangeCheck_23922_16 : decode cJ7_rangeCheck_23922 16 = .ok (.ldc 48, 2) := by decide +kernel
theorem dJ7_rangeCheck_23922_18 : decode cJ7_rangeCheck_23922 18 = .ok (.invokevirtual 50, 3) := by decide +kernel
theorem dJ7_rangeCheck_23922_21 : decode cJ7_rangeCheck_23922 21 = .ok (.iload_n 1, 1) := by decide +kernel
theorem dJ7_rangeCheck_23922_22 : decode cJ7_rangeCheck_23922 22 = .ok (.invokevirtual 54, 3) := by decide +kernel
theorem dJ7_rangeCheck_23922_25 : decode cJ7_rangeCheck_23922 25 = .ok (.ldc 57, 2) := by decide +kernel
theorem dJ7_rangeCheck_23922_27 : decode cJ7_rangeCheck_23922 27 = .ok (.invokevirtual 50, 3) := by decide +kernel
theorem dJ7_rangeCheck_23922_30 : decode cJ7_rangeCheck_23922 30 = .ok (.iload_n 2, 1) := by decide +kernel
theorem dJ7_rangeCheck_23922_31 : decode cJ7_rangeCheck_23922 31 = .ok (.invokevirtual 54, 3) := by decide +kernel
theorem dJ7_rangeCheck_23922_34 : decode cJ7_rangeCheck_23922 34 = .ok (.ldc 59, 2) := by decide +kernel
theorem dJ7_rangeCheck_23922_36 : decode cJ7_rangeCheck_23922 36 = .ok (.invokevirtual 50, 3) := by decide +kernel
theorem dJ7_rangeCheck_23922_39 : decode cJ7_rangeCheck_23922 39 = .ok (.invokevirtual 61, 3) := by decide +kernel
theorem dJ7_rangeCheck_23922_42 : decode cJ7_rangeCheck_23922 42 = .ok (.invokespecial 65, 3) := by decide +kernel
theorem dJ7_rangeCheck_23922_45 : decode cJ7_rangeCheck_23922 45 = .ok (.athrow, 1) := by decide +kernel
theorem dJ7_rangeCheck_23922_46 : decode cJ7_rangeCheck_23922 46 = .ok (.iload_n 1, 1) := by decide +kernel
theorem dJ7_rangeCheck_23922_47 : decode cJ7_rangeCheck_23922 47 = .ok (.ifCond .ge 12, 3) := by decide +kernel
theorem dJ7_rangeCheck_23922_50 : decode cJ7_rangeCheck_23922 50 = .ok (.new 68, 3) := by decide +kernel
theorem dJ7_rangeCheck_23922_53 : decode cJ7_rangeCheck_23922 53 = .ok (.dup, 1) := by decide +kernel
theorem dJ7_rangeCheck_23922_54 : decode cJ7_rangeCheck_23922 54 = .ok (.iload_n 1, 1) := by decide +kernel
theorem dJ7_rangeCheck_23922_55 : decode cJ7_rangeCheck_23922 55 = .ok (.invokespecial 70, 3) := by decide +kernel
theorem dJ7_rangeCheck_23922_58 : decode cJ7_rangeCheck_23922 58 = .ok (.athrow, 1) := by decide +kernel
theorem dJ7_rangeCheck_23922_59 : decode cJ7_rangeCheck_23922 59 = .ok (.iload_n 2, 1) := by decide +kernel
theorem dJ7_rangeCheck_23922_60 : decode cJ7_rangeCheck_23922 60 = .ok (.iload_n 0, 1) := by decide +kernel
theorem dJ7_rangeCheck_23922_61 : decode cJ7_rangeCheck_23922 61 = .ok (.if_icmp .le 12, 3) := by decide +kernel
theorem dJ7_rangeCheck_23922_64 : decode cJ7_rangeCheck_23922 64 = .ok (.new 68, 3) := by decide +kernel
theorem dJ7_rangeCheck_23922_67 : decode cJ7_rangeCheck_23922 67 = .ok (.dup, 1) := by decide +kernel
theorem dJ7_rangeCheck_23922_68 : decode cJ7_rangeCheck_23922 68 = .ok (.iload_n 2, 1) := by decide +kernel
theorem dJ7_rangeCheck_23922_69 : decode cJ7_rangeCheck_23922 69 = .ok (.invokespecial 70, 3) := by decide +kernel
theorem dJ7_rangeCheck_23922_72 : decode cJ7_rangeCheck_23922 72 = .ok (.athrow, 1) := by decide +kernel
theorem dJ7_rangeCheck_23922_73 : decode cJ7_rangeCheck_23922 73 = .ok (.return_, 1) := by decide +kernel
theorem dJ7_fill_d0a16_0 : decode cJ7_fill_d0a16 0 = .ok (.iconst 0, 1) := by decide +kernel
theorem dJ7_fill_d0a16_1 : decode cJ7_fill_d0a16 1 = .ok (.istore_n 3, 1) := by decide +kernel
theorem dJ7_fill_d0a16_2 : decode cJ7_fill_d0a16 2 = .ok (.aload_n 0, 1) := by decide +kernel
theorem dJ7_fill_d0a16_3 : decode cJ7_fill_d0a16 3 = .ok (.arraylength, 1) := by decide +kernel
theorem dJ7_fill_d0a16_4 : decode cJ7_fill_d0a16 4 = .ok (.istore 4, 2) := by decide +kernel
theorem dJ7_fill_d0a16_6 : decode cJ7_fill_d0a16 6 = .ok (.iload_n 3, 1) := by decide +kernel
theorem dJ7_fill_d0a16_7 : decode cJ7_fill_d0a16 7 = .ok (.iload 4, 2) := by decide +kernel
theorem dJ7_fill_d0a16_9 : decode cJ7_fill_d0a16 9 = .ok (.if_icmp .ge 13, 3) := by decide +kernel
theorem dJ7_fill_d0a16_12 : decode cJ7_fill_d0a16 12 = .ok (.aload_n 0, 1) := by decide +kernel
theorem dJ7_fill_d0a16_13 : decode cJ7_fill_d0a16 13 = .ok (.iload_n 3, 1) := by decide +kernel
theorem dJ7_fill_d0a16_14 : decode cJ7_fill_d0a16 14 = .ok (.lload_n 1, 1) := by decide +kernel
theorem dJ7_fill_d0a16_15 : decode cJ7_fill_d0a16 15 = .ok (.lastore, 1) := by decide +kernel
theorem dJ7_fill_d0a16_16 : decode cJ7_fill_d0a16 16 = .ok (.iinc 3 1, 3) := by decide +kernel
theorem dJ7_fill_d0a16_19 : decode cJ7_fill_d0a16 19 = .ok (.goto (-13), 3) := by decide +kernel
theorem dJ7_fill_d0a16_22 : decode cJ7_fill_d0a16 22 = .ok (.return_, 1) := by decide +kernel
theorem dJ7_fill_bad5a_0 : decode cJ7_fill_bad5a 0 = .ok (.aload_n 0, 1) := by decide +kernel
theorem dJ7_fill_bad5a_1 : decode cJ7_fill_bad5a 1 = .ok (.arraylength, 1) := by decide +kernel
theorem dJ7_fill_bad5a_2 : decode cJ7_fill_bad5a 2 = .ok (.iload_n 1, 1) := by decide +kernel
theorem dJ7_fill_bad5a_3 : decode cJ7_fill_bad5a 3 = .ok (.iload_n 2, 1) := by decide +kernel
theorem dJ7_fill_bad5a_4 : decode cJ7_fill_bad5a 4 = .ok (.invokestatic 13, 3) := by decide +kernel
theorem dJ7_fill_bad5a_7 : decode cJ7_fill_bad5a 7 = .ok (.iload_n 1, 1) := by decide +kernel
theorem dJ7_fill_bad5a_8 : decode cJ7_fill_bad5a 8 = .ok (.istore 5, 2) := by decide +kernel
theorem dJ7_fill_bad5a_10 : decode cJ7_fill_bad5a 10 = .ok (.iload 5, 2) := by decide +kernel
theorem dJ7_fill_bad5a_12 : decode cJ7_fill_bad5a 12 = .ok (.iload_n 2, 1) := by decide +kernel
theorem dJ7_fill_bad5a_13 : decode cJ7_fill_bad5a 13 = .ok (.if_icmp .ge 14, 3) := by decide +kernel
theorem dJ7_fill_bad5a_16 : decode cJ7_fill_bad5a 16 = .ok (.aload_n 0, 1) := by decide +kernel
theorem dJ7_fill_bad5a_17 : decode cJ7_fill_bad5a 17 = .ok (.iload 5, 2) := by decide +kernel
theorem dJ7_fill_bad5a_19 : decode cJ7_fill_bad5a 19 = .ok (.lload_n 3, 1) := by decide +kernel
theorem dJ7_fill_bad5a_20 : decode cJ7_fill_bad5a 20 = .ok (.lastore, 1) := by decide +kernel
theorem dJ7_fill_bad5a_21 : decode cJ7_fill_bad5a 21 = .ok (.iinc 5 1, 3) := by decide +kernel
theorem dJ7_fill_bad5a_24 : decode cJ7_fill_bad5a 24 = .ok (.goto (-14), 3) := by decide +kernel
theorem dJ7_fill_bad5a_27 : decode cJ7_fill_bad5a 27 = .ok (.return_, 1) := by decide +kernel
theorem dJ7_fill_53178_0 : decode cJ7_fill_53178 0 = .ok (.iconst 0, 1) := by decide +kernel
theorem dJ7_fill_53178_1 : decode cJ7_fill_53178 1 = .ok (.istore_n 2, 1) := by decide +kernel
theorem dJ7_fill_53178_2 : decode cJ7_fill_53178 2 = .ok (.aload_n 0, 1) := by decide +kernel
theorem dJ7_fill_53178_3 : decode cJ7_fill_53178 3 = .ok (.arraylength, 1) := by decide +kernel
theorem dJ7_fill_53178_4 : decode cJ7_fill_53178 4 = .ok (.istore_n 3, 1) := by decide +kernel
theorem dJ7_fill_53178_5 : decode cJ7_fill_53178 5 = .ok (.iload_n 2, 1) := by decide +kernel
theorem dJ7_fill_53178_6 : decode cJ7_fill_53178 6 = .ok (.iload_n 3, 1) := by decide +kernel
theorem dJ7_fill_53178_7 : decode cJ7_fill_53178 7 = .ok (.if_icmp .ge 13, 3) := by decide +kernel
theorem dJ7_fill_53178_10 : decode cJ7_fill_53178 10 = .ok (.aload_n 0, 1) := by decide +kernel
theorem dJ7_fill_53178_11 : decode cJ7_fill_53178 11 = .ok (.iload_n 2, 1) := by decide +kernel
theorem dJ7_fill_53178_12 : decode cJ7_fill_53178 12 = .ok (.iload_n 1, 1) := by decide +kernel
theorem dJ7_fill_53178_13 : decode cJ7_fill_53178 13 = .ok (.iastore, 1) := by decide +kernel
theorem dJ7_fill_53178_14 : decode cJ7_fill_53178 14 = .ok (.iinc 2 1, 3) := by decide +kernel
theorem dJ7_fill_53178_17 : decode cJ7_fill_53178 17 = .ok (.goto (-12), 3) := by decide +kernel
theorem dJ7_fill_53178_20 : decode cJ7_fill_53178 20 = .ok (.return_, 1) := by decide +kernel
theorem dJ7_fill_fda19_0 : decode cJ7_fill_fda19 0 = .ok (.aload_n 0, 1) := by decide +kernel
theorem dJ7_fill_fda19_1 : decode cJ7_fill_fda19 1 = .ok (.arraylength, 1) := by decide +kernel
theorem dJ7_fill_fda19_2 : decode cJ7_fill_fda19 2 = .ok (.iload_n 1, 1) := by decide +kernel
theorem dJ7_fill_fda19_3 : decode cJ7_fill_fda19 3 = .ok (.iload_n 2, 1) := by decide +kernel
theorem dJ7_fill_fda19_4 : decode cJ7_fill_fda19 4 = .ok (.invokestatic 13, 3) := by decide +kernel
theorem dJ7_fill_fda19_7 : decode cJ7_fill_fda19 7 = .ok (.iload_n 1, 1) := by decide +kernel
theorem dJ7_fill_fda19_8 : decode cJ7_fill_fda19 8 = .ok (.istore 4, 2) := by decide +kernel
theorem dJ7_fill_fda19_10 : decode cJ7_fill_fda19 10 = .ok (.iload 4, 2) := by decide +kernel
theorem dJ7_fill_fda19_12 : decode cJ7_fill_fda19 12 = .ok (.iload_n 2, 1) := by decide +kernel
theorem dJ7_fill_fda19_13 : decode cJ7_fill_fda19 13 = .ok (.if_icmp .ge 14, 3) := by decide +kernel
theorem dJ7_fill_fda19_16 : decode cJ7_fill_fda19 16 = .ok (.aload_n 0, 1) := by decide +kernel
theorem dJ7_fill_fda19_17 : decode cJ7_fill_fda19 17 = .ok (.iload 4, 2) := by decide +kernel
theorem dJ7_fill_fda19_19 : decode cJ7_fill_fda19 19 = .ok (.iload_n 3, 1) := by decide +kernel
theorem dJ7_fill_fda19_20 : decode cJ7_fill_fda19 20 = .ok (.iastore, 1) := by decide +kernel
theorem dJ7_fill_fda19_21 : decode cJ7_fill_fda19 21 = .ok (.iinc 4 1, 3) := by decide +kernel
theorem dJ7_fill_fda19_24 : decode cJ7_fill_fda19 24 = .ok (.goto (-14), 3) := by decide +kernel
theorem dJ7_fill_fda19_27 : decode cJ7_fill_fda19 27 = .ok (.return_, 1) := by decide +kernel
theorem dJ7_copyOf_59c91_0 : decode cJ7_copyOf_59c91 0 = .ok (.iload_n 1, 1) := by decide +kernel
theorem dJ7_copyOf_59c91_1 : decode cJ7_copyOf_59c91 1 = .ok (.aload_n 0, 1) := by decide +kernel
theorem dJ7_copyOf_59c91_2 : decode cJ7_copyOf_59c91 2 = .ok (.arraylength, 1) := by decide +kernel
theorem dJ7_copyOf_59c91_3 : decode cJ7_copyOf_59c91 3 = .ok (.if_icmp .ne 11, 3) := by decide +kernel
theorem dJ7_copyOf_59c91_6 : decode cJ7_copyOf_59c91 6 = .ok (.aload_n 0, 1) := by decide +kernel
theorem dJ7_copyOf_59c91_7 : decode cJ7_copyOf_59c91 7 = .ok (.invokevirtual 316, 3) := by decide +kernel
theorem dJ7_copyOf_59c91_10 : decode cJ7_copyOf_59c91 10 = .ok (.checkcast 317, 3) := by decide +kernel
theorem dJ7_copyOf_59c91_13 : decode cJ7_copyOf_59c91 13 = .ok (.areturn, 1) := by decide +kernel
theorem dJ7_copyOf_59c91_14 : decode cJ7_copyOf_59c91 14 = .ok (.iload_n 1, 1) := by decide +kernel
theorem dJ7_copyOf_59c91_15 : decode cJ7_copyOf_59c91 15 = .ok (.newarray .int, 2) := by decide +kernel
theorem dJ7_copyOf_59c91_17 : decode cJ7_copyOf_59c91 17 = .ok (.astore_n 2, 1) := by decide +kernel
theorem dJ7_copyOf_59c91_18 : decode cJ7_copyOf_59c91 18 = .ok (.aload_n 0, 1) := by decide +kernel
theorem dJ7_copyOf_59c91_19 : decode cJ7_copyOf_59c91 19 = .ok (.iconst 0, 1) := by decide +kernel
theorem dJ7_copyOf_59c91_20 : decode cJ7_copyOf_59c91 20 = .ok (.aload_n 2, 1) := by decide +kernel
theorem dJ7_copyOf_59c91_21 : decode cJ7_copyOf_59c91 21 = .ok (.iconst 0, 1) := by decide +kernel
theorem dJ7_copyOf_59c91_22 : decode cJ7_copyOf_59c91 22 = .ok (.aload_n 0, 1) := by decide +kernel
theorem dJ7_copyOf_59c91_23 : decode cJ7_copyOf_59c91 23 = .ok (.arraylength, 1) := by decide +kernel
theorem dJ7_copyOf_59c91_24 : decode cJ7_copyOf_59c91 24 = .ok (.iload_n 1, 1) := by decide +kernel
theorem dJ7_copyOf_59c91_25 : decode cJ7_copyOf_59c91 25 = .ok (.invokestatic 304, 3) := by decide +kernel
theorem dJ7_copyOf_59c91_28 : decode cJ7_copyOf_59c91 28 = .ok (.invokestatic 150, 3) := by decide +kernel
theorem dJ7_copyOf_59c91_31 : decode cJ7_copyOf_59c91 31 = .ok (.aload_n 2, 1) := by decide +kernel
theorem dJ7_copyOf_59c91_32 : decode cJ7_copyOf_59c91 32 = .ok (.areturn, 1) := by decide +kernel
theorem dJ3_checkIndex_8e157_0 : decode cJ3_checkIndex_8e157 0 = .ok (.iload_n 0, 1) := by decide +kernel
theorem dJ3_checkIndex_8e157_1 : decode cJ3_checkIndex_8e157 1 = .ok (.ifCond .lt 8, 3) := by decide +kernel
theorem dJ3_checkIndex_8e157_4 : decode cJ3_checkIndex_8e157 4 = .ok (.iload_n 0, 1) := by decide +kernel
theorem dJ3_checkIndex_8e157_5 : decode cJ3_checkIndex_8e157 5 = .ok (.iload_n 1, 1) := by decide +kernel
theorem dJ3_checkIndex_8e157_6 : decode cJ3_checkIndex_8e157 6 = .ok (.if_icmp .lt 10, 3) := by decide +kernel
theorem dJ3_checkIndex_8e157_9 : decode cJ3_checkIndex_8e157 9 = .ok (.aload_n 2, 1) := by decide +kernel
theorem dJ3_checkIndex_8e157_10 : decode cJ3_checkIndex_8e157 10 = .ok (.iload_n 0, 1) := by decide +kernel
theorem dJ3_checkIndex_8e157_11 : decode cJ3_checkIndex_8e157 11 = .ok (.iload_n 1, 1) := by decide +kernel
theorem dJ3_checkIndex_8e157_12 : decode cJ3_checkIndex_8e157 12 = .ok (.invokestatic 95, 3) := by decide +kernel
theorem dJ3_checkIndex_8e157_15 : decode cJ3_checkIndex_8e157 15 = .ok (.athrow, 1) := by decide +kernel
theorem dJ3_checkIndex_8e157_16 : decode cJ3_checkIndex_8e157 16 = .ok (.iload_n 0, 1) := by decide +kernel
theorem dJ3_checkIndex_8e157_17 : decode cJ3_checkIndex_8e157 17 = .ok (.ireturn, 1) := by decide +kernel
theorem dJ3_checkFromToIndex_8c36e_0 : decode cJ3_checkFromToIndex_8c36e 0 = .ok (.iload_n 0, 1) := by decide +kernel
theorem dJ3_checkFromToIndex_8c36e_1 : decode cJ3_checkFromToIndex_8c36e 1 = .ok (.ifCond .lt 13, 3) := by decide +kernel
theorem dJ3_checkFromToIndex_8c36e_4 : decode cJ3_checkFromToIndex_8c36e 4 = .ok (.iload_n 0, 1) := by decide +kernel
theorem dJ3_checkFromToIndex_8c36e_5 : decode cJ3_checkFromToIndex_8c36e 5 = .ok (.iload_n 1, 1) := by decide +kernel
theorem dJ3_checkFromToIndex_8c36e_6 : decode cJ3_checkFromToIndex_8c36e 6 = .ok (.if_icmp .gt 8, 3) := by decide +kernel
theorem dJ3_checkFromToIndex_8c36e_9 : decode cJ3_checkFromToIndex_8c36e 9 = .ok (.iload_n 1, 1) := by decide +kernel
theorem dJ3_checkFromToIndex_8c36e_10 : decode cJ3_checkFromToIndex_8c36e 10 = .ok (.iload_n 2, 1) := by decide +kernel
theorem dJ3_checkFromToIndex_8c36e_11 : decode cJ3_checkFromToIndex_8c36e 11 = .ok (.if_icmp .le 11, 3) := by decide +kernel
theorem dJ3_checkFromToIndex_8c36e_14 : decode cJ3_checkFromToIndex_8c36e 14 = .ok (.aload_n 3, 1) := by decide +kernel
theorem dJ3_checkFromToIndex_8c36e_15 : decode cJ3_checkFromToIndex_8c36e 15 = .ok (.iload_n 0, 1) := by decide +kernel
theorem dJ3_checkFromToIndex_8c36e_16 : decode cJ3_checkFromToIndex_8c36e 16 = .ok (.iload_n 1, 1) := by decide +kernel
theorem dJ3_checkFromToIndex_8c36e_17 : decode cJ3_checkFromToIndex_8c36e 17 = .ok (.iload_n 2, 1) := by decide +kernel
theorem dJ3_checkFromToIndex_8c36e_18 : decode cJ3_checkFromToIndex_8c36e 18 = .ok (.invokestatic 99, 3) := by decide +kernel
theorem dJ3_checkFromToIndex_8c36e_21 : decode cJ3_checkFromToIndex_8c36e 21 = .ok (.athrow, 1) := by decide +kernel
theorem dJ3_checkFromToIndex_8c36e_22 : decode cJ3_checkFromToIndex_8c36e 22 = .ok (.iload_n 0, 1) := by decide +kernel
theorem dJ3_checkFromToIndex_8c36e_23 : decode cJ3_checkFromToIndex_8c36e 23 = .ok (.ireturn, 1) := by decide +kernel
theorem dX10_init_0 : decode cX10_init 0 = .ok (.aload_n 0, 1) := by decide +kernel
theorem dX10_init_1 : decode cX10_init 1 = .ok (.invokespecial 3, 3) := by decide +kernel
theorem dX10_init_4 : decode cX10_init 4 = .ok (.aload_n 0, 1) := by decide +kernel
theorem dX10_init_5 : decode cX10_init 5 = .ok (.iconst (-1), 1) := by decide +kernel
theorem dX10_init_6 : decode cX10_init 6 = .ok (.putfield 9, 3) := by decide +kernel
theorem dX10_init_9 : decode cX10_init 9 = .ok (.aload_n 0, 1) := by decide +kernel
theorem dX10_init_10 : decode cX10_init 10 = .ok (.bipush 40, 2) := by decide +kernel
theorem dX10_init_12 : decode cX10_init 12 = .ok (.newarray .long, 2) := by decide +kernel
theorem dX10_init_14 : decode cX10_init 14 = .ok (.putfield 15, 3) := by decide +kernel
theorem dX10_init_17 : decode cX10_init 17 = .ok (.return_, 1) := by decide +kernel
theorem dX10_missing_0 : decode cX10_missing 0 = .ok (.aload_n 0, 1) := by decide +kernel
theorem dX10_missing_1 : decode cX10_missing 1 = .ok (.getfield 9, 3) := by decide +kernel
theorem dX10_missing_4 : decode cX10_missing 4 = .ok (.iconst (-1), 1) := by decide +kernel
theorem dX10_missing_5 : decode cX10_missing 5 = .ok (.if_icmp .ne 7, 3) := by decide +kernel
theorem dX10_missing_8 : decode cX10_missing 8 = .ok (.iconst 1, 1) := by decide +kernel
theorem dX10_missing_9 : decode cX10_missing 9 = .ok (.goto 4, 3) := by decide +kernel
theorem dX10_missing_12 : decode cX10_missing 12 = .ok (.iconst 0, 1) := by decide +kernel
theorem dX10_missing_13 : decode cX10_missing 13 = .ok (.ireturn, 1) := by decide +kernel
theorem dX10_lay_0 : decode cX10_lay 0 = .ok (.aload_n 0, 1) := by decide +kernel
theorem dX10_lay_1 : decode cX10_lay 1 = .ok (.iload_n 1, 1) := by decide +kernel
theorem dX10_lay_2 : decode cX10_lay 2 = .ok (.putfield 19, 3) := by decide +kernel
theorem dX10_lay_5 : decode cX10_lay 5 = .ok (.aload_n 0, 1) := by decide +kernel
theorem dX10_lay_6 : decode cX10_lay 6 = .ok (.iconst 0, 1) := by decide +kernel
theorem dX10_lay_7 : decode cX10_lay 7 = .ok (.iload_n 2, 1) := by decide +kernel
theorem dX10_lay_8 : decode cX10_lay 8 = .ok (.bipush 40, 2) := by decide +kernel
theorem dX10_lay_10 : decode cX10_lay 10 = .ok (.invokestatic 22, 3) := by decide +kernel
theorem dX10_lay_13 : decode cX10_lay 13 = .ok (.invokestatic 28, 3) := by decide +kernel
theorem dX10_lay_16 : decode cX10_lay 16 = .ok (.putfield 9, 3) := by decide +kernel
theorem dX10_lay_19 : decode cX10_lay 19 = .ok (.aload_n 0, 1) := by decide +kernel
theorem dX10_lay_20 : decode cX10_lay 20 = .ok (.getfield 15, 3) := by decide +kernel
theorem dX10_lay_23 : decode cX10_lay 23 = .ok (.lconst 0, 1) := by decide +kernel
theorem dX10_lay_24 : decode cX10_lay 24 = .ok (.invokestatic 31, 3) := by decide +kernel
theorem dX10_lay_27 : decode cX10_lay 27 = .ok (.return_, 1) := by decide +kernel
theorem dX10_get_0 : decode cX10_get 0 = .ok (.iload_n 1, 1) := by decide +kernel
theorem dX10_get_1 : decode cX10_get 1 = .ok (.ifCond .lt 20, 3) := by decide +kernel
theorem dX10_get_4 : decode cX10_get 4 = .ok (.iload_n 1, 1) := by decide +kernel
theorem dX10_get_5 : decode cX10_get 5 = .ok (.aload_n 0, 1) := by decide +kernel
theorem dX10_get_6 : decode cX10_get 6 = .ok (.getfield 9, 3) := by decide +kernel
theorem dX10_get_9 : decode cX10_get 9 = .ok (.if_icmp .ge 12, 3) := by decide +kernel
theorem dX10_get_12 : decode cX10_get 12 = .ok (.aload_n 0, 1) := by decide +kernel
theorem dX10_get_13 : decode cX10_get 13 = .ok (.getfield 15, 3) := by decide +kernel
theorem dX10_get_16 : decode cX10_get 16 = .ok (.iload_n 1, 1) := by decide +kernel
theorem dX10_get_17 : decode cX10_get 17 = .ok (.laload, 1) := by decide +kernel
theorem dX10_get_18 : decode cX10_get 18 = .ok (.goto 4, 3) := by decide +kernel
theorem dX10_get_21 : decode cX10_get 21 = .ok (.lconst 0, 1) := by decide +kernel
theorem dX10_get_22 : decode cX10_get 22 = .ok (.lreturn, 1) := by decide +kernel
theorem dX10_put_0 : decode cX10_put 0 = .ok (.iload_n 1, 1) := by decide +kernel
theorem dX10_put_1 : decode cX10_put 1 = .ok (.ifCond .lt 22, 3) := by decide +kernel
theorem dX10_put_4 : decode cX10_put 4 = .ok (.iload_n 1, 1) := by decide +kernel
theorem dX10_put_5 : decode cX10_put 5 = .ok (.aload_n 0, 1) := by decide +kernel
theorem dX10_put_6 : decode cX10_put 6 = .ok (.getfield 9, 3) := by decide +kernel
theorem dX10_put_9 : decode cX10_put 9 = .ok (.if_icmp .ge 14, 3) := by decide +kernel
theorem dX10_put_12 : decode cX10_put 12 = .ok (.aload_n 0, 1) := by decide +kernel
theorem dX10_put_13 : decode cX10_put 13 = .ok (.getfield 15, 3) := by decide +kernel
theorem dX10_put_16 : decode cX10_put 16 = .ok (.iload_n 1, 1) := by decide +kernel
theorem dX10_put_17 : decode cX10_put 17 = .ok (.aload_n 0, 1) := by decide +kernel
theorem dX10_put_18 : decode cX10_put 18 = .ok (.lload_n 2, 1) := by decide +kernel
theorem dX10_put_19 : decode cX10_put 19 = .ok (.invokevirtual 37, 3) := by decide +kernel
theorem dX10_put_22 : decode cX10_put 22 = .ok (.lastore, 1) := by decide +kernel
theorem dX10_put_23 : decode cX10_put 23 = .ok (.return_, 1) := by decide +kernel
theorem dX10_cut_0 : decode cX10_cut 0 = .ok (.aload_n 0, 1) := by decide +kernel
theorem dX10_cut_1 : decode cX10_cut 1 = .ok (.getfield 19, 3) := by decide +kernel
theorem dX10_cut_4 : decode cX10_cut 4 = .ok (.tableswitch 42 0 2 #[28, 33, 38], 28) := by decide +kernel
theorem dX10_cut_32 : decode cX10_cut 32 = .ok (.lload_n 1, 1) := by decide +kernel
theorem dX10_cut_33 : decode cX10_cut 33 = .ok (.l2i, 1) := by decide +kernel
theorem dX10_cut_34 : decode cX10_cut 34 = .ok (.i2b, 1) := by decide +kernel
theorem dX10_cut_35 : decode cX10_cut 35 = .ok (.i2l, 1) := by decide +kernel
theorem dX10_cut_36 : decode cX10_cut 36 = .ok (.lreturn, 1) := by decide +kernel
theorem dX10_cut_37 : decode cX10_cut 37 = .ok (.lload_n 1, 1) := by decide +kernel
theorem dX10_cut_38 : decode cX10_cut 38 = .ok (.l2i, 1) := by decide +kernel
theorem dX10_cut_39 : decode cX10_cut 39 = .ok (.i2s, 1) := by decide +kernel
theorem dX10_cut_40 : decode cX10_cut 40 = .ok (.i2l, 1) := by decide +kernel
theorem dX10_cut_41 : decode cX10_cut 41 = .ok (.lreturn, 1) := by decide +kernel
theorem dX10_cut_42 : decode cX10_cut 42 = .ok (.lload_n 1, 1) := by decide +kernel
theorem dX10_cut_43 : decode cX10_cut 43 = .ok (.l2i, 1) := by decide +kernel
theorem dX10_cut_44 : decode cX10_cut 44 = .ok (.i2l, 1) := by decide +kernel
theorem dX10_cut_45 : decode cX10_cut 45 = .ok (.lreturn, 1) := by decide +kernel
theorem dX10_cut_46 : decode cX10_cut 46 = .ok (.lload_n 1, 1) := by decide +kernel
theorem dX10_cut_47 : decode cX10_cut 47 = .ok (.lreturn, 1) := by decide +kernel
theorem dX9_init_0 : decode cX9_init 0 = .ok (.aload_n 0, 1) := by decide +kernel
theorem dX9_init_1 : decode cX9_init 1 = .ok (.invokespecial 3, 3) := by decide +kernel
theorem dX9_init_4 : decode cX9_init 4 = .ok (.aload_n 0, 1) := by decide +kernel
theorem dX9_init_5 : decode cX9_init 5 = .ok (.iconst 1, 1) := by decide +kernel
theorem dX9_init_6 : decode cX9_init 6 = .ok (.putfield 9, 3) := by decide +kernel
theorem dX9_init_9 : decode cX9_init 9 = .ok (.aload_n 0, 1) := by decide +kernel
theorem dX9_init_10 : decode cX9_init 10 = .ok (.iconst 0, 1) := by decide +kernel
theorem dX9_init_11 : decode cX9_init 11 = .ok (.putfield 15, 3) := by decide +kernel
theorem dX9_init_14 : decode cX9_init 14 = .ok (.aload_n 0, 1) := by decide +kernel
theorem dX9_init_15 : decode cX9_init 15 = .ok (.iconst 0, 1) := by decide +kernel
theorem dX9_init_16 : decode cX9_init 16 = .ok (.putfield 18, 3) := by decide +kernel
theorem dX9_init_19 : decode cX9_init 19 = .ok (.aload_n 0, 1) := by decide +kernel
theorem dX9_init_20 : decode cX9_init 20 = .ok (.iconst 1, 1) := by decide +kernel
theorem dX9_init_21 : decode cX9_init 21 = .ok (.putfield 21, 3) := by decide +kernel
theorem dX9_init_24 : decode cX9_init 24 = .ok (.aload_n 0, 1) := by decide +kernel
theorem dX9_init_25 : decode cX9_init 25 = .ok (.bipush 12, 2) := by decide +kernel
theorem dX9_init_27 : decode cX9_init 27 = .ok (.newarray .int, 2) := by decide +kernel
theorem dX9_init_29 : decode cX9_init 29 = .ok (.putfield 24, 3) := by decide +kernel
theorem dX9_init_32 : decode cX9_init 32 = .ok (.aload_n 0, 1) := by decide +kernel
theorem dX9_init_33 : decode cX9_init 33 = .ok (.bipush 18, 2) := by decide +kernel
theorem dX9_init_35 : decode cX9_init 35 = .ok (.newarray .int, 2) := by decide +kernel
theorem dX9_init_37 : decode cX9_init 37 = .ok (.putfield 28, 3) := by decide +kernel
theorem dX9_init_40 : decode cX9_init 40 = .ok (.aload_n 0, 1) := by decide +kernel
theorem dX9_init_41 : decode cX9_init 41 = .ok (.bipush 72, 2) := by decide +kernel
theorem dX9_init_43 : decode cX9_init 43 = .ok (.newarray .int, 2) := by decide +kernel
theorem dX9_init_45 : decode cX9_init 45 = .ok (.putfield 31, 3) := by decide +kernel
theorem dX9_init_48 : decode cX9_init 48 = .ok (.aload_n 0, 1) := by decide +kernel
theorem dX9_init_49 : decode cX9_init 49 = .ok (.iconst 0, 1) := by decide +kernel
theorem dX9_init_50 : decode cX9_init 50 = .ok (.newarray .int, 2) := by decide +kernel
theorem dX9_init_52 : decode cX9_init 52 = .ok (.putfield 34, 3) := by decide +kernel
theorem dX9_init_55 : decode cX9_init 55 = .ok (.aload_n 0, 1) := by decide +kernel
theorem dX9_init_56 : decode cX9_init 56 = .ok (.iconst 0, 1) := by decide +kernel
theorem dX9_init_57 : decode cX9_init 57 = .ok (.newarray .int, 2) := by decide +kernel
theorem dX9_init_59 : decode cX9_init 59 = .ok (.putfield 37, 3) := by decide +kernel
theorem dX9_init_62 : decode cX9_init 62 = .ok (.iconst 0, 1) := by decide +kernel
theorem dX9_init_63 : decode cX9_init 63 = .ok (.istore_n 1, 1) := by decide +kernel
theorem dX9_init_64 : decode cX9_init 64 = .ok (.iload_n 1, 1) := by decide +kernel
theorem dX9_init_65 : decode cX9_init 65 = .ok (.aload_n 0, 1) := by decide +kernel
theorem dX9_init_66 : decode cX9_init 66 = .ok (.getfield 28, 3) := by decide +kernel
theorem dX9_init_69 : decode cX9_init 69 = .ok (.arraylength, 1) := by decide +kernel
theorem dX9_init_70 : decode cX9_init 70 = .ok (.if_icmp .ge 28, 3) := by decide +kernel
theorem dX9_init_73 : decode cX9_init 73 = .ok (.aload_n 0, 1) := by decide +kernel
theorem dX9_init_74 : decode cX9_init 74 = .ok (.getfield 28, 3) := by decide +kernel
theorem dX9_init_77 : decode cX9_init 77 = .ok (.iload_n 1, 1) := by decide +kernel
theorem dX9_init_78 : decode cX9_init 78 = .ok (.iconst 1, 1) := by decide +kernel
theorem dX9_init_79 : decode cX9_init 79 = .ok (.iastore, 1) := by decide +kernel
theorem dX9_init_80 : decode cX9_init 80 = .ok (.aload_n 0, 1) := by decide +kernel
theorem dX9_init_81 : decode cX9_init 81 = .ok (.getfield 31, 3) := by decide +kernel
theorem dX9_init_84 : decode cX9_init 84 = .ok (.iload_n 1, 1) := by decide +kernel
theorem dX9_init_85 : decode cX9_init 85 = .ok (.iconst 4, 1) := by decide +kernel
theorem dX9_init_86 : decode cX9_init 86 = .ok (.imul, 1) := by decide +kernel
theorem dX9_init_87 : decode cX9_init 87 = .ok (.iload_n 1, 1) := by decide +kernel
theorem dX9_init_88 : decode cX9_init 88 = .ok (.bipush 6, 2) := by decide +kernel
theorem dX9_init_90 : decode cX9_init 90 = .ok (.irem, 1) := by decide +kernel
theorem dX9_init_91 : decode cX9_init 91 = .ok (.iastore, 1) := by decide +kernel
theorem dX9_init_92 : decode cX9_init 92 = .ok (.iinc 1 1, 3) := by decide +kernel
theorem dX9_init_95 : decode cX9_init 95 = .ok (.goto (-31), 3) := by decide +kernel
theorem dX9_init_98 : decode cX9_init 98 = .ok (.return_, 1) := by decide +kernel
theorem dX9_sizeOf_0 : decode cX9_sizeOf 0 = .ok (.iload_n 1, 1) := by decide +kernel
theorem dX9_sizeOf_1 : decode cX9_sizeOf 1 = .ok (.bipush 6, 2) := by decide +kernel
theorem dX9_sizeOf_3 : decode cX9_sizeOf 3 = .ok (.imul, 1) := by decide +kernel
theorem dX9_sizeOf_4 : decode cX9_sizeOf 4 = .ok (.iload_n 2, 1) := by decide +kernel
theorem dX9_sizeOf_5 : decode cX9_sizeOf 5 = .ok (.iadd, 1) := by decide +kernel
theorem dX9_sizeOf_6 : decode cX9_sizeOf 6 = .ok (.istore_n 3, 1) := by decide +kernel
theorem dX9_sizeOf_7 : decode cX9_sizeOf 7 = .ok (.iload_n 3, 1) := by decide +kernel
theorem dX9_sizeOf_8 : decode cX9_sizeOf 8 = .ok (.ifCond .lt 21, 3) := by decide +kernel
theorem dX9_sizeOf_11 : decode cX9_sizeOf 11 = .ok (.iload_n 3, 1) := by decide +kernel
theorem dX9_sizeOf_12 : decode cX9_sizeOf 12 = .ok (.aload_n 0, 1) := by decide +kernel
theorem dX9_sizeOf_13 : decode cX9_sizeOf 13 = .ok (.getfield 28, 3) := by decide +kernel
theorem dX9_sizeOf_16 : decode cX9_sizeOf 16 = .ok (.arraylength, 1) := by decide +kernel
theorem dX9_sizeOf_17 : decode cX9_sizeOf 17 = .ok (.if_icmp .ge 12, 3) := by decide +kernel
theorem dX9_sizeOf_20 : decode cX9_sizeOf 20 = .ok (.aload_n 0, 1) := by decide +kernel
theorem dX9_sizeOf_21 : decode cX9_sizeOf 21 = .ok (.getfield 28, 3) := by decide +kernel
theorem dX9_sizeOf_24 : decode cX9_sizeOf 24 = .ok (.iload_n 3, 1) := by decide +kernel
theorem dX9_sizeOf_25 : decode cX9_sizeOf 25 = .ok (.iaload, 1) := by decide +kernel
theorem dX9_sizeOf_26 : decode cX9_sizeOf 26 = .ok (.goto 4, 3) := by decide +kernel
theorem dX9_sizeOf_29 : decode cX9_sizeOf 29 = .ok (.iconst 0, 1) := by decide +kernel
theorem dX9_sizeOf_30 : decode cX9_sizeOf 30 = .ok (.ireturn, 1) := by decide +kernel
theorem dX9_childOf_0 : decode cX9_childOf 0 = .ok (.iload_n 1, 1) := by decide +kernel
theorem dX9_childOf_1 : decode cX9_childOf 1 = .ok (.bipush 6, 2) := by decide +kernel
theorem dX9_childOf_3 : decode cX9_childOf 3 = .ok (.imul, 1) := by decide +kernel
theorem dX9_childOf_4 : decode cX9_childOf 4 = .ok (.iload_n 2, 1) := by decide +kernel
theorem dX9_childOf_5 : decode cX9_childOf 5 = .ok (.iadd, 1) := by decide +kernel
theorem dX9_childOf_6 : decode cX9_childOf 6 = .ok (.iconst 4, 1) := by decide +kernel
theorem dX9_childOf_7 : decode cX9_childOf 7 = .ok (.imul, 1) := by decide +kernel
theorem dX9_childOf_8 : decode cX9_childOf 8 = .ok (.iload_n 3, 1) := by decide +kernel
theorem dX9_childOf_9 : decode cX9_childOf 9 = .ok (.iadd, 1) := by decide +kernel
theorem dX9_childOf_10 : decode cX9_childOf 10 = .ok (.istore 4, 2) := by decide +kernel
theorem dX9_childOf_12 : decode cX9_childOf 12 = .ok (.iload 4, 2) := by decide +kernel
theorem dX9_childOf_14 : decode cX9_childOf 14 = .ok (.ifCond .lt 23, 3) := by decide +kernel
theorem dX9_childOf_17 : decode cX9_childOf 17 = .ok (.iload 4, 2) := by decide +kernel
theorem dX9_childOf_19 : decode cX9_childOf 19 = .ok (.aload_n 0, 1) := by decide +kernel
theorem dX9_childOf_20 : decode cX9_childOf 20 = .ok (.getfield 31, 3) := by decide +kernel
theorem dX9_childOf_23 : decode cX9_childOf 23 = .ok (.arraylength, 1) := by decide +kernel
theorem dX9_childOf_24 : decode cX9_childOf 24 = .ok (.if_icmp .ge 13, 3) := by decide +kernel
theorem dX9_childOf_27 : decode cX9_childOf 27 = .ok (.aload_n 0, 1) := by decide +kernel
theorem dX9_childOf_28 : decode cX9_childOf 28 = .ok (.getfield 31, 3) := by decide +kernel
theorem dX9_childOf_31 : decode cX9_childOf 31 = .ok (.iload 4, 2) := by decide +kernel
theorem dX9_childOf_33 : decode cX9_childOf 33 = .ok (.iaload, 1) := by decide +kernel
theorem dX9_childOf_34 : decode cX9_childOf 34 = .ok (.goto 4, 3) := by decide +kernel
theorem dX9_childOf_37 : decode cX9_childOf 37 = .ok (.iconst 0, 1) := by decide +kernel
theorem dX9_childOf_38 : decode cX9_childOf 38 = .ok (.ireturn, 1) := by decide +kernel
theorem dX9_childBits_0 : decode cX9_childBits 0 = .ok (.aload_n 0, 1) := by decide +kernel
theorem dX9_childBits_1 : decode cX9_childBits 1 = .ok (.iload_n 1, 1) := by decide +kernel
theorem dX9_childBits_2 : decode cX9_childBits 2 = .ok (.iload_n 2, 1) := by decide +kernel
theorem dX9_childBits_3 : decode cX9_childBits 3 = .ok (.invokevirtual 40, 3) := by decide +kernel
theorem dX9_childBits_6 : decode cX9_childBits 6 = .ok (.istore_n 3, 1) := by decide +kernel
theorem dX9_childBits_7 : decode cX9_childBits 7 = .ok (.iconst 0, 1) := by decide +kernel
theorem dX9_childBits_8 : decode cX9_childBits 8 = .ok (.istore 4, 2) := by decide +kernel
theorem dX9_childBits_10 : decode cX9_childBits 10 = .ok (.iconst 0, 1) := by decide +kernel
theorem dX9_childBits_11 : decode cX9_childBits 11 = .ok (.istore 5, 2) := by decide +kernel
theorem dX9_childBits_13 : decode cX9_childBits 13 = .ok (.iload 5, 2) := by decide +kernel
theorem dX9_childBits_15 : decode cX9_childBits 15 = .ok (.iload_n 3, 1) := by decide +kernel
theorem dX9_childBits_16 : decode cX9_childBits 16 = .ok (.if_icmp .ge 24, 3) := by decide +kernel
theorem dX9_childBits_19 : decode cX9_childBits 19 = .ok (.iload 4, 2) := by decide +kernel
theorem dX9_childBits_21 : decode cX9_childBits 21 = .ok (.iconst 1, 1) := by decide +kernel
theorem dX9_childBits_22 : decode cX9_childBits 22 = .ok (.aload_n 0, 1) := by decide +kernel
theorem dX9_childBits_23 : decode cX9_childBits 23 = .ok (.iload_n 1, 1) := by decide +kernel
theorem dX9_childBits_24 : decode cX9_childBits 24 = .ok (.iload_n 2, 1) := by decide +kernel
theorem dX9_childBits_25 : decode cX9_childBits 25 = .ok (.iload 5, 2) := by decide +kernel
theorem dX9_childBits_27 : decode cX9_childBits 27 = .ok (.invokevirtual 44, 3) := by decide +kernel
theorem dX9_childBits_30 : decode cX9_childBits 30 = .ok (.ishl, 1) := by decide +kernel
theorem dX9_childBits_31 : decode cX9_childBits 31 = .ok (.ior, 1) := by decide +kernel
theorem dX9_childBits_32 : decode cX9_childBits 32 = .ok (.istore 4, 2) := by decide +kernel
theorem dX9_childBits_34 : decode cX9_childBits 34 = .ok (.iinc 5 1, 3) := by decide +kernel
theorem dX9_childBits_37 : decode cX9_childBits 37 = .ok (.goto (-24), 3) := by decide +kernel
theorem dX9_childBits_40 : decode cX9_childBits 40 = .ok (.iload 4, 2) := by decide +kernel
theorem dX9_childBits_42 : decode cX9_childBits 42 = .ok (.ireturn, 1) := by decide +kernel
theorem dX9_childBitsOfAll_0 : decode cX9_childBitsOfAll 0 = .ok (.iconst 0, 1) := by decide +kernel
theorem dX9_childBitsOfAll_1 : decode cX9_childBitsOfAll 1 = .ok (.istore_n 3, 1) := by decide +kernel
theorem dX9_childBitsOfAll_2 : decode cX9_childBitsOfAll 2 = .ok (.iconst 0, 1) := by decide +kernel
theorem dX9_childBitsOfAll_3 : decode cX9_childBitsOfAll 3 = .ok (.istore 4, 2) := by decide +kernel
theorem dX9_childBitsOfAll_5 : decode cX9_childBitsOfAll 5 = .ok (.iload 4, 2) := by decide +kernel
theorem dX9_childBitsOfAll_7 : decode cX9_childBitsOfAll 7 = .ok (.bipush 6, 2) := by decide +kernel
theorem dX9_childBitsOfAll_9 : decode cX9_childBitsOfAll 9 = .ok (.if_icmp .ge 28, 3) := by decide +kernel
theorem dX9_childBitsOfAll_12 : decode cX9_childBitsOfAll 12 = .ok (.iload_n 2, 1) := by decide +kernel
theorem dX9_childBitsOfAll_13 : decode cX9_childBitsOfAll 13 = .ok (.iload 4, 2) := by decide +kernel
theorem dX9_childBitsOfAll_15 : decode cX9_childBitsOfAll 15 = .ok (.ishr, 1) := by decide +kernel
theorem dX9_childBitsOfAll_16 : decode cX9_childBitsOfAll 16 = .ok (.iconst 1, 1) := by decide +kernel
theorem dX9_childBitsOfAll_17 : decode cX9_childBitsOfAll 17 = .ok (.iand, 1) := by decide +kernel
theorem dX9_childBitsOfAll_18 : decode cX9_childBitsOfAll 18 = .ok (.ifCond .eq 13, 3) := by decide +kernel
theorem dX9_childBitsOfAll_21 : decode cX9_childBitsOfAll 21 = .ok (.iload_n 3, 1) := by decide +kernel
theorem dX9_childBitsOfAll_22 : decode cX9_childBitsOfAll 22 = .ok (.aload_n 0, 1) := by decide +kernel
theorem dX9_childBitsOfAll_23 : decode cX9_childBitsOfAll 23 = .ok (.iload_n 1, 1) := by decide +kernel
theorem dX9_childBitsOfAll_24 : decode cX9_childBitsOfAll 24 = .ok (.iload 4, 2) := by decide +kernel
theorem dX9_childBitsOfAll_26 : decode cX9_childBitsOfAll 26 = .ok (.invokevirtual 48, 3) := by decide +kernel
theorem dX9_childBitsOfAll_29 : decode cX9_childBitsOfAll 29 = .ok (.ior, 1) := by decide +kernel
theorem dX9_childBitsOfAll_30 : decode cX9_childBitsOfAll 30 = .ok (.istore_n 3, 1) := by decide +kernel
theorem dX9_childBitsOfAll_31 : decode cX9_childBitsOfAll 31 = .ok (.iinc 4 1, 3) := by decide +kernel
theorem dX9_childBitsOfAll_34 : decode cX9_childBitsOfAll 34 = .ok (.goto (-29), 3) := by decide +kernel
theorem dX9_childBitsOfAll_37 : decode cX9_childBitsOfAll 37 = .ok (.iload_n 3, 1) := by decide +kernel
theorem dX9_childBitsOfAll_38 : decode cX9_childBitsOfAll 38 = .ok (.ireturn, 1) := by decide +kernel
theorem dX8_init_0 : decode cX8_init 0 = .ok (.aload_n 0, 1) := by decide +kernel
theorem dX8_init_1 : decode cX8_init 1 = .ok (.invokespecial 3, 3) := by decide +kernel
theorem dX8_init_4 : decode cX8_init 4 = .ok (.aload_n 0, 1) := by decide +kernel
theorem dX8_init_5 : decode cX8_init 5 = .ok (.bipush 64, 2) := by decide +kernel
theorem dX8_init_7 : decode cX8_init 7 = .ok (.newarray .long, 2) := by decide +kernel
theorem dX8_init_9 : decode cX8_init 9 = .ok (.putfield 9, 3) := by decide +kernel
theorem dX8_init_12 : decode cX8_init 12 = .ok (.aload_n 0, 1) := by decide +kernel
theorem dX8_init_13 : decode cX8_init 13 = .ok (.bipush 64, 2) := by decide +kernel
theorem dX8_init_15 : decode cX8_init 15 = .ok (.newarray .int, 2) := by decide +kernel
theorem dX8_init_17 : decode cX8_init 17 = .ok (.putfield 15, 3) := by decide +kernel
theorem dX8_init_20 : decode cX8_init 20 = .ok (.aload_n 0, 1) := by decide +kernel
theorem dX8_init_21 : decode cX8_init 21 = .ok (.bipush 64, 2) := by decide +kernel
theorem dX8_init_23 : decode cX8_init 23 = .ok (.putfield 19, 3) := by decide +kernel
theorem dX8_init_26 : decode cX8_init 26 = .ok (.aload_n 0, 1) := by decide +kernel
theorem dX8_init_27 : decode cX8_init 27 = .ok (.iconst 3, 1) := by decide +kernel
theorem dX8_init_28 : decode cX8_init 28 = .ok (.newarray .int, 2) := by decide +kernel
theorem dX8_init_30 : decode cX8_init 30 = .ok (.putfield 23, 3) := by decide +kernel
theorem dX8_init_33 : decode cX8_init 33 = .ok (.return_, 1) := by decide +kernel
theorem dX8_clear_0 : decode cX8_clear 0 = .ok (.aload_n 0, 1) := by decide +kernel
theorem dX8_clear_1 : decode cX8_clear 1 = .ok (.bipush 64, 2) := by decide +kernel
theorem dX8_clear_3 : decode cX8_clear 3 = .ok (.putfield 19, 3) := by decide +kernel
theorem dX8_clear_6 : decode cX8_clear 6 = .ok (.iconst 0, 1) := by decide +kernel
theorem dX8_clear_7 : decode cX8_clear 7 = .ok (.istore_n 2, 1) := by decide +kernel
theorem dX8_clear_8 : decode cX8_clear 8 = .ok (.iload_n 2, 1) := by decide +kernel
theorem dX8_clear_9 : decode cX8_clear 9 = .ok (.bipush 20, 2) := by decide +kernel
theorem dX8_clear_11 : decode cX8_clear 11 = .ok (.if_icmp .ge 31, 3) := by decide +kernel
theorem dX8_clear_14 : decode cX8_clear 14 = .ok (.aload_n 0, 1) := by decide +kernel
theorem dX8_clear_15 : decode cX8_clear 15 = .ok (.getfield 19, 3) := by decide +kernel
theorem dX8_clear_18 : decode cX8_clear 18 = .ok (.iload_n 1, 1) := by decide +kernel
theorem dX8_clear_19 : decode cX8_clear 19 = .ok (.iload_n 1, 1) := by decide +kernel
theorem dX8_clear_20 : decode cX8_clear 20 = .ok (.iconst 4, 1) := by decide +kernel
theorem dX8_clear_21 : decode cX8_clear 21 = .ok (.idiv, 1) := by decide +kernel
theorem dX8_clear_22 : decode cX8_clear 22 = .ok (.iadd, 1) := by decide +kernel
theorem dX8_clear_23 : decode cX8_clear 23 = .ok (.if_icmp .ge 19, 3) := by decide +kernel
theorem dX8_clear_26 : decode cX8_clear 26 = .ok (.aload_n 0, 1) := by decide +kernel
theorem dX8_clear_27 : decode cX8_clear 27 = .ok (.dup, 1) := by decide +kernel
theorem dX8_clear_28 : decode cX8_clear 28 = .ok (.getfield 19, 3) := by decide +kernel
theorem dX8_clear_31 : decode cX8_clear 31 = .ok (.iconst 2, 1) := by decide +kernel
theorem dX8_clear_32 : decode cX8_clear 32 = .ok (.imul, 1) := by decide +kernel
theorem dX8_clear_33 : decode cX8_clear 33 = .ok (.putfield 19, 3) := by decide +kernel
theorem dX8_clear_36 : decode cX8_clear 36 = .ok (.iinc 2 1, 3) := by decide +kernel
theorem dX8_clear_39 : decode cX8_clear 39 = .ok (.goto (-31), 3) := by decide +kernel
theorem dX8_clear_42 : decode cX8_clear 42 = .ok (.aload_n 0, 1) := by decide +kernel
theorem dX8_clear_43 : decode cX8_clear 43 = .ok (.getfield 19, 3) := by decide +kernel
theorem dX8_clear_46 : decode cX8_clear 46 = .ok (.aload_n 0, 1) := by decide +kernel
theorem dX8_clear_47 : decode cX8_clear 47 = .ok (.getfield 9, 3) := by decide +kernel
theorem dX8_clear_50 : decode cX8_clear 50 = .ok (.arraylength, 1) := by decide +kernel
theorem dX8_clear_51 : decode cX8_clear 51 = .ok (.if_icmp .le 23, 3) := by decide +kernel
theorem dX8_clear_54 : decode cX8_clear 54 = .ok (.aload_n 0, 1) := by decide +kernel
theorem dX8_clear_55 : decode cX8_clear 55 = .ok (.aload_n 0, 1) := by decide +kernel
theorem dX8_clear_56 : decode cX8_clear 56 = .ok (.getfield 19, 3) := by decide +kernel
theorem dX8_clear_59 : decode cX8_clear 59 = .ok (.newarray .long, 2) := by decide +kernel
theorem dX8_clear_61 : decode cX8_clear 61 = .ok (.putfield 9, 3) := by decide +kernel
theorem dX8_clear_64 : decode cX8_clear 64 = .ok (.aload_n 0, 1) := by decide +kernel
theorem dX8_clear_65 : decode cX8_clear 65 = .ok (.aload_n 0, 1) := by decide +kernel
theorem dX8_clear_66 : decode cX8_clear 66 = .ok (.getfield 19, 3) := by decide +kernel
theorem dX8_clear_69 : decode cX8_clear 69 = .ok (.newarray .int, 2) := by decide +kernel
theorem dX8_clear_71 : decode cX8_clear 71 = .ok (.putfield 15, 3) := by decide +kernel
theorem dX8_clear_74 : decode cX8_clear 74 = .ok (.aload_n 0, 1) := by decide +kernel
theorem dX8_clear_75 : decode cX8_clear 75 = .ok (.getfield 15, 3) := by decide +kernel
theorem dX8_clear_78 : decode cX8_clear 78 = .ok (.iconst 0, 1) := by decide +kernel
theorem dX8_clear_79 : decode cX8_clear 79 = .ok (.aload_n 0, 1) := by decide +kernel
theorem dX8_clear_80 : decode cX8_clear 80 = .ok (.getfield 19, 3) := by decide +kernel
theorem dX8_clear_83 : decode cX8_clear 83 = .ok (.iconst 0, 1) := by decide +kernel
theorem dX8_clear_84 : decode cX8_clear 84 = .ok (.invokestatic 26, 3) := by decide +kernel
theorem dX8_clear_87 : decode cX8_clear 87 = .ok (.aload_n 0, 1) := by decide +kernel
theorem dX8_clear_88 : decode cX8_clear 88 = .ok (.getfield 23, 3) := by decide +kernel
theorem dX8_clear_91 : decode cX8_clear 91 = .ok (.iconst 0, 1) := by decide +kernel
theorem dX8_clear_92 : decode cX8_clear 92 = .ok (.invokestatic 32, 3) := by decide +kernel
theorem dX8_clear_95 : decode cX8_clear 95 = .ok (.return_, 1) := by decide +kernel
theorem dX8_add_0 : decode cX8_add 0 = .ok (.iload_n 3, 1) := by decide +kernel
theorem dX8_add_1 : decode cX8_add 1 = .ok (.ifCond .lt 8, 3) := by decide +kernel
theorem dX8_add_4 : decode cX8_add 4 = .ok (.iload_n 3, 1) := by decide +kernel
theorem dX8_add_5 : decode cX8_add 5 = .ok (.iconst 3, 1) := by decide +kernel
theorem dX8_add_6 : decode cX8_add 6 = .ok (.if_icmp .lt 4, 3) := by decide +kernel
theorem dX8_add_9 : decode cX8_add 9 = .ok (.return_, 1) := by decide +kernel
theorem dX8_add_10 : decode cX8_add 10 = .ok (.lload_n 1, 1) := by decide +kernel
theorem dX8_add_11 : decode cX8_add 11 = .ok (.ldc2_w 35, 3) := by decide +kernel
theorem dX8_add_14 : decode cX8_add 14 = .ok (.lmul, 1) := by decide +kernel
theorem dX8_add_15 : decode cX8_add 15 = .ok (.iload_n 3, 1) := by decide +kernel
theorem dX8_add_16 : decode cX8_add 16 = .ok (.i2l, 1) := by decide +kernel
theorem dX8_add_17 : decode cX8_add 17 = .ok (.ladd, 1) := by decide +kernel
theorem dX8_add_18 : decode cX8_add 18 = .ok (.lstore 4, 2) := by decide +kernel
theorem dX8_add_20 : decode cX8_add 20 = .ok (.aload_n 0, 1) := by decide +kernel
theorem dX8_add_21 : decode cX8_add 21 = .ok (.lload 4, 2) := by decide +kernel
theorem dX8_add_23 : decode cX8_add 23 = .ok (.invokevirtual 37, 3) := by decide +kernel
theorem dX8_add_26 : decode cX8_add 26 = .ok (.istore 6, 2) := by decide +kernel
theorem dX8_add_28 : decode cX8_add 28 = .ok (.iconst 0, 1) := by decide +kernel
theorem dX8_add_29 : decode cX8_add 29 = .ok (.istore 7, 2) := by decide +kernel
theorem dX8_add_31 : decode cX8_add 31 = .ok (.iload 7, 2) := by decide +kernel
theorem dX8_add_33 : decode cX8_add 33 = .ok (.aload_n 0, 1) := by decide +kernel
theorem dX8_add_34 : decode cX8_add 34 = .ok (.getfield 19, 3) := by decide +kernel
theorem dX8_add_37 : decode cX8_add 37 = .ok (.if_icmp .ge 45, 3) := by decide +kernel
theorem dX8_add_40 : decode cX8_add 40 = .ok (.aload_n 0, 1) := by decide +kernel
theorem dX8_add_41 : decode cX8_add 41 = .ok (.getfield 15, 3) := by decide +kernel
theorem dX8_add_44 : decode cX8_add 44 = .ok (.iload 6, 2) := by decide +kernel
theorem dX8_add_46 : decode cX8_add 46 = .ok (.iaload, 1) := by decide +kernel
theorem dX8_add_47 : decode cX8_add 47 = .ok (.ifCond .eq 35, 3) := by decide +kernel
theorem dX8_add_50 : decode cX8_add 50 = .ok (.aload_n 0, 1) := by decide +kernel
theorem dX8_add_51 : decode cX8_add 51 = .ok (.getfield 9, 3) := by decide +kernel
theorem dX8_add_54 : decode cX8_add 54 = .ok (.iload 6, 2) := by decide +kernel
theorem dX8_add_56 : decode cX8_add 56 = .ok (.laload, 1) := by decide +kernel
theorem dX8_add_57 : decode cX8_add 57 = .ok (.lload 4, 2) := by decide +kernel
theorem dX8_add_59 : decode cX8_add 59 = .ok (.lcmp, 1) := by decide +kernel
theorem dX8_add_60 : decode cX8_add 60 = .ok (.ifCond .eq 22, 3) := by decide +kernel
theorem dX8_add_63 : decode cX8_add 63 = .ok (.iload 6, 2) := by decide +kernel
theorem dX8_add_65 : decode cX8_add 65 = .ok (.iconst 1, 1) := by decide +kernel
theorem dX8_add_66 : decode cX8_add 66 = .ok (.iadd, 1) := by decide +kernel
theorem dX8_add_67 : decode cX8_add 67 = .ok (.aload_n 0, 1) := by decide +kernel
theorem dX8_add_68 : decode cX8_add 68 = .ok (.getfield 19, 3) := by decide +kernel
theorem dX8_add_71 : decode cX8_add 71 = .ok (.iconst 1, 1) := by decide +kernel
theorem dX8_add_72 : decode cX8_add 72 = .ok (.isub, 1) := by decide +kernel
theorem dX8_add_73 : decode cX8_add 73 = .ok (.iand, 1) := by decide +kernel
theorem dX8_add_74 : decode cX8_add 74 = .ok (.istore 6, 2) := by decide +kernel
theorem dX8_add_76 : decode cX8_add 76 = .ok (.iinc 7 1, 3) := by decide +kernel
theorem dX8_add_79 : decode cX8_add 79 = .ok (.goto (-48), 3) := by decide +kernel
theorem dX8_add_82 : decode cX8_add 82 = .ok (.aload_n 0, 1) := by decide +kernel
theorem dX8_add_83 : decode cX8_add 83 = .ok (.getfield 9, 3) := by decide +kernel
theorem dX8_add_86 : decode cX8_add 86 = .ok (.iload 6, 2) := by decide +kernel
theorem dX8_add_88 : decode cX8_add 88 = .ok (.lload 4, 2) := by decide +kernel
theorem dX8_add_90 : decode cX8_add 90 = .ok (.lastore, 1) := by decide +kernel
theorem dX8_add_91 : decode cX8_add 91 = .ok (.aload_n 0, 1) := by decide +kernel
theorem dX8_add_92 : decode cX8_add 92 = .ok (.getfield 15, 3) := by decide +kernel
theorem dX8_add_95 : decode cX8_add 95 = .ok (.iload 6, 2) := by decide +kernel
theorem dX8_add_97 : decode cX8_add 97 = .ok (.dup2, 1) := by decide +kernel
theorem dX8_add_98 : decode cX8_add 98 = .ok (.iaload, 1) := by decide +kernel
theorem dX8_add_99 : decode cX8_add 99 = .ok (.iconst 1, 1) := by decide +kernel
theorem dX8_add_100 : decode cX8_add 100 = .ok (.iadd, 1) := by decide +kernel
theorem dX8_add_101 : decode cX8_add 101 = .ok (.iastore, 1) := by decide +kernel
theorem dX8_add_102 : decode cX8_add 102 = .ok (.aload_n 0, 1) := by decide +kernel
theorem dX8_add_103 : decode cX8_add 103 = .ok (.getfield 23, 3) := by decide +kernel
theorem dX8_add_106 : decode cX8_add 106 = .ok (.iload_n 3, 1) := by decide +kernel
theorem dX8_add_107 : decode cX8_add 107 = .ok (.aload_n 0, 1) := by decide +kernel
theorem dX8_add_108 : decode cX8_add 108 = .ok (.getfield 23, 3) := by decide +kernel
theorem dX8_add_111 : decode cX8_add 111 = .ok (.iload_n 3, 1) := by decide +kernel
theorem dX8_add_112 : decode cX8_add 112 = .ok (.iaload, 1) := by decide +kernel
theorem dX8_add_113 : decode cX8_add 113 = .ok (.aload_n 0, 1) := by decide +kernel
theorem dX8_add_114 : decode cX8_add 114 = .ok (.getfield 15, 3) := by decide +kernel
theorem dX8_add_117 : decode cX8_add 117 = .ok (.iload 6, 2) := by decide +kernel
theorem dX8_add_119 : decode cX8_add 119 = .ok (.iaload, 1) := by decide +kernel
theorem dX8_add_120 : decode cX8_add 120 = .ok (.invokestatic 41, 3) := by decide +kernel
theorem dX8_add_123 : decode cX8_add 123 = .ok (.iastore, 1) := by decide +kernel
theorem dX8_add_124 : decode cX8_add 124 = .ok (.return_, 1) := by decide +kernel
theorem dX8_slotOf_0 : decode cX8_slotOf 0 = .ok (.lload_n 1, 1) := by decide +kernel
theorem dX8_slotOf_1 : decode cX8_slotOf 1 = .ok (.ldc2_w 47, 3) := by decide +kernel
theorem dX8_slotOf_4 : decode cX8_slotOf 4 = .ok (.lmul, 1) := by decide +kernel
theorem dX8_slotOf_5 : decode cX8_slotOf 5 = .ok (.bipush 40, 2) := by decide +kernel
theorem dX8_slotOf_7 : decode cX8_slotOf 7 = .ok (.lushr, 1) := by decide +kernel
theorem dX8_slotOf_8 : decode cX8_slotOf 8 = .ok (.l2i, 1) := by decide +kernel
theorem dX8_slotOf_9 : decode cX8_slotOf 9 = .ok (.aload_n 0, 1) := by decide +kernel
theorem dX8_slotOf_10 : decode cX8_slotOf 10 = .ok (.getfield 19, 3) := by decide +kernel
theorem dX8_slotOf_13 : decode cX8_slotOf 13 = .ok (.iconst 1, 1) := by decide +kernel
theorem dX8_slotOf_14 : decode cX8_slotOf 14 = .ok (.isub, 1) := by decide +kernel
theorem dX8_slotOf_15 : decode cX8_slotOf 15 = .ok (.iand, 1) := by decide +kernel
theorem dX8_slotOf_16 : decode cX8_slotOf 16 = .ok (.ireturn, 1) := by decide +kernel
theorem dX8_greatest_0 : decode cX8_greatest 0 = .ok (.iload_n 1, 1) := by decide +kernel
theorem dX8_greatest_1 : decode cX8_greatest 1 = .ok (.ifCond .lt 17, 3) := by decide +kernel
theorem dX8_greatest_4 : decode cX8_greatest 4 = .ok (.iload_n 1, 1) := by decide +kernel
theorem dX8_greatest_5 : decode cX8_greatest 5 = .ok (.iconst 3, 1) := by decide +kernel
theorem dX8_greatest_6 : decode cX8_greatest 6 = .ok (.if_icmp .ge 12, 3) := by decide +kernel
theorem dX8_greatest_9 : decode cX8_greatest 9 = .ok (.aload_n 0, 1) := by decide +kernel
theorem dX8_greatest_10 : decode cX8_greatest 10 = .ok (.getfield 23, 3) := by decide +kernel
theorem dX8_greatest_13 : decode cX8_greatest 13 = .ok (.iload_n 1, 1) := by decide +kernel
theorem dX8_greatest_14 : decode cX8_greatest 14 = .ok (.iaload, 1) := by decide +kernel
theorem dX8_greatest_15 : decode cX8_greatest 15 = .ok (.goto 4, 3) := by decide +kernel
theorem dX8_greatest_18 : decode cX8_greatest 18 = .ok (.iconst 0, 1) := by decide +kernel
theorem dX8_greatest_19 : decode cX8_greatest 19 = .ok (.ireturn, 1) := by decide +kernel
theorem dX7_init_0 : decode cX7_init 0 = .ok (.aload_n 0, 1) := by decide +kernel
theorem dX7_init_1 : decode cX7_init 1 = .ok (.invokespecial 3, 3) := by decide +kernel
theorem dX7_init_4 : decode cX7_init 4 = .ok (.aload_n 0, 1) := by decide +kernel
theorem dX7_init_5 : decode cX7_init 5 = .ok (.sipush 366, 3) := by decide +kernel
theorem dX7_init_8 : decode cX7_init 8 = .ok (.newarray .long, 2) := by decide +kernel
theorem dX7_init_10 : decode cX7_init 10 = .ok (.putfield 9, 3) := by decide +kernel
theorem dX7_init_13 : decode cX7_init 13 = .ok (.aload_n 0, 1) := by decide +kernel
theorem dX7_init_14 : decode cX7_init 14 = .ok (.sipush 366, 3) := by decide +kernel
theorem dX7_init_17 : decode cX7_init 17 = .ok (.newarray .long, 2) := by decide +kernel
theorem dX7_init_19 : decode cX7_init 19 = .ok (.putfield 15, 3) := by decide +kernel
theorem dX7_init_22 : decode cX7_init 22 = .ok (.return_, 1) := by decide +kernel
theorem dX7_measure_0 : decode cX7_measure 0 = .ok (.aload_n 1, 1) := by decide +kernel
theorem dX7_measure_1 : decode cX7_measure 1 = .ok (.aload_n 0, 1) := by decide +kernel
theorem dX7_measure_2 : decode cX7_measure 2 = .ok (.getfield 9, 3) := by decide +kernel
theorem dX7_measure_5 : decode cX7_measure 5 = .ok (.iconst (-1), 1) := by decide +kernel
theorem dX7_measure_6 : decode cX7_measure 6 = .ok (.invokestatic 18, 3) := by decide +kernel
theorem dX7_measure_9 : decode cX7_measure 9 = .ok (.return_, 1) := by decide +kernel
theorem dX7_letterAt_0 : decode cX7_letterAt 0 = .ok (.aload_n 0, 1) := by decide +kernel
theorem dX7_letterAt_1 : decode cX7_letterAt 1 = .ok (.aload_n 1, 1) := by decide +kernel
theorem dX7_letterAt_2 : decode cX7_letterAt 2 = .ok (.aload_n 0, 1) := by decide +kernel
theorem dX7_letterAt_3 : decode cX7_letterAt 3 = .ok (.getfield 9, 3) := by decide +kernel
theorem dX7_letterAt_6 : decode cX7_letterAt 6 = .ok (.aload_n 0, 1) := by decide +kernel
theorem dX7_letterAt_7 : decode cX7_letterAt 7 = .ok (.getfield 9, 3) := by decide +kernel
theorem dX7_letterAt_10 : decode cX7_letterAt 10 = .ok (.lload_n 2, 1) := by decide +kernel
theorem dX7_letterAt_11 : decode cX7_letterAt 11 = .ok (.invokevirtual 22, 3) := by decide +kernel
theorem dX7_letterAt_14 : decode cX7_letterAt 14 = .ok (.ireturn, 1) := by decide +kernel
theorem dX7_countAhead_0 : decode cX7_countAhead 0 = .ok (.aload_n 1, 1) := by decide +kernel
theorem dX7_countAhead_1 : decode cX7_countAhead 1 = .ok (.aload_n 0, 1) := by decide +kernel
theorem dX7_countAhead_2 : decode cX7_countAhead 2 = .ok (.getfield 15, 3) := by decide +kernel
theorem dX7_countAhead_5 : decode cX7_countAhead 5 = .ok (.iload_n 2, 1) := by decide +kernel
theorem dX7_countAhead_6 : decode cX7_countAhead 6 = .ok (.invokestatic 18, 3) := by decide +kernel
theorem dX7_countAhead_9 : decode cX7_countAhead 9 = .ok (.aload_n 0, 1) := by decide +kernel
theorem dX7_countAhead_10 : decode cX7_countAhead 10 = .ok (.aload_n 1, 1) := by decide +kernel
theorem dX7_countAhead_11 : decode cX7_countAhead 11 = .ok (.aload_n 0, 1) := by decide +kernel
theorem dX7_countAhead_12 : decode cX7_countAhead 12 = .ok (.getfield 9, 3) := by decide +kernel
theorem dX7_countAhead_15 : decode cX7_countAhead 15 = .ok (.aload_n 0, 1) := by decide +kernel
theorem dX7_countAhead_16 : decode cX7_countAhead 16 = .ok (.getfield 15, 3) := by decide +kernel
theorem dX7_countAhead_19 : decode cX7_countAhead 19 = .ok (.lload_n 3, 1) := by decide +kernel
theorem dX7_countAhead_20 : decode cX7_countAhead 20 = .ok (.invokevirtual 22, 3) := by decide +kernel
theorem dX7_countAhead_23 : decode cX7_countAhead 23 = .ok (.pop, 1) := by decide +kernel
theorem dX7_countAhead_24 : decode cX7_countAhead 24 = .ok (.aload_n 0, 1) := by decide +kernel
theorem dX7_countAhead_25 : decode cX7_countAhead 25 = .ok (.getfield 26, 3) := by decide +kernel
theorem dX7_countAhead_28 : decode cX7_countAhead 28 = .ok (.lreturn, 1) := by decide +kernel
theorem dX7_placeOf_0 : decode cX7_placeOf 0 = .ok (.aload_n 1, 1) := by decide +kernel
theorem dX7_placeOf_1 : decode cX7_placeOf 1 = .ok (.aload_n 0, 1) := by decide +kernel
theorem dX7_placeOf_2 : decode cX7_placeOf 2 = .ok (.getfield 15, 3) := by decide +kernel
theorem dX7_placeOf_5 : decode cX7_placeOf 5 = .ok (.iload_n 2, 1) := by decide +kernel
theorem dX7_placeOf_6 : decode cX7_placeOf 6 = .ok (.invokestatic 18, 3) := by decide +kernel
theorem dX7_placeOf_9 : decode cX7_placeOf 9 = .ok (.aload_n 0, 1) := by decide +kernel
theorem dX7_placeOf_10 : decode cX7_placeOf 10 = .ok (.aload_n 1, 1) := by decide +kernel
theorem dX7_placeOf_11 : decode cX7_placeOf 11 = .ok (.aload_n 0, 1) := by decide +kernel
theorem dX7_placeOf_12 : decode cX7_placeOf 12 = .ok (.getfield 15, 3) := by decide +kernel
theorem dX7_placeOf_15 : decode cX7_placeOf 15 = .ok (.aload_n 0, 1) := by decide +kernel
theorem dX7_placeOf_16 : decode cX7_placeOf 16 = .ok (.getfield 9, 3) := by decide +kernel
theorem dX7_placeOf_19 : decode cX7_placeOf 19 = .ok (.lload_n 3, 1) := by decide +kernel
theorem dX7_placeOf_20 : decode cX7_placeOf 20 = .ok (.invokevirtual 22, 3) := by decide +kernel
theorem dX7_placeOf_23 : decode cX7_placeOf 23 = .ok (.pop, 1) := by decide +kernel
theorem dX7_placeOf_24 : decode cX7_placeOf 24 = .ok (.aload_n 0, 1) := by decide +kernel
theorem dX7_placeOf_25 : decode cX7_placeOf 25 = .ok (.getfield 26, 3) := by decide +kernel
theorem dX7_placeOf_28 : decode cX7_placeOf 28 = .ok (.lreturn, 1) := by decide +kernel
theorem dX7_fill_0 : decode cX7_fill 0 = .ok (.aload_n 0, 1) := by decide +kernel
theorem dX7_fill_1 : decode cX7_fill 1 = .ok (.getfield 30, 3) := by decide +kernel
theorem dX7_fill_4 : decode cX7_fill 4 = .ok (.astore_n 3, 1) := by decide +kernel
theorem dX7_fill_5 : decode cX7_fill 5 = .ok (.iconst 0, 1) := by decide +kernel
theorem dX7_fill_6 : decode cX7_fill 6 = .ok (.istore 4, 2) := by decide +kernel
theorem dX7_fill_8 : decode cX7_fill 8 = .ok (.iload 4, 2) := by decide +kernel
theorem dX7_fill_10 : decode cX7_fill 10 = .ok (.bipush 6, 2) := by decide +kernel
theorem dX7_fill_12 : decode cX7_fill 12 = .ok (.if_icmp .ge 37, 3) := by decide +kernel
theorem dX7_fill_15 : decode cX7_fill 15 = .ok (.aload_n 1, 1) := by decide +kernel
theorem dX7_fill_16 : decode cX7_fill 16 = .ok (.aload_n 0, 1) := by decide +kernel
theorem dX7_fill_17 : decode cX7_fill 17 = .ok (.getfield 36, 3) := by decide +kernel
theorem dX7_fill_20 : decode cX7_fill 20 = .ok (.bipush 6, 2) := by decide +kernel
theorem dX7_fill_22 : decode cX7_fill 22 = .ok (.imul, 1) := by decide +kernel
theorem dX7_fill_23 : decode cX7_fill 23 = .ok (.iload 4, 2) := by decide +kernel
theorem dX7_fill_25 : decode cX7_fill 25 = .ok (.iadd, 1) := by decide +kernel
theorem dX7_fill_26 : decode cX7_fill 26 = .ok (.iload_n 2, 1) := by decide +kernel
theorem dX7_fill_27 : decode cX7_fill 27 = .ok (.iconst (-1), 1) := by decide +kernel
theorem dX7_fill_28 : decode cX7_fill 28 = .ok (.if_icmp .eq 9, 3) := by decide +kernel
theorem dX7_fill_31 : decode cX7_fill 31 = .ok (.iload_n 2, 1) := by decide +kernel
theorem dX7_fill_32 : decode cX7_fill 32 = .ok (.iload 4, 2) := by decide +kernel
theorem dX7_fill_34 : decode cX7_fill 34 = .ok (.if_icmp .ne 7, 3) := by decide +kernel
theorem dX7_fill_37 : decode cX7_fill 37 = .ok (.lconst 1, 1) := by decide +kernel
theorem dX7_fill_38 : decode cX7_fill 38 = .ok (.goto 4, 3) := by decide +kernel
theorem dX7_fill_41 : decode cX7_fill 41 = .ok (.lconst 0, 1) := by decide +kernel
theorem dX7_fill_42 : decode cX7_fill 42 = .ok (.lastore, 1) := by decide +kernel
theorem dX7_fill_43 : decode cX7_fill 43 = .ok (.iinc 4 1, 3) := by decide +kernel
theorem dX7_fill_46 : decode cX7_fill 46 = .ok (.goto (-38), 3) := by decide +kernel
theorem dX7_fill_49 : decode cX7_fill 49 = .ok (.aload_n 0, 1) := by decide +kernel
theorem dX7_fill_50 : decode cX7_fill 50 = .ok (.getfield 36, 3) := by decide +kernel
theorem dX7_fill_53 : decode cX7_fill 53 = .ok (.iconst 1, 1) := by decide +kernel
theorem dX7_fill_54 : decode cX7_fill 54 = .ok (.isub, 1) := by decide +kernel
theorem dX7_fill_55 : decode cX7_fill 55 = .ok (.istore 4, 2) := by decide +kernel
theorem dX7_fill_57 : decode cX7_fill 57 = .ok (.iload 4, 2) := by decide +kernel
theorem dX7_fill_59 : decode cX7_fill 59 = .ok (.ifCond .lt 110, 3) := by decide +kernel
theorem dX7_fill_62 : decode cX7_fill 62 = .ok (.aload_n 0, 1) := by decide +kernel
theorem dX7_fill_63 : decode cX7_fill 63 = .ok (.getfield 40, 3) := by decide +kernel
theorem dX7_fill_66 : decode cX7_fill 66 = .ok (.iload 4, 2) := by decide +kernel
theorem dX7_fill_68 : decode cX7_fill 68 = .ok (.iaload, 1) := by decide +kernel
theorem dX7_fill_69 : decode cX7_fill 69 = .ok (.istore 5, 2) := by decide +kernel
theorem dX7_fill_71 : decode cX7_fill 71 = .ok (.iload 4, 2) := by decide +kernel
theorem dX7_fill_73 : decode cX7_fill 73 = .ok (.iconst 1, 1) := by decide +kernel
theorem dX7_fill_74 : decode cX7_fill 74 = .ok (.iadd, 1) := by decide +kernel
theorem dX7_fill_75 : decode cX7_fill 75 = .ok (.bipush 6, 2) := by decide +kernel
theorem dX7_fill_77 : decode cX7_fill 77 = .ok (.imul, 1) := by decide +kernel
theorem dX7_fill_78 : decode cX7_fill 78 = .ok (.istore 6, 2) := by decide +kernel
theorem dX7_fill_80 : decode cX7_fill 80 = .ok (.iconst 0, 1) := by decide +kernel
theorem dX7_fill_81 : decode cX7_fill 81 = .ok (.istore 7, 2) := by decide +kernel
theorem dX7_fill_83 : decode cX7_fill 83 = .ok (.iload 7, 2) := by decide +kernel
theorem dX7_fill_85 : decode cX7_fill 85 = .ok (.bipush 6, 2) := by decide +kernel
theorem dX7_fill_87 : decode cX7_fill 87 = .ok (.if_icmp .ge 76, 3) := by decide +kernel
theorem dX7_fill_90 : decode cX7_fill 90 = .ok (.aload_n 3, 1) := by decide +kernel
theorem dX7_fill_91 : decode cX7_fill 91 = .ok (.iload 5, 2) := by decide +kernel
theorem dX7_fill_93 : decode cX7_fill 93 = .ok (.iload 7, 2) := by decide +kernel
theorem dX7_fill_95 : decode cX7_fill 95 = .ok (.invokevirtual 44, 3) := by decide +kernel
theorem dX7_fill_98 : decode cX7_fill 98 = .ok (.istore 8, 2) := by decide +kernel
theorem dX7_fill_100 : decode cX7_fill 100 = .ok (.lconst 0, 1) := by decide +kernel
theorem dX7_fill_101 : decode cX7_fill 101 = .ok (.lstore 9, 2) := by decide +kernel
theorem dX7_fill_103 : decode cX7_fill 103 = .ok (.iconst 0, 1) := by decide +kernel
theorem dX7_fill_104 : decode cX7_fill 104 = .ok (.istore 11, 2) := by decide +kernel
theorem dX7_fill_106 : decode cX7_fill 106 = .ok (.iload 11, 2) := by decide +kernel
theorem dX7_fill_108 : decode cX7_fill 108 = .ok (.iload 8, 2) := by decide +kernel
theorem dX7_fill_110 : decode cX7_fill 110 = .ok (.if_icmp .ge 29, 3) := by decide +kernel
theorem dX7_fill_113 : decode cX7_fill 113 = .ok (.lload 9, 2) := by decide +kernel
theorem dX7_fill_115 : decode cX7_fill 115 = .ok (.aload_n 1, 1) := by decide +kernel
theorem dX7_fill_116 : decode cX7_fill 116 = .ok (.iload 6, 2) := by decide +kernel
theorem dX7_fill_118 : decode cX7_fill 118 = .ok (.aload_n 3, 1) := by decide +kernel
theorem dX7_fill_119 : decode cX7_fill 119 = .ok (.iload 5, 2) := by decide +kernel
theorem dX7_fill_121 : decode cX7_fill 121 = .ok (.iload 7, 2) := by decide +kernel
theorem dX7_fill_123 : decode cX7_fill 123 = .ok (.iload 11, 2) := by decide +kernel
theorem dX7_fill_125 : decode cX7_fill 125 = .ok (.invokevirtual 50, 3) := by decide +kernel
theorem dX7_fill_128 : decode cX7_fill 128 = .ok (.iadd, 1) := by decide +kernel
theorem dX7_fill_129 : decode cX7_fill 129 = .ok (.laload, 1) := by decide +kernel
theorem dX7_fill_130 : decode cX7_fill 130 = .ok (.ladd, 1) := by decide +kernel
theorem dX7_fill_131 : decode cX7_fill 131 = .ok (.lstore 9, 2) := by decide +kernel
theorem dX7_fill_133 : decode cX7_fill 133 = .ok (.iinc 11 1, 3) := by decide +kernel
theorem dX7_fill_136 : decode cX7_fill 136 = .ok (.goto (-30), 3) := by decide +kernel
theorem dX7_fill_139 : decode cX7_fill 139 = .ok (.aload_n 1, 1) := by decide +kernel
theorem dX7_fill_140 : decode cX7_fill 140 = .ok (.iload 4, 2) := by decide +kernel
theorem dX7_fill_142 : decode cX7_fill 142 = .ok (.bipush 6, 2) := by decide +kernel
theorem dX7_fill_144 : decode cX7_fill 144 = .ok (.imul, 1) := by decide +kernel
theorem dX7_fill_145 : decode cX7_fill 145 = .ok (.iload 7, 2) := by decide +kernel
theorem dX7_fill_147 : decode cX7_fill 147 = .ok (.iadd, 1) := by decide +kernel
theorem dX7_fill_148 : decode cX7_fill 148 = .ok (.lload 9, 2) := by decide +kernel
theorem dX7_fill_150 : decode cX7_fill 150 = .ok (.ldc2_w 54, 3) := by decide +kernel
theorem dX7_fill_153 : decode cX7_fill 153 = .ok (.invokestatic 56, 3) := by decide +kernel
theorem dX7_fill_156 : decode cX7_fill 156 = .ok (.lastore, 1) := by decide +kernel
theorem dX7_fill_157 : decode cX7_fill 157 = .ok (.iinc 7 1, 3) := by decide +kernel
theorem dX7_fill_160 : decode cX7_fill 160 = .ok (.goto (-77), 3) := by decide +kernel
theorem dX7_fill_163 : decode cX7_fill 163 = .ok (.iinc 4 (-1), 3) := by decide +kernel
theorem dX7_fill_166 : decode cX7_fill 166 = .ok (.goto (-109), 3) := by decide +kernel
theorem dX7_fill_169 : decode cX7_fill 169 = .ok (.return_, 1) := by decide +kernel
theorem dX7_descend_0 : decode cX7_descend 0 = .ok (.aload_n 0, 1) := by decide +kernel
theorem dX7_descend_1 : decode cX7_descend 1 = .ok (.lload 4, 2) := by decide +kernel
theorem dX7_descend_3 : decode cX7_descend 3 = .ok (.putfield 62, 3) := by decide +kernel
theorem dX7_descend_6 : decode cX7_descend 6 = .ok (.aload_n 0, 1) := by decide +kernel
theorem dX7_descend_7 : decode cX7_descend 7 = .ok (.lconst 0, 1) := by decide +kernel
theorem dX7_descend_8 : decode cX7_descend 8 = .ok (.putfield 26, 3) := by decide +kernel
theorem dX7_descend_11 : decode cX7_descend 11 = .ok (.iconst (-1), 1) := by decide +kernel
theorem dX7_descend_12 : decode cX7_descend 12 = .ok (.istore 6, 2) := by decide +kernel
theorem dX7_descend_14 : decode cX7_descend 14 = .ok (.iconst 0, 1) := by decide +kernel
theorem dX7_descend_15 : decode cX7_descend 15 = .ok (.istore 7, 2) := by decide +kernel
theorem dX7_descend_17 : decode cX7_descend 17 = .ok (.iload 7, 2) := by decide +kernel
theorem dX7_descend_19 : decode cX7_descend 19 = .ok (.aload_n 1, 1) := by decide +kernel
theorem dX7_descend_20 : decode cX7_descend 20 = .ok (.getfield 30, 3) := by decide +kernel
theorem dX7_descend_23 : decode cX7_descend 23 = .ok (.getfield 65, 3) := by decide +kernel
theorem dX7_descend_26 : decode cX7_descend 26 = .ok (.if_icmp .ge 46, 3) := by decide +kernel
theorem dX7_descend_29 : decode cX7_descend 29 = .ok (.iload 6, 2) := by decide +kernel
theorem dX7_descend_31 : decode cX7_descend 31 = .ok (.iconst (-1), 1) := by decide +kernel
theorem dX7_descend_32 : decode cX7_descend 32 = .ok (.if_icmp .ne 40, 3) := by decide +kernel
theorem dX7_descend_35 : decode cX7_descend 35 = .ok (.aload_n 1, 1) := by decide +kernel
theorem dX7_descend_36 : decode cX7_descend 36 = .ok (.getfield 30, 3) := by decide +kernel
theorem dX7_descend_39 : decode cX7_descend 39 = .ok (.getfield 68, 3) := by decide +kernel
theorem dX7_descend_42 : decode cX7_descend 42 = .ok (.iload 7, 2) := by decide +kernel
theorem dX7_descend_44 : decode cX7_descend 44 = .ok (.iaload, 1) := by decide +kernel
theorem dX7_descend_45 : decode cX7_descend 45 = .ok (.istore 8, 2) := by decide +kernel
theorem dX7_descend_47 : decode cX7_descend 47 = .ok (.aload_n 0, 1) := by decide +kernel
theorem dX7_descend_48 : decode cX7_descend 48 = .ok (.aload_n 2, 1) := by decide +kernel
theorem dX7_descend_49 : decode cX7_descend 49 = .ok (.aload_n 3, 1) := by decide +kernel
theorem dX7_descend_50 : decode cX7_descend 50 = .ok (.iload 8, 2) := by decide +kernel
theorem dX7_descend_52 : decode cX7_descend 52 = .ok (.invokevirtual 71, 3) := by decide +kernel
theorem dX7_descend_55 : decode cX7_descend 55 = .ok (.ifCond .eq 8, 3) := by decide +kernel
theorem dX7_descend_58 : decode cX7_descend 58 = .ok (.iload 8, 2) := by decide +kernel
theorem dX7_descend_60 : decode cX7_descend 60 = .ok (.goto 4, 3) := by decide +kernel
theorem dX7_descend_63 : decode cX7_descend 63 = .ok (.iconst (-1), 1) := by decide +kernel
theorem dX7_descend_64 : decode cX7_descend 64 = .ok (.istore 6, 2) := by decide +kernel
theorem dX7_descend_66 : decode cX7_descend 66 = .ok (.iinc 7 1, 3) := by decide +kernel
theorem dX7_descend_69 : decode cX7_descend 69 = .ok (.goto (-52), 3) := by decide +kernel
theorem dX7_descend_72 : decode cX7_descend 72 = .ok (.iconst 0, 1) := by decide +kernel
theorem dX7_descend_73 : decode cX7_descend 73 = .ok (.istore 7, 2) := by decide +kernel
theorem dX7_descend_75 : decode cX7_descend 75 = .ok (.iload 7, 2) := by decide +kernel
theorem dX7_descend_77 : decode cX7_descend 77 = .ok (.aload_n 1, 1) := by decide +kernel
theorem dX7_descend_78 : decode cX7_descend 78 = .ok (.getfield 36, 3) := by decide +kernel
theorem dX7_descend_81 : decode cX7_descend 81 = .ok (.if_icmp .ge 28, 3) := by decide +kernel
theorem dX7_descend_84 : decode cX7_descend 84 = .ok (.iload 6, 2) := by decide +kernel
theorem dX7_descend_86 : decode cX7_descend 86 = .ok (.iconst (-1), 1) := by decide +kernel
theorem dX7_descend_87 : decode cX7_descend 87 = .ok (.if_icmp .eq 22, 3) := by decide +kernel
theorem dX7_descend_90 : decode cX7_descend 90 = .ok (.aload_n 0, 1) := by decide +kernel
theorem dX7_descend_91 : decode cX7_descend 91 = .ok (.aload_n 1, 1) := by decide +kernel
theorem dX7_descend_92 : decode cX7_descend 92 = .ok (.iload 7, 2) := by decide +kernel
theorem dX7_descend_94 : decode cX7_descend 94 = .ok (.iload 6, 2) := by decide +kernel
theorem dX7_descend_96 : decode cX7_descend 96 = .ok (.aload_n 2, 1) := by decide +kernel
theorem dX7_descend_97 : decode cX7_descend 97 = .ok (.aload_n 3, 1) := by decide +kernel
theorem dX7_descend_98 : decode cX7_descend 98 = .ok (.invokevirtual 75, 3) := by decide +kernel
theorem dX7_descend_101 : decode cX7_descend 101 = .ok (.istore 6, 2) := by decide +kernel
theorem dX7_descend_103 : decode cX7_descend 103 = .ok (.iinc 7 1, 3) := by decide +kernel
theorem dX7_descend_106 : decode cX7_descend 106 = .ok (.goto (-31), 3) := by decide +kernel
theorem dX7_descend_109 : decode cX7_descend 109 = .ok (.iload 6, 2) := by decide +kernel
theorem dX7_descend_111 : decode cX7_descend 111 = .ok (.ireturn, 1) := by decide +kernel
theorem dX7_childWithin_0 : decode cX7_childWithin 0 = .ok (.aload_n 1, 1) := by decide +kernel
theorem dX7_childWithin_1 : decode cX7_childWithin 1 = .ok (.getfield 40, 3) := by decide +kernel
theorem dX7_childWithin_4 : decode cX7_childWithin 4 = .ok (.iload_n 2, 1) := by decide +kernel
theorem dX7_childWithin_5 : decode cX7_childWithin 5 = .ok (.iaload, 1) := by decide +kernel
theorem dX7_childWithin_6 : decode cX7_childWithin 6 = .ok (.istore 6, 2) := by decide +kernel
theorem dX7_childWithin_8 : decode cX7_childWithin 8 = .ok (.aload_n 1, 1) := by decide +kernel
theorem dX7_childWithin_9 : decode cX7_childWithin 9 = .ok (.getfield 30, 3) := by decide +kernel
theorem dX7_childWithin_12 : decode cX7_childWithin 12 = .ok (.iload 6, 2) := by decide +kernel
theorem dX7_childWithin_14 : decode cX7_childWithin 14 = .ok (.iload_n 3, 1) := by decide +kernel
theorem dX7_childWithin_15 : decode cX7_childWithin 15 = .ok (.invokevirtual 44, 3) := by decide +kernel
theorem dX7_childWithin_18 : decode cX7_childWithin 18 = .ok (.istore 7, 2) := by decide +kernel
theorem dX7_childWithin_20 : decode cX7_childWithin 20 = .ok (.iconst 0, 1) := by decide +kernel
theorem dX7_childWithin_21 : decode cX7_childWithin 21 = .ok (.istore 8, 2) := by decide +kernel
theorem dX7_childWithin_23 : decode cX7_childWithin 23 = .ok (.iload 8, 2) := by decide +kernel
theorem dX7_childWithin_25 : decode cX7_childWithin 25 = .ok (.iload 7, 2) := by decide +kernel
theorem dX7_childWithin_27 : decode cX7_childWithin 27 = .ok (.if_icmp .ge 46, 3) := by decide +kernel
theorem dX7_childWithin_30 : decode cX7_childWithin 30 = .ok (.aload_n 1, 1) := by decide +kernel
theorem dX7_childWithin_31 : decode cX7_childWithin 31 = .ok (.getfield 30, 3) := by decide +kernel
theorem dX7_childWithin_34 : decode cX7_childWithin 34 = .ok (.iload 6, 2) := by decide +kernel
theorem dX7_childWithin_36 : decode cX7_childWithin 36 = .ok (.iload_n 3, 1) := by decide +kernel
theorem dX7_childWithin_37 : decode cX7_childWithin 37 = .ok (.iload 8, 2) := by decide +kernel
theorem dX7_childWithin_39 : decode cX7_childWithin 39 = .ok (.invokevirtual 50, 3) := by decide +kernel
theorem dX7_childWithin_42 : decode cX7_childWithin 42 = .ok (.istore 9, 2) := by decide +kernel
theorem dX7_childWithin_44 : decode cX7_childWithin 44 = .ok (.aload_n 0, 1) := by decide +kernel
theorem dX7_childWithin_45 : decode cX7_childWithin 45 = .ok (.aload 4, 2) := by decide +kernel
theorem dX7_childWithin_47 : decode cX7_childWithin 47 = .ok (.aload 5, 2) := by decide +kernel
theorem dX7_childWithin_49 : decode cX7_childWithin 49 = .ok (.iload_n 2, 1) := by decide +kernel
theorem dX7_childWithin_50 : decode cX7_childWithin 50 = .ok (.iconst 1, 1) := by decide +kernel
theorem dX7_childWithin_51 : decode cX7_childWithin 51 = .ok (.iadd, 1) := by decide +kernel
theorem dX7_childWithin_52 : decode cX7_childWithin 52 = .ok (.bipush 6, 2) := by decide +kernel
theorem dX7_childWithin_54 : decode cX7_childWithin 54 = .ok (.imul, 1) := by decide +kernel
theorem dX7_childWithin_55 : decode cX7_childWithin 55 = .ok (.iload 9, 2) := by decide +kernel
theorem dX7_childWithin_57 : decode cX7_childWithin 57 = .ok (.iadd, 1) := by decide +kernel
theorem dX7_childWithin_58 : decode cX7_childWithin 58 = .ok (.invokevirtual 71, 3) := by decide +kernel
theorem dX7_childWithin_61 : decode cX7_childWithin 61 = .ok (.ifCond .eq 6, 3) := by decide +kernel
theorem dX7_childWithin_64 : decode cX7_childWithin 64 = .ok (.iload 9, 2) := by decide +kernel
theorem dX7_childWithin_66 : decode cX7_childWithin 66 = .ok (.ireturn, 1) := by decide +kernel
theorem dX7_childWithin_67 : decode cX7_childWithin 67 = .ok (.iinc 8 1, 3) := by decide +kernel
theorem dX7_childWithin_70 : decode cX7_childWithin 70 = .ok (.goto (-47), 3) := by decide +kernel
theorem dX7_childWithin_73 : decode cX7_childWithin 73 = .ok (.iconst (-1), 1) := by decide +kernel
theorem dX7_childWithin_74 : decode cX7_childWithin 74 = .ok (.ireturn, 1) := by decide +kernel
theorem dX7_isWithin_0 : decode cX7_isWithin 0 = .ok (.aload_n 0, 1) := by decide +kernel
theorem dX7_isWithin_1 : decode cX7_isWithin 1 = .ok (.getfield 62, 3) := by decide +kernel
theorem dX7_isWithin_4 : decode cX7_isWithin 4 = .ok (.aload_n 1, 1) := by decide +kernel
theorem dX7_isWithin_5 : decode cX7_isWithin 5 = .ok (.iload_n 3, 1) := by decide +kernel
theorem dX7_isWithin_6 : decode cX7_isWithin 6 = .ok (.laload, 1) := by decide +kernel
theorem dX7_isWithin_7 : decode cX7_isWithin 7 = .ok (.lcmp, 1) := by decide +kernel
theorem dX7_isWithin_8 : decode cX7_isWithin 8 = .ok (.ifCond .ge 5, 3) := by decide +kernel
theorem dX7_isWithin_11 : decode cX7_isWithin 11 = .ok (.iconst 1, 1) := by decide +kernel
theorem dX7_isWithin_12 : decode cX7_isWithin 12 = .ok (.ireturn, 1) := by decide +kernel
theorem dX7_isWithin_13 : decode cX7_isWithin 13 = .ok (.aload_n 0, 1) := by decide +kernel
theorem dX7_isWithin_14 : decode cX7_isWithin 14 = .ok (.dup, 1) := by decide +kernel
theorem dX7_isWithin_15 : decode cX7_isWithin 15 = .ok (.getfield 62, 3) := by decide +kernel
theorem dX7_isWithin_18 : decode cX7_isWithin 18 = .ok (.aload_n 1, 1) := by decide +kernel
theorem dX7_isWithin_19 : decode cX7_isWithin 19 = .ok (.iload_n 3, 1) := by decide +kernel
theorem dX7_isWithin_20 : decode cX7_isWithin 20 = .ok (.laload, 1) := by decide +kernel
theorem dX7_isWithin_21 : decode cX7_isWithin 21 = .ok (.lsub, 1) := by decide +kernel
theorem dX7_isWithin_22 : decode cX7_isWithin 22 = .ok (.putfield 62, 3) := by decide +kernel
theorem dX7_isWithin_25 : decode cX7_isWithin 25 = .ok (.aload_n 0, 1) := by decide +kernel
theorem dX7_isWithin_26 : decode cX7_isWithin 26 = .ok (.dup, 1) := by decide +kernel
theorem dX7_isWithin_27 : decode cX7_isWithin 27 = .ok (.getfield 26, 3) := by decide +kernel
theorem dX7_isWithin_30 : decode cX7_isWithin 30 = .ok (.aload_n 2, 1) := by decide +kernel
theorem dX7_isWithin_31 : decode cX7_isWithin 31 = .ok (.iload_n 3, 1) := by decide +kernel
theorem dX7_isWithin_32 : decode cX7_isWithin 32 = .ok (.laload, 1) := by decide +kernel
theorem dX7_isWithin_33 : decode cX7_isWithin 33 = .ok (.ladd, 1) := by decide +kernel
theorem dX7_isWithin_34 : decode cX7_isWithin 34 = .ok (.putfield 26, 3) := by decide +kernel
theorem dX7_isWithin_37 : decode cX7_isWithin 37 = .ok (.iconst 0, 1) := by decide +kernel
theorem dX7_isWithin_38 : decode cX7_isWithin 38 = .ok (.ireturn, 1) := by decide +kernel
theorem dX6_init_0 : decode cX6_init 0 = .ok (.aload_n 0, 1) := by decide +kernel
theorem dX6_init_1 : decode cX6_init 1 = .ok (.invokespecial 3, 3) := by decide +kernel
theorem dX6_init_4 : decode cX6_init 4 = .ok (.aload_n 0, 1) := by decide +kernel
theorem dX6_init_5 : decode cX6_init 5 = .ok (.bipush 6, 2) := by decide +kernel
theorem dX6_init_7 : decode cX6_init 7 = .ok (.newarray .long, 2) := by decide +kernel
theorem dX6_init_9 : decode cX6_init 9 = .ok (.putfield 9, 3) := by decide +kernel
theorem dX6_init_12 : decode cX6_init 12 = .ok (.aload_n 0, 1) := by decide +kernel
theorem dX6_init_13 : decode cX6_init 13 = .ok (.bipush 60, 2) := by decide +kernel
theorem dX6_init_15 : decode cX6_init 15 = .ok (.newarray .int, 2) := by decide +kernel
theorem dX6_init_17 : decode cX6_init 17 = .ok (.putfield 15, 3) := by decide +kernel
theorem dX6_init_20 : decode cX6_init 20 = .ok (.aload_n 0, 1) := by decide +kernel
theorem dX6_init_21 : decode cX6_init 21 = .ok (.bipush 6, 2) := by decide +kernel
theorem dX6_init_23 : decode cX6_init 23 = .ok (.newarray .int, 2) := by decide +kernel
theorem dX6_init_25 : decode cX6_init 25 = .ok (.putfield 19, 3) := by decide +kernel
theorem dX6_init_28 : decode cX6_init 28 = .ok (.aload_n 0, 1) := by decide +kernel
theorem dX6_init_29 : decode cX6_init 29 = .ok (.bipush 6, 2) := by decide +kernel
theorem dX6_init_31 : decode cX6_init 31 = .ok (.newarray .int, 2) := by decide +kernel
theorem dX6_init_33 : decode cX6_init 33 = .ok (.putfield 22, 3) := by decide +kernel
theorem dX6_init_36 : decode cX6_init 36 = .ok (.aload_n 0, 1) := by decide +kernel
theorem dX6_init_37 : decode cX6_init 37 = .ok (.bipush 6, 2) := by decide +kernel
theorem dX6_init_39 : decode cX6_init 39 = .ok (.newarray .int, 2) := by decide +kernel
theorem dX6_init_41 : decode cX6_init 41 = .ok (.putfield 25, 3) := by decide +kernel
theorem dX6_init_44 : decode cX6_init 44 = .ok (.aload_n 0, 1) := by decide +kernel
theorem dX6_init_45 : decode cX6_init 45 = .ok (.bipush 6, 2) := by decide +kernel
theorem dX6_init_47 : decode cX6_init 47 = .ok (.newarray .long, 2) := by decide +kernel
theorem dX6_init_49 : decode cX6_init 49 = .ok (.putfield 28, 3) := by decide +kernel
theorem dX6_init_52 : decode cX6_init 52 = .ok (.aload_n 0, 1) := by decide +kernel
theorem dX6_init_53 : decode cX6_init 53 = .ok (.bipush 64, 2) := by decide +kernel
theorem dX6_init_55 : decode cX6_init 55 = .ok (.newarray .int, 2) := by decide +kernel
theorem dX6_init_57 : decode cX6_init 57 = .ok (.putfield 33, 3) := by decide +kernel
theorem dX6_init_60 : decode cX6_init 60 = .ok (.aload_n 0, 1) := by decide +kernel
theorem dX6_init_61 : decode cX6_init 61 = .ok (.aload_n 1, 1) := by decide +kernel
theorem dX6_init_62 : decode cX6_init 62 = .ok (.invokevirtual 36, 3) := by decide +kernel
theorem dX6_init_65 : decode cX6_init 65 = .ok (.return_, 1) := by decide +kernel
theorem dX6_begin_0 : decode cX6_begin 0 = .ok (.aload_n 0, 1) := by decide +kernel
theorem dX6_begin_1 : decode cX6_begin 1 = .ok (.aload_n 1, 1) := by decide +kernel
theorem dX6_begin_2 : decode cX6_begin 2 = .ok (.putfield 40, 3) := by decide +kernel
theorem dX6_begin_5 : decode cX6_begin 5 = .ok (.aload_n 0, 1) := by decide +kernel
theorem dX6_begin_6 : decode cX6_begin 6 = .ok (.aload_n 1, 1) := by decide +kernel
theorem dX6_begin_7 : decode cX6_begin 7 = .ok (.getfield 44, 3) := by decide +kernel
theorem dX6_begin_10 : decode cX6_begin 10 = .ok (.putfield 50, 3) := by decide +kernel
theorem dX6_begin_13 : decode cX6_begin 13 = .ok (.aload_n 0, 1) := by decide +kernel
theorem dX6_begin_14 : decode cX6_begin 14 = .ok (.iconst 0, 1) := by decide +kernel
theorem dX6_begin_15 : decode cX6_begin 15 = .ok (.putfield 51, 3) := by decide +kernel
theorem dX6_begin_18 : decode cX6_begin 18 = .ok (.aload_n 0, 1) := by decide +kernel
theorem dX6_begin_19 : decode cX6_begin 19 = .ok (.iconst 0, 1) := by decide +kernel
theorem dX6_begin_20 : decode cX6_begin 20 = .ok (.putfield 54, 3) := by decide +kernel
theorem dX6_begin_23 : decode cX6_begin 23 = .ok (.aload_n 0, 1) := by decide +kernel
theorem dX6_begin_24 : decode cX6_begin 24 = .ok (.invokevirtual 57, 3) := by decide +kernel
theorem dX6_begin_27 : decode cX6_begin 27 = .ok (.return_, 1) := by decide +kernel
theorem dX6_copyFrom_0 : decode cX6_copyFrom 0 = .ok (.aload_n 0, 1) := by decide +kernel
theorem dX6_copyFrom_1 : decode cX6_copyFrom 1 = .ok (.aload_n 1, 1) := by decide +kernel
theorem dX6_copyFrom_2 : decode cX6_copyFrom 2 = .ok (.getfield 40, 3) := by decide +kernel
theorem dX6_copyFrom_5 : decode cX6_copyFrom 5 = .ok (.putfield 40, 3) := by decide +kernel
theorem dX6_copyFrom_8 : decode cX6_copyFrom 8 = .ok (.aload_n 0, 1) := by decide +kernel
theorem dX6_copyFrom_9 : decode cX6_copyFrom 9 = .ok (.aload_n 1, 1) := by decide +kernel
theorem dX6_copyFrom_10 : decode cX6_copyFrom 10 = .ok (.getfield 50, 3) := by decide +kernel
theorem dX6_copyFrom_13 : decode cX6_copyFrom 13 = .ok (.putfield 50, 3) := by decide +kernel
theorem dX6_copyFrom_16 : decode cX6_copyFrom 16 = .ok (.aload_n 0, 1) := by decide +kernel
theorem dX6_copyFrom_17 : decode cX6_copyFrom 17 = .ok (.aload_n 1, 1) := by decide +kernel
theorem dX6_copyFrom_18 : decode cX6_copyFrom 18 = .ok (.getfield 51, 3) := by decide +kernel
theorem dX6_copyFrom_21 : decode cX6_copyFrom 21 = .ok (.putfield 51, 3) := by decide +kernel
theorem dX6_copyFrom_24 : decode cX6_copyFrom 24 = .ok (.aload_n 0, 1) := by decide +kernel
theorem dX6_copyFrom_25 : decode cX6_copyFrom 25 = .ok (.aload_n 1, 1) := by decide +kernel
theorem dX6_copyFrom_26 : decode cX6_copyFrom 26 = .ok (.getfield 54, 3) := by decide +kernel
theorem dX6_copyFrom_29 : decode cX6_copyFrom 29 = .ok (.putfield 54, 3) := by decide +kernel
theorem dX6_copyFrom_32 : decode cX6_copyFrom 32 = .ok (.aload_n 0, 1) := by decide +kernel
theorem dX6_copyFrom_33 : decode cX6_copyFrom 33 = .ok (.aload_n 1, 1) := by decide +kernel
theorem dX6_copyFrom_34 : decode cX6_copyFrom 34 = .ok (.getfield 60, 3) := by decide +kernel
theorem dX6_copyFrom_37 : decode cX6_copyFrom 37 = .ok (.putfield 60, 3) := by decide +kernel
theorem dX6_copyFrom_40 : decode cX6_copyFrom 40 = .ok (.aload_n 0, 1) := by decide +kernel
theorem dX6_copyFrom_41 : decode cX6_copyFrom 41 = .ok (.aload_n 1, 1) := by decide +kernel
theorem dX6_copyFrom_42 : decode cX6_copyFrom 42 = .ok (.getfield 64, 3) := by decide +kernel
theorem dX6_copyFrom_45 : decode cX6_copyFrom 45 = .ok (.putfield 64, 3) := by decide +kernel
theorem dX6_copyFrom_48 : decode cX6_copyFrom 48 = .ok (.aload_n 1, 1) := by decide +kernel
theorem dX6_copyFrom_49 : decode cX6_copyFrom 49 = .ok (.getfield 9, 3) := by decide +kernel
theorem dX6_copyFrom_52 : decode cX6_copyFrom 52 = .ok (.iconst 0, 1) := by decide +kernel
theorem dX6_copyFrom_53 : decode cX6_copyFrom 53 = .ok (.aload_n 0, 1) := by decide +kernel
theorem dX6_copyFrom_54 : decode cX6_copyFrom 54 = .ok (.getfield 9, 3) := by decide +kernel
theorem dX6_copyFrom_57 : decode cX6_copyFrom 57 = .ok (.iconst 0, 1) := by decide +kernel
theorem dX6_copyFrom_58 : decode cX6_copyFrom 58 = .ok (.bipush 6, 2) := by decide +kernel
theorem dX6_copyFrom_60 : decode cX6_copyFrom 60 = .ok (.invokestatic 67, 3) := by decide +kernel
theorem dX6_copyFrom_63 : decode cX6_copyFrom 63 = .ok (.aload_n 1, 1) := by decide +kernel
theorem dX6_copyFrom_64 : decode cX6_copyFrom 64 = .ok (.getfield 19, 3) := by decide +kernel
theorem dX6_copyFrom_67 : decode cX6_copyFrom 67 = .ok (.iconst 0, 1) := by decide +kernel
theorem dX6_copyFrom_68 : decode cX6_copyFrom 68 = .ok (.aload_n 0, 1) := by decide +kernel
theorem dX6_copyFrom_69 : decode cX6_copyFrom 69 = .ok (.getfield 19, 3) := by decide +kernel
theorem dX6_copyFrom_72 : decode cX6_copyFrom 72 = .ok (.iconst 0, 1) := by decide +kernel
theorem dX6_copyFrom_73 : decode cX6_copyFrom 73 = .ok (.bipush 6, 2) := by decide +kernel
theorem dX6_copyFrom_75 : decode cX6_copyFrom 75 = .ok (.invokestatic 67, 3) := by decide +kernel
theorem dX6_copyFrom_78 : decode cX6_copyFrom 78 = .ok (.aload_n 1, 1) := by decide +kernel
theorem dX6_copyFrom_79 : decode cX6_copyFrom 79 = .ok (.getfield 22, 3) := by decide +kernel
theorem dX6_copyFrom_82 : decode cX6_copyFrom 82 = .ok (.iconst 0, 1) := by decide +kernel
theorem dX6_copyFrom_83 : decode cX6_copyFrom 83 = .ok (.aload_n 0, 1) := by decide +kernel
theorem dX6_copyFrom_84 : decode cX6_copyFrom 84 = .ok (.getfield 22, 3) := by decide +kernel
theorem dX6_copyFrom_87 : decode cX6_copyFrom 87 = .ok (.iconst 0, 1) := by decide +kernel
theorem dX6_copyFrom_88 : decode cX6_copyFrom 88 = .ok (.bipush 6, 2) := by decide +kernel
theorem dX6_copyFrom_90 : decode cX6_copyFrom 90 = .ok (.invokestatic 67, 3) := by decide +kernel
theorem dX6_copyFrom_93 : decode cX6_copyFrom 93 = .ok (.aload_n 1, 1) := by decide +kernel
theorem dX6_copyFrom_94 : decode cX6_copyFrom 94 = .ok (.getfield 15, 3) := by decide +kernel
theorem dX6_copyFrom_97 : decode cX6_copyFrom 97 = .ok (.iconst 0, 1) := by decide +kernel
theorem dX6_copyFrom_98 : decode cX6_copyFrom 98 = .ok (.aload_n 0, 1) := by decide +kernel
theorem dX6_copyFrom_99 : decode cX6_copyFrom 99 = .ok (.getfield 15, 3) := by decide +kernel
theorem dX6_copyFrom_102 : decode cX6_copyFrom 102 = .ok (.iconst 0, 1) := by decide +kernel
theorem dX6_copyFrom_103 : decode cX6_copyFrom 103 = .ok (.bipush 60, 2) := by decide +kernel
theorem dX6_copyFrom_105 : decode cX6_copyFrom 105 = .ok (.invokestatic 67, 3) := by decide +kernel
theorem dX6_copyFrom_108 : decode cX6_copyFrom 108 = .ok (.return_, 1) := by decide +kernel
theorem dX6_rewind_0 : decode cX6_rewind 0 = .ok (.aload_n 0, 1) := by decide +kernel
theorem dX6_rewind_1 : decode cX6_rewind 1 = .ok (.invokevirtual 57, 3) := by decide +kernel
theorem dX6_rewind_4 : decode cX6_rewind 4 = .ok (.aload_n 0, 1) := by decide +kernel
theorem dX6_rewind_5 : decode cX6_rewind 5 = .ok (.iload_n 1, 1) := by decide +kernel
theorem dX6_rewind_6 : decode cX6_rewind 6 = .ok (.aload_n 0, 1) := by decide +kernel
theorem dX6_rewind_7 : decode cX6_rewind 7 = .ok (.getfield 54, 3) := by decide +kernel
theorem dX6_rewind_10 : decode cX6_rewind 10 = .ok (.invokestatic 73, 3) := by decide +kernel
theorem dX6_rewind_13 : decode cX6_rewind 13 = .ok (.putfield 54, 3) := by decide +kernel
theorem dX6_rewind_16 : decode cX6_rewind 16 = .ok (.iconst 0, 1) := by decide +kernel
theorem dX6_rewind_17 : decode cX6_rewind 17 = .ok (.istore 4, 2) := by decide +kernel
theorem dX6_rewind_19 : decode cX6_rewind 19 = .ok (.iload 4, 2) := by decide +kernel
theorem dX6_rewind_21 : decode cX6_rewind 21 = .ok (.aload_n 0, 1) := by decide +kernel
theorem dX6_rewind_22 : decode cX6_rewind 22 = .ok (.getfield 54, 3) := by decide +kernel
theorem dX6_rewind_25 : decode cX6_rewind 25 = .ok (.if_icmp .ge 20, 3) := by decide +kernel
theorem dX6_rewind_28 : decode cX6_rewind 28 = .ok (.aload_n 0, 1) := by decide +kernel
theorem dX6_rewind_29 : decode cX6_rewind 29 = .ok (.aload_n 0, 1) := by decide +kernel
theorem dX6_rewind_30 : decode cX6_rewind 30 = .ok (.getfield 15, 3) := by decide +kernel
theorem dX6_rewind_33 : decode cX6_rewind 33 = .ok (.iload 4, 2) := by decide +kernel
theorem dX6_rewind_35 : decode cX6_rewind 35 = .ok (.iaload, 1) := by decide +kernel
theorem dX6_rewind_36 : decode cX6_rewind 36 = .ok (.invokevirtual 79, 3) := by decide +kernel
theorem dX6_rewind_39 : decode cX6_rewind 39 = .ok (.iinc 4 1, 3) := by decide +kernel
theorem dX6_rewind_42 : decode cX6_rewind 42 = .ok (.goto (-23), 3) := by decide +kernel
theorem dX6_rewind_45 : decode cX6_rewind 45 = .ok (.aload_n 0, 1) := by decide +kernel
theorem dX6_rewind_46 : decode cX6_rewind 46 = .ok (.iload_n 2, 1) := by decide +kernel
theorem dX6_rewind_47 : decode cX6_rewind 47 = .ok (.putfield 51, 3) := by decide +kernel
theorem dX6_rewind_50 : decode cX6_rewind 50 = .ok (.aload_n 0, 1) := by decide +kernel
theorem dX6_rewind_51 : decode cX6_rewind 51 = .ok (.iload_n 3, 1) := by decide +kernel
theorem dX6_rewind_52 : decode cX6_rewind 52 = .ok (.putfield 50, 3) := by decide +kernel
theorem dX6_rewind_55 : decode cX6_rewind 55 = .ok (.return_, 1) := by decide +kernel
theorem dX6_layStart_0 : decode cX6_layStart 0 = .ok (.aload_n 0, 1) := by decide +kernel
theorem dX6_layStart_1 : decode cX6_layStart 1 = .ok (.getfield 9, 3) := by decide +kernel
theorem dX6_layStart_4 : decode cX6_layStart 4 = .ok (.lconst 0, 1) := by decide +kernel
theorem dX6_layStart_5 : decode cX6_layStart 5 = .ok (.invokestatic 83, 3) := by decide +kernel
theorem dX6_layStart_8 : decode cX6_layStart 8 = .ok (.aload_n 0, 1) := by decide +kernel
theorem dX6_layStart_9 : decode cX6_layStart 9 = .ok (.aload_n 0, 1) := by decide +kernel
theorem dX6_layStart_10 : decode cX6_layStart 10 = .ok (.getfield 40, 3) := by decide +kernel
theorem dX6_layStart_13 : decode cX6_layStart 13 = .ok (.getfield 89, 3) := by decide +kernel
theorem dX6_layStart_16 : decode cX6_layStart 16 = .ok (.i2l, 1) := by decide +kernel
theorem dX6_layStart_17 : decode cX6_layStart 17 = .ok (.putfield 60, 3) := by decide +kernel
theorem dX6_layStart_20 : decode cX6_layStart 20 = .ok (.aload_n 0, 1) := by decide +kernel
theorem dX6_layStart_21 : decode cX6_layStart 21 = .ok (.iconst 0, 1) := by decide +kernel
theorem dX6_layStart_22 : decode cX6_layStart 22 = .ok (.putfield 64, 3) := by decide +kernel
theorem dX6_layStart_25 : decode cX6_layStart 25 = .ok (.iconst 0, 1) := by decide +kernel
theorem dX6_layStart_26 : decode cX6_layStart 26 = .ok (.istore_n 1, 1) := by decide +kernel
theorem dX6_layStart_27 : decode cX6_layStart 27 = .ok (.iconst 0, 1) := by decide +kernel
theorem dX6_layStart_28 : decode cX6_layStart 28 = .ok (.istore_n 2, 1) := by decide +kernel
theorem dX6_layStart_29 : decode cX6_layStart 29 = .ok (.iload_n 2, 1) := by decide +kernel
theorem dX6_layStart_30 : decode cX6_layStart 30 = .ok (.aload_n 0, 1) := by decide +kernel
theorem dX6_layStart_31 : decode cX6_layStart 31 = .ok (.getfield 40, 3) := by decide +kernel
theorem dX6_layStart_34 : decode cX6_layStart 34 = .ok (.getfield 89, 3) := by decide +kernel
theorem dX6_layStart_37 : decode cX6_layStart 37 = .ok (.if_icmp .ge 73, 3) := by decide +kernel
theorem dX6_layStart_40 : decode cX6_layStart 40 = .ok (.aload_n 0, 1) := by decide +kernel
theorem dX6_layStart_41 : decode cX6_layStart 41 = .ok (.getfield 40, 3) := by decide +kernel
theorem dX6_layStart_44 : decode cX6_layStart 44 = .ok (.getfield 92, 3) := by decide +kernel
theorem dX6_layStart_47 : decode cX6_layStart 47 = .ok (.iload_n 2, 1) := by decide +kernel
theorem dX6_layStart_48 : decode cX6_layStart 48 = .ok (.iaload, 1) := by decide +kernel
theorem dX6_layStart_49 : decode cX6_layStart 49 = .ok (.istore_n 3, 1) := by decide +kernel
theorem dX6_layStart_50 : decode cX6_layStart 50 = .ok (.aload_n 0, 1) := by decide +kernel
theorem dX6_layStart_51 : decode cX6_layStart 51 = .ok (.getfield 9, 3) := by decide +kernel
theorem dX6_layStart_54 : decode cX6_layStart 54 = .ok (.iload_n 3, 1) := by decide +kernel
theorem dX6_layStart_55 : decode cX6_layStart 55 = .ok (.dup2, 1) := by decide +kernel
theorem dX6_layStart_56 : decode cX6_layStart 56 = .ok (.laload, 1) := by decide +kernel
theorem dX6_layStart_57 : decode cX6_layStart 57 = .ok (.lconst 1, 1) := by decide +kernel
theorem dX6_layStart_58 : decode cX6_layStart 58 = .ok (.ladd, 1) := by decide +kernel
theorem dX6_layStart_59 : decode cX6_layStart 59 = .ok (.lastore, 1) := by decide +kernel
theorem dX6_layStart_60 : decode cX6_layStart 60 = .ok (.aload_n 0, 1) := by decide +kernel
theorem dX6_layStart_61 : decode cX6_layStart 61 = .ok (.aload_n 0, 1) := by decide +kernel
theorem dX6_layStart_62 : decode cX6_layStart 62 = .ok (.getfield 19, 3) := by decide +kernel
theorem dX6_layStart_65 : decode cX6_layStart 65 = .ok (.aload_n 0, 1) := by decide +kernel
theorem dX6_layStart_66 : decode cX6_layStart 66 = .ok (.getfield 64, 3) := by decide +kernel
theorem dX6_layStart_69 : decode cX6_layStart 69 = .ok (.iload_n 3, 1) := by decide +kernel
theorem dX6_layStart_70 : decode cX6_layStart 70 = .ok (.invokestatic 95, 3) := by decide +kernel
theorem dX6_layStart_73 : decode cX6_layStart 73 = .ok (.putfield 64, 3) := by decide +kernel
theorem dX6_layStart_76 : decode cX6_layStart 76 = .ok (.aload_n 0, 1) := by decide +kernel
theorem dX6_layStart_77 : decode cX6_layStart 77 = .ok (.getfield 22, 3) := by decide +kernel
theorem dX6_layStart_80 : decode cX6_layStart 80 = .ok (.iload_n 1, 1) := by decide +kernel
theorem dX6_layStart_81 : decode cX6_layStart 81 = .ok (.aload_n 0, 1) := by decide +kernel
theorem dX6_layStart_82 : decode cX6_layStart 82 = .ok (.getfield 40, 3) := by decide +kernel
theorem dX6_layStart_85 : decode cX6_layStart 85 = .ok (.getfield 92, 3) := by decide +kernel
theorem dX6_layStart_88 : decode cX6_layStart 88 = .ok (.aload_n 0, 1) := by decide +kernel
theorem dX6_layStart_89 : decode cX6_layStart 89 = .ok (.getfield 40, 3) := by decide +kernel
theorem dX6_layStart_92 : decode cX6_layStart 92 = .ok (.getfield 89, 3) := by decide +kernel
theorem dX6_layStart_95 : decode cX6_layStart 95 = .ok (.iconst 1, 1) := by decide +kernel
theorem dX6_layStart_96 : decode cX6_layStart 96 = .ok (.isub, 1) := by decide +kernel
theorem dX6_layStart_97 : decode cX6_layStart 97 = .ok (.iload_n 2, 1) := by decide +kernel
theorem dX6_layStart_98 : decode cX6_layStart 98 = .ok (.isub, 1) := by decide +kernel
theorem dX6_layStart_99 : decode cX6_layStart 99 = .ok (.iaload, 1) := by decide +kernel
theorem dX6_layStart_100 : decode cX6_layStart 100 = .ok (.invokestatic 95, 3) := by decide +kernel
theorem dX6_layStart_103 : decode cX6_layStart 103 = .ok (.istore_n 1, 1) := by decide +kernel
theorem dX6_layStart_104 : decode cX6_layStart 104 = .ok (.iinc 2 1, 3) := by decide +kernel
theorem dX6_layStart_107 : decode cX6_layStart 107 = .ok (.goto (-78), 3) := by decide +kernel
theorem dX6_layStart_110 : decode cX6_layStart 110 = .ok (.return_, 1) := by decide +kernel
theorem dX6_enlisted_0 : decode cX6_enlisted 0 = .ok (.iconst 0, 1) := by decide +kernel
theorem dX6_enlisted_1 : decode cX6_enlisted 1 = .ok (.istore_n 3, 1) := by decide +kernel
theorem dX6_enlisted_2 : decode cX6_enlisted 2 = .ok (.iload_n 3, 1) := by decide +kernel
theorem dX6_enlisted_3 : decode cX6_enlisted 3 = .ok (.iload_n 1, 1) := by decide +kernel
theorem dX6_enlisted_4 : decode cX6_enlisted 4 = .ok (.if_icmp .ge 18, 3) := by decide +kernel
theorem dX6_enlisted_7 : decode cX6_enlisted 7 = .ok (.aload_n 0, 1) := by decide +kernel
theorem dX6_enlisted_8 : decode cX6_enlisted 8 = .ok (.iload_n 3, 1) := by decide +kernel
theorem dX6_enlisted_9 : decode cX6_enlisted 9 = .ok (.iaload, 1) := by decide +kernel
theorem dX6_enlisted_10 : decode cX6_enlisted 10 = .ok (.iload_n 2, 1) := by decide +kernel
theorem dX6_enlisted_11 : decode cX6_enlisted 11 = .ok (.if_icmp .ne 5, 3) := by decide +kernel
theorem dX6_enlisted_14 : decode cX6_enlisted 14 = .ok (.iload_n 1, 1) := by decide +kernel
theorem dX6_enlisted_15 : decode cX6_enlisted 15 = .ok (.ireturn, 1) := by decide +kernel
theorem dX6_enlisted_16 : decode cX6_enlisted 16 = .ok (.iinc 3 1, 3) := by decide +kernel
theorem dX6_enlisted_19 : decode cX6_enlisted 19 = .ok (.goto (-17), 3) := by decide +kernel
theorem dX6_enlisted_22 : decode cX6_enlisted 22 = .ok (.iload_n 1, 1) := by decide +kernel
theorem dX6_enlisted_23 : decode cX6_enlisted 23 = .ok (.aload_n 0, 1) := by decide +kernel
theorem dX6_enlisted_24 : decode cX6_enlisted 24 = .ok (.arraylength, 1) := by decide +kernel
theorem dX6_enlisted_25 : decode cX6_enlisted 25 = .ok (.if_icmp .lt 5, 3) := by decide +kernel
theorem dX6_enlisted_28 : decode cX6_enlisted 28 = .ok (.iload_n 1, 1) := by decide +kernel
theorem dX6_enlisted_29 : decode cX6_enlisted 29 = .ok (.ireturn, 1) := by decide +kernel
theorem dX6_enlisted_30 : decode cX6_enlisted 30 = .ok (.aload_n 0, 1) := by decide +kernel
theorem dX6_enlisted_31 : decode cX6_enlisted 31 = .ok (.iload_n 1, 1) := by decide +kernel
theorem dX6_enlisted_32 : decode cX6_enlisted 32 = .ok (.iload_n 2, 1) := by decide +kernel
theorem dX6_enlisted_33 : decode cX6_enlisted 33 = .ok (.iastore, 1) := by decide +kernel
theorem dX6_enlisted_34 : decode cX6_enlisted 34 = .ok (.iload_n 1, 1) := by decide +kernel
theorem dX6_enlisted_35 : decode cX6_enlisted 35 = .ok (.iconst 1, 1) := by decide +kernel
theorem dX6_enlisted_36 : decode cX6_enlisted 36 = .ok (.iadd, 1) := by decide +kernel
theorem dX6_enlisted_37 : decode cX6_enlisted 37 = .ok (.ireturn, 1) := by decide +kernel
theorem dX6_tryDeed_0 : decode cX6_tryDeed 0 = .ok (.lload_n 1, 1) := by decide +kernel
theorem dX6_tryDeed_1 : decode cX6_tryDeed 1 = .ok (.lconst 0, 1) := by decide +kernel
theorem dX6_tryDeed_2 : decode cX6_tryDeed 2 = .ok (.lcmp, 1) := by decide +kernel
theorem dX6_tryDeed_3 : decode cX6_tryDeed 3 = .ok (.ifCond .ne 31, 3) := by decide +kernel
theorem dX6_tryDeed_6 : decode cX6_tryDeed 6 = .ok (.aload_n 0, 1) := by decide +kernel
theorem dX6_tryDeed_7 : decode cX6_tryDeed 7 = .ok (.invokevirtual 99, 3) := by decide +kernel
theorem dX6_tryDeed_10 : decode cX6_tryDeed 10 = .ok (.ifCond .eq 15, 3) := by decide +kernel
theorem dX6_tryDeed_13 : decode cX6_tryDeed 13 = .ok (.aload_n 0, 1) := by decide +kernel
theorem dX6_tryDeed_14 : decode cX6_tryDeed 14 = .ok (.dup, 1) := by decide +kernel
theorem dX6_tryDeed_15 : decode cX6_tryDeed 15 = .ok (.getfield 51, 3) := by decide +kernel
theorem dX6_tryDeed_18 : decode cX6_tryDeed 18 = .ok (.iconst 1, 1) := by decide +kernel
theorem dX6_tryDeed_19 : decode cX6_tryDeed 19 = .ok (.iadd, 1) := by decide +kernel
theorem dX6_tryDeed_20 : decode cX6_tryDeed 20 = .ok (.putfield 51, 3) := by decide +kernel
theorem dX6_tryDeed_23 : decode cX6_tryDeed 23 = .ok (.iconst 0, 1) := by decide +kernel
theorem dX6_tryDeed_24 : decode cX6_tryDeed 24 = .ok (.ireturn, 1) := by decide +kernel
theorem dX6_tryDeed_25 : decode cX6_tryDeed 25 = .ok (.aload_n 0, 1) := by decide +kernel
theorem dX6_tryDeed_26 : decode cX6_tryDeed 26 = .ok (.aload_n 0, 1) := by decide +kernel
theorem dX6_tryDeed_27 : decode cX6_tryDeed 27 = .ok (.invokevirtual 103, 3) := by decide +kernel
theorem dX6_tryDeed_30 : decode cX6_tryDeed 30 = .ok (.invokevirtual 107, 3) := by decide +kernel
theorem dX6_tryDeed_33 : decode cX6_tryDeed 33 = .ok (.ireturn, 1) := by decide +kernel
theorem dX6_tryDeed_34 : decode cX6_tryDeed 34 = .ok (.lload_n 1, 1) := by decide +kernel
theorem dX6_tryDeed_35 : decode cX6_tryDeed 35 = .ok (.lconst 0, 1) := by decide +kernel
theorem dX6_tryDeed_36 : decode cX6_tryDeed 36 = .ok (.lcmp, 1) := by decide +kernel
theorem dX6_tryDeed_37 : decode cX6_tryDeed 37 = .ok (.ifCond .le 25, 3) := by decide +kernel
theorem dX6_tryDeed_40 : decode cX6_tryDeed 40 = .ok (.lload_n 1, 1) := by decide +kernel
theorem dX6_tryDeed_41 : decode cX6_tryDeed 41 = .ok (.aload_n 0, 1) := by decide +kernel
theorem dX6_tryDeed_42 : decode cX6_tryDeed 42 = .ok (.getfield 40, 3) := by decide +kernel
theorem dX6_tryDeed_45 : decode cX6_tryDeed 45 = .ok (.getfield 111, 3) := by decide +kernel
theorem dX6_tryDeed_48 : decode cX6_tryDeed 48 = .ok (.i2l, 1) := by decide +kernel
theorem dX6_tryDeed_49 : decode cX6_tryDeed 49 = .ok (.lcmp, 1) := by decide +kernel
theorem dX6_tryDeed_50 : decode cX6_tryDeed 50 = .ok (.ifCond .gt 12, 3) := by decide +kernel
theorem dX6_tryDeed_53 : decode cX6_tryDeed 53 = .ok (.aload_n 0, 1) := by decide +kernel
theorem dX6_tryDeed_54 : decode cX6_tryDeed 54 = .ok (.lload_n 1, 1) := by decide +kernel
theorem dX6_tryDeed_55 : decode cX6_tryDeed 55 = .ok (.l2i, 1) := by decide +kernel
theorem dX6_tryDeed_56 : decode cX6_tryDeed 56 = .ok (.iconst 1, 1) := by decide +kernel
theorem dX6_tryDeed_57 : decode cX6_tryDeed 57 = .ok (.isub, 1) := by decide +kernel
theorem dX6_tryDeed_58 : decode cX6_tryDeed 58 = .ok (.invokevirtual 107, 3) := by decide +kernel
theorem dX6_tryDeed_61 : decode cX6_tryDeed 61 = .ok (.ireturn, 1) := by decide +kernel
theorem dX6_tryDeed_62 : decode cX6_tryDeed 62 = .ok (.lload_n 1, 1) := by decide +kernel
theorem dX6_tryDeed_63 : decode cX6_tryDeed 63 = .ok (.ldc2_w 114, 3) := by decide +kernel
theorem dX6_tryDeed_66 : decode cX6_tryDeed 66 = .ok (.lcmp, 1) := by decide +kernel
theorem dX6_tryDeed_67 : decode cX6_tryDeed 67 = .ok (.ifCond .lt 22, 3) := by decide +kernel
theorem dX6_tryDeed_70 : decode cX6_tryDeed 70 = .ok (.lload_n 1, 1) := by decide +kernel
theorem dX6_tryDeed_71 : decode cX6_tryDeed 71 = .ok (.ldc2_w 116, 3) := by decide +kernel
theorem dX6_tryDeed_74 : decode cX6_tryDeed 74 = .ok (.lcmp, 1) := by decide +kernel
theorem dX6_tryDeed_75 : decode cX6_tryDeed 75 = .ok (.ifCond .gt 14, 3) := by decide +kernel
theorem dX6_tryDeed_78 : decode cX6_tryDeed 78 = .ok (.aload_n 0, 1) := by decide +kernel
theorem dX6_tryDeed_79 : decode cX6_tryDeed 79 = .ok (.lload_n 1, 1) := by decide +kernel
theorem dX6_tryDeed_80 : decode cX6_tryDeed 80 = .ok (.l2i, 1) := by decide +kernel
theorem dX6_tryDeed_81 : decode cX6_tryDeed 81 = .ok (.bipush 10, 2) := by decide +kernel
theorem dX6_tryDeed_83 : decode cX6_tryDeed 83 = .ok (.isub, 1) := by decide +kernel
theorem dX6_tryDeed_84 : decode cX6_tryDeed 84 = .ok (.putfield 50, 3) := by decide +kernel
theorem dX6_tryDeed_87 : decode cX6_tryDeed 87 = .ok (.iconst 0, 1) := by decide +kernel
theorem dX6_tryDeed_88 : decode cX6_tryDeed 88 = .ok (.ireturn, 1) := by decide +kernel
theorem dX6_tryDeed_89 : decode cX6_tryDeed 89 = .ok (.iconst 1, 1) := by decide +kernel
theorem dX6_tryDeed_90 : decode cX6_tryDeed 90 = .ok (.ireturn, 1) := by decide +kernel
theorem dX6_tryTable_0 : decode cX6_tryTable 0 = .ok (.aload_n 0, 1) := by decide +kernel
theorem dX6_tryTable_1 : decode cX6_tryTable 1 = .ok (.getfield 54, 3) := by decide +kernel
theorem dX6_tryTable_4 : decode cX6_tryTable 4 = .ok (.bipush 60, 2) := by decide +kernel
theorem dX6_tryTable_6 : decode cX6_tryTable 6 = .ok (.if_icmp .lt 5, 3) := by decide +kernel
theorem dX6_tryTable_9 : decode cX6_tryTable 9 = .ok (.iconst 2, 1) := by decide +kernel
theorem dX6_tryTable_10 : decode cX6_tryTable 10 = .ok (.ireturn, 1) := by decide +kernel
theorem dX6_tryTable_11 : decode cX6_tryTable 11 = .ok (.aload_n 0, 1) := by decide +kernel
theorem dX6_tryTable_12 : decode cX6_tryTable 12 = .ok (.iload_n 1, 1) := by decide +kernel
theorem dX6_tryTable_13 : decode cX6_tryTable 13 = .ok (.invokevirtual 118, 3) := by decide +kernel
theorem dX6_tryTable_16 : decode cX6_tryTable 16 = .ok (.ldc2_w 122, 3) := by decide +kernel
theorem dX6_tryTable_19 : decode cX6_tryTable 19 = .ok (.lcmp, 1) := by decide +kernel
theorem dX6_tryTable_20 : decode cX6_tryTable 20 = .ok (.ifCond .le 5, 3) := by decide +kernel
theorem dX6_tryTable_23 : decode cX6_tryTable 23 = .ok (.iconst 3, 1) := by decide +kernel
theorem dX6_tryTable_24 : decode cX6_tryTable 24 = .ok (.ireturn, 1) := by decide +kernel
theorem dX6_tryTable_25 : decode cX6_tryTable 25 = .ok (.aload_n 0, 1) := by decide +kernel
theorem dX6_tryTable_26 : decode cX6_tryTable 26 = .ok (.getfield 15, 3) := by decide +kernel
theorem dX6_tryTable_29 : decode cX6_tryTable 29 = .ok (.aload_n 0, 1) := by decide +kernel
theorem dX6_tryTable_30 : decode cX6_tryTable 30 = .ok (.getfield 54, 3) := by decide +kernel
theorem dX6_tryTable_33 : decode cX6_tryTable 33 = .ok (.iload_n 1, 1) := by decide +kernel
theorem dX6_tryTable_34 : decode cX6_tryTable 34 = .ok (.iastore, 1) := by decide +kernel
theorem dX6_tryTable_35 : decode cX6_tryTable 35 = .ok (.aload_n 0, 1) := by decide +kernel
theorem dX6_tryTable_36 : decode cX6_tryTable 36 = .ok (.dup, 1) := by decide +kernel
theorem dX6_tryTable_37 : decode cX6_tryTable 37 = .ok (.getfield 54, 3) := by decide +kernel
theorem dX6_tryTable_40 : decode cX6_tryTable 40 = .ok (.iconst 1, 1) := by decide +kernel
theorem dX6_tryTable_41 : decode cX6_tryTable 41 = .ok (.iadd, 1) := by decide +kernel
theorem dX6_tryTable_42 : decode cX6_tryTable 42 = .ok (.putfield 54, 3) := by decide +kernel
theorem dX6_tryTable_45 : decode cX6_tryTable 45 = .ok (.aload_n 0, 1) := by decide +kernel
theorem dX6_tryTable_46 : decode cX6_tryTable 46 = .ok (.dup, 1) := by decide +kernel
theorem dX6_tryTable_47 : decode cX6_tryTable 47 = .ok (.getfield 51, 3) := by decide +kernel
theorem dX6_tryTable_50 : decode cX6_tryTable 50 = .ok (.iconst 1, 1) := by decide +kernel
theorem dX6_tryTable_51 : decode cX6_tryTable 51 = .ok (.iadd, 1) := by decide +kernel
theorem dX6_tryTable_52 : decode cX6_tryTable 52 = .ok (.putfield 51, 3) := by decide +kernel
theorem dX6_tryTable_55 : decode cX6_tryTable 55 = .ok (.aload_n 0, 1) := by decide +kernel
theorem dX6_tryTable_56 : decode cX6_tryTable 56 = .ok (.iload_n 1, 1) := by decide +kernel
theorem dX6_tryTable_57 : decode cX6_tryTable 57 = .ok (.invokevirtual 79, 3) := by decide +kernel
theorem dX6_tryTable_60 : decode cX6_tryTable 60 = .ok (.iconst 0, 1) := by decide +kernel
theorem dX6_tryTable_61 : decode cX6_tryTable 61 = .ok (.ireturn, 1) := by decide +kernel
theorem dX6_asleep_0 : decode cX6_asleep 0 = .ok (.aload_n 0, 1) := by decide +kernel
theorem dX6_asleep_1 : decode cX6_asleep 1 = .ok (.getfield 40, 3) := by decide +kernel
theorem dX6_asleep_4 : decode cX6_asleep 4 = .ok (.getfield 124, 3) := by decide +kernel
theorem dX6_asleep_7 : decode cX6_asleep 7 = .ok (.arraylength, 1) := by decide +kernel
theorem dX6_asleep_8 : decode cX6_asleep 8 = .ok (.ifCond .le 21, 3) := by decide +kernel
theorem dX6_asleep_11 : decode cX6_asleep 11 = .ok (.aload_n 0, 1) := by decide +kernel
theorem dX6_asleep_12 : decode cX6_asleep 12 = .ok (.getfield 40, 3) := by decide +kernel
theorem dX6_asleep_15 : decode cX6_asleep 15 = .ok (.getfield 124, 3) := by decide +kernel
theorem dX6_asleep_18 : decode cX6_asleep 18 = .ok (.aload_n 0, 1) := by decide +kernel
theorem dX6_asleep_19 : decode cX6_asleep 19 = .ok (.invokestatic 127, 3) := by decide +kernel
theorem dX6_asleep_22 : decode cX6_asleep 22 = .ok (.ifCond .eq 7, 3) := by decide +kernel
theorem dX6_asleep_25 : decode cX6_asleep 25 = .ok (.iconst 1, 1) := by decide +kernel
theorem dX6_asleep_26 : decode cX6_asleep 26 = .ok (.goto 4, 3) := by decide +kernel
theorem dX6_asleep_29 : decode cX6_asleep 29 = .ok (.iconst 0, 1) := by decide +kernel
theorem dX6_asleep_30 : decode cX6_asleep 30 = .ok (.ireturn, 1) := by decide +kernel
theorem dX6_pickedTable_0 : decode cX6_pickedTable 0 = .ok (.aload_n 0, 1) := by decide +kernel
theorem dX6_pickedTable_1 : decode cX6_pickedTable 1 = .ok (.getfield 40, 3) := by decide +kernel
theorem dX6_pickedTable_4 : decode cX6_pickedTable 4 = .ok (.getfield 131, 3) := by decide +kernel
theorem dX6_pickedTable_7 : decode cX6_pickedTable 7 = .ok (.arraylength, 1) := by decide +kernel
theorem dX6_pickedTable_8 : decode cX6_pickedTable 8 = .ok (.ifCond .eq 14, 3) := by decide +kernel
theorem dX6_pickedTable_11 : decode cX6_pickedTable 11 = .ok (.aload_n 0, 1) := by decide +kernel
theorem dX6_pickedTable_12 : decode cX6_pickedTable 12 = .ok (.getfield 40, 3) := by decide +kernel
theorem dX6_pickedTable_15 : decode cX6_pickedTable 15 = .ok (.getfield 111, 3) := by decide +kernel
theorem dX6_pickedTable_18 : decode cX6_pickedTable 18 = .ok (.iconst 1, 1) := by decide +kernel
theorem dX6_pickedTable_19 : decode cX6_pickedTable 19 = .ok (.if_icmp .ge 5, 3) := by decide +kernel
theorem dX6_pickedTable_22 : decode cX6_pickedTable 22 = .ok (.iconst 0, 1) := by decide +kernel
theorem dX6_pickedTable_23 : decode cX6_pickedTable 23 = .ok (.ireturn, 1) := by decide +kernel
theorem dX6_pickedTable_24 : decode cX6_pickedTable 24 = .ok (.aload_n 0, 1) := by decide +kernel
theorem dX6_pickedTable_25 : decode cX6_pickedTable 25 = .ok (.getfield 40, 3) := by decide +kernel
theorem dX6_pickedTable_28 : decode cX6_pickedTable 28 = .ok (.getfield 131, 3) := by decide +kernel
theorem dX6_pickedTable_31 : decode cX6_pickedTable 31 = .ok (.aload_n 0, 1) := by decide +kernel
theorem dX6_pickedTable_32 : decode cX6_pickedTable 32 = .ok (.invokestatic 127, 3) := by decide +kernel
theorem dX6_pickedTable_35 : decode cX6_pickedTable 35 = .ok (.aload_n 0, 1) := by decide +kernel
theorem dX6_pickedTable_36 : decode cX6_pickedTable 36 = .ok (.getfield 40, 3) := by decide +kernel
theorem dX6_pickedTable_39 : decode cX6_pickedTable 39 = .ok (.getfield 111, 3) := by decide +kernel
theorem dX6_pickedTable_42 : decode cX6_pickedTable 42 = .ok (.invokestatic 134, 3) := by decide +kernel
theorem dX6_pickedTable_45 : decode cX6_pickedTable 45 = .ok (.ireturn, 1) := by decide +kernel
theorem dX6_frontLetter_0 : decode cX6_frontLetter 0 = .ok (.aload_n 0, 1) := by decide +kernel
theorem dX6_frontLetter_1 : decode cX6_frontLetter 1 = .ok (.getfield 64, 3) := by decide +kernel
theorem dX6_frontLetter_4 : decode cX6_frontLetter 4 = .ok (.ifCond .le 12, 3) := by decide +kernel
theorem dX6_frontLetter_7 : decode cX6_frontLetter 7 = .ok (.aload_n 0, 1) := by decide +kernel
theorem dX6_frontLetter_8 : decode cX6_frontLetter 8 = .ok (.getfield 19, 3) := by decide +kernel
theorem dX6_frontLetter_11 : decode cX6_frontLetter 11 = .ok (.iconst 0, 1) := by decide +kernel
theorem dX6_frontLetter_12 : decode cX6_frontLetter 12 = .ok (.iaload, 1) := by decide +kernel
theorem dX6_frontLetter_13 : decode cX6_frontLetter 13 = .ok (.goto 5, 3) := by decide +kernel
theorem dX6_frontLetter_16 : decode cX6_frontLetter 16 = .ok (.bipush 6, 2) := by decide +kernel
theorem dX6_frontLetter_18 : decode cX6_frontLetter 18 = .ok (.ireturn, 1) := by decide +kernel
theorem dX6_backLetter_0 : decode cX6_backLetter 0 = .ok (.aload_n 0, 1) := by decide +kernel
theorem dX6_backLetter_1 : decode cX6_backLetter 1 = .ok (.getfield 64, 3) := by decide +kernel
theorem dX6_backLetter_4 : decode cX6_backLetter 4 = .ok (.ifCond .le 12, 3) := by decide +kernel
theorem dX6_backLetter_7 : decode cX6_backLetter 7 = .ok (.aload_n 0, 1) := by decide +kernel
theorem dX6_backLetter_8 : decode cX6_backLetter 8 = .ok (.getfield 22, 3) := by decide +kernel
theorem dX6_backLetter_11 : decode cX6_backLetter 11 = .ok (.iconst 0, 1) := by decide +kernel
theorem dX6_backLetter_12 : decode cX6_backLetter 12 = .ok (.iaload, 1) := by decide +kernel
theorem dX6_backLetter_13 : decode cX6_backLetter 13 = .ok (.goto 5, 3) := by decide +kernel
theorem dX6_backLetter_16 : decode cX6_backLetter 16 = .ok (.bipush 6, 2) := by decide +kernel
theorem dX6_backLetter_18 : decode cX6_backLetter 18 = .ok (.ireturn, 1) := by decide +kernel
theorem dX6_standingBits_0 : decode cX6_standingBits 0 = .ok (.iconst 0, 1) := by decide +kernel
theorem dX6_standingBits_1 : decode cX6_standingBits 1 = .ok (.istore_n 1, 1) := by decide +kernel
theorem dX6_standingBits_2 : decode cX6_standingBits 2 = .ok (.iconst 0, 1) := by decide +kernel
theorem dX6_standingBits_3 : decode cX6_standingBits 3 = .ok (.istore_n 2, 1) := by decide +kernel
theorem dX6_standingBits_4 : decode cX6_standingBits 4 = .ok (.iload_n 2, 1) := by decide +kernel
theorem dX6_standingBits_5 : decode cX6_standingBits 5 = .ok (.bipush 6, 2) := by decide +kernel
theorem dX6_standingBits_7 : decode cX6_standingBits 7 = .ok (.if_icmp .ge 30, 3) := by decide +kernel
theorem dX6_standingBits_10 : decode cX6_standingBits 10 = .ok (.iload_n 1, 1) := by decide +kernel
theorem dX6_standingBits_11 : decode cX6_standingBits 11 = .ok (.aload_n 0, 1) := by decide +kernel
theorem dX6_standingBits_12 : decode cX6_standingBits 12 = .ok (.getfield 9, 3) := by decide +kernel
theorem dX6_standingBits_15 : decode cX6_standingBits 15 = .ok (.iload_n 2, 1) := by decide +kernel
theorem dX6_standingBits_16 : decode cX6_standingBits 16 = .ok (.laload, 1) := by decide +kernel
theorem dX6_standingBits_17 : decode cX6_standingBits 17 = .ok (.lconst 0, 1) := by decide +kernel
theorem dX6_standingBits_18 : decode cX6_standingBits 18 = .ok (.lcmp, 1) := by decide +kernel
theorem dX6_standingBits_19 : decode cX6_standingBits 19 = .ok (.ifCond .le 9, 3) := by decide +kernel
theorem dX6_standingBits_22 : decode cX6_standingBits 22 = .ok (.iconst 1, 1) := by decide +kernel
theorem dX6_standingBits_23 : decode cX6_standingBits 23 = .ok (.iload_n 2, 1) := by decide +kernel
theorem dX6_standingBits_24 : decode cX6_standingBits 24 = .ok (.ishl, 1) := by decide +kernel
theorem dX6_standingBits_25 : decode cX6_standingBits 25 = .ok (.goto 4, 3) := by decide +kernel
theorem dX6_standingBits_28 : decode cX6_standingBits 28 = .ok (.iconst 0, 1) := by decide +kernel
theorem dX6_standingBits_29 : decode cX6_standingBits 29 = .ok (.ior, 1) := by decide +kernel
theorem dX6_standingBits_30 : decode cX6_standingBits 30 = .ok (.istore_n 1, 1) := by decide +kernel
theorem dX6_standingBits_31 : decode cX6_standingBits 31 = .ok (.iinc 2 1, 3) := by decide +kernel
theorem dX6_standingBits_34 : decode cX6_standingBits 34 = .ok (.goto (-30), 3) := by decide +kernel
theorem dX6_standingBits_37 : decode cX6_standingBits 37 = .ok (.iload_n 1, 1) := by decide +kernel
theorem dX6_standingBits_38 : decode cX6_standingBits 38 = .ok (.ireturn, 1) := by decide +kernel
theorem dX6_spanBy_0 : decode cX6_spanBy 0 = .ok (.lconst 0, 1) := by decide +kernel
theorem dX6_spanBy_1 : decode cX6_spanBy 1 = .ok (.lstore_n 2, 1) := by decide +kernel
theorem dX6_spanBy_2 : decode cX6_spanBy 2 = .ok (.iconst 0, 1) := by decide +kernel
theorem dX6_spanBy_3 : decode cX6_spanBy 3 = .ok (.istore 4, 2) := by decide +kernel
theorem dX6_spanBy_5 : decode cX6_spanBy 5 = .ok (.iload 4, 2) := by decide +kernel
theorem dX6_spanBy_7 : decode cX6_spanBy 7 = .ok (.bipush 6, 2) := by decide +kernel
theorem dX6_spanBy_9 : decode cX6_spanBy 9 = .ok (.if_icmp .ge 31, 3) := by decide +kernel
theorem dX6_spanBy_12 : decode cX6_spanBy 12 = .ok (.lload_n 2, 1) := by decide +kernel
theorem dX6_spanBy_13 : decode cX6_spanBy 13 = .ok (.aload_n 0, 1) := by decide +kernel
theorem dX6_spanBy_14 : decode cX6_spanBy 14 = .ok (.getfield 9, 3) := by decide +kernel
theorem dX6_spanBy_17 : decode cX6_spanBy 17 = .ok (.iload 4, 2) := by decide +kernel
theorem dX6_spanBy_19 : decode cX6_spanBy 19 = .ok (.laload, 1) := by decide +kernel
theorem dX6_spanBy_20 : decode cX6_spanBy 20 = .ok (.aload_n 0, 1) := by decide +kernel
theorem dX6_spanBy_21 : decode cX6_spanBy 21 = .ok (.getfield 40, 3) := by decide +kernel
theorem dX6_spanBy_24 : decode cX6_spanBy 24 = .ok (.iload_n 1, 1) := by decide +kernel
theorem dX6_spanBy_25 : decode cX6_spanBy 25 = .ok (.iload 4, 2) := by decide +kernel
theorem dX6_spanBy_27 : decode cX6_spanBy 27 = .ok (.invokevirtual 137, 3) := by decide +kernel
theorem dX6_spanBy_30 : decode cX6_spanBy 30 = .ok (.i2l, 1) := by decide +kernel
theorem dX6_spanBy_31 : decode cX6_spanBy 31 = .ok (.lmul, 1) := by decide +kernel
theorem dX6_spanBy_32 : decode cX6_spanBy 32 = .ok (.ladd, 1) := by decide +kernel
theorem dX6_spanBy_33 : decode cX6_spanBy 33 = .ok (.lstore_n 2, 1) := by decide +kernel
theorem dX6_spanBy_34 : decode cX6_spanBy 34 = .ok (.iinc 4 1, 3) := by decide +kernel
theorem dX6_spanBy_37 : decode cX6_spanBy 37 = .ok (.goto (-32), 3) := by decide +kernel
theorem dX6_spanBy_40 : decode cX6_spanBy 40 = .ok (.lload_n 2, 1) := by decide +kernel
theorem dX6_spanBy_41 : decode cX6_spanBy 41 = .ok (.lreturn, 1) := by decide +kernel
theorem dX6_grow_0 : decode cX6_grow 0 = .ok (.aload_n 0, 1) := by decide +kernel
theorem dX6_grow_1 : decode cX6_grow 1 = .ok (.aload_n 0, 1) := by decide +kernel
theorem dX6_grow_2 : decode cX6_grow 2 = .ok (.iload_n 1, 1) := by decide +kernel
theorem dX6_grow_3 : decode cX6_grow 3 = .ok (.invokevirtual 118, 3) := by decide +kernel
theorem dX6_grow_6 : decode cX6_grow 6 = .ok (.putfield 60, 3) := by decide +kernel
theorem dX6_grow_9 : decode cX6_grow 9 = .ok (.aload_n 0, 1) := by decide +kernel
theorem dX6_grow_10 : decode cX6_grow 10 = .ok (.iload_n 1, 1) := by decide +kernel
theorem dX6_grow_11 : decode cX6_grow 11 = .ok (.invokevirtual 140, 3) := by decide +kernel
theorem dX6_grow_14 : decode cX6_grow 14 = .ok (.aload_n 0, 1) := by decide +kernel
theorem dX6_grow_15 : decode cX6_grow 15 = .ok (.aload_n 0, 1) := by decide +kernel
theorem dX6_grow_16 : decode cX6_grow 16 = .ok (.getfield 19, 3) := by decide +kernel
theorem dX6_grow_19 : decode cX6_grow 19 = .ok (.iload_n 1, 1) := by decide +kernel
theorem dX6_grow_20 : decode cX6_grow 20 = .ok (.iconst 0, 1) := by decide +kernel
theorem dX6_grow_21 : decode cX6_grow 21 = .ok (.invokevirtual 143, 3) := by decide +kernel
theorem dX6_grow_24 : decode cX6_grow 24 = .ok (.istore_n 2, 1) := by decide +kernel
theorem dX6_grow_25 : decode cX6_grow 25 = .ok (.aload_n 0, 1) := by decide +kernel
theorem dX6_grow_26 : decode cX6_grow 26 = .ok (.aload_n 0, 1) := by decide +kernel
theorem dX6_grow_27 : decode cX6_grow 27 = .ok (.getfield 22, 3) := by decide +kernel
theorem dX6_grow_30 : decode cX6_grow 30 = .ok (.iload_n 1, 1) := by decide +kernel
theorem dX6_grow_31 : decode cX6_grow 31 = .ok (.iconst 1, 1) := by decide +kernel
theorem dX6_grow_32 : decode cX6_grow 32 = .ok (.invokevirtual 143, 3) := by decide +kernel
theorem dX6_grow_35 : decode cX6_grow 35 = .ok (.pop, 1) := by decide +kernel
theorem dX6_grow_36 : decode cX6_grow 36 = .ok (.aload_n 0, 1) := by decide +kernel
theorem dX6_grow_37 : decode cX6_grow 37 = .ok (.iload_n 2, 1) := by decide +kernel
theorem dX6_grow_38 : decode cX6_grow 38 = .ok (.putfield 64, 3) := by decide +kernel
theorem dX6_grow_41 : decode cX6_grow 41 = .ok (.return_, 1) := by decide +kernel
theorem dX6_growCounts_0 : decode cX6_growCounts 0 = .ok (.aload_n 0, 1) := by decide +kernel
theorem dX6_growCounts_1 : decode cX6_growCounts 1 = .ok (.getfield 28, 3) := by decide +kernel
theorem dX6_growCounts_4 : decode cX6_growCounts 4 = .ok (.lconst 0, 1) := by decide +kernel
theorem dX6_growCounts_5 : decode cX6_growCounts 5 = .ok (.invokestatic 83, 3) := by decide +kernel
theorem dX6_growCounts_8 : decode cX6_growCounts 8 = .ok (.iconst 0, 1) := by decide +kernel
theorem dX6_growCounts_9 : decode cX6_growCounts 9 = .ok (.istore_n 2, 1) := by decide +kernel
theorem dX6_growCounts_10 : decode cX6_growCounts 10 = .ok (.iload_n 2, 1) := by decide +kernel
theorem dX6_growCounts_11 : decode cX6_growCounts 11 = .ok (.bipush 6, 2) := by decide +kernel
theorem dX6_growCounts_13 : decode cX6_growCounts 13 = .ok (.if_icmp .ge 59, 3) := by decide +kernel
theorem dX6_growCounts_16 : decode cX6_growCounts 16 = .ok (.aload_n 0, 1) := by decide +kernel
theorem dX6_growCounts_17 : decode cX6_growCounts 17 = .ok (.getfield 40, 3) := by decide +kernel
theorem dX6_growCounts_20 : decode cX6_growCounts 20 = .ok (.iload_n 1, 1) := by decide +kernel
theorem dX6_growCounts_21 : decode cX6_growCounts 21 = .ok (.iload_n 2, 1) := by decide +kernel
theorem dX6_growCounts_22 : decode cX6_growCounts 22 = .ok (.invokevirtual 137, 3) := by decide +kernel
theorem dX6_growCounts_25 : decode cX6_growCounts 25 = .ok (.istore_n 3, 1) := by decide +kernel
theorem dX6_growCounts_26 : decode cX6_growCounts 26 = .ok (.iconst 0, 1) := by decide +kernel
theorem dX6_growCounts_27 : decode cX6_growCounts 27 = .ok (.istore 4, 2) := by decide +kernel
theorem dX6_growCounts_29 : decode cX6_growCounts 29 = .ok (.iload 4, 2) := by decide +kernel
theorem dX6_growCounts_31 : decode cX6_growCounts 31 = .ok (.iload_n 3, 1) := by decide +kernel
theorem dX6_growCounts_32 : decode cX6_growCounts 32 = .ok (.if_icmp .ge 34, 3) := by decide +kernel
theorem dX6_growCounts_35 : decode cX6_growCounts 35 = .ok (.aload_n 0, 1) := by decide +kernel
theorem dX6_growCounts_36 : decode cX6_growCounts 36 = .ok (.getfield 28, 3) := by decide +kernel
theorem dX6_growCounts_39 : decode cX6_growCounts 39 = .ok (.aload_n 0, 1) := by decide +kernel
theorem dX6_growCounts_40 : decode cX6_growCounts 40 = .ok (.getfield 40, 3) := by decide +kernel
theorem dX6_growCounts_43 : decode cX6_growCounts 43 = .ok (.iload_n 1, 1) := by decide +kernel
theorem dX6_growCounts_44 : decode cX6_growCounts 44 = .ok (.iload_n 2, 1) := by decide +kernel
theorem dX6_growCounts_45 : decode cX6_growCounts 45 = .ok (.iload 4, 2) := by decide +kernel
theorem dX6_growCounts_47 : decode cX6_growCounts 47 = .ok (.invokevirtual 147, 3) := by decide +kernel
theorem dX6_growCounts_50 : decode cX6_growCounts 50 = .ok (.dup2, 1) := by decide +kernel
theorem dX6_growCounts_51 : decode cX6_growCounts 51 = .ok (.laload, 1) := by decide +kernel
theorem dX6_growCounts_52 : decode cX6_growCounts 52 = .ok (.aload_n 0, 1) := by decide +kernel
theorem dX6_growCounts_53 : decode cX6_growCounts 53 = .ok (.getfield 9, 3) := by decide +kernel
theorem dX6_growCounts_56 : decode cX6_growCounts 56 = .ok (.iload_n 2, 1) := by decide +kernel
theorem dX6_growCounts_57 : decode cX6_growCounts 57 = .ok (.laload, 1) := by decide +kernel
theorem dX6_growCounts_58 : decode cX6_growCounts 58 = .ok (.ladd, 1) := by decide +kernel
theorem dX6_growCounts_59 : decode cX6_growCounts 59 = .ok (.lastore, 1) := by decide +kernel
theorem dX6_growCounts_60 : decode cX6_growCounts 60 = .ok (.iinc 4 1, 3) := by decide +kernel
theorem dX6_growCounts_63 : decode cX6_growCounts 63 = .ok (.goto (-34), 3) := by decide +kernel
theorem dX6_growCounts_66 : decode cX6_growCounts 66 = .ok (.iinc 2 1, 3) := by decide +kernel
theorem dX6_growCounts_69 : decode cX6_growCounts 69 = .ok (.goto (-59), 3) := by decide +kernel
theorem dX6_growCounts_72 : decode cX6_growCounts 72 = .ok (.aload_n 0, 1) := by decide +kernel
theorem dX6_growCounts_73 : decode cX6_growCounts 73 = .ok (.getfield 28, 3) := by decide +kernel
theorem dX6_growCounts_76 : decode cX6_growCounts 76 = .ok (.iconst 0, 1) := by decide +kernel
theorem dX6_growCounts_77 : decode cX6_growCounts 77 = .ok (.aload_n 0, 1) := by decide +kernel
theorem dX6_growCounts_78 : decode cX6_growCounts 78 = .ok (.getfield 9, 3) := by decide +kernel
theorem dX6_growCounts_81 : decode cX6_growCounts 81 = .ok (.iconst 0, 1) := by decide +kernel
theorem dX6_growCounts_82 : decode cX6_growCounts 82 = .ok (.bipush 6, 2) := by decide +kernel
theorem dX6_growCounts_84 : decode cX6_growCounts 84 = .ok (.invokestatic 67, 3) := by decide +kernel
theorem dX6_growCounts_87 : decode cX6_growCounts 87 = .ok (.return_, 1) := by decide +kernel
theorem dX6_growOrder_0 : decode cX6_growOrder 0 = .ok (.iconst 0, 1) := by decide +kernel
theorem dX6_growOrder_1 : decode cX6_growOrder 1 = .ok (.istore 4, 2) := by decide +kernel
theorem dX6_growOrder_3 : decode cX6_growOrder 3 = .ok (.iconst 0, 1) := by decide +kernel
theorem dX6_growOrder_4 : decode cX6_growOrder 4 = .ok (.istore 5, 2) := by decide +kernel
theorem dX6_growOrder_6 : decode cX6_growOrder 6 = .ok (.iload 5, 2) := by decide +kernel
theorem dX6_growOrder_8 : decode cX6_growOrder 8 = .ok (.aload_n 0, 1) := by decide +kernel
theorem dX6_growOrder_9 : decode cX6_growOrder 9 = .ok (.getfield 64, 3) := by decide +kernel
theorem dX6_growOrder_12 : decode cX6_growOrder 12 = .ok (.if_icmp .ge 84, 3) := by decide +kernel
theorem dX6_growOrder_15 : decode cX6_growOrder 15 = .ok (.aload_n 1, 1) := by decide +kernel
theorem dX6_growOrder_16 : decode cX6_growOrder 16 = .ok (.iload 5, 2) := by decide +kernel
theorem dX6_growOrder_18 : decode cX6_growOrder 18 = .ok (.iaload, 1) := by decide +kernel
theorem dX6_growOrder_19 : decode cX6_growOrder 19 = .ok (.istore 6, 2) := by decide +kernel
theorem dX6_growOrder_21 : decode cX6_growOrder 21 = .ok (.aload_n 0, 1) := by decide +kernel
theorem dX6_growOrder_22 : decode cX6_growOrder 22 = .ok (.getfield 40, 3) := by decide +kernel
theorem dX6_growOrder_25 : decode cX6_growOrder 25 = .ok (.iload_n 2, 1) := by decide +kernel
theorem dX6_growOrder_26 : decode cX6_growOrder 26 = .ok (.iload 6, 2) := by decide +kernel
theorem dX6_growOrder_28 : decode cX6_growOrder 28 = .ok (.invokevirtual 137, 3) := by decide +kernel
theorem dX6_growOrder_31 : decode cX6_growOrder 31 = .ok (.istore 7, 2) := by decide +kernel
theorem dX6_growOrder_33 : decode cX6_growOrder 33 = .ok (.iconst 0, 1) := by decide +kernel
theorem dX6_growOrder_34 : decode cX6_growOrder 34 = .ok (.istore 8, 2) := by decide +kernel
theorem dX6_growOrder_36 : decode cX6_growOrder 36 = .ok (.iload 8, 2) := by decide +kernel
theorem dX6_growOrder_38 : decode cX6_growOrder 38 = .ok (.iload 7, 2) := by decide +kernel
theorem dX6_growOrder_40 : decode cX6_growOrder 40 = .ok (.if_icmp .ge 50, 3) := by decide +kernel
theorem dX6_growOrder_43 : decode cX6_growOrder 43 = .ok (.aload_n 0, 1) := by decide +kernel
theorem dX6_growOrder_44 : decode cX6_growOrder 44 = .ok (.getfield 40, 3) := by decide +kernel
theorem dX6_growOrder_47 : decode cX6_growOrder 47 = .ok (.iload_n 2, 1) := by decide +kernel
theorem dX6_growOrder_48 : decode cX6_growOrder 48 = .ok (.iload 6, 2) := by decide +kernel
theorem dX6_growOrder_50 : decode cX6_growOrder 50 = .ok (.iload_n 3, 1) := by decide +kernel
theorem dX6_growOrder_51 : decode cX6_growOrder 51 = .ok (.ifCond .eq 13, 3) := by decide +kernel
theorem dX6_growOrder_54 : decode cX6_growOrder 54 = .ok (.iload 7, 2) := by decide +kernel
theorem dX6_growOrder_56 : decode cX6_growOrder 56 = .ok (.iconst 1, 1) := by decide +kernel
theorem dX6_growOrder_57 : decode cX6_growOrder 57 = .ok (.isub, 1) := by decide +kernel
theorem dX6_growOrder_58 : decode cX6_growOrder 58 = .ok (.iload 8, 2) := by decide +kernel
theorem dX6_growOrder_60 : decode cX6_growOrder 60 = .ok (.isub, 1) := by decide +kernel
theorem dX6_growOrder_61 : decode cX6_growOrder 61 = .ok (.goto 5, 3) := by decide +kernel
theorem dX6_growOrder_64 : decode cX6_growOrder 64 = .ok (.iload 8, 2) := by decide +kernel
theorem dX6_growOrder_66 : decode cX6_growOrder 66 = .ok (.invokevirtual 147, 3) := by decide +kernel
theorem dX6_growOrder_69 : decode cX6_growOrder 69 = .ok (.istore 9, 2) := by decide +kernel
theorem dX6_growOrder_71 : decode cX6_growOrder 71 = .ok (.aload_n 0, 1) := by decide +kernel
theorem dX6_growOrder_72 : decode cX6_growOrder 72 = .ok (.getfield 25, 3) := by decide +kernel
theorem dX6_growOrder_75 : decode cX6_growOrder 75 = .ok (.iload 4, 2) := by decide +kernel
theorem dX6_growOrder_77 : decode cX6_growOrder 77 = .ok (.iload 9, 2) := by decide +kernel
theorem dX6_growOrder_79 : decode cX6_growOrder 79 = .ok (.invokestatic 95, 3) := by decide +kernel
theorem dX6_growOrder_82 : decode cX6_growOrder 82 = .ok (.istore 4, 2) := by decide +kernel
theorem dX6_growOrder_84 : decode cX6_growOrder 84 = .ok (.iinc 8 1, 3) := by decide +kernel
theorem dX6_growOrder_87 : decode cX6_growOrder 87 = .ok (.goto (-51), 3) := by decide +kernel
theorem dX6_growOrder_90 : decode cX6_growOrder 90 = .ok (.iinc 5 1, 3) := by decide +kernel
theorem dX6_growOrder_93 : decode cX6_growOrder 93 = .ok (.goto (-87), 3) := by decide +kernel
theorem dX6_growOrder_96 : decode cX6_growOrder 96 = .ok (.aload_n 0, 1) := by decide +kernel
theorem dX6_growOrder_97 : decode cX6_growOrder 97 = .ok (.getfield 25, 3) := by decide +kernel
theorem dX6_growOrder_100 : decode cX6_growOrder 100 = .ok (.iconst 0, 1) := by decide +kernel
theorem dX6_growOrder_101 : decode cX6_growOrder 101 = .ok (.aload_n 1, 1) := by decide +kernel
theorem dX6_growOrder_102 : decode cX6_growOrder 102 = .ok (.iconst 0, 1) := by decide +kernel
theorem dX6_growOrder_103 : decode cX6_growOrder 103 = .ok (.bipush 6, 2) := by decide +kernel
theorem dX6_growOrder_105 : decode cX6_growOrder 105 = .ok (.invokestatic 67, 3) := by decide +kernel
theorem dX6_growOrder_108 : decode cX6_growOrder 108 = .ok (.iload 4, 2) := by decide +kernel
theorem dX6_growOrder_110 : decode cX6_growOrder 110 = .ok (.ireturn, 1) := by decide +kernel
theorem dX4_init_0 : decode cX4_init 0 = .ok (.aload_n 0, 1) := by decide +kernel
theorem dX4_init_1 : decode cX4_init 1 = .ok (.invokespecial 1, 3) := by decide +kernel
theorem dX4_init_4 : decode cX4_init 4 = .ok (.aload_n 0, 1) := by decide +kernel
theorem dX4_init_5 : decode cX4_init 5 = .ok (.iconst 0, 1) := by decide +kernel
theorem dX4_init_6 : decode cX4_init 6 = .ok (.putfield 7, 3) := by decide +kernel
theorem dX4_init_9 : decode cX4_init 9 = .ok (.aload_n 0, 1) := by decide +kernel
theorem dX4_init_10 : decode cX4_init 10 = .ok (.bipush 11, 2) := by decide +kernel
theorem dX4_init_12 : decode cX4_init 12 = .ok (.newarray .int, 2) := by decide +kernel
theorem dX4_init_14 : decode cX4_init 14 = .ok (.putfield 13, 3) := by decide +kernel
theorem dX4_init_17 : decode cX4_init 17 = .ok (.aload_n 0, 1) := by decide +kernel
theorem dX4_init_18 : decode cX4_init 18 = .ok (.bipush 11, 2) := by decide +kernel
theorem dX4_init_20 : decode cX4_init 20 = .ok (.newarray .int, 2) := by decide +kernel
theorem dX4_init_22 : decode cX4_init 22 = .ok (.putfield 17, 3) := by decide +kernel
theorem dX4_init_25 : decode cX4_init 25 = .ok (.aload_n 0, 1) := by decide +kernel
theorem dX4_init_26 : decode cX4_init 26 = .ok (.bipush 11, 2) := by decide +kernel
theorem dX4_init_28 : decode cX4_init 28 = .ok (.newarray .int, 2) := by decide +kernel
theorem dX4_init_30 : decode cX4_init 30 = .ok (.putfield 20, 3) := by decide +kernel
theorem dX4_init_33 : decode cX4_init 33 = .ok (.return_, 1) := by decide +kernel
theorem dX4_forget_0 : decode cX4_forget 0 = .ok (.aload_n 0, 1) := by decide +kernel
theorem dX4_forget_1 : decode cX4_forget 1 = .ok (.iconst 0, 1) := by decide +kernel
theorem dX4_forget_2 : decode cX4_forget 2 = .ok (.putfield 7, 3) := by decide +kernel
theorem dX4_forget_5 : decode cX4_forget 5 = .ok (.return_, 1) := by decide +kernel
theorem dX4_mark_0 : decode cX4_mark 0 = .ok (.aload_n 0, 1) := by decide +kernel
theorem dX4_mark_1 : decode cX4_mark 1 = .ok (.getfield 13, 3) := by decide +kernel
theorem dX4_mark_4 : decode cX4_mark 4 = .ok (.aload_n 0, 1) := by decide +kernel
theorem dX4_mark_5 : decode cX4_mark 5 = .ok (.getfield 7, 3) := by decide +kernel
theorem dX4_mark_8 : decode cX4_mark 8 = .ok (.aload_n 1, 1) := by decide +kernel
theorem dX4_mark_9 : decode cX4_mark 9 = .ok (.getfield 23, 3) := by decide +kernel
theorem dX4_mark_12 : decode cX4_mark 12 = .ok (.iastore, 1) := by decide +kernel
theorem dX4_mark_13 : decode cX4_mark 13 = .ok (.aload_n 0, 1) := by decide +kernel
theorem dX4_mark_14 : decode cX4_mark 14 = .ok (.getfield 17, 3) := by decide +kernel
theorem dX4_mark_17 : decode cX4_mark 17 = .ok (.aload_n 0, 1) := by decide +kernel
theorem dX4_mark_18 : decode cX4_mark 18 = .ok (.getfield 7, 3) := by decide +kernel
theorem dX4_mark_21 : decode cX4_mark 21 = .ok (.aload_n 1, 1) := by decide +kernel
theorem dX4_mark_22 : decode cX4_mark 22 = .ok (.getfield 28, 3) := by decide +kernel
theorem dX4_mark_25 : decode cX4_mark 25 = .ok (.iastore, 1) := by decide +kernel
theorem dX4_mark_26 : decode cX4_mark 26 = .ok (.aload_n 0, 1) := by decide +kernel
theorem dX4_mark_27 : decode cX4_mark 27 = .ok (.getfield 20, 3) := by decide +kernel
theorem dX4_mark_30 : decode cX4_mark 30 = .ok (.aload_n 0, 1) := by decide +kernel
theorem dX4_mark_31 : decode cX4_mark 31 = .ok (.getfield 7, 3) := by decide +kernel
theorem dX4_mark_34 : decode cX4_mark 34 = .ok (.aload_n 1, 1) := by decide +kernel
theorem dX4_mark_35 : decode cX4_mark 35 = .ok (.getfield 31, 3) := by decide +kernel
theorem dX4_mark_38 : decode cX4_mark 38 = .ok (.iastore, 1) := by decide +kernel
theorem dX4_mark_39 : decode cX4_mark 39 = .ok (.return_, 1) := by decide +kernel
theorem dX4_keepMark_0 : decode cX4_keepMark 0 = .ok (.aload_n 0, 1) := by decide +kernel
theorem dX4_keepMark_1 : decode cX4_keepMark 1 = .ok (.getfield 7, 3) := by decide +kernel
theorem dX4_keepMark_4 : decode cX4_keepMark 4 = .ok (.bipush 10, 2) := by decide +kernel
theorem dX4_keepMark_6 : decode cX4_keepMark 6 = .ok (.if_icmp .ge 14, 3) := by decide +kernel
theorem dX4_keepMark_9 : decode cX4_keepMark 9 = .ok (.aload_n 0, 1) := by decide +kernel
theorem dX4_keepMark_10 : decode cX4_keepMark 10 = .ok (.dup, 1) := by decide +kernel
theorem dX4_keepMark_11 : decode cX4_keepMark 11 = .ok (.getfield 7, 3) := by decide +kernel
theorem dX4_keepMark_14 : decode cX4_keepMark 14 = .ok (.iconst 1, 1) := by decide +kernel
theorem dX4_keepMark_15 : decode cX4_keepMark 15 = .ok (.iadd, 1) := by decide +kernel
theorem dX4_keepMark_16 : decode cX4_keepMark 16 = .ok (.putfield 7, 3) := by decide +kernel
theorem dX4_keepMark_19 : decode cX4_keepMark 19 = .ok (.return_, 1) := by decide +kernel
theorem dX4_keepMark_20 : decode cX4_keepMark 20 = .ok (.aload_n 0, 1) := by decide +kernel
theorem dX4_keepMark_21 : decode cX4_keepMark 21 = .ok (.getfield 13, 3) := by decide +kernel
theorem dX4_keepMark_24 : decode cX4_keepMark 24 = .ok (.iconst 1, 1) := by decide +kernel
theorem dX4_keepMark_25 : decode cX4_keepMark 25 = .ok (.aload_n 0, 1) := by decide +kernel
theorem dX4_keepMark_26 : decode cX4_keepMark 26 = .ok (.getfield 13, 3) := by decide +kernel
theorem dX4_keepMark_29 : decode cX4_keepMark 29 = .ok (.iconst 0, 1) := by decide +kernel
theorem dX4_keepMark_30 : decode cX4_keepMark 30 = .ok (.bipush 10, 2) := by decide +kernel
theorem dX4_keepMark_32 : decode cX4_keepMark 32 = .ok (.invokestatic 34, 3) := by decide +kernel
theorem dX4_keepMark_35 : decode cX4_keepMark 35 = .ok (.aload_n 0, 1) := by decide +kernel
theorem dX4_keepMark_36 : decode cX4_keepMark 36 = .ok (.getfield 17, 3) := by decide +kernel
theorem dX4_keepMark_39 : decode cX4_keepMark 39 = .ok (.iconst 1, 1) := by decide +kernel
theorem dX4_keepMark_40 : decode cX4_keepMark 40 = .ok (.aload_n 0, 1) := by decide +kernel
theorem dX4_keepMark_41 : decode cX4_keepMark 41 = .ok (.getfield 17, 3) := by decide +kernel
theorem dX4_keepMark_44 : decode cX4_keepMark 44 = .ok (.iconst 0, 1) := by decide +kernel
theorem dX4_keepMark_45 : decode cX4_keepMark 45 = .ok (.bipush 10, 2) := by decide +kernel
theorem dX4_keepMark_47 : decode cX4_keepMark 47 = .ok (.invokestatic 34, 3) := by decide +kernel
theorem dX4_keepMark_50 : decode cX4_keepMark 50 = .ok (.aload_n 0, 1) := by decide +kernel
theorem dX4_keepMark_51 : decode cX4_keepMark 51 = .ok (.getfield 20, 3) := by decide +kernel
theorem dX4_keepMark_54 : decode cX4_keepMark 54 = .ok (.iconst 1, 1) := by decide +kernel
theorem dX4_keepMark_55 : decode cX4_keepMark 55 = .ok (.aload_n 0, 1) := by decide +kernel
theorem dX4_keepMark_56 : decode cX4_keepMark 56 = .ok (.getfield 20, 3) := by decide +kernel
theorem dX4_keepMark_59 : decode cX4_keepMark 59 = .ok (.iconst 0, 1) := by decide +kernel
theorem dX4_keepMark_60 : decode cX4_keepMark 60 = .ok (.bipush 10, 2) := by decide +kernel
theorem dX4_keepMark_62 : decode cX4_keepMark 62 = .ok (.invokestatic 34, 3) := by decide +kernel
theorem dX4_keepMark_65 : decode cX4_keepMark 65 = .ok (.return_, 1) := by decide +kernel
theorem dX4_goBack_0 : decode cX4_goBack 0 = .ok (.aload_n 0, 1) := by decide +kernel
theorem dX4_goBack_1 : decode cX4_goBack 1 = .ok (.getfield 7, 3) := by decide +kernel
theorem dX4_goBack_4 : decode cX4_goBack 4 = .ok (.iload_n 2, 1) := by decide +kernel
theorem dX4_goBack_5 : decode cX4_goBack 5 = .ok (.isub, 1) := by decide +kernel
theorem dX4_goBack_6 : decode cX4_goBack 6 = .ok (.istore_n 3, 1) := by decide +kernel
theorem dX4_goBack_7 : decode cX4_goBack 7 = .ok (.iload_n 3, 1) := by decide +kernel
theorem dX4_goBack_8 : decode cX4_goBack 8 = .ok (.ifCond .ge 4, 3) := by decide +kernel
theorem dX4_goBack_11 : decode cX4_goBack 11 = .ok (.return_, 1) := by decide +kernel
theorem dX4_goBack_12 : decode cX4_goBack 12 = .ok (.aload_n 1, 1) := by decide +kernel
theorem dX4_goBack_13 : decode cX4_goBack 13 = .ok (.aload_n 0, 1) := by decide +kernel
theorem dX4_goBack_14 : decode cX4_goBack 14 = .ok (.getfield 13, 3) := by decide +kernel
theorem dX4_goBack_17 : decode cX4_goBack 17 = .ok (.iload_n 3, 1) := by decide +kernel
theorem dX4_goBack_18 : decode cX4_goBack 18 = .ok (.iaload, 1) := by decide +kernel
theorem dX4_goBack_19 : decode cX4_goBack 19 = .ok (.aload_n 0, 1) := by decide +kernel
theorem dX4_goBack_20 : decode cX4_goBack 20 = .ok (.getfield 17, 3) := by decide +kernel
theorem dX4_goBack_23 : decode cX4_goBack 23 = .ok (.iload_n 3, 1) := by decide +kernel
theorem dX4_goBack_24 : decode cX4_goBack 24 = .ok (.iaload, 1) := by decide +kernel
theorem dX4_goBack_25 : decode cX4_goBack 25 = .ok (.aload_n 0, 1) := by decide +kernel
theorem dX4_goBack_26 : decode cX4_goBack 26 = .ok (.getfield 20, 3) := by decide +kernel
theorem dX4_goBack_29 : decode cX4_goBack 29 = .ok (.iload_n 3, 1) := by decide +kernel
theorem dX4_goBack_30 : decode cX4_goBack 30 = .ok (.iaload, 1) := by decide +kernel
theorem dX4_goBack_31 : decode cX4_goBack 31 = .ok (.invokevirtual 40, 3) := by decide +kernel
theorem dX4_goBack_34 : decode cX4_goBack 34 = .ok (.aload_n 0, 1) := by decide +kernel
theorem dX4_goBack_35 : decode cX4_goBack 35 = .ok (.iload_n 3, 1) := by decide +kernel
theorem dX4_goBack_36 : decode cX4_goBack 36 = .ok (.putfield 7, 3) := by decide +kernel
theorem dX4_goBack_39 : decode cX4_goBack 39 = .ok (.return_, 1) := by decide +kernel
theorem dX3_valueOf_0 : decode cX3_valueOf 0 = .ok (.aload_n 1, 1) := by decide +kernel
theorem dX3_valueOf_1 : decode cX3_valueOf 1 = .ok (.getfield 7, 3) := by decide +kernel
theorem dX3_valueOf_4 : decode cX3_valueOf 4 = .ok (.astore_n 2, 1) := by decide +kernel
theorem dX3_valueOf_5 : decode cX3_valueOf 5 = .ok (.iconst 0, 1) := by decide +kernel
theorem dX3_valueOf_6 : decode cX3_valueOf 6 = .ok (.istore_n 3, 1) := by decide +kernel
theorem dX3_valueOf_7 : decode cX3_valueOf 7 = .ok (.iconst 0, 1) := by decide +kernel
theorem dX3_valueOf_8 : decode cX3_valueOf 8 = .ok (.istore 4, 2) := by decide +kernel
theorem dX3_valueOf_10 : decode cX3_valueOf 10 = .ok (.iload 4, 2) := by decide +kernel
theorem dX3_valueOf_12 : decode cX3_valueOf 12 = .ok (.aload_n 0, 1) := by decide +kernel
theorem dX3_valueOf_13 : decode cX3_valueOf 13 = .ok (.arraylength, 1) := by decide +kernel
theorem dX3_valueOf_14 : decode cX3_valueOf 14 = .ok (.if_icmp .ge 128, 3) := by decide +kernel
theorem dX3_valueOf_17 : decode cX3_valueOf 17 = .ok (.aload_n 0, 1) := by decide +kernel
theorem dX3_valueOf_18 : decode cX3_valueOf 18 = .ok (.iload 4, 2) := by decide +kernel
theorem dX3_valueOf_20 : decode cX3_valueOf 20 = .ok (.iaload, 1) := by decide +kernel
theorem dX3_valueOf_21 : decode cX3_valueOf 21 = .ok (.istore 5, 2) := by decide +kernel
theorem dX3_valueOf_23 : decode cX3_valueOf 23 = .ok (.iload 5, 2) := by decide +kernel
theorem dX3_valueOf_25 : decode cX3_valueOf 25 = .ok (.invokestatic 13, 3) := by decide +kernel
theorem dX3_valueOf_28 : decode cX3_valueOf 28 = .ok (.istore 6, 2) := by decide +kernel
theorem dX3_valueOf_30 : decode cX3_valueOf 30 = .ok (.iload_n 3, 1) := by decide +kernel
theorem dX3_valueOf_31 : decode cX3_valueOf 31 = .ok (.iload 6, 2) := by decide +kernel
theorem dX3_valueOf_33 : decode cX3_valueOf 33 = .ok (.if_icmp .lt 12, 3) := by decide +kernel
theorem dX3_valueOf_36 : decode cX3_valueOf 36 = .ok (.iload_n 3, 1) := by decide +kernel
theorem dX3_valueOf_37 : decode cX3_valueOf 37 = .ok (.iload 6, 2) := by decide +kernel
theorem dX3_valueOf_39 : decode cX3_valueOf 39 = .ok (.isub, 1) := by decide +kernel
theorem dX3_valueOf_40 : decode cX3_valueOf 40 = .ok (.aload_n 2, 1) := by decide +kernel
theorem dX3_valueOf_41 : decode cX3_valueOf 41 = .ok (.arraylength, 1) := by decide +kernel
theorem dX3_valueOf_42 : decode cX3_valueOf 42 = .ok (.if_icmp .lt 5, 3) := by decide +kernel
theorem dX3_valueOf_45 : decode cX3_valueOf 45 = .ok (.iconst 0, 1) := by decide +kernel
theorem dX3_valueOf_46 : decode cX3_valueOf 46 = .ok (.ireturn, 1) := by decide +kernel
theorem dX3_valueOf_47 : decode cX3_valueOf 47 = .ok (.iload_n 3, 1) := by decide +kernel
theorem dX3_valueOf_48 : decode cX3_valueOf 48 = .ok (.iload 6, 2) := by decide +kernel
theorem dX3_valueOf_50 : decode cX3_valueOf 50 = .ok (.isub, 1) := by decide +kernel
theorem dX3_valueOf_51 : decode cX3_valueOf 51 = .ok (.istore_n 3, 1) := by decide +kernel
theorem dX3_valueOf_52 : decode cX3_valueOf 52 = .ok (.iload 6, 2) := by decide +kernel
theorem dX3_valueOf_54 : decode cX3_valueOf 54 = .ok (.ifCond .ne 15, 3) := by decide +kernel
theorem dX3_valueOf_57 : decode cX3_valueOf 57 = .ok (.aload_n 2, 1) := by decide +kernel
theorem dX3_valueOf_58 : decode cX3_valueOf 58 = .ok (.iload_n 3, 1) := by decide +kernel
theorem dX3_valueOf_59 : decode cX3_valueOf 59 = .ok (.iload 5, 2) := by decide +kernel
theorem dX3_valueOf_61 : decode cX3_valueOf 61 = .ok (.aload_n 1, 1) := by decide +kernel
theorem dX3_valueOf_62 : decode cX3_valueOf 62 = .ok (.invokestatic 19, 3) := by decide +kernel
theorem dX3_valueOf_65 : decode cX3_valueOf 65 = .ok (.iastore, 1) := by decide +kernel
theorem dX3_valueOf_66 : decode cX3_valueOf 66 = .ok (.goto 67, 3) := by decide +kernel
theorem dX3_valueOf_69 : decode cX3_valueOf 69 = .ok (.iload 6, 2) := by decide +kernel
theorem dX3_valueOf_71 : decode cX3_valueOf 71 = .ok (.iconst 1, 1) := by decide +kernel
theorem dX3_valueOf_72 : decode cX3_valueOf 72 = .ok (.if_icmp .ne 14, 3) := by decide +kernel
theorem dX3_valueOf_75 : decode cX3_valueOf 75 = .ok (.aload_n 2, 1) := by decide +kernel
theorem dX3_valueOf_76 : decode cX3_valueOf 76 = .ok (.iload_n 3, 1) := by decide +kernel
theorem dX3_valueOf_77 : decode cX3_valueOf 77 = .ok (.iconst 1, 1) := by decide +kernel
theorem dX3_valueOf_78 : decode cX3_valueOf 78 = .ok (.aload_n 2, 1) := by decide +kernel
theorem dX3_valueOf_79 : decode cX3_valueOf 79 = .ok (.iload_n 3, 1) := by decide +kernel
theorem dX3_valueOf_80 : decode cX3_valueOf 80 = .ok (.iaload, 1) := by decide +kernel
theorem dX3_valueOf_81 : decode cX3_valueOf 81 = .ok (.isub, 1) := by decide +kernel
theorem dX3_valueOf_82 : decode cX3_valueOf 82 = .ok (.iastore, 1) := by decide +kernel
theorem dX3_valueOf_83 : decode cX3_valueOf 83 = .ok (.goto 50, 3) := by decide +kernel
theorem dX3_valueOf_86 : decode cX3_valueOf 86 = .ok (.iload 6, 2) := by decide +kernel
theorem dX3_valueOf_88 : decode cX3_valueOf 88 = .ok (.iconst 2, 1) := by decide +kernel
theorem dX3_valueOf_89 : decode cX3_valueOf 89 = .ok (.if_icmp .ne 22, 3) := by decide +kernel
theorem dX3_valueOf_92 : decode cX3_valueOf 92 = .ok (.aload_n 2, 1) := by decide +kernel
theorem dX3_valueOf_93 : decode cX3_valueOf 93 = .ok (.iload_n 3, 1) := by decide +kernel
theorem dX3_valueOf_94 : decode cX3_valueOf 94 = .ok (.iload 5, 2) := by decide +kernel
theorem dX3_valueOf_96 : decode cX3_valueOf 96 = .ok (.aload_n 2, 1) := by decide +kernel
theorem dX3_valueOf_97 : decode cX3_valueOf 97 = .ok (.iload_n 3, 1) := by decide +kernel
theorem dX3_valueOf_98 : decode cX3_valueOf 98 = .ok (.iaload, 1) := by decide +kernel
theorem dX3_valueOf_99 : decode cX3_valueOf 99 = .ok (.aload_n 2, 1) := by decide +kernel
theorem dX3_valueOf_100 : decode cX3_valueOf 100 = .ok (.iload_n 3, 1) := by decide +kernel
theorem dX3_valueOf_101 : decode cX3_valueOf 101 = .ok (.iconst 1, 1) := by decide +kernel
theorem dX3_valueOf_102 : decode cX3_valueOf 102 = .ok (.iadd, 1) := by decide +kernel
theorem dX3_valueOf_103 : decode cX3_valueOf 103 = .ok (.iaload, 1) := by decide +kernel
theorem dX3_valueOf_104 : decode cX3_valueOf 104 = .ok (.invokestatic 23, 3) := by decide +kernel
theorem dX3_valueOf_107 : decode cX3_valueOf 107 = .ok (.iastore, 1) := by decide +kernel
theorem dX3_valueOf_108 : decode cX3_valueOf 108 = .ok (.goto 25, 3) := by decide +kernel
theorem dX3_valueOf_111 : decode cX3_valueOf 111 = .ok (.aload_n 2, 1) := by decide +kernel
theorem dX3_valueOf_112 : decode cX3_valueOf 112 = .ok (.iload_n 3, 1) := by decide +kernel
theorem dX3_valueOf_113 : decode cX3_valueOf 113 = .ok (.aload_n 2, 1) := by decide +kernel
theorem dX3_valueOf_114 : decode cX3_valueOf 114 = .ok (.iload_n 3, 1) := by decide +kernel
theorem dX3_valueOf_115 : decode cX3_valueOf 115 = .ok (.iaload, 1) := by decide +kernel
theorem dX3_valueOf_116 : decode cX3_valueOf 116 = .ok (.ifCond .eq 11, 3) := by decide +kernel
theorem dX3_valueOf_119 : decode cX3_valueOf 119 = .ok (.aload_n 2, 1) := by decide +kernel
theorem dX3_valueOf_120 : decode cX3_valueOf 120 = .ok (.iload_n 3, 1) := by decide +kernel
theorem dX3_valueOf_121 : decode cX3_valueOf 121 = .ok (.iconst 1, 1) := by decide +kernel
theorem dX3_valueOf_122 : decode cX3_valueOf 122 = .ok (.iadd, 1) := by decide +kernel
theorem dX3_valueOf_123 : decode cX3_valueOf 123 = .ok (.iaload, 1) := by decide +kernel
theorem dX3_valueOf_124 : decode cX3_valueOf 124 = .ok (.goto 8, 3) := by decide +kernel
theorem dX3_valueOf_127 : decode cX3_valueOf 127 = .ok (.aload_n 2, 1) := by decide +kernel
theorem dX3_valueOf_128 : decode cX3_valueOf 128 = .ok (.iload_n 3, 1) := by decide +kernel
theorem dX3_valueOf_129 : decode cX3_valueOf 129 = .ok (.iconst 2, 1) := by decide +kernel
theorem dX3_valueOf_130 : decode cX3_valueOf 130 = .ok (.iadd, 1) := by decide +kernel
theorem dX3_valueOf_131 : decode cX3_valueOf 131 = .ok (.iaload, 1) := by decide +kernel
theorem dX3_valueOf_132 : decode cX3_valueOf 132 = .ok (.iastore, 1) := by decide +kernel
theorem dX3_valueOf_133 : decode cX3_valueOf 133 = .ok (.iinc 3 1, 3) := by decide +kernel
theorem dX3_valueOf_136 : decode cX3_valueOf 136 = .ok (.iinc 4 1, 3) := by decide +kernel
theorem dX3_valueOf_139 : decode cX3_valueOf 139 = .ok (.goto (-129), 3) := by decide +kernel
theorem dX3_valueOf_142 : decode cX3_valueOf 142 = .ok (.aload_n 2, 1) := by decide +kernel
theorem dX3_valueOf_143 : decode cX3_valueOf 143 = .ok (.iconst 0, 1) := by decide +kernel
theorem dX3_valueOf_144 : decode cX3_valueOf 144 = .ok (.iaload, 1) := by decide +kernel
theorem dX3_valueOf_145 : decode cX3_valueOf 145 = .ok (.ireturn, 1) := by decide +kernel
theorem dX3_needsOf_0 : decode cX3_needsOf 0 = .ok (.iload_n 0, 1) := by decide +kernel
theorem dX3_needsOf_1 : decode cX3_needsOf 1 = .ok (.bipush (-10), 2) := by decide +kernel
theorem dX3_needsOf_3 : decode cX3_needsOf 3 = .ok (.if_icmp .le 5, 3) := by decide +kernel
theorem dX3_needsOf_6 : decode cX3_needsOf 6 = .ok (.iconst 0, 1) := by decide +kernel
theorem dX3_needsOf_7 : decode cX3_needsOf 7 = .ok (.ireturn, 1) := by decide +kernel
theorem dX3_needsOf_8 : decode cX3_needsOf 8 = .ok (.iload_n 0, 1) := by decide +kernel
theorem dX3_needsOf_9 : decode cX3_needsOf 9 = .ok (.bipush (-10), 2) := by decide +kernel
theorem dX3_needsOf_11 : decode cX3_needsOf 11 = .ok (.if_icmp .ne 5, 3) := by decide +kernel
theorem dX3_needsOf_14 : decode cX3_needsOf 14 = .ok (.iconst 1, 1) := by decide +kernel
theorem dX3_needsOf_15 : decode cX3_needsOf 15 = .ok (.ireturn, 1) := by decide +kernel
theorem dX3_needsOf_16 : decode cX3_needsOf 16 = .ok (.iload_n 0, 1) := by decide +kernel
theorem dX3_needsOf_17 : decode cX3_needsOf 17 = .ok (.bipush (-11), 2) := by decide +kernel
theorem dX3_needsOf_19 : decode cX3_needsOf 19 = .ok (.if_icmp .ne 7, 3) := by decide +kernel
theorem dX3_needsOf_22 : decode cX3_needsOf 22 = .ok (.iconst 3, 1) := by decide +kernel
theorem dX3_needsOf_23 : decode cX3_needsOf 23 = .ok (.goto 4, 3) := by decide +kernel
theorem dX3_needsOf_26 : decode cX3_needsOf 26 = .ok (.iconst 2, 1) := by decide +kernel
theorem dX3_needsOf_27 : decode cX3_needsOf 27 = .ok (.ireturn, 1) := by decide +kernel
theorem dX3_atomOf_0 : decode cX3_atomOf 0 = .ok (.iload_n 0, 1) := by decide +kernel
theorem dX3_atomOf_1 : decode cX3_atomOf 1 = .ok (.tableswitch 65 (-5) (-1) #[55, 50, 45, 40, 35], 35) := by decide +kernel
theorem dX3_atomOf_36 : decode cX3_atomOf 36 = .ok (.aload_n 1, 1) := by decide +kernel
theorem dX3_atomOf_37 : decode cX3_atomOf 37 = .ok (.getfield 27, 3) := by decide +kernel
theorem dX3_atomOf_40 : decode cX3_atomOf 40 = .ok (.ireturn, 1) := by decide +kernel
theorem dX3_atomOf_41 : decode cX3_atomOf 41 = .ok (.aload_n 1, 1) := by decide +kernel
theorem dX3_atomOf_42 : decode cX3_atomOf 42 = .ok (.getfield 31, 3) := by decide +kernel
theorem dX3_atomOf_45 : decode cX3_atomOf 45 = .ok (.ireturn, 1) := by decide +kernel
theorem dX3_atomOf_46 : decode cX3_atomOf 46 = .ok (.aload_n 1, 1) := by decide +kernel
theorem dX3_atomOf_47 : decode cX3_atomOf 47 = .ok (.invokevirtual 34, 3) := by decide +kernel
theorem dX3_atomOf_50 : decode cX3_atomOf 50 = .ok (.ireturn, 1) := by decide +kernel
theorem dX3_atomOf_51 : decode cX3_atomOf 51 = .ok (.aload_n 1, 1) := by decide +kernel
theorem dX3_atomOf_52 : decode cX3_atomOf 52 = .ok (.invokevirtual 38, 3) := by decide +kernel
theorem dX3_atomOf_55 : decode cX3_atomOf 55 = .ok (.ireturn, 1) := by decide +kernel
theorem dX3_atomOf_56 : decode cX3_atomOf 56 = .ok (.aload_n 1, 1) := by decide +kernel
theorem dX3_atomOf_57 : decode cX3_atomOf 57 = .ok (.getfield 41, 3) := by decide +kernel
theorem dX3_atomOf_60 : decode cX3_atomOf 60 = .ok (.ldc2_w 45, 3) := by decide +kernel
theorem dX3_atomOf_63 : decode cX3_atomOf 63 = .ok (.lrem, 1) := by decide +kernel
theorem dX3_atomOf_64 : decode cX3_atomOf 64 = .ok (.l2i, 1) := by decide +kernel
theorem dX3_atomOf_65 : decode cX3_atomOf 65 = .ok (.ireturn, 1) := by decide +kernel
theorem dX3_atomOf_66 : decode cX3_atomOf 66 = .ok (.iload_n 0, 1) := by decide +kernel
theorem dX3_atomOf_67 : decode cX3_atomOf 67 = .ok (.ireturn, 1) := by decide +kernel
theorem dX3_joined_0 : decode cX3_joined 0 = .ok (.iload_n 0, 1) := by decide +kernel
theorem dX3_joined_1 : decode cX3_joined 1 = .ok (.tableswitch 107 (-18) (-12) #[103, 92, 81, 70, 61, 52, 43], 43) := by decide +kernel
theorem dX3_joined_44 : decode cX3_joined 44 = .ok (.iload_n 1, 1) := by decide +kernel
theorem dX3_joined_45 : decode cX3_joined 45 = .ok (.i2l, 1) := by decide +kernel
theorem dX3_joined_46 : decode cX3_joined 46 = .ok (.iload_n 2, 1) := by decide +kernel
theorem dX3_joined_47 : decode cX3_joined 47 = .ok (.i2l, 1) := by decide +kernel
theorem dX3_joined_48 : decode cX3_joined 48 = .ok (.ladd, 1) := by decide +kernel
theorem dX3_joined_49 : decode cX3_joined 49 = .ok (.invokestatic 47, 3) := by decide +kernel
theorem dX3_joined_52 : decode cX3_joined 52 = .ok (.ireturn, 1) := by decide +kernel
theorem dX3_joined_53 : decode cX3_joined 53 = .ok (.iload_n 1, 1) := by decide +kernel
theorem dX3_joined_54 : decode cX3_joined 54 = .ok (.i2l, 1) := by decide +kernel
theorem dX3_joined_55 : decode cX3_joined 55 = .ok (.iload_n 2, 1) := by decide +kernel
theorem dX3_joined_56 : decode cX3_joined 56 = .ok (.i2l, 1) := by decide +kernel
theorem dX3_joined_57 : decode cX3_joined 57 = .ok (.lsub, 1) := by decide +kernel
theorem dX3_joined_58 : decode cX3_joined 58 = .ok (.invokestatic 47, 3) := by decide +kernel
theorem dX3_joined_61 : decode cX3_joined 61 = .ok (.ireturn, 1) := by decide +kernel
theorem dX3_joined_62 : decode cX3_joined 62 = .ok (.iload_n 1, 1) := by decide +kernel
theorem dX3_joined_63 : decode cX3_joined 63 = .ok (.i2l, 1) := by decide +kernel
theorem dX3_joined_64 : decode cX3_joined 64 = .ok (.iload_n 2, 1) := by decide +kernel
theorem dX3_joined_65 : decode cX3_joined 65 = .ok (.i2l, 1) := by decide +kernel
theorem dX3_joined_66 : decode cX3_joined 66 = .ok (.lmul, 1) := by decide +kernel
theorem dX3_joined_67 : decode cX3_joined 67 = .ok (.invokestatic 47, 3) := by decide +kernel
theorem dX3_joined_70 : decode cX3_joined 70 = .ok (.ireturn, 1) := by decide +kernel
theorem dX3_joined_71 : decode cX3_joined 71 = .ok (.iload_n 1, 1) := by decide +kernel
theorem dX3_joined_72 : decode cX3_joined 72 = .ok (.iload_n 2, 1) := by decide +kernel
theorem dX3_joined_73 : decode cX3_joined 73 = .ok (.if_icmp .ne 7, 3) := by decide +kernel
theorem dX3_joined_76 : decode cX3_joined 76 = .ok (.iconst 1, 1) := by decide +kernel
theorem dX3_joined_77 : decode cX3_joined 77 = .ok (.goto 4, 3) := by decide +kernel
theorem dX3_joined_80 : decode cX3_joined 80 = .ok (.iconst 0, 1) := by decide +kernel
theorem dX3_joined_81 : decode cX3_joined 81 = .ok (.ireturn, 1) := by decide +kernel
theorem dX3_joined_82 : decode cX3_joined 82 = .ok (.iload_n 1, 1) := by decide +kernel
theorem dX3_joined_83 : decode cX3_joined 83 = .ok (.iload_n 2, 1) := by decide +kernel
theorem dX3_joined_84 : decode cX3_joined 84 = .ok (.if_icmp .ge 7, 3) := by decide +kernel
theorem dX3_joined_87 : decode cX3_joined 87 = .ok (.iconst 1, 1) := by decide +kernel
theorem dX3_joined_88 : decode cX3_joined 88 = .ok (.goto 4, 3) := by decide +kernel
theorem dX3_joined_91 : decode cX3_joined 91 = .ok (.iconst 0, 1) := by decide +kernel
theorem dX3_joined_92 : decode cX3_joined 92 = .ok (.ireturn, 1) := by decide +kernel
theorem dX3_joined_93 : decode cX3_joined 93 = .ok (.iload_n 1, 1) := by decide +kernel
theorem dX3_joined_94 : decode cX3_joined 94 = .ok (.iload_n 2, 1) := by decide +kernel
theorem dX3_joined_95 : decode cX3_joined 95 = .ok (.if_icmp .le 7, 3) := by decide +kernel
theorem dX3_joined_98 : decode cX3_joined 98 = .ok (.iconst 1, 1) := by decide +kernel
theorem dX3_joined_99 : decode cX3_joined 99 = .ok (.goto 4, 3) := by decide +kernel
theorem dX3_joined_102 : decode cX3_joined 102 = .ok (.iconst 0, 1) := by decide +kernel
theorem dX3_joined_103 : decode cX3_joined 103 = .ok (.ireturn, 1) := by decide +kernel
theorem dX3_joined_104 : decode cX3_joined 104 = .ok (.iload_n 1, 1) := by decide +kernel
theorem dX3_joined_105 : decode cX3_joined 105 = .ok (.iload_n 2, 1) := by decide +kernel
theorem dX3_joined_106 : decode cX3_joined 106 = .ok (.iand, 1) := by decide +kernel
theorem dX3_joined_107 : decode cX3_joined 107 = .ok (.ireturn, 1) := by decide +kernel
theorem dX3_joined_108 : decode cX3_joined 108 = .ok (.iload_n 1, 1) := by decide +kernel
theorem dX3_joined_109 : decode cX3_joined 109 = .ok (.iload_n 2, 1) := by decide +kernel
theorem dX3_joined_110 : decode cX3_joined 110 = .ok (.ior, 1) := by decide +kernel
theorem dX3_joined_111 : decode cX3_joined 111 = .ok (.ireturn, 1) := by decide +kernel
theorem dX3_kept_0 : decode cX3_kept 0 = .ok (.ldc2_w 51, 3) := by decide +kernel
theorem dX3_kept_3 : decode cX3_kept 3 = .ok (.ldc2_w 53, 3) := by decide +kernel
theorem dX3_kept_6 : decode cX3_kept 6 = .ok (.lload_n 0, 1) := by decide +kernel
theorem dX3_kept_7 : decode cX3_kept 7 = .ok (.invokestatic 55, 3) := by decide +kernel
theorem dX3_kept_10 : decode cX3_kept 10 = .ok (.invokestatic 61, 3) := by decide +kernel
theorem dX3_kept_13 : decode cX3_kept 13 = .ok (.l2i, 1) := by decide +kernel
theorem dX3_kept_14 : decode cX3_kept 14 = .ok (.ireturn, 1) := by decide +kernel
theorem dX2_init_0 : decode cX2_init 0 = .ok (.aload_n 0, 1) := by decide +kernel
theorem dX2_init_1 : decode cX2_init 1 = .ok (.invokespecial 3, 3) := by decide +kernel
theorem dX2_init_4 : decode cX2_init 4 = .ok (.aload_n 0, 1) := by decide +kernel
theorem dX2_init_5 : decode cX2_init 5 = .ok (.bipush 6, 2) := by decide +kernel
theorem dX2_init_7 : decode cX2_init 7 = .ok (.newarray .int, 2) := by decide +kernel
theorem dX2_init_9 : decode cX2_init 9 = .ok (.putfield 9, 3) := by decide +kernel
theorem dX2_init_12 : decode cX2_init 12 = .ok (.aload_n 0, 1) := by decide +kernel
theorem dX2_init_13 : decode cX2_init 13 = .ok (.bipush 6, 2) := by decide +kernel
theorem dX2_init_15 : decode cX2_init 15 = .ok (.newarray .int, 2) := by decide +kernel
theorem dX2_init_17 : decode cX2_init 17 = .ok (.putfield 15, 3) := by decide +kernel
theorem dX2_init_20 : decode cX2_init 20 = .ok (.return_, 1) := by decide +kernel
theorem dX2_learn_0 : decode cX2_learn 0 = .ok (.iconst 0, 1) := by decide +kernel
theorem dX2_learn_1 : decode cX2_learn 1 = .ok (.istore_n 3, 1) := by decide +kernel
theorem dX2_learn_2 : decode cX2_learn 2 = .ok (.iload_n 3, 1) := by decide +kernel
theorem dX2_learn_3 : decode cX2_learn 3 = .ok (.bipush 6, 2) := by decide +kernel
theorem dX2_learn_5 : decode cX2_learn 5 = .ok (.if_icmp .ge 21, 3) := by decide +kernel
theorem dX2_learn_8 : decode cX2_learn 8 = .ok (.aload_n 0, 1) := by decide +kernel
theorem dX2_learn_9 : decode cX2_learn 9 = .ok (.getfield 9, 3) := by decide +kernel
theorem dX2_learn_12 : decode cX2_learn 12 = .ok (.iload_n 3, 1) := by decide +kernel
theorem dX2_learn_13 : decode cX2_learn 13 = .ok (.aload_n 1, 1) := by decide +kernel
theorem dX2_learn_14 : decode cX2_learn 14 = .ok (.iload_n 2, 1) := by decide +kernel
theorem dX2_learn_15 : decode cX2_learn 15 = .ok (.iload_n 3, 1) := by decide +kernel
theorem dX2_learn_16 : decode cX2_learn 16 = .ok (.invokevirtual 18, 3) := by decide +kernel
theorem dX2_learn_19 : decode cX2_learn 19 = .ok (.iastore, 1) := by decide +kernel
theorem dX2_learn_20 : decode cX2_learn 20 = .ok (.iinc 3 1, 3) := by decide +kernel
theorem dX2_learn_23 : decode cX2_learn 23 = .ok (.goto (-21), 3) := by decide +kernel
theorem dX2_learn_26 : decode cX2_learn 26 = .ok (.iconst 0, 1) := by decide +kernel
theorem dX2_learn_27 : decode cX2_learn 27 = .ok (.istore_n 3, 1) := by decide +kernel
theorem dX2_learn_28 : decode cX2_learn 28 = .ok (.iload_n 3, 1) := by decide +kernel
theorem dX2_learn_29 : decode cX2_learn 29 = .ok (.bipush 6, 2) := by decide +kernel
theorem dX2_learn_31 : decode cX2_learn 31 = .ok (.if_icmp .ge 51, 3) := by decide +kernel
theorem dX2_learn_34 : decode cX2_learn 34 = .ok (.iconst 0, 1) := by decide +kernel
theorem dX2_learn_35 : decode cX2_learn 35 = .ok (.istore 4, 2) := by decide +kernel
theorem dX2_learn_37 : decode cX2_learn 37 = .ok (.iload 4, 2) := by decide +kernel
theorem dX2_learn_39 : decode cX2_learn 39 = .ok (.bipush 6, 2) := by decide +kernel
theorem dX2_learn_41 : decode cX2_learn 41 = .ok (.if_icmp .ge 35, 3) := by decide +kernel
theorem dX2_learn_44 : decode cX2_learn 44 = .ok (.aload_n 0, 1) := by decide +kernel
theorem dX2_learn_45 : decode cX2_learn 45 = .ok (.iload 4, 2) := by decide +kernel
theorem dX2_learn_47 : decode cX2_learn 47 = .ok (.iload_n 3, 1) := by decide +kernel
theorem dX2_learn_48 : decode cX2_learn 48 = .ok (.invokevirtual 24, 3) := by decide +kernel
theorem dX2_learn_51 : decode cX2_learn 51 = .ok (.ifCond .eq 19, 3) := by decide +kernel
theorem dX2_learn_54 : decode cX2_learn 54 = .ok (.aload_n 0, 1) := by decide +kernel
theorem dX2_learn_55 : decode cX2_learn 55 = .ok (.getfield 9, 3) := by decide +kernel
theorem dX2_learn_58 : decode cX2_learn 58 = .ok (.iload 4, 2) := by decide +kernel
theorem dX2_learn_60 : decode cX2_learn 60 = .ok (.dup2, 1) := by decide +kernel
theorem dX2_learn_61 : decode cX2_learn 61 = .ok (.iaload, 1) := by decide +kernel
theorem dX2_learn_62 : decode cX2_learn 62 = .ok (.aload_n 0, 1) := by decide +kernel
theorem dX2_learn_63 : decode cX2_learn 63 = .ok (.getfield 9, 3) := by decide +kernel
theorem dX2_learn_66 : decode cX2_learn 66 = .ok (.iload_n 3, 1) := by decide +kernel
theorem dX2_learn_67 : decode cX2_learn 67 = .ok (.iaload, 1) := by decide +kernel
theorem dX2_learn_68 : decode cX2_learn 68 = .ok (.ior, 1) := by decide +kernel
theorem dX2_learn_69 : decode cX2_learn 69 = .ok (.iastore, 1) := by decide +kernel
theorem dX2_learn_70 : decode cX2_learn 70 = .ok (.iinc 4 1, 3) := by decide +kernel
theorem dX2_learn_73 : decode cX2_learn 73 = .ok (.goto (-36), 3) := by decide +kernel
theorem dX2_learn_76 : decode cX2_learn 76 = .ok (.iinc 3 1, 3) := by decide +kernel
theorem dX2_learn_79 : decode cX2_learn 79 = .ok (.goto (-51), 3) := by decide +kernel
theorem dX2_learn_82 : decode cX2_learn 82 = .ok (.aload_n 0, 1) := by decide +kernel
theorem dX2_learn_83 : decode cX2_learn 83 = .ok (.invokevirtual 28, 3) := by decide +kernel
theorem dX2_learn_86 : decode cX2_learn 86 = .ok (.return_, 1) := by decide +kernel
theorem dX2_reaches_0 : decode cX2_reaches 0 = .ok (.aload_n 0, 1) := by decide +kernel
theorem dX2_reaches_1 : decode cX2_reaches 1 = .ok (.getfield 9, 3) := by decide +kernel
theorem dX2_reaches_4 : decode cX2_reaches 4 = .ok (.iload_n 1, 1) := by decide +kernel
theorem dX2_reaches_5 : decode cX2_reaches 5 = .ok (.iaload, 1) := by decide +kernel
theorem dX2_reaches_6 : decode cX2_reaches 6 = .ok (.iload_n 2, 1) := by decide +kernel
theorem dX2_reaches_7 : decode cX2_reaches 7 = .ok (.ishr, 1) := by decide +kernel
theorem dX2_reaches_8 : decode cX2_reaches 8 = .ok (.iconst 1, 1) := by decide +kernel
theorem dX2_reaches_9 : decode cX2_reaches 9 = .ok (.iand, 1) := by decide +kernel
theorem dX2_reaches_10 : decode cX2_reaches 10 = .ok (.ifCond .eq 7, 3) := by decide +kernel
theorem dX2_reaches_13 : decode cX2_reaches 13 = .ok (.iconst 1, 1) := by decide +kernel
theorem dX2_reaches_14 : decode cX2_reaches 14 = .ok (.goto 4, 3) := by decide +kernel
theorem dX2_reaches_17 : decode cX2_reaches 17 = .ok (.iconst 0, 1) := by decide +kernel
theorem dX2_reaches_18 : decode cX2_reaches 18 = .ok (.ireturn, 1) := by decide +kernel
theorem dX2_learnChains_0 : decode cX2_learnChains 0 = .ok (.aload_n 0, 1) := by decide +kernel
theorem dX2_learnChains_1 : decode cX2_learnChains 1 = .ok (.getfield 15, 3) := by decide +kernel
theorem dX2_learnChains_4 : decode cX2_learnChains 4 = .ok (.iconst 0, 1) := by decide +kernel
theorem dX2_learnChains_5 : decode cX2_learnChains 5 = .ok (.invokestatic 31, 3) := by decide +kernel
theorem dX2_learnChains_8 : decode cX2_learnChains 8 = .ok (.iconst 0, 1) := by decide +kernel
theorem dX2_learnChains_9 : decode cX2_learnChains 9 = .ok (.istore_n 1, 1) := by decide +kernel
theorem dX2_learnChains_10 : decode cX2_learnChains 10 = .ok (.iload_n 1, 1) := by decide +kernel
theorem dX2_learnChains_11 : decode cX2_learnChains 11 = .ok (.bipush 6, 2) := by decide +kernel
theorem dX2_learnChains_13 : decode cX2_learnChains 13 = .ok (.if_icmp .ge 45, 3) := by decide +kernel
theorem dX2_learnChains_16 : decode cX2_learnChains 16 = .ok (.iconst 0, 1) := by decide +kernel
theorem dX2_learnChains_17 : decode cX2_learnChains 17 = .ok (.istore_n 2, 1) := by decide +kernel
theorem dX2_learnChains_18 : decode cX2_learnChains 18 = .ok (.iload_n 2, 1) := by decide +kernel
theorem dX2_learnChains_19 : decode cX2_learnChains 19 = .ok (.bipush 6, 2) := by decide +kernel
theorem dX2_learnChains_21 : decode cX2_learnChains 21 = .ok (.if_icmp .ge 31, 3) := by decide +kernel
theorem dX2_learnChains_24 : decode cX2_learnChains 24 = .ok (.aload_n 0, 1) := by decide +kernel
theorem dX2_learnChains_25 : decode cX2_learnChains 25 = .ok (.iload_n 2, 1) := by decide +kernel
theorem dX2_learnChains_26 : decode cX2_learnChains 26 = .ok (.iload_n 2, 1) := by decide +kernel
theorem dX2_learnChains_27 : decode cX2_learnChains 27 = .ok (.invokevirtual 24, 3) := by decide +kernel
theorem dX2_learnChains_30 : decode cX2_learnChains 30 = .ok (.ifCond .eq 16, 3) := by decide +kernel
theorem dX2_learnChains_33 : decode cX2_learnChains 33 = .ok (.aload_n 0, 1) := by decide +kernel
theorem dX2_learnChains_34 : decode cX2_learnChains 34 = .ok (.getfield 15, 3) := by decide +kernel
theorem dX2_learnChains_37 : decode cX2_learnChains 37 = .ok (.iload_n 2, 1) := by decide +kernel
theorem dX2_learnChains_38 : decode cX2_learnChains 38 = .ok (.iconst 1, 1) := by decide +kernel
theorem dX2_learnChains_39 : decode cX2_learnChains 39 = .ok (.aload_n 0, 1) := by decide +kernel
theorem dX2_learnChains_40 : decode cX2_learnChains 40 = .ok (.iload_n 2, 1) := by decide +kernel
theorem dX2_learnChains_41 : decode cX2_learnChains 41 = .ok (.invokevirtual 37, 3) := by decide +kernel
theorem dX2_learnChains_44 : decode cX2_learnChains 44 = .ok (.iadd, 1) := by decide +kernel
theorem dX2_learnChains_45 : decode cX2_learnChains 45 = .ok (.iastore, 1) := by decide +kernel
theorem dX2_learnChains_46 : decode cX2_learnChains 46 = .ok (.iinc 2 1, 3) := by decide +kernel
theorem dX2_learnChains_49 : decode cX2_learnChains 49 = .ok (.goto (-31), 3) := by decide +kernel
theorem dX2_learnChains_52 : decode cX2_learnChains 52 = .ok (.iinc 1 1, 3) := by decide +kernel
theorem dX2_learnChains_55 : decode cX2_learnChains 55 = .ok (.goto (-45), 3) := by decide +kernel
theorem dX2_learnChains_58 : decode cX2_learnChains 58 = .ok (.return_, 1) := by decide +kernel
theorem dX2_longestBehind_0 : decode cX2_longestBehind 0 = .ok (.iconst 0, 1) := by decide +kernel
theorem dX2_longestBehind_1 : decode cX2_longestBehind 1 = .ok (.istore_n 2, 1) := by decide +kernel
theorem dX2_longestBehind_2 : decode cX2_longestBehind 2 = .ok (.iconst 0, 1) := by decide +kernel
theorem dX2_longestBehind_3 : decode cX2_longestBehind 3 = .ok (.istore_n 3, 1) := by decide +kernel
theorem dX2_longestBehind_4 : decode cX2_longestBehind 4 = .ok (.iload_n 3, 1) := by decide +kernel
theorem dX2_longestBehind_5 : decode cX2_longestBehind 5 = .ok (.bipush 6, 2) := by decide +kernel
theorem dX2_longestBehind_7 : decode cX2_longestBehind 7 = .ok (.if_icmp .ge 38, 3) := by decide +kernel
theorem dX2_longestBehind_10 : decode cX2_longestBehind 10 = .ok (.aload_n 0, 1) := by decide +kernel
theorem dX2_longestBehind_11 : decode cX2_longestBehind 11 = .ok (.iload_n 1, 1) := by decide +kernel
theorem dX2_longestBehind_12 : decode cX2_longestBehind 12 = .ok (.iload_n 3, 1) := by decide +kernel
theorem dX2_longestBehind_13 : decode cX2_longestBehind 13 = .ok (.invokevirtual 24, 3) := by decide +kernel
theorem dX2_longestBehind_16 : decode cX2_longestBehind 16 = .ok (.ifCond .eq 23, 3) := by decide +kernel
theorem dX2_longestBehind_19 : decode cX2_longestBehind 19 = .ok (.aload_n 0, 1) := by decide +kernel
theorem dX2_longestBehind_20 : decode cX2_longestBehind 20 = .ok (.iload_n 3, 1) := by decide +kernel
theorem dX2_longestBehind_21 : decode cX2_longestBehind 21 = .ok (.iload_n 1, 1) := by decide +kernel
theorem dX2_longestBehind_22 : decode cX2_longestBehind 22 = .ok (.invokevirtual 24, 3) := by decide +kernel
theorem dX2_longestBehind_25 : decode cX2_longestBehind 25 = .ok (.ifCond .ne 14, 3) := by decide +kernel
theorem dX2_longestBehind_28 : decode cX2_longestBehind 28 = .ok (.iload_n 2, 1) := by decide +kernel
theorem dX2_longestBehind_29 : decode cX2_longestBehind 29 = .ok (.aload_n 0, 1) := by decide +kernel
theorem dX2_longestBehind_30 : decode cX2_longestBehind 30 = .ok (.getfield 15, 3) := by decide +kernel
theorem dX2_longestBehind_33 : decode cX2_longestBehind 33 = .ok (.iload_n 3, 1) := by decide +kernel
theorem dX2_longestBehind_34 : decode cX2_longestBehind 34 = .ok (.iaload, 1) := by decide +kernel
theorem dX2_longestBehind_35 : decode cX2_longestBehind 35 = .ok (.invokestatic 41, 3) := by decide +kernel
theorem dX2_longestBehind_38 : decode cX2_longestBehind 38 = .ok (.istore_n 2, 1) := by decide +kernel
theorem dX2_longestBehind_39 : decode cX2_longestBehind 39 = .ok (.iinc 3 1, 3) := by decide +kernel
theorem dX2_longestBehind_42 : decode cX2_longestBehind 42 = .ok (.goto (-38), 3) := by decide +kernel
theorem dX2_longestBehind_45 : decode cX2_longestBehind 45 = .ok (.iload_n 2, 1) := by decide +kernel
theorem dX2_longestBehind_46 : decode cX2_longestBehind 46 = .ok (.ireturn, 1) := by decide +kernel
theorem dX2_chainFrom_0 : decode cX2_chainFrom 0 = .ok (.aload_n 0, 1) := by decide +kernel
theorem dX2_chainFrom_1 : decode cX2_chainFrom 1 = .ok (.getfield 15, 3) := by decide +kernel
theorem dX2_chainFrom_4 : decode cX2_chainFrom 4 = .ok (.iload_n 1, 1) := by decide +kernel
theorem dX2_chainFrom_5 : decode cX2_chainFrom 5 = .ok (.iaload, 1) := by decide +kernel
theorem dX2_chainFrom_6 : decode cX2_chainFrom 6 = .ok (.istore_n 2, 1) := by decide +kernel
theorem dX2_chainFrom_7 : decode cX2_chainFrom 7 = .ok (.iconst 0, 1) := by decide +kernel
theorem dX2_chainFrom_8 : decode cX2_chainFrom 8 = .ok (.istore_n 3, 1) := by decide +kernel
theorem dX2_chainFrom_9 : decode cX2_chainFrom 9 = .ok (.iload_n 3, 1) := by decide +kernel
theorem dX2_chainFrom_10 : decode cX2_chainFrom 10 = .ok (.bipush 6, 2) := by decide +kernel
theorem dX2_chainFrom_12 : decode cX2_chainFrom 12 = .ok (.if_icmp .ge 29, 3) := by decide +kernel
theorem dX2_chainFrom_15 : decode cX2_chainFrom 15 = .ok (.aload_n 0, 1) := by decide +kernel
theorem dX2_chainFrom_16 : decode cX2_chainFrom 16 = .ok (.iload_n 1, 1) := by decide +kernel
theorem dX2_chainFrom_17 : decode cX2_chainFrom 17 = .ok (.iload_n 3, 1) := by decide +kernel
theorem dX2_chainFrom_18 : decode cX2_chainFrom 18 = .ok (.invokevirtual 24, 3) := by decide +kernel
theorem dX2_chainFrom_21 : decode cX2_chainFrom 21 = .ok (.ifCond .eq 14, 3) := by decide +kernel
theorem dX2_chainFrom_24 : decode cX2_chainFrom 24 = .ok (.iload_n 2, 1) := by decide +kernel
theorem dX2_chainFrom_25 : decode cX2_chainFrom 25 = .ok (.aload_n 0, 1) := by decide +kernel
theorem dX2_chainFrom_26 : decode cX2_chainFrom 26 = .ok (.getfield 15, 3) := by decide +kernel
theorem dX2_chainFrom_29 : decode cX2_chainFrom 29 = .ok (.iload_n 3, 1) := by decide +kernel
theorem dX2_chainFrom_30 : decode cX2_chainFrom 30 = .ok (.iaload, 1) := by decide +kernel
theorem dX2_chainFrom_31 : decode cX2_chainFrom 31 = .ok (.invokestatic 41, 3) := by decide +kernel
theorem dX2_chainFrom_34 : decode cX2_chainFrom 34 = .ok (.istore_n 2, 1) := by decide +kernel
theorem dX2_chainFrom_35 : decode cX2_chainFrom 35 = .ok (.iinc 3 1, 3) := by decide +kernel
theorem dX2_chainFrom_38 : decode cX2_chainFrom 38 = .ok (.goto (-29), 3) := by decide +kernel
theorem dX2_chainFrom_41 : decode cX2_chainFrom 41 = .ok (.iload_n 2, 1) := by decide +kernel
theorem dX2_chainFrom_42 : decode cX2_chainFrom 42 = .ok (.ireturn, 1) := by decide +kernel
theorem dX2_fateOf_0 : decode cX2_fateOf 0 = .ok (.aload_n 0, 1) := by decide +kernel
theorem dX2_fateOf_1 : decode cX2_fateOf 1 = .ok (.iload_n 3, 1) := by decide +kernel
theorem dX2_fateOf_2 : decode cX2_fateOf 2 = .ok (.invokevirtual 46, 3) := by decide +kernel
theorem dX2_fateOf_5 : decode cX2_fateOf 5 = .ok (.istore 4, 2) := by decide +kernel
theorem dX2_fateOf_7 : decode cX2_fateOf 7 = .ok (.iload 4, 2) := by decide +kernel
theorem dX2_fateOf_9 : decode cX2_fateOf 9 = .ok (.ifCond .ne 5, 3) := by decide +kernel
theorem dX2_fateOf_12 : decode cX2_fateOf 12 = .ok (.iconst 0, 1) := by decide +kernel
theorem dX2_fateOf_13 : decode cX2_fateOf 13 = .ok (.ireturn, 1) := by decide +kernel
theorem dX2_fateOf_14 : decode cX2_fateOf 14 = .ok (.iconst 0, 1) := by decide +kernel
theorem dX2_fateOf_15 : decode cX2_fateOf 15 = .ok (.istore 5, 2) := by decide +kernel
theorem dX2_fateOf_17 : decode cX2_fateOf 17 = .ok (.iload 5, 2) := by decide +kernel
theorem dX2_fateOf_19 : decode cX2_fateOf 19 = .ok (.bipush 6, 2) := by decide +kernel
theorem dX2_fateOf_21 : decode cX2_fateOf 21 = .ok (.if_icmp .ge 38, 3) := by decide +kernel
theorem dX2_fateOf_24 : decode cX2_fateOf 24 = .ok (.iload 5, 2) := by decide +kernel
theorem dX2_fateOf_26 : decode cX2_fateOf 26 = .ok (.iload_n 3, 1) := by decide +kernel
theorem dX2_fateOf_27 : decode cX2_fateOf 27 = .ok (.if_icmp .eq 13, 3) := by decide +kernel
theorem dX2_fateOf_30 : decode cX2_fateOf 30 = .ok (.aload_n 0, 1) := by decide +kernel
theorem dX2_fateOf_31 : decode cX2_fateOf 31 = .ok (.iload_n 3, 1) := by decide +kernel
theorem dX2_fateOf_32 : decode cX2_fateOf 32 = .ok (.iload 5, 2) := by decide +kernel
theorem dX2_fateOf_34 : decode cX2_fateOf 34 = .ok (.invokevirtual 24, 3) := by decide +kernel
theorem dX2_fateOf_37 : decode cX2_fateOf 37 = .ok (.ifCond .eq 16, 3) := by decide +kernel
theorem dX2_fateOf_40 : decode cX2_fateOf 40 = .ok (.aload_n 0, 1) := by decide +kernel
theorem dX2_fateOf_41 : decode cX2_fateOf 41 = .ok (.aload_n 1, 1) := by decide +kernel
theorem dX2_fateOf_42 : decode cX2_fateOf 42 = .ok (.iload_n 2, 1) := by decide +kernel
theorem dX2_fateOf_43 : decode cX2_fateOf 43 = .ok (.iload 5, 2) := by decide +kernel
theorem dX2_fateOf_45 : decode cX2_fateOf 45 = .ok (.invokevirtual 49, 3) := by decide +kernel
theorem dX2_fateOf_48 : decode cX2_fateOf 48 = .ok (.ifCond .eq 5, 3) := by decide +kernel
theorem dX2_fateOf_51 : decode cX2_fateOf 51 = .ok (.iconst 3, 1) := by decide +kernel
theorem dX2_fateOf_52 : decode cX2_fateOf 52 = .ok (.ireturn, 1) := by decide +kernel
theorem dX2_fateOf_53 : decode cX2_fateOf 53 = .ok (.iinc 5 1, 3) := by decide +kernel
theorem dX2_fateOf_56 : decode cX2_fateOf 56 = .ok (.goto (-39), 3) := by decide +kernel
theorem dX2_fateOf_59 : decode cX2_fateOf 59 = .ok (.iload 4, 2) := by decide +kernel
theorem dX2_fateOf_61 : decode cX2_fateOf 61 = .ok (.iconst 1, 1) := by decide +kernel
theorem dX2_fateOf_62 : decode cX2_fateOf 62 = .ok (.if_icmp .ne 7, 3) := by decide +kernel
theorem dX2_fateOf_65 : decode cX2_fateOf 65 = .ok (.iconst 1, 1) := by decide +kernel
theorem dX2_fateOf_66 : decode cX2_fateOf 66 = .ok (.goto 4, 3) := by decide +kernel
theorem dX2_fateOf_69 : decode cX2_fateOf 69 = .ok (.iconst 2, 1) := by decide +kernel
theorem dX2_fateOf_70 : decode cX2_fateOf 70 = .ok (.ireturn, 1) := by decide +kernel
theorem dX2_doubles_0 : decode cX2_doubles 0 = .ok (.aload_n 1, 1) := by decide +kernel
theorem dX2_doubles_1 : decode cX2_doubles 1 = .ok (.iload_n 2, 1) := by decide +kernel
theorem dX2_doubles_2 : decode cX2_doubles 2 = .ok (.iload_n 3, 1) := by decide +kernel
theorem dX2_doubles_3 : decode cX2_doubles 3 = .ok (.invokevirtual 53, 3) := by decide +kernel
theorem dX2_doubles_6 : decode cX2_doubles 6 = .ok (.istore 4, 2) := by decide +kernel
theorem dX2_doubles_8 : decode cX2_doubles 8 = .ok (.iconst 0, 1) := by decide +kernel
theorem dX2_doubles_9 : decode cX2_doubles 9 = .ok (.istore 5, 2) := by decide +kernel
theorem dX2_doubles_11 : decode cX2_doubles 11 = .ok (.iconst 0, 1) := by decide +kernel
theorem dX2_doubles_12 : decode cX2_doubles 12 = .ok (.istore 6, 2) := by decide +kernel
theorem dX2_doubles_14 : decode cX2_doubles 14 = .ok (.iload 6, 2) := by decide +kernel
theorem dX2_doubles_16 : decode cX2_doubles 16 = .ok (.iload 4, 2) := by decide +kernel
theorem dX2_doubles_18 : decode cX2_doubles 18 = .ok (.if_icmp .ge 38, 3) := by decide +kernel
theorem dX2_doubles_21 : decode cX2_doubles 21 = .ok (.aload_n 1, 1) := by decide +kernel
theorem dX2_doubles_22 : decode cX2_doubles 22 = .ok (.iload_n 2, 1) := by decide +kernel
theorem dX2_doubles_23 : decode cX2_doubles 23 = .ok (.iload_n 3, 1) := by decide +kernel
theorem dX2_doubles_24 : decode cX2_doubles 24 = .ok (.iload 6, 2) := by decide +kernel
theorem dX2_doubles_26 : decode cX2_doubles 26 = .ok (.invokevirtual 56, 3) := by decide +kernel
theorem dX2_doubles_29 : decode cX2_doubles 29 = .ok (.istore 7, 2) := by decide +kernel
theorem dX2_doubles_31 : decode cX2_doubles 31 = .ok (.iload 7, 2) := by decide +kernel
theorem dX2_doubles_33 : decode cX2_doubles 33 = .ok (.iload_n 3, 1) := by decide +kernel
theorem dX2_doubles_34 : decode cX2_doubles 34 = .ok (.if_icmp .eq 13, 3) := by decide +kernel
theorem dX2_doubles_37 : decode cX2_doubles 37 = .ok (.aload_n 0, 1) := by decide +kernel
theorem dX2_doubles_38 : decode cX2_doubles 38 = .ok (.iload 7, 2) := by decide +kernel
theorem dX2_doubles_40 : decode cX2_doubles 40 = .ok (.iload_n 3, 1) := by decide +kernel
theorem dX2_doubles_41 : decode cX2_doubles 41 = .ok (.invokevirtual 24, 3) := by decide +kernel
theorem dX2_doubles_44 : decode cX2_doubles 44 = .ok (.ifCond .eq 6, 3) := by decide +kernel
theorem dX2_doubles_47 : decode cX2_doubles 47 = .ok (.iinc 5 1, 3) := by decide +kernel
theorem dX2_doubles_50 : decode cX2_doubles 50 = .ok (.iinc 6 1, 3) := by decide +kernel
theorem dX2_doubles_53 : decode cX2_doubles 53 = .ok (.goto (-39), 3) := by decide +kernel
theorem dX2_doubles_56 : decode cX2_doubles 56 = .ok (.iload 5, 2) := by decide +kernel
theorem dX2_doubles_58 : decode cX2_doubles 58 = .ok (.iconst 2, 1) := by decide +kernel
theorem dX2_doubles_59 : decode cX2_doubles 59 = .ok (.if_icmp .lt 7, 3) := by decide +kernel
theorem dX2_doubles_62 : decode cX2_doubles 62 = .ok (.iconst 1, 1) := by decide +kernel
theorem dX2_doubles_63 : decode cX2_doubles 63 = .ok (.goto 4, 3) := by decide +kernel
theorem dX2_doubles_66 : decode cX2_doubles 66 = .ok (.iconst 0, 1) := by decide +kernel
theorem dX2_doubles_67 : decode cX2_doubles 67 = .ok (.ireturn, 1) := by decide +kernel
