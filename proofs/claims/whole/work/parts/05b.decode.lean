theorem dJ0_coder_7d493_0 : decode cJ0_coder_7d493 0 = .ok (.getstatic 38, 3) := by decide +kernel
theorem dJ0_coder_7d493_3 : decode cJ0_coder_7d493 3 = .ok (.ifCond .eq 10, 3) := by decide +kernel
theorem dJ0_coder_7d493_6 : decode cJ0_coder_7d493 6 = .ok (.aload_n 0, 1) := by decide +kernel
theorem dJ0_coder_7d493_7 : decode cJ0_coder_7d493 7 = .ok (.getfield 15, 3) := by decide +kernel
theorem dJ0_coder_7d493_10 : decode cJ0_coder_7d493 10 = .ok (.goto 4, 3) := by decide +kernel
theorem dJ0_coder_7d493_13 : decode cJ0_coder_7d493 13 = .ok (.iconst 1, 1) := by decide +kernel
theorem dJ0_coder_7d493_14 : decode cJ0_coder_7d493 14 = .ok (.ireturn, 1) := by decide +kernel
theorem dJ0_indexOf_0f7a4_0 : decode cJ0_indexOf_0f7a4 0 = .ok (.aload_n 0, 1) := by decide +kernel
theorem dJ0_indexOf_0f7a4_1 : decode cJ0_indexOf_0f7a4 1 = .ok (.iload_n 1, 1) := by decide +kernel
theorem dJ0_indexOf_0f7a4_2 : decode cJ0_indexOf_0f7a4 2 = .ok (.iconst 0, 1) := by decide +kernel
theorem dJ0_indexOf_0f7a4_3 : decode cJ0_indexOf_0f7a4 3 = .ok (.invokevirtual 633, 3) := by decide +kernel
theorem dJ0_indexOf_0f7a4_6 : decode cJ0_indexOf_0f7a4 6 = .ok (.ireturn, 1) := by decide +kernel
theorem dJ0_indexOf_7cf53_0 : decode cJ0_indexOf_7cf53 0 = .ok (.aload_n 0, 1) := by decide +kernel
theorem dJ0_indexOf_7cf53_1 : decode cJ0_indexOf_7cf53 1 = .ok (.invokevirtual 492, 3) := by decide +kernel
theorem dJ0_indexOf_7cf53_4 : decode cJ0_indexOf_7cf53 4 = .ok (.ifCond .eq 19, 3) := by decide +kernel
theorem dJ0_indexOf_7cf53_7 : decode cJ0_indexOf_7cf53 7 = .ok (.aload_n 0, 1) := by decide +kernel
theorem dJ0_indexOf_7cf53_8 : decode cJ0_indexOf_7cf53 8 = .ok (.getfield 9, 3) := by decide +kernel
theorem dJ0_indexOf_7cf53_11 : decode cJ0_indexOf_7cf53 11 = .ok (.iload_n 1, 1) := by decide +kernel
theorem dJ0_indexOf_7cf53_12 : decode cJ0_indexOf_7cf53 12 = .ok (.iload_n 2, 1) := by decide +kernel
theorem dJ0_indexOf_7cf53_13 : decode cJ0_indexOf_7cf53 13 = .ok (.aload_n 0, 1) := by decide +kernel
theorem dJ0_indexOf_7cf53_14 : decode cJ0_indexOf_7cf53 14 = .ok (.invokevirtual 505, 3) := by decide +kernel
theorem dJ0_indexOf_7cf53_17 : decode cJ0_indexOf_7cf53 17 = .ok (.invokestatic 637, 3) := by decide +kernel
theorem dJ0_indexOf_7cf53_20 : decode cJ0_indexOf_7cf53 20 = .ok (.goto 16, 3) := by decide +kernel
theorem dJ0_indexOf_7cf53_23 : decode cJ0_indexOf_7cf53 23 = .ok (.aload_n 0, 1) := by decide +kernel
theorem dJ0_indexOf_7cf53_24 : decode cJ0_indexOf_7cf53 24 = .ok (.getfield 9, 3) := by decide +kernel
theorem dJ0_indexOf_7cf53_27 : decode cJ0_indexOf_7cf53 27 = .ok (.iload_n 1, 1) := by decide +kernel
theorem dJ0_indexOf_7cf53_28 : decode cJ0_indexOf_7cf53 28 = .ok (.iload_n 2, 1) := by decide +kernel
theorem dJ0_indexOf_7cf53_29 : decode cJ0_indexOf_7cf53 29 = .ok (.aload_n 0, 1) := by decide +kernel
theorem dJ0_indexOf_7cf53_30 : decode cJ0_indexOf_7cf53 30 = .ok (.invokevirtual 505, 3) := by decide +kernel
theorem dJ0_indexOf_7cf53_33 : decode cJ0_indexOf_7cf53 33 = .ok (.invokestatic 640, 3) := by decide +kernel
theorem dJ0_indexOf_7cf53_36 : decode cJ0_indexOf_7cf53 36 = .ok (.ireturn, 1) := by decide +kernel
theorem dJ0_isEmpty_aae02_0 : decode cJ0_isEmpty_aae02 0 = .ok (.aload_n 0, 1) := by decide +kernel
theorem dJ0_isEmpty_aae02_1 : decode cJ0_isEmpty_aae02 1 = .ok (.getfield 9, 3) := by decide +kernel
theorem dJ0_isEmpty_aae02_4 : decode cJ0_isEmpty_aae02 4 = .ok (.arraylength, 1) := by decide +kernel
theorem dJ0_isEmpty_aae02_5 : decode cJ0_isEmpty_aae02 5 = .ok (.ifCond .ne 7, 3) := by decide +kernel
theorem dJ0_isEmpty_aae02_8 : decode cJ0_isEmpty_aae02 8 = .ok (.iconst 1, 1) := by decide +kernel
theorem dJ0_isEmpty_aae02_9 : decode cJ0_isEmpty_aae02 9 = .ok (.goto 4, 3) := by decide +kernel
theorem dJ0_isEmpty_aae02_12 : decode cJ0_isEmpty_aae02 12 = .ok (.iconst 0, 1) := by decide +kernel
theorem dJ0_isEmpty_aae02_13 : decode cJ0_isEmpty_aae02 13 = .ok (.ireturn, 1) := by decide +kernel
theorem dJ0_isLatin1_aae02_0 : decode cJ0_isLatin1_aae02 0 = .ok (.getstatic 38, 3) := by decide +kernel
theorem dJ0_isLatin1_aae02_3 : decode cJ0_isLatin1_aae02 3 = .ok (.ifCond .eq 14, 3) := by decide +kernel
theorem dJ0_isLatin1_aae02_6 : decode cJ0_isLatin1_aae02 6 = .ok (.aload_n 0, 1) := by decide +kernel
theorem dJ0_isLatin1_aae02_7 : decode cJ0_isLatin1_aae02 7 = .ok (.getfield 15, 3) := by decide +kernel
theorem dJ0_isLatin1_aae02_10 : decode cJ0_isLatin1_aae02 10 = .ok (.ifCond .ne 7, 3) := by decide +kernel
theorem dJ0_isLatin1_aae02_13 : decode cJ0_isLatin1_aae02 13 = .ok (.iconst 1, 1) := by decide +kernel
theorem dJ0_isLatin1_aae02_14 : decode cJ0_isLatin1_aae02 14 = .ok (.goto 4, 3) := by decide +kernel
theorem dJ0_isLatin1_aae02_17 : decode cJ0_isLatin1_aae02 17 = .ok (.iconst 0, 1) := by decide +kernel
theorem dJ0_isLatin1_aae02_18 : decode cJ0_isLatin1_aae02 18 = .ok (.ireturn, 1) := by decide +kernel
theorem dJ0_length_8abf5_0 : decode cJ0_length_8abf5 0 = .ok (.aload_n 0, 1) := by decide +kernel
theorem dJ0_length_8abf5_1 : decode cJ0_length_8abf5 1 = .ok (.getfield 9, 3) := by decide +kernel
theorem dJ0_length_8abf5_4 : decode cJ0_length_8abf5 4 = .ok (.arraylength, 1) := by decide +kernel
theorem dJ0_length_8abf5_5 : decode cJ0_length_8abf5 5 = .ok (.aload_n 0, 1) := by decide +kernel
theorem dJ0_length_8abf5_6 : decode cJ0_length_8abf5 6 = .ok (.invokevirtual 335, 3) := by decide +kernel
theorem dJ0_length_8abf5_9 : decode cJ0_length_8abf5 9 = .ok (.ishr, 1) := by decide +kernel
theorem dJ0_length_8abf5_10 : decode cJ0_length_8abf5 10 = .ok (.ireturn, 1) := by decide +kernel
theorem dJ1_canEncode_9a6ad_0 : decode cJ1_canEncode_9a6ad 0 = .ok (.iload_n 0, 1) := by decide +kernel
theorem dJ1_canEncode_9a6ad_1 : decode cJ1_canEncode_9a6ad 1 = .ok (.ifCond .lt 14, 3) := by decide +kernel
theorem dJ1_canEncode_9a6ad_4 : decode cJ1_canEncode_9a6ad 4 = .ok (.iload_n 0, 1) := by decide +kernel
theorem dJ1_canEncode_9a6ad_5 : decode cJ1_canEncode_9a6ad 5 = .ok (.sipush 255, 3) := by decide +kernel
theorem dJ1_canEncode_9a6ad_8 : decode cJ1_canEncode_9a6ad 8 = .ok (.if_icmp .gt 7, 3) := by decide +kernel
theorem dJ1_canEncode_9a6ad_11 : decode cJ1_canEncode_9a6ad 11 = .ok (.iconst 1, 1) := by decide +kernel
theorem dJ1_canEncode_9a6ad_12 : decode cJ1_canEncode_9a6ad 12 = .ok (.goto 4, 3) := by decide +kernel
theorem dJ1_canEncode_9a6ad_15 : decode cJ1_canEncode_9a6ad 15 = .ok (.iconst 0, 1) := by decide +kernel
theorem dJ1_canEncode_9a6ad_16 : decode cJ1_canEncode_9a6ad 16 = .ok (.ireturn, 1) := by decide +kernel
theorem dJ1_indexOfChar_4cfef_0 : decode cJ1_indexOfChar_4cfef 0 = .ok (.iload_n 1, 1) := by decide +kernel
theorem dJ1_indexOfChar_4cfef_1 : decode cJ1_indexOfChar_4cfef 1 = .ok (.i2b, 1) := by decide +kernel
theorem dJ1_indexOfChar_4cfef_2 : decode cJ1_indexOfChar_4cfef 2 = .ok (.istore 4, 2) := by decide +kernel
theorem dJ1_indexOfChar_4cfef_4 : decode cJ1_indexOfChar_4cfef 4 = .ok (.iload_n 2, 1) := by decide +kernel
theorem dJ1_indexOfChar_4cfef_5 : decode cJ1_indexOfChar_4cfef 5 = .ok (.istore 5, 2) := by decide +kernel
theorem dJ1_indexOfChar_4cfef_7 : decode cJ1_indexOfChar_4cfef 7 = .ok (.iload 5, 2) := by decide +kernel
theorem dJ1_indexOfChar_4cfef_9 : decode cJ1_indexOfChar_4cfef 9 = .ok (.iload_n 3, 1) := by decide +kernel
theorem dJ1_indexOfChar_4cfef_10 : decode cJ1_indexOfChar_4cfef 10 = .ok (.if_icmp .ge 21, 3) := by decide +kernel
theorem dJ1_indexOfChar_4cfef_13 : decode cJ1_indexOfChar_4cfef 13 = .ok (.aload_n 0, 1) := by decide +kernel
theorem dJ1_indexOfChar_4cfef_14 : decode cJ1_indexOfChar_4cfef 14 = .ok (.iload 5, 2) := by decide +kernel
theorem dJ1_indexOfChar_4cfef_16 : decode cJ1_indexOfChar_4cfef 16 = .ok (.baload, 1) := by decide +kernel
theorem dJ1_indexOfChar_4cfef_17 : decode cJ1_indexOfChar_4cfef 17 = .ok (.iload 4, 2) := by decide +kernel
theorem dJ1_indexOfChar_4cfef_19 : decode cJ1_indexOfChar_4cfef 19 = .ok (.if_icmp .ne 6, 3) := by decide +kernel
theorem dJ1_indexOfChar_4cfef_22 : decode cJ1_indexOfChar_4cfef 22 = .ok (.iload 5, 2) := by decide +kernel
theorem dJ1_indexOfChar_4cfef_24 : decode cJ1_indexOfChar_4cfef 24 = .ok (.ireturn, 1) := by decide +kernel
theorem dJ1_indexOfChar_4cfef_25 : decode cJ1_indexOfChar_4cfef 25 = .ok (.iinc 5 1, 3) := by decide +kernel
theorem dJ1_indexOfChar_4cfef_28 : decode cJ1_indexOfChar_4cfef 28 = .ok (.goto (-21), 3) := by decide +kernel
theorem dJ1_indexOfChar_4cfef_31 : decode cJ1_indexOfChar_4cfef 31 = .ok (.iconst (-1), 1) := by decide +kernel
theorem dJ1_indexOfChar_4cfef_32 : decode cJ1_indexOfChar_4cfef 32 = .ok (.ireturn, 1) := by decide +kernel
theorem dJ1_indexOf_4cfef_0 : decode cJ1_indexOf_4cfef 0 = .ok (.iload_n 1, 1) := by decide +kernel
theorem dJ1_indexOf_4cfef_1 : decode cJ1_indexOf_4cfef 1 = .ok (.invokestatic 88, 3) := by decide +kernel
theorem dJ1_indexOf_4cfef_4 : decode cJ1_indexOf_4cfef 4 = .ok (.ifCond .ne 5, 3) := by decide +kernel
theorem dJ1_indexOf_4cfef_7 : decode cJ1_indexOf_4cfef 7 = .ok (.iconst (-1), 1) := by decide +kernel
theorem dJ1_indexOf_4cfef_8 : decode cJ1_indexOf_4cfef 8 = .ok (.ireturn, 1) := by decide +kernel
theorem dJ1_indexOf_4cfef_9 : decode cJ1_indexOf_4cfef 9 = .ok (.iload_n 2, 1) := by decide +kernel
theorem dJ1_indexOf_4cfef_10 : decode cJ1_indexOf_4cfef 10 = .ok (.iconst 0, 1) := by decide +kernel
theorem dJ1_indexOf_4cfef_11 : decode cJ1_indexOf_4cfef 11 = .ok (.invokestatic 92, 3) := by decide +kernel
theorem dJ1_indexOf_4cfef_14 : decode cJ1_indexOf_4cfef 14 = .ok (.istore_n 2, 1) := by decide +kernel
theorem dJ1_indexOf_4cfef_15 : decode cJ1_indexOf_4cfef 15 = .ok (.iload_n 3, 1) := by decide +kernel
theorem dJ1_indexOf_4cfef_16 : decode cJ1_indexOf_4cfef 16 = .ok (.aload_n 0, 1) := by decide +kernel
theorem dJ1_indexOf_4cfef_17 : decode cJ1_indexOf_4cfef 17 = .ok (.arraylength, 1) := by decide +kernel
theorem dJ1_indexOf_4cfef_18 : decode cJ1_indexOf_4cfef 18 = .ok (.invokestatic 38, 3) := by decide +kernel
theorem dJ1_indexOf_4cfef_21 : decode cJ1_indexOf_4cfef 21 = .ok (.istore_n 3, 1) := by decide +kernel
theorem dJ1_indexOf_4cfef_22 : decode cJ1_indexOf_4cfef 22 = .ok (.iload_n 2, 1) := by decide +kernel
theorem dJ1_indexOf_4cfef_23 : decode cJ1_indexOf_4cfef 23 = .ok (.iload_n 3, 1) := by decide +kernel
theorem dJ1_indexOf_4cfef_24 : decode cJ1_indexOf_4cfef 24 = .ok (.if_icmp .lt 5, 3) := by decide +kernel
theorem dJ1_indexOf_4cfef_27 : decode cJ1_indexOf_4cfef 27 = .ok (.iconst (-1), 1) := by decide +kernel
theorem dJ1_indexOf_4cfef_28 : decode cJ1_indexOf_4cfef 28 = .ok (.ireturn, 1) := by decide +kernel
theorem dJ1_indexOf_4cfef_29 : decode cJ1_indexOf_4cfef 29 = .ok (.aload_n 0, 1) := by decide +kernel
theorem dJ1_indexOf_4cfef_30 : decode cJ1_indexOf_4cfef 30 = .ok (.iload_n 1, 1) := by decide +kernel
theorem dJ1_indexOf_4cfef_31 : decode cJ1_indexOf_4cfef 31 = .ok (.iload_n 2, 1) := by decide +kernel
theorem dJ1_indexOf_4cfef_32 : decode cJ1_indexOf_4cfef 32 = .ok (.iload_n 3, 1) := by decide +kernel
theorem dJ1_indexOf_4cfef_33 : decode cJ1_indexOf_4cfef 33 = .ok (.invokestatic 95, 3) := by decide +kernel
theorem dJ1_indexOf_4cfef_36 : decode cJ1_indexOf_4cfef 36 = .ok (.ireturn, 1) := by decide +kernel
theorem dJ6_bitCount_0f7a4_0 : decode cJ6_bitCount_0f7a4 0 = .ok (.iload_n 0, 1) := by decide +kernel
theorem dJ6_bitCount_0f7a4_1 : decode cJ6_bitCount_0f7a4 1 = .ok (.iload_n 0, 1) := by decide +kernel
theorem dJ6_bitCount_0f7a4_2 : decode cJ6_bitCount_0f7a4 2 = .ok (.iconst 1, 1) := by decide +kernel
theorem dJ6_bitCount_0f7a4_3 : decode cJ6_bitCount_0f7a4 3 = .ok (.iushr, 1) := by decide +kernel
theorem dJ6_bitCount_0f7a4_4 : decode cJ6_bitCount_0f7a4 4 = .ok (.ldc_w 265, 3) := by decide +kernel
theorem dJ6_bitCount_0f7a4_7 : decode cJ6_bitCount_0f7a4 7 = .ok (.iand, 1) := by decide +kernel
theorem dJ6_bitCount_0f7a4_8 : decode cJ6_bitCount_0f7a4 8 = .ok (.isub, 1) := by decide +kernel
theorem dJ6_bitCount_0f7a4_9 : decode cJ6_bitCount_0f7a4 9 = .ok (.istore_n 0, 1) := by decide +kernel
theorem dJ6_bitCount_0f7a4_10 : decode cJ6_bitCount_0f7a4 10 = .ok (.iload_n 0, 1) := by decide +kernel
theorem dJ6_bitCount_0f7a4_11 : decode cJ6_bitCount_0f7a4 11 = .ok (.ldc_w 266, 3) := by decide +kernel
theorem dJ6_bitCount_0f7a4_14 : decode cJ6_bitCount_0f7a4 14 = .ok (.iand, 1) := by decide +kernel
theorem dJ6_bitCount_0f7a4_15 : decode cJ6_bitCount_0f7a4 15 = .ok (.iload_n 0, 1) := by decide +kernel
theorem dJ6_bitCount_0f7a4_16 : decode cJ6_bitCount_0f7a4 16 = .ok (.iconst 2, 1) := by decide +kernel
theorem dJ6_bitCount_0f7a4_17 : decode cJ6_bitCount_0f7a4 17 = .ok (.iushr, 1) := by decide +kernel
theorem dJ6_bitCount_0f7a4_18 : decode cJ6_bitCount_0f7a4 18 = .ok (.ldc_w 266, 3) := by decide +kernel
theorem dJ6_bitCount_0f7a4_21 : decode cJ6_bitCount_0f7a4 21 = .ok (.iand, 1) := by decide +kernel
theorem dJ6_bitCount_0f7a4_22 : decode cJ6_bitCount_0f7a4 22 = .ok (.iadd, 1) := by decide +kernel
theorem dJ6_bitCount_0f7a4_23 : decode cJ6_bitCount_0f7a4 23 = .ok (.istore_n 0, 1) := by decide +kernel
theorem dJ6_bitCount_0f7a4_24 : decode cJ6_bitCount_0f7a4 24 = .ok (.iload_n 0, 1) := by decide +kernel
theorem dJ6_bitCount_0f7a4_25 : decode cJ6_bitCount_0f7a4 25 = .ok (.iload_n 0, 1) := by decide +kernel
theorem dJ6_bitCount_0f7a4_26 : decode cJ6_bitCount_0f7a4 26 = .ok (.iconst 4, 1) := by decide +kernel
theorem dJ6_bitCount_0f7a4_27 : decode cJ6_bitCount_0f7a4 27 = .ok (.iushr, 1) := by decide +kernel
theorem dJ6_bitCount_0f7a4_28 : decode cJ6_bitCount_0f7a4 28 = .ok (.iadd, 1) := by decide +kernel
theorem dJ6_bitCount_0f7a4_29 : decode cJ6_bitCount_0f7a4 29 = .ok (.ldc_w 267, 3) := by decide +kernel
theorem dJ6_bitCount_0f7a4_32 : decode cJ6_bitCount_0f7a4 32 = .ok (.iand, 1) := by decide +kernel
theorem dJ6_bitCount_0f7a4_33 : decode cJ6_bitCount_0f7a4 33 = .ok (.istore_n 0, 1) := by decide +kernel
theorem dJ6_bitCount_0f7a4_34 : decode cJ6_bitCount_0f7a4 34 = .ok (.iload_n 0, 1) := by decide +kernel
theorem dJ6_bitCount_0f7a4_35 : decode cJ6_bitCount_0f7a4 35 = .ok (.iload_n 0, 1) := by decide +kernel
theorem dJ6_bitCount_0f7a4_36 : decode cJ6_bitCount_0f7a4 36 = .ok (.bipush 8, 2) := by decide +kernel
theorem dJ6_bitCount_0f7a4_38 : decode cJ6_bitCount_0f7a4 38 = .ok (.iushr, 1) := by decide +kernel
theorem dJ6_bitCount_0f7a4_39 : decode cJ6_bitCount_0f7a4 39 = .ok (.iadd, 1) := by decide +kernel
theorem dJ6_bitCount_0f7a4_40 : decode cJ6_bitCount_0f7a4 40 = .ok (.istore_n 0, 1) := by decide +kernel
theorem dJ6_bitCount_0f7a4_41 : decode cJ6_bitCount_0f7a4 41 = .ok (.iload_n 0, 1) := by decide +kernel
theorem dJ6_bitCount_0f7a4_42 : decode cJ6_bitCount_0f7a4 42 = .ok (.iload_n 0, 1) := by decide +kernel
theorem dJ6_bitCount_0f7a4_43 : decode cJ6_bitCount_0f7a4 43 = .ok (.bipush 16, 2) := by decide +kernel
theorem dJ6_bitCount_0f7a4_45 : decode cJ6_bitCount_0f7a4 45 = .ok (.iushr, 1) := by decide +kernel
theorem dJ6_bitCount_0f7a4_46 : decode cJ6_bitCount_0f7a4 46 = .ok (.iadd, 1) := by decide +kernel
theorem dJ6_bitCount_0f7a4_47 : decode cJ6_bitCount_0f7a4 47 = .ok (.istore_n 0, 1) := by decide +kernel
theorem dJ6_bitCount_0f7a4_48 : decode cJ6_bitCount_0f7a4 48 = .ok (.iload_n 0, 1) := by decide +kernel
theorem dJ6_bitCount_0f7a4_49 : decode cJ6_bitCount_0f7a4 49 = .ok (.bipush 63, 2) := by decide +kernel
theorem dJ6_bitCount_0f7a4_51 : decode cJ6_bitCount_0f7a4 51 = .ok (.iand, 1) := by decide +kernel
theorem dJ6_bitCount_0f7a4_52 : decode cJ6_bitCount_0f7a4 52 = .ok (.ireturn, 1) := by decide +kernel
theorem dJ6_valueOf_2dffe_0 : decode cJ6_valueOf_2dffe 0 = .ok (.iload_n 0, 1) := by decide +kernel
theorem dJ6_valueOf_2dffe_1 : decode cJ6_valueOf_2dffe 1 = .ok (.bipush (-128), 2) := by decide +kernel
theorem dJ6_valueOf_2dffe_3 : decode cJ6_valueOf_2dffe 3 = .ok (.if_icmp .lt 20, 3) := by decide +kernel
theorem dJ6_valueOf_2dffe_6 : decode cJ6_valueOf_2dffe 6 = .ok (.iload_n 0, 1) := by decide +kernel
theorem dJ6_valueOf_2dffe_7 : decode cJ6_valueOf_2dffe 7 = .ok (.getstatic 191, 3) := by decide +kernel
theorem dJ6_valueOf_2dffe_10 : decode cJ6_valueOf_2dffe 10 = .ok (.if_icmp .gt 13, 3) := by decide +kernel
theorem dJ6_valueOf_2dffe_13 : decode cJ6_valueOf_2dffe 13 = .ok (.getstatic 195, 3) := by decide +kernel
theorem dJ6_valueOf_2dffe_16 : decode cJ6_valueOf_2dffe 16 = .ok (.iload_n 0, 1) := by decide +kernel
theorem dJ6_valueOf_2dffe_17 : decode cJ6_valueOf_2dffe 17 = .ok (.sipush 128, 3) := by decide +kernel
theorem dJ6_valueOf_2dffe_20 : decode cJ6_valueOf_2dffe 20 = .ok (.iadd, 1) := by decide +kernel
theorem dJ6_valueOf_2dffe_21 : decode cJ6_valueOf_2dffe 21 = .ok (.aaload, 1) := by decide +kernel
theorem dJ6_valueOf_2dffe_22 : decode cJ6_valueOf_2dffe 22 = .ok (.areturn, 1) := by decide +kernel
theorem dJ6_valueOf_2dffe_23 : decode cJ6_valueOf_2dffe 23 = .ok (.new 1, 3) := by decide +kernel
theorem dJ6_valueOf_2dffe_26 : decode cJ6_valueOf_2dffe 26 = .ok (.dup, 1) := by decide +kernel
theorem dJ6_valueOf_2dffe_27 : decode cJ6_valueOf_2dffe 27 = .ok (.iload_n 0, 1) := by decide +kernel
theorem dJ6_valueOf_2dffe_28 : decode cJ6_valueOf_2dffe 28 = .ok (.invokespecial 199, 3) := by decide +kernel
theorem dJ6_valueOf_2dffe_31 : decode cJ6_valueOf_2dffe 31 = .ok (.areturn, 1) := by decide +kernel
theorem dJ7_fill_49daa_0 : decode cJ7_fill_49daa 0 = .ok (.iconst 0, 1) := by decide +kernel
theorem dJ7_fill_49daa_1 : decode cJ7_fill_49daa 1 = .ok (.istore_n 2, 1) := by decide +kernel
theorem dJ7_fill_49daa_2 : decode cJ7_fill_49daa 2 = .ok (.aload_n 0, 1) := by decide +kernel
theorem dJ7_fill_49daa_3 : decode cJ7_fill_49daa 3 = .ok (.arraylength, 1) := by decide +kernel
theorem dJ7_fill_49daa_4 : decode cJ7_fill_49daa 4 = .ok (.istore_n 3, 1) := by decide +kernel
theorem dJ7_fill_49daa_5 : decode cJ7_fill_49daa 5 = .ok (.iload_n 2, 1) := by decide +kernel
theorem dJ7_fill_49daa_6 : decode cJ7_fill_49daa 6 = .ok (.iload_n 3, 1) := by decide +kernel
theorem dJ7_fill_49daa_7 : decode cJ7_fill_49daa 7 = .ok (.if_icmp .ge 13, 3) := by decide +kernel
theorem dJ7_fill_49daa_10 : decode cJ7_fill_49daa 10 = .ok (.aload_n 0, 1) := by decide +kernel
theorem dJ7_fill_49daa_11 : decode cJ7_fill_49daa 11 = .ok (.iload_n 2, 1) := by decide +kernel
theorem dJ7_fill_49daa_12 : decode cJ7_fill_49daa 12 = .ok (.iload_n 1, 1) := by decide +kernel
theorem dJ7_fill_49daa_13 : decode cJ7_fill_49daa 13 = .ok (.bastore, 1) := by decide +kernel
theorem dJ7_fill_49daa_14 : decode cJ7_fill_49daa 14 = .ok (.iinc 2 1, 3) := by decide +kernel
theorem dJ7_fill_49daa_17 : decode cJ7_fill_49daa 17 = .ok (.goto (-12), 3) := by decide +kernel
theorem dJ7_fill_49daa_20 : decode cJ7_fill_49daa 20 = .ok (.return_, 1) := by decide +kernel
theorem dJ7_fill_53178_0 : decode cJ7_fill_53178 0 = .ok (.iconst 0, 1) := by decide +kernel
theorem dJ7_fill_53178_1 : decode cJ7_fill_53178 1 = .ok (.istore_n 2, 1) := by decide +kernel
theorem dJ7_fill_53178_2 : decode cJ7_fill_53178 2 = .ok (.aload_n 0, 1) := by decide +kernel
theorem dJ7_fill_53178_3 : decode cJ7_fill_53178 3 = .ok (.arraylength, 1) := by decide +kernel
theorem dJ7_fill_53178_4 : decode cJ7_fill_53178 4 = .ok (.istore_n 3, 1) := by decide +kernel
theorem dJ7_fill_53178_5 : decode cJ7_fill_53178 5 = .ok (.iload_n 2, 1) := by decide +kernel
theorem dJ7_fill_53178_6 : decode cJ7_fill_53178 6 = .ok (.iload_n 3, 1) := by decide +kernel
theorem dJ7_fill_53178_7 : decode cJ7_fill_53178 7 = .ok (.if_icmp .ge 13, 3) := by decide +kernel
theorem dJ7_fill_53178_10 : decode cJ7_fill_53178 10 = .ok (.aload_n 0, 1) := by decide +kernel
theorem dJ7_fill_53178_11 : decode cJ7_fill_53178 11 = .ok (.iload_n 2, 1) := by decide +kernel
theorem dJ7_fill_53178_12 : decode cJ7_fill_53178 12 = .ok (.iload_n 1, 1) := by decide +kernel
theorem dJ7_fill_53178_13 : decode cJ7_fill_53178 13 = .ok (.iastore, 1) := by decide +kernel
theorem dJ7_fill_53178_14 : decode cJ7_fill_53178 14 = .ok (.iinc 2 1, 3) := by decide +kernel
theorem dJ7_fill_53178_17 : decode cJ7_fill_53178 17 = .ok (.goto (-12), 3) := by decide +kernel
theorem dJ7_fill_53178_20 : decode cJ7_fill_53178 20 = .ok (.return_, 1) := by decide +kernel
theorem dJ7_fill_d0a16_0 : decode cJ7_fill_d0a16 0 = .ok (.iconst 0, 1) := by decide +kernel
theorem dJ7_fill_d0a16_1 : decode cJ7_fill_d0a16 1 = .ok (.istore_n 3, 1) := by decide +kernel
theorem dJ7_fill_d0a16_2 : decode cJ7_fill_d0a16 2 = .ok (.aload_n 0, 1) := by decide +kernel
theorem dJ7_fill_d0a16_3 : decode cJ7_fill_d0a16 3 = .ok (.arraylength, 1) := by decide +kernel
theorem dJ7_fill_d0a16_4 : decode cJ7_fill_d0a16 4 = .ok (.istore 4, 2) := by decide +kernel
theorem dJ7_fill_d0a16_6 : decode cJ7_fill_d0a16 6 = .ok (.iload_n 3, 1) := by decide +kernel
theorem dJ7_fill_d0a16_7 : decode cJ7_fill_d0a16 7 = .ok (.iload 4, 2) := by decide +kernel
theorem dJ7_fill_d0a16_9 : decode cJ7_fill_d0a16 9 = .ok (.if_icmp .ge 13, 3) := by decide +kernel
theorem dJ7_fill_d0a16_12 : decode cJ7_fill_d0a16 12 = .ok (.aload_n 0, 1) := by decide +kernel
theorem dJ7_fill_d0a16_13 : decode cJ7_fill_d0a16 13 = .ok (.iload_n 3, 1) := by decide +kernel
theorem dJ7_fill_d0a16_14 : decode cJ7_fill_d0a16 14 = .ok (.lload_n 1, 1) := by decide +kernel
theorem dJ7_fill_d0a16_15 : decode cJ7_fill_d0a16 15 = .ok (.lastore, 1) := by decide +kernel
theorem dJ7_fill_d0a16_16 : decode cJ7_fill_d0a16 16 = .ok (.iinc 3 1, 3) := by decide +kernel
theorem dJ7_fill_d0a16_19 : decode cJ7_fill_d0a16 19 = .ok (.goto (-13), 3) := by decide +kernel
theorem dJ7_fill_d0a16_22 : decode cJ7_fill_d0a16 22 = .ok (.return_, 1) := by decide +kernel
theorem dJx35411_hasNext_aae02_0 : decode cJx35411_hasNext_aae02 0 = .ok (.aload_n 0, 1) := by decide +kernel
theorem dJx35411_hasNext_aae02_1 : decode cJx35411_hasNext_aae02 1 = .ok (.getfield 25, 3) := by decide +kernel
theorem dJx35411_hasNext_aae02_4 : decode cJx35411_hasNext_aae02 4 = .ok (.aload_n 0, 1) := by decide +kernel
theorem dJx35411_hasNext_aae02_5 : decode cJx35411_hasNext_aae02 5 = .ok (.getfield 1, 3) := by decide +kernel
theorem dJx35411_hasNext_aae02_8 : decode cJx35411_hasNext_aae02 8 = .ok (.getfield 28, 3) := by decide +kernel
theorem dJx35411_hasNext_aae02_11 : decode cJx35411_hasNext_aae02 11 = .ok (.if_icmp .eq 7, 3) := by decide +kernel
theorem dJx35411_hasNext_aae02_14 : decode cJx35411_hasNext_aae02 14 = .ok (.iconst 1, 1) := by decide +kernel
theorem dJx35411_hasNext_aae02_15 : decode cJx35411_hasNext_aae02 15 = .ok (.goto 4, 3) := by decide +kernel
theorem dJx35411_hasNext_aae02_18 : decode cJx35411_hasNext_aae02 18 = .ok (.iconst 0, 1) := by decide +kernel
theorem dJx35411_hasNext_aae02_19 : decode cJx35411_hasNext_aae02 19 = .ok (.ireturn, 1) := by decide +kernel
theorem dJx35411_init_45d68_0 : decode cJx35411_init_45d68 0 = .ok (.aload_n 0, 1) := by decide +kernel
theorem dJx35411_init_45d68_1 : decode cJx35411_init_45d68 1 = .ok (.aload_n 1, 1) := by decide +kernel
theorem dJx35411_init_45d68_2 : decode cJx35411_init_45d68 2 = .ok (.putfield 1, 3) := by decide +kernel
theorem dJx35411_init_45d68_5 : decode cJx35411_init_45d68 5 = .ok (.aload_n 0, 1) := by decide +kernel
theorem dJx35411_init_45d68_6 : decode cJx35411_init_45d68 6 = .ok (.invokespecial 7, 3) := by decide +kernel
theorem dJx35411_init_45d68_9 : decode cJx35411_init_45d68 9 = .ok (.aload_n 0, 1) := by decide +kernel
theorem dJx35411_init_45d68_10 : decode cJx35411_init_45d68 10 = .ok (.iconst (-1), 1) := by decide +kernel
theorem dJx35411_init_45d68_11 : decode cJx35411_init_45d68 11 = .ok (.putfield 13, 3) := by decide +kernel
theorem dJx35411_init_45d68_14 : decode cJx35411_init_45d68 14 = .ok (.aload_n 0, 1) := by decide +kernel
theorem dJx35411_init_45d68_15 : decode cJx35411_init_45d68 15 = .ok (.aload_n 0, 1) := by decide +kernel
theorem dJx35411_init_45d68_16 : decode cJx35411_init_45d68 16 = .ok (.getfield 1, 3) := by decide +kernel
theorem dJx35411_init_45d68_19 : decode cJx35411_init_45d68 19 = .ok (.getfield 17, 3) := by decide +kernel
theorem dJx35411_init_45d68_22 : decode cJx35411_init_45d68 22 = .ok (.putfield 22, 3) := by decide +kernel
theorem dJx35411_init_45d68_25 : decode cJx35411_init_45d68 25 = .ok (.return_, 1) := by decide +kernel
theorem dJx4a65c_add_72be8_0 : decode cJx4a65c_add_72be8 0 = .ok (.iload_n 3, 1) := by decide +kernel
theorem dJx4a65c_add_72be8_1 : decode cJx4a65c_add_72be8 1 = .ok (.aload_n 2, 1) := by decide +kernel
theorem dJx4a65c_add_72be8_2 : decode cJx4a65c_add_72be8 2 = .ok (.arraylength, 1) := by decide +kernel
theorem dJx4a65c_add_72be8_3 : decode cJx4a65c_add_72be8 3 = .ok (.if_icmp .ne 8, 3) := by decide +kernel
theorem dJx4a65c_add_72be8_6 : decode cJx4a65c_add_72be8 6 = .ok (.aload_n 0, 1) := by decide +kernel
theorem dJx4a65c_add_72be8_7 : decode cJx4a65c_add_72be8 7 = .ok (.invokevirtual 129, 3) := by decide +kernel
theorem dJx4a65c_add_72be8_10 : decode cJx4a65c_add_72be8 10 = .ok (.astore_n 2, 1) := by decide +kernel
theorem dJx4a65c_add_72be8_11 : decode cJx4a65c_add_72be8 11 = .ok (.aload_n 2, 1) := by decide +kernel
theorem dJx4a65c_add_72be8_12 : decode cJx4a65c_add_72be8 12 = .ok (.iload_n 3, 1) := by decide +kernel
theorem dJx4a65c_add_72be8_13 : decode cJx4a65c_add_72be8 13 = .ok (.aload_n 1, 1) := by decide +kernel
theorem dJx4a65c_add_72be8_14 : decode cJx4a65c_add_72be8 14 = .ok (.aastore, 1) := by decide +kernel
theorem dJx4a65c_add_72be8_15 : decode cJx4a65c_add_72be8 15 = .ok (.aload_n 0, 1) := by decide +kernel
theorem dJx4a65c_add_72be8_16 : decode cJx4a65c_add_72be8 16 = .ok (.iload_n 3, 1) := by decide +kernel
theorem dJx4a65c_add_72be8_17 : decode cJx4a65c_add_72be8 17 = .ok (.iconst 1, 1) := by decide +kernel
theorem dJx4a65c_add_72be8_18 : decode cJx4a65c_add_72be8 18 = .ok (.iadd, 1) := by decide +kernel
theorem dJx4a65c_add_72be8_19 : decode cJx4a65c_add_72be8 19 = .ok (.putfield 48, 3) := by decide +kernel
theorem dJx4a65c_add_72be8_22 : decode cJx4a65c_add_72be8 22 = .ok (.return_, 1) := by decide +kernel
theorem dJx4a65c_add_9ea2d_0 : decode cJx4a65c_add_9ea2d 0 = .ok (.aload_n 0, 1) := by decide +kernel
theorem dJx4a65c_add_9ea2d_1 : decode cJx4a65c_add_9ea2d 1 = .ok (.dup, 1) := by decide +kernel
theorem dJx4a65c_add_9ea2d_2 : decode cJx4a65c_add_9ea2d 2 = .ok (.getfield 63, 3) := by decide +kernel
theorem dJx4a65c_add_9ea2d_5 : decode cJx4a65c_add_9ea2d 5 = .ok (.iconst 1, 1) := by decide +kernel
theorem dJx4a65c_add_9ea2d_6 : decode cJx4a65c_add_9ea2d 6 = .ok (.iadd, 1) := by decide +kernel
theorem dJx4a65c_add_9ea2d_7 : decode cJx4a65c_add_9ea2d 7 = .ok (.putfield 63, 3) := by decide +kernel
theorem dJx4a65c_add_9ea2d_10 : decode cJx4a65c_add_9ea2d 10 = .ok (.aload_n 0, 1) := by decide +kernel
theorem dJx4a65c_add_9ea2d_11 : decode cJx4a65c_add_9ea2d 11 = .ok (.aload_n 1, 1) := by decide +kernel
theorem dJx4a65c_add_9ea2d_12 : decode cJx4a65c_add_9ea2d 12 = .ok (.aload_n 0, 1) := by decide +kernel
theorem dJx4a65c_add_9ea2d_13 : decode cJx4a65c_add_9ea2d 13 = .ok (.getfield 9, 3) := by decide +kernel
theorem dJx4a65c_add_9ea2d_16 : decode cJx4a65c_add_9ea2d 16 = .ok (.aload_n 0, 1) := by decide +kernel
theorem dJx4a65c_add_9ea2d_17 : decode cJx4a65c_add_9ea2d 17 = .ok (.getfield 48, 3) := by decide +kernel
theorem dJx4a65c_add_9ea2d_20 : decode cJx4a65c_add_9ea2d 20 = .ok (.invokevirtual 131, 3) := by decide +kernel
theorem dJx4a65c_add_9ea2d_23 : decode cJx4a65c_add_9ea2d 23 = .ok (.iconst 1, 1) := by decide +kernel
theorem dJx4a65c_add_9ea2d_24 : decode cJx4a65c_add_9ea2d 24 = .ok (.ireturn, 1) := by decide +kernel
theorem dJx4a65c_clear_da8c8_0 : decode cJx4a65c_clear_da8c8 0 = .ok (.aload_n 0, 1) := by decide +kernel
theorem dJx4a65c_clear_da8c8_1 : decode cJx4a65c_clear_da8c8 1 = .ok (.dup, 1) := by decide +kernel
theorem dJx4a65c_clear_da8c8_2 : decode cJx4a65c_clear_da8c8 2 = .ok (.getfield 63, 3) := by decide +kernel
theorem dJx4a65c_clear_da8c8_5 : decode cJx4a65c_clear_da8c8 5 = .ok (.iconst 1, 1) := by decide +kernel
theorem dJx4a65c_clear_da8c8_6 : decode cJx4a65c_clear_da8c8 6 = .ok (.iadd, 1) := by decide +kernel
theorem dJx4a65c_clear_da8c8_7 : decode cJx4a65c_clear_da8c8 7 = .ok (.putfield 63, 3) := by decide +kernel
theorem dJx4a65c_clear_da8c8_10 : decode cJx4a65c_clear_da8c8 10 = .ok (.aload_n 0, 1) := by decide +kernel
theorem dJx4a65c_clear_da8c8_11 : decode cJx4a65c_clear_da8c8 11 = .ok (.getfield 9, 3) := by decide +kernel
theorem dJx4a65c_clear_da8c8_14 : decode cJx4a65c_clear_da8c8 14 = .ok (.astore_n 1, 1) := by decide +kernel
theorem dJx4a65c_clear_da8c8_15 : decode cJx4a65c_clear_da8c8 15 = .ok (.aload_n 0, 1) := by decide +kernel
theorem dJx4a65c_clear_da8c8_16 : decode cJx4a65c_clear_da8c8 16 = .ok (.getfield 48, 3) := by decide +kernel
theorem dJx4a65c_clear_da8c8_19 : decode cJx4a65c_clear_da8c8 19 = .ok (.istore_n 2, 1) := by decide +kernel
theorem dJx4a65c_clear_da8c8_20 : decode cJx4a65c_clear_da8c8 20 = .ok (.aload_n 0, 1) := by decide +kernel
theorem dJx4a65c_clear_da8c8_21 : decode cJx4a65c_clear_da8c8 21 = .ok (.iconst 0, 1) := by decide +kernel
theorem dJx4a65c_clear_da8c8_22 : decode cJx4a65c_clear_da8c8 22 = .ok (.dup_x1, 1) := by decide +kernel
theorem dJx4a65c_clear_da8c8_23 : decode cJx4a65c_clear_da8c8 23 = .ok (.putfield 48, 3) := by decide +kernel
theorem dJx4a65c_clear_da8c8_26 : decode cJx4a65c_clear_da8c8 26 = .ok (.istore_n 3, 1) := by decide +kernel
theorem dJx4a65c_clear_da8c8_27 : decode cJx4a65c_clear_da8c8 27 = .ok (.iload_n 3, 1) := by decide +kernel
theorem dJx4a65c_clear_da8c8_28 : decode cJx4a65c_clear_da8c8 28 = .ok (.iload_n 2, 1) := by decide +kernel
theorem dJx4a65c_clear_da8c8_29 : decode cJx4a65c_clear_da8c8 29 = .ok (.if_icmp .ge 13, 3) := by decide +kernel
theorem dJx4a65c_clear_da8c8_32 : decode cJx4a65c_clear_da8c8 32 = .ok (.aload_n 1, 1) := by decide +kernel
theorem dJx4a65c_clear_da8c8_33 : decode cJx4a65c_clear_da8c8 33 = .ok (.iload_n 3, 1) := by decide +kernel
theorem dJx4a65c_clear_da8c8_34 : decode cJx4a65c_clear_da8c8 34 = .ok (.aconst_null, 1) := by decide +kernel
theorem dJx4a65c_clear_da8c8_35 : decode cJx4a65c_clear_da8c8 35 = .ok (.aastore, 1) := by decide +kernel
theorem dJx4a65c_clear_da8c8_36 : decode cJx4a65c_clear_da8c8 36 = .ok (.iinc 3 1, 3) := by decide +kernel
theorem dJx4a65c_clear_da8c8_39 : decode cJx4a65c_clear_da8c8 39 = .ok (.goto (-12), 3) := by decide +kernel
theorem dJx4a65c_clear_da8c8_42 : decode cJx4a65c_clear_da8c8 42 = .ok (.return_, 1) := by decide +kernel
theorem dJx4a65c_grow_92f84_0 : decode cJx4a65c_grow_92f84 0 = .ok (.aload_n 0, 1) := by decide +kernel
theorem dJx4a65c_grow_92f84_1 : decode cJx4a65c_grow_92f84 1 = .ok (.getfield 9, 3) := by decide +kernel
theorem dJx4a65c_grow_92f84_4 : decode cJx4a65c_grow_92f84 4 = .ok (.arraylength, 1) := by decide +kernel
theorem dJx4a65c_grow_92f84_5 : decode cJx4a65c_grow_92f84 5 = .ok (.istore_n 2, 1) := by decide +kernel
theorem dJx4a65c_grow_92f84_6 : decode cJx4a65c_grow_92f84 6 = .ok (.iload_n 2, 1) := by decide +kernel
theorem dJx4a65c_grow_92f84_7 : decode cJx4a65c_grow_92f84 7 = .ok (.ifCond .gt 13, 3) := by decide +kernel
theorem dJx4a65c_grow_92f84_10 : decode cJx4a65c_grow_92f84 10 = .ok (.aload_n 0, 1) := by decide +kernel
theorem dJx4a65c_grow_92f84_11 : decode cJx4a65c_grow_92f84 11 = .ok (.getfield 9, 3) := by decide +kernel
theorem dJx4a65c_grow_92f84_14 : decode cJx4a65c_grow_92f84 14 = .ok (.getstatic 39, 3) := by decide +kernel
theorem dJx4a65c_grow_92f84_17 : decode cJx4a65c_grow_92f84 17 = .ok (.if_acmp .eq 28, 3) := by decide +kernel
theorem dJx4a65c_grow_92f84_20 : decode cJx4a65c_grow_92f84 20 = .ok (.iload_n 2, 1) := by decide +kernel
theorem dJx4a65c_grow_92f84_21 : decode cJx4a65c_grow_92f84 21 = .ok (.iload_n 1, 1) := by decide +kernel
theorem dJx4a65c_grow_92f84_22 : decode cJx4a65c_grow_92f84 22 = .ok (.iload_n 2, 1) := by decide +kernel
theorem dJx4a65c_grow_92f84_23 : decode cJx4a65c_grow_92f84 23 = .ok (.isub, 1) := by decide +kernel
theorem dJx4a65c_grow_92f84_24 : decode cJx4a65c_grow_92f84 24 = .ok (.iload_n 2, 1) := by decide +kernel
theorem dJx4a65c_grow_92f84_25 : decode cJx4a65c_grow_92f84 25 = .ok (.iconst 1, 1) := by decide +kernel
theorem dJx4a65c_grow_92f84_26 : decode cJx4a65c_grow_92f84 26 = .ok (.ishr, 1) := by decide +kernel
theorem dJx4a65c_grow_92f84_27 : decode cJx4a65c_grow_92f84 27 = .ok (.invokestatic 73, 3) := by decide +kernel
theorem dJx4a65c_grow_92f84_30 : decode cJx4a65c_grow_92f84 30 = .ok (.istore_n 3, 1) := by decide +kernel
theorem dJx4a65c_grow_92f84_31 : decode cJx4a65c_grow_92f84 31 = .ok (.aload_n 0, 1) := by decide +kernel
theorem dJx4a65c_grow_92f84_32 : decode cJx4a65c_grow_92f84 32 = .ok (.aload_n 0, 1) := by decide +kernel
theorem dJx4a65c_grow_92f84_33 : decode cJx4a65c_grow_92f84 33 = .ok (.getfield 9, 3) := by decide +kernel
theorem dJx4a65c_grow_92f84_36 : decode cJx4a65c_grow_92f84 36 = .ok (.iload_n 3, 1) := by decide +kernel
theorem dJx4a65c_grow_92f84_37 : decode cJx4a65c_grow_92f84 37 = .ok (.invokestatic 66, 3) := by decide +kernel
theorem dJx4a65c_grow_92f84_40 : decode cJx4a65c_grow_92f84 40 = .ok (.dup_x1, 1) := by decide +kernel
theorem dJx4a65c_grow_92f84_41 : decode cJx4a65c_grow_92f84 41 = .ok (.putfield 9, 3) := by decide +kernel
theorem dJx4a65c_grow_92f84_44 : decode cJx4a65c_grow_92f84 44 = .ok (.areturn, 1) := by decide +kernel
theorem dJx4a65c_grow_92f84_45 : decode cJx4a65c_grow_92f84 45 = .ok (.aload_n 0, 1) := by decide +kernel
theorem dJx4a65c_grow_92f84_46 : decode cJx4a65c_grow_92f84 46 = .ok (.bipush 10, 2) := by decide +kernel
theorem dJx4a65c_grow_92f84_48 : decode cJx4a65c_grow_92f84 48 = .ok (.iload_n 1, 1) := by decide +kernel
theorem dJx4a65c_grow_92f84_49 : decode cJx4a65c_grow_92f84 49 = .ok (.invokestatic 79, 3) := by decide +kernel
theorem dJx4a65c_grow_92f84_52 : decode cJx4a65c_grow_92f84 52 = .ok (.anewarray 7, 3) := by decide +kernel
theorem dJx4a65c_grow_92f84_55 : decode cJx4a65c_grow_92f84 55 = .ok (.dup_x1, 1) := by decide +kernel
theorem dJx4a65c_grow_92f84_56 : decode cJx4a65c_grow_92f84 56 = .ok (.putfield 9, 3) := by decide +kernel
theorem dJx4a65c_grow_92f84_59 : decode cJx4a65c_grow_92f84 59 = .ok (.areturn, 1) := by decide +kernel
theorem dJx4a65c_grow_d5877_0 : decode cJx4a65c_grow_d5877 0 = .ok (.aload_n 0, 1) := by decide +kernel
theorem dJx4a65c_grow_d5877_1 : decode cJx4a65c_grow_d5877 1 = .ok (.aload_n 0, 1) := by decide +kernel
theorem dJx4a65c_grow_d5877_2 : decode cJx4a65c_grow_d5877 2 = .ok (.getfield 48, 3) := by decide +kernel
theorem dJx4a65c_grow_d5877_5 : decode cJx4a65c_grow_d5877 5 = .ok (.iconst 1, 1) := by decide +kernel
theorem dJx4a65c_grow_d5877_6 : decode cJx4a65c_grow_d5877 6 = .ok (.iadd, 1) := by decide +kernel
theorem dJx4a65c_grow_d5877_7 : decode cJx4a65c_grow_d5877 7 = .ok (.invokevirtual 69, 3) := by decide +kernel
theorem dJx4a65c_grow_d5877_10 : decode cJx4a65c_grow_d5877 10 = .ok (.areturn, 1) := by decide +kernel
theorem dJx4a65c_init_da8c8_0 : decode cJx4a65c_init_da8c8 0 = .ok (.aload_n 0, 1) := by decide +kernel
theorem dJx4a65c_init_da8c8_1 : decode cJx4a65c_init_da8c8 1 = .ok (.invokespecial 1, 3) := by decide +kernel
theorem dJx4a65c_init_da8c8_4 : decode cJx4a65c_init_da8c8 4 = .ok (.aload_n 0, 1) := by decide +kernel
theorem dJx4a65c_init_da8c8_5 : decode cJx4a65c_init_da8c8 5 = .ok (.getstatic 39, 3) := by decide +kernel
theorem dJx4a65c_init_da8c8_8 : decode cJx4a65c_init_da8c8 8 = .ok (.putfield 9, 3) := by decide +kernel
theorem dJx4a65c_init_da8c8_11 : decode cJx4a65c_init_da8c8 11 = .ok (.return_, 1) := by decide +kernel
theorem dJx4a65c_isEmpty_aae02_0 : decode cJx4a65c_isEmpty_aae02 0 = .ok (.aload_n 0, 1) := by decide +kernel
theorem dJx4a65c_isEmpty_aae02_1 : decode cJx4a65c_isEmpty_aae02 1 = .ok (.getfield 48, 3) := by decide +kernel
theorem dJx4a65c_isEmpty_aae02_4 : decode cJx4a65c_isEmpty_aae02 4 = .ok (.ifCond .ne 7, 3) := by decide +kernel
theorem dJx4a65c_isEmpty_aae02_7 : decode cJx4a65c_isEmpty_aae02 7 = .ok (.iconst 1, 1) := by decide +kernel
theorem dJx4a65c_isEmpty_aae02_8 : decode cJx4a65c_isEmpty_aae02 8 = .ok (.goto 4, 3) := by decide +kernel
theorem dJx4a65c_isEmpty_aae02_11 : decode cJx4a65c_isEmpty_aae02 11 = .ok (.iconst 0, 1) := by decide +kernel
theorem dJx4a65c_isEmpty_aae02_12 : decode cJx4a65c_isEmpty_aae02 12 = .ok (.ireturn, 1) := by decide +kernel
theorem dJx4a65c_iterator_32c93_0 : decode cJx4a65c_iterator_32c93 0 = .ok (.new 267, 3) := by decide +kernel
theorem dJx4a65c_iterator_32c93_3 : decode cJx4a65c_iterator_32c93 3 = .ok (.dup, 1) := by decide +kernel
theorem dJx4a65c_iterator_32c93_4 : decode cJx4a65c_iterator_32c93 4 = .ok (.aload_n 0, 1) := by decide +kernel
theorem dJx4a65c_iterator_32c93_5 : decode cJx4a65c_iterator_32c93 5 = .ok (.invokespecial 269, 3) := by decide +kernel
theorem dJx4a65c_iterator_32c93_8 : decode cJx4a65c_iterator_32c93 8 = .ok (.areturn, 1) := by decide +kernel
theorem dJx4a65c_size_8abf5_0 : decode cJx4a65c_size_8abf5 0 = .ok (.aload_n 0, 1) := by decide +kernel
theorem dJx4a65c_size_8abf5_1 : decode cJx4a65c_size_8abf5 1 = .ok (.getfield 48, 3) := by decide +kernel
theorem dJx4a65c_size_8abf5_4 : decode cJx4a65c_size_8abf5 4 = .ok (.ireturn, 1) := by decide +kernel
theorem dJxa1e45_init_da8c8_0 : decode cJxa1e45_init_da8c8 0 = .ok (.aload_n 0, 1) := by decide +kernel
theorem dJxa1e45_init_da8c8_1 : decode cJxa1e45_init_da8c8 1 = .ok (.invokespecial 1, 3) := by decide +kernel
theorem dJxa1e45_init_da8c8_4 : decode cJxa1e45_init_da8c8 4 = .ok (.return_, 1) := by decide +kernel
theorem dJxc12de_init_da8c8_0 : decode cJxc12de_init_da8c8 0 = .ok (.aload_n 0, 1) := by decide +kernel
theorem dJxc12de_init_da8c8_1 : decode cJxc12de_init_da8c8 1 = .ok (.invokespecial 1, 3) := by decide +kernel
theorem dJxc12de_init_da8c8_4 : decode cJxc12de_init_da8c8 4 = .ok (.aload_n 0, 1) := by decide +kernel
theorem dJxc12de_init_da8c8_5 : decode cJxc12de_init_da8c8 5 = .ok (.iconst 0, 1) := by decide +kernel
theorem dJxc12de_init_da8c8_6 : decode cJxc12de_init_da8c8 6 = .ok (.putfield 7, 3) := by decide +kernel
theorem dJxc12de_init_da8c8_9 : decode cJxc12de_init_da8c8 9 = .ok (.return_, 1) := by decide +kernel
theorem dX0_layOut_0 : decode cX0_layOut 0 = .ok (.aload_n 0, 1) := by decide +kernel
theorem dX0_layOut_1 : decode cX0_layOut 1 = .ok (.getfield 22, 3) := by decide +kernel
theorem dX0_layOut_4 : decode cX0_layOut 4 = .ok (.istore_n 3, 1) := by decide +kernel
theorem dX0_layOut_5 : decode cX0_layOut 5 = .ok (.aload_n 0, 1) := by decide +kernel
theorem dX0_layOut_6 : decode cX0_layOut 6 = .ok (.iload_n 1, 1) := by decide +kernel
theorem dX0_layOut_7 : decode cX0_layOut 7 = .ok (.putfield 22, 3) := by decide +kernel
theorem dX0_layOut_10 : decode cX0_layOut 10 = .ok (.aload_n 0, 1) := by decide +kernel
theorem dX0_layOut_11 : decode cX0_layOut 11 = .ok (.iload_n 2, 1) := by decide +kernel
theorem dX0_layOut_12 : decode cX0_layOut 12 = .ok (.putfield 18, 3) := by decide +kernel
theorem dX0_layOut_15 : decode cX0_layOut 15 = .ok (.aload_n 0, 1) := by decide +kernel
theorem dX0_layOut_16 : decode cX0_layOut 16 = .ok (.getfield 11, 3) := by decide +kernel
theorem dX0_layOut_19 : decode cX0_layOut 19 = .ok (.iconst 2, 1) := by decide +kernel
theorem dX0_layOut_20 : decode cX0_layOut 20 = .ok (.invokestatic 26, 3) := by decide +kernel
theorem dX0_layOut_23 : decode cX0_layOut 23 = .ok (.aload_n 0, 1) := by decide +kernel
theorem dX0_layOut_24 : decode cX0_layOut 24 = .ok (.getfield 15, 3) := by decide +kernel
theorem dX0_layOut_27 : decode cX0_layOut 27 = .ok (.iconst 0, 1) := by decide +kernel
theorem dX0_layOut_28 : decode cX0_layOut 28 = .ok (.invokestatic 26, 3) := by decide +kernel
theorem dX0_layOut_31 : decode cX0_layOut 31 = .ok (.iload_n 3, 1) := by decide +kernel
theorem dX0_layOut_32 : decode cX0_layOut 32 = .ok (.ireturn, 1) := by decide +kernel
theorem dX10_clearLanes_0 : decode cX10_clearLanes 0 = .ok (.aload_n 0, 1) := by decide +kernel
theorem dX10_clearLanes_1 : decode cX10_clearLanes 1 = .ok (.iload_n 1, 1) := by decide +kernel
theorem dX10_clearLanes_2 : decode cX10_clearLanes 2 = .ok (.bipush 64, 2) := by decide +kernel
theorem dX10_clearLanes_4 : decode cX10_clearLanes 4 = .ok (.if_icmp .lt 9, 3) := by decide +kernel
theorem dX10_clearLanes_7 : decode cX10_clearLanes 7 = .ok (.ldc2_w 61, 3) := by decide +kernel
theorem dX10_clearLanes_10 : decode cX10_clearLanes 10 = .ok (.goto 8, 3) := by decide +kernel
theorem dX10_clearLanes_13 : decode cX10_clearLanes 13 = .ok (.lconst 1, 1) := by decide +kernel
theorem dX10_clearLanes_14 : decode cX10_clearLanes 14 = .ok (.iload_n 1, 1) := by decide +kernel
theorem dX10_clearLanes_15 : decode cX10_clearLanes 15 = .ok (.lshl, 1) := by decide +kernel
theorem dX10_clearLanes_16 : decode cX10_clearLanes 16 = .ok (.lconst 1, 1) := by decide +kernel
theorem dX10_clearLanes_17 : decode cX10_clearLanes 17 = .ok (.lsub, 1) := by decide +kernel
theorem dX10_clearLanes_18 : decode cX10_clearLanes 18 = .ok (.putfield 63, 3) := by decide +kernel
theorem dX10_clearLanes_21 : decode cX10_clearLanes 21 = .ok (.aload_n 0, 1) := by decide +kernel
theorem dX10_clearLanes_22 : decode cX10_clearLanes 22 = .ok (.getfield 9, 3) := by decide +kernel
theorem dX10_clearLanes_25 : decode cX10_clearLanes 25 = .ok (.lconst 0, 1) := by decide +kernel
theorem dX10_clearLanes_26 : decode cX10_clearLanes 26 = .ok (.invokestatic 67, 3) := by decide +kernel
theorem dX10_clearLanes_29 : decode cX10_clearLanes 29 = .ok (.aload_n 0, 1) := by decide +kernel
theorem dX10_clearLanes_30 : decode cX10_clearLanes 30 = .ok (.getfield 15, 3) := by decide +kernel
theorem dX10_clearLanes_33 : decode cX10_clearLanes 33 = .ok (.lconst 0, 1) := by decide +kernel
theorem dX10_clearLanes_34 : decode cX10_clearLanes 34 = .ok (.invokestatic 67, 3) := by decide +kernel
theorem dX10_clearLanes_37 : decode cX10_clearLanes 37 = .ok (.return_, 1) := by decide +kernel
theorem dX10_countAllWays_0 : decode cX10_countAllWays 0 = .ok (.aload_n 0, 1) := by decide +kernel
theorem dX10_countAllWays_1 : decode cX10_countAllWays 1 = .ok (.getfield 40, 3) := by decide +kernel
theorem dX10_countAllWays_4 : decode cX10_countAllWays 4 = .ok (.iconst 0, 1) := by decide +kernel
theorem dX10_countAllWays_5 : decode cX10_countAllWays 5 = .ok (.invokestatic 55, 3) := by decide +kernel
theorem dX10_countAllWays_8 : decode cX10_countAllWays 8 = .ok (.iconst 0, 1) := by decide +kernel
theorem dX10_countAllWays_9 : decode cX10_countAllWays 9 = .ok (.istore_n 1, 1) := by decide +kernel
theorem dX10_countAllWays_10 : decode cX10_countAllWays 10 = .ok (.iload_n 1, 1) := by decide +kernel
theorem dX10_countAllWays_11 : decode cX10_countAllWays 11 = .ok (.aload_n 0, 1) := by decide +kernel
theorem dX10_countAllWays_12 : decode cX10_countAllWays 12 = .ok (.invokevirtual 223, 3) := by decide +kernel
theorem dX10_countAllWays_15 : decode cX10_countAllWays 15 = .ok (.if_icmp .ge 65, 3) := by decide +kernel
theorem dX10_countAllWays_18 : decode cX10_countAllWays 18 = .ok (.aload_n 0, 1) := by decide +kernel
theorem dX10_countAllWays_19 : decode cX10_countAllWays 19 = .ok (.iload_n 1, 1) := by decide +kernel
theorem dX10_countAllWays_20 : decode cX10_countAllWays 20 = .ok (.invokevirtual 227, 3) := by decide +kernel
theorem dX10_countAllWays_23 : decode cX10_countAllWays 23 = .ok (.aload_n 0, 1) := by decide +kernel
theorem dX10_countAllWays_24 : decode cX10_countAllWays 24 = .ok (.invokevirtual 216, 3) := by decide +kernel
theorem dX10_countAllWays_27 : decode cX10_countAllWays 27 = .ok (.iconst 0, 1) := by decide +kernel
theorem dX10_countAllWays_28 : decode cX10_countAllWays 28 = .ok (.istore_n 2, 1) := by decide +kernel
theorem dX10_countAllWays_29 : decode cX10_countAllWays 29 = .ok (.iload_n 2, 1) := by decide +kernel
theorem dX10_countAllWays_30 : decode cX10_countAllWays 30 = .ok (.aload_n 0, 1) := by decide +kernel
theorem dX10_countAllWays_31 : decode cX10_countAllWays 31 = .ok (.getfield 47, 3) := by decide +kernel
theorem dX10_countAllWays_34 : decode cX10_countAllWays 34 = .ok (.getfield 242, 3) := by decide +kernel
theorem dX10_countAllWays_37 : decode cX10_countAllWays 37 = .ok (.if_icmp .ge 37, 3) := by decide +kernel
theorem dX10_countAllWays_40 : decode cX10_countAllWays 40 = .ok (.aload_n 0, 1) := by decide +kernel
theorem dX10_countAllWays_41 : decode cX10_countAllWays 41 = .ok (.getfield 47, 3) := by decide +kernel
theorem dX10_countAllWays_44 : decode cX10_countAllWays 44 = .ok (.iload_n 2, 1) := by decide +kernel
theorem dX10_countAllWays_45 : decode cX10_countAllWays 45 = .ok (.invokevirtual 245, 3) := by decide +kernel
theorem dX10_countAllWays_48 : decode cX10_countAllWays 48 = .ok (.ifCond .eq 20, 3) := by decide +kernel
theorem dX10_countAllWays_51 : decode cX10_countAllWays 51 = .ok (.aload_n 0, 1) := by decide +kernel
theorem dX10_countAllWays_52 : decode cX10_countAllWays 52 = .ok (.getfield 40, 3) := by decide +kernel
theorem dX10_countAllWays_55 : decode cX10_countAllWays 55 = .ok (.iload_n 2, 1) := by decide +kernel
theorem dX10_countAllWays_56 : decode cX10_countAllWays 56 = .ok (.dup2, 1) := by decide +kernel
theorem dX10_countAllWays_57 : decode cX10_countAllWays 57 = .ok (.iaload, 1) := by decide +kernel
theorem dX10_countAllWays_58 : decode cX10_countAllWays 58 = .ok (.aload_n 0, 1) := by decide +kernel
theorem dX10_countAllWays_59 : decode cX10_countAllWays 59 = .ok (.iload_n 2, 1) := by decide +kernel
theorem dX10_countAllWays_60 : decode cX10_countAllWays 60 = .ok (.invokevirtual 219, 3) := by decide +kernel
theorem dX10_countAllWays_63 : decode cX10_countAllWays 63 = .ok (.invokestatic 239, 3) := by decide +kernel
theorem dX10_countAllWays_66 : decode cX10_countAllWays 66 = .ok (.iadd, 1) := by decide +kernel
theorem dX10_countAllWays_67 : decode cX10_countAllWays 67 = .ok (.iastore, 1) := by decide +kernel
theorem dX10_countAllWays_68 : decode cX10_countAllWays 68 = .ok (.iinc 2 1, 3) := by decide +kernel
theorem dX10_countAllWays_71 : decode cX10_countAllWays 71 = .ok (.goto (-42), 3) := by decide +kernel
theorem dX10_countAllWays_74 : decode cX10_countAllWays 74 = .ok (.iinc 1 1, 3) := by decide +kernel
theorem dX10_countAllWays_77 : decode cX10_countAllWays 77 = .ok (.goto (-67), 3) := by decide +kernel
theorem dX10_countAllWays_80 : decode cX10_countAllWays 80 = .ok (.return_, 1) := by decide +kernel
theorem dX10_findAll_0 : decode cX10_findAll 0 = .ok (.aload_n 0, 1) := by decide +kernel
theorem dX10_findAll_1 : decode cX10_findAll 1 = .ok (.aload_n 1, 1) := by decide +kernel
theorem dX10_findAll_2 : decode cX10_findAll 2 = .ok (.invokevirtual 212, 3) := by decide +kernel
theorem dX10_findAll_5 : decode cX10_findAll 5 = .ok (.aload_n 0, 1) := by decide +kernel
theorem dX10_findAll_6 : decode cX10_findAll 6 = .ok (.invokevirtual 216, 3) := by decide +kernel
theorem dX10_findAll_9 : decode cX10_findAll 9 = .ok (.iconst 0, 1) := by decide +kernel
theorem dX10_findAll_10 : decode cX10_findAll 10 = .ok (.istore_n 2, 1) := by decide +kernel
theorem dX10_findAll_11 : decode cX10_findAll 11 = .ok (.iload_n 2, 1) := by decide +kernel
theorem dX10_findAll_12 : decode cX10_findAll 12 = .ok (.aload_n 0, 1) := by decide +kernel
theorem dX10_findAll_13 : decode cX10_findAll 13 = .ok (.getfield 47, 3) := by decide +kernel
theorem dX10_findAll_16 : decode cX10_findAll 16 = .ok (.getfield 222, 3) := by decide +kernel
theorem dX10_findAll_19 : decode cX10_findAll 19 = .ok (.if_icmp .ge 20, 3) := by decide +kernel
theorem dX10_findAll_22 : decode cX10_findAll 22 = .ok (.aload_n 0, 1) := by decide +kernel
theorem dX10_findAll_23 : decode cX10_findAll 23 = .ok (.getfield 37, 3) := by decide +kernel
theorem dX10_findAll_26 : decode cX10_findAll 26 = .ok (.iload_n 2, 1) := by decide +kernel
theorem dX10_findAll_27 : decode cX10_findAll 27 = .ok (.aload_n 0, 1) := by decide +kernel
theorem dX10_findAll_28 : decode cX10_findAll 28 = .ok (.iload_n 2, 1) := by decide +kernel
theorem dX10_findAll_29 : decode cX10_findAll 29 = .ok (.invokevirtual 219, 3) := by decide +kernel
theorem dX10_findAll_32 : decode cX10_findAll 32 = .ok (.lastore, 1) := by decide +kernel
theorem dX10_findAll_33 : decode cX10_findAll 33 = .ok (.iinc 2 1, 3) := by decide +kernel
theorem dX10_findAll_36 : decode cX10_findAll 36 = .ok (.goto (-25), 3) := by decide +kernel
theorem dX10_findAll_39 : decode cX10_findAll 39 = .ok (.return_, 1) := by decide +kernel
theorem dX10_loadRows_0 : decode cX10_loadRows 0 = .ok (.aload_n 0, 1) := by decide +kernel
theorem dX10_loadRows_1 : decode cX10_loadRows 1 = .ok (.aload_n 1, 1) := by decide +kernel
theorem dX10_loadRows_2 : decode cX10_loadRows 2 = .ok (.getfield 70, 3) := by decide +kernel
theorem dX10_loadRows_5 : decode cX10_loadRows 5 = .ok (.invokevirtual 75, 3) := by decide +kernel
theorem dX10_loadRows_8 : decode cX10_loadRows 8 = .ok (.iconst 0, 1) := by decide +kernel
theorem dX10_loadRows_9 : decode cX10_loadRows 9 = .ok (.istore_n 2, 1) := by decide +kernel
theorem dX10_loadRows_10 : decode cX10_loadRows 10 = .ok (.iload_n 2, 1) := by decide +kernel
theorem dX10_loadRows_11 : decode cX10_loadRows 11 = .ok (.aload_n 1, 1) := by decide +kernel
theorem dX10_loadRows_12 : decode cX10_loadRows 12 = .ok (.getfield 70, 3) := by decide +kernel
theorem dX10_loadRows_15 : decode cX10_loadRows 15 = .ok (.if_icmp .ge 57, 3) := by decide +kernel
theorem dX10_loadRows_18 : decode cX10_loadRows 18 = .ok (.iconst 0, 1) := by decide +kernel
theorem dX10_loadRows_19 : decode cX10_loadRows 19 = .ok (.istore_n 3, 1) := by decide +kernel
theorem dX10_loadRows_20 : decode cX10_loadRows 20 = .ok (.iload_n 3, 1) := by decide +kernel
theorem dX10_loadRows_21 : decode cX10_loadRows 21 = .ok (.aload_n 0, 1) := by decide +kernel
theorem dX10_loadRows_22 : decode cX10_loadRows 22 = .ok (.getfield 43, 3) := by decide +kernel
theorem dX10_loadRows_25 : decode cX10_loadRows 25 = .ok (.getfield 79, 3) := by decide +kernel
theorem dX10_loadRows_28 : decode cX10_loadRows 28 = .ok (.if_icmp .ge 38, 3) := by decide +kernel
theorem dX10_loadRows_31 : decode cX10_loadRows 31 = .ok (.aload_n 1, 1) := by decide +kernel
theorem dX10_loadRows_32 : decode cX10_loadRows 32 = .ok (.getfield 84, 3) := by decide +kernel
theorem dX10_loadRows_35 : decode cX10_loadRows 35 = .ok (.iload_n 2, 1) := by decide +kernel
theorem dX10_loadRows_36 : decode cX10_loadRows 36 = .ok (.iaload, 1) := by decide +kernel
theorem dX10_loadRows_37 : decode cX10_loadRows 37 = .ok (.iload_n 3, 1) := by decide +kernel
theorem dX10_loadRows_38 : decode cX10_loadRows 38 = .ok (.ishr, 1) := by decide +kernel
theorem dX10_loadRows_39 : decode cX10_loadRows 39 = .ok (.iconst 1, 1) := by decide +kernel
theorem dX10_loadRows_40 : decode cX10_loadRows 40 = .ok (.iand, 1) := by decide +kernel
theorem dX10_loadRows_41 : decode cX10_loadRows 41 = .ok (.ifCond .eq 19, 3) := by decide +kernel
theorem dX10_loadRows_44 : decode cX10_loadRows 44 = .ok (.aload_n 0, 1) := by decide +kernel
theorem dX10_loadRows_45 : decode cX10_loadRows 45 = .ok (.iload_n 2, 1) := by decide +kernel
theorem dX10_loadRows_46 : decode cX10_loadRows 46 = .ok (.iload_n 3, 1) := by decide +kernel
theorem dX10_loadRows_47 : decode cX10_loadRows 47 = .ok (.aload_n 1, 1) := by decide +kernel
theorem dX10_loadRows_48 : decode cX10_loadRows 48 = .ok (.getfield 87, 3) := by decide +kernel
theorem dX10_loadRows_51 : decode cX10_loadRows 51 = .ok (.iload_n 2, 1) := by decide +kernel
theorem dX10_loadRows_52 : decode cX10_loadRows 52 = .ok (.iaload, 1) := by decide +kernel
theorem dX10_loadRows_53 : decode cX10_loadRows 53 = .ok (.iload_n 3, 1) := by decide +kernel
theorem dX10_loadRows_54 : decode cX10_loadRows 54 = .ok (.ishr, 1) := by decide +kernel
theorem dX10_loadRows_55 : decode cX10_loadRows 55 = .ok (.iconst 1, 1) := by decide +kernel
theorem dX10_loadRows_56 : decode cX10_loadRows 56 = .ok (.iand, 1) := by decide +kernel
theorem dX10_loadRows_57 : decode cX10_loadRows 57 = .ok (.invokevirtual 90, 3) := by decide +kernel
theorem dX10_loadRows_60 : decode cX10_loadRows 60 = .ok (.iinc 3 1, 3) := by decide +kernel
theorem dX10_loadRows_63 : decode cX10_loadRows 63 = .ok (.goto (-43), 3) := by decide +kernel
theorem dX10_loadRows_66 : decode cX10_loadRows 66 = .ok (.iinc 2 1, 3) := by decide +kernel
theorem dX10_loadRows_69 : decode cX10_loadRows 69 = .ok (.goto (-59), 3) := by decide +kernel
theorem dX10_loadRows_72 : decode cX10_loadRows 72 = .ok (.return_, 1) := by decide +kernel
theorem dX10_loadWays_0 : decode cX10_loadWays 0 = .ok (.aload_n 0, 1) := by decide +kernel
theorem dX10_loadWays_1 : decode cX10_loadWays 1 = .ok (.aload_n 0, 1) := by decide +kernel
theorem dX10_loadWays_2 : decode cX10_loadWays 2 = .ok (.getfield 43, 3) := by decide +kernel
theorem dX10_loadWays_5 : decode cX10_loadWays 5 = .ok (.getfield 79, 3) := by decide +kernel
theorem dX10_loadWays_8 : decode cX10_loadWays 8 = .ok (.bipush 6, 2) := by decide +kernel
theorem dX10_loadWays_10 : decode cX10_loadWays 10 = .ok (.if_icmp .lt 9, 3) := by decide +kernel
theorem dX10_loadWays_13 : decode cX10_loadWays 13 = .ok (.ldc2_w 61, 3) := by decide +kernel
theorem dX10_loadWays_16 : decode cX10_loadWays 16 = .ok (.goto 16, 3) := by decide +kernel
theorem dX10_loadWays_19 : decode cX10_loadWays 19 = .ok (.lconst 1, 1) := by decide +kernel
theorem dX10_loadWays_20 : decode cX10_loadWays 20 = .ok (.iconst 1, 1) := by decide +kernel
theorem dX10_loadWays_21 : decode cX10_loadWays 21 = .ok (.aload_n 0, 1) := by decide +kernel
theorem dX10_loadWays_22 : decode cX10_loadWays 22 = .ok (.getfield 43, 3) := by decide +kernel
theorem dX10_loadWays_25 : decode cX10_loadWays 25 = .ok (.getfield 79, 3) := by decide +kernel
theorem dX10_loadWays_28 : decode cX10_loadWays 28 = .ok (.ishl, 1) := by decide +kernel
theorem dX10_loadWays_29 : decode cX10_loadWays 29 = .ok (.lshl, 1) := by decide +kernel
theorem dX10_loadWays_30 : decode cX10_loadWays 30 = .ok (.lconst 1, 1) := by decide +kernel
theorem dX10_loadWays_31 : decode cX10_loadWays 31 = .ok (.lsub, 1) := by decide +kernel
theorem dX10_loadWays_32 : decode cX10_loadWays 32 = .ok (.putfield 63, 3) := by decide +kernel
theorem dX10_loadWays_35 : decode cX10_loadWays 35 = .ok (.iconst 0, 1) := by decide +kernel
theorem dX10_loadWays_36 : decode cX10_loadWays 36 = .ok (.istore_n 2, 1) := by decide +kernel
theorem dX10_loadWays_37 : decode cX10_loadWays 37 = .ok (.iload_n 2, 1) := by decide +kernel
theorem dX10_loadWays_38 : decode cX10_loadWays 38 = .ok (.aload_n 0, 1) := by decide +kernel
theorem dX10_loadWays_39 : decode cX10_loadWays 39 = .ok (.getfield 43, 3) := by decide +kernel
theorem dX10_loadWays_42 : decode cX10_loadWays 42 = .ok (.getfield 79, 3) := by decide +kernel
theorem dX10_loadWays_45 : decode cX10_loadWays 45 = .ok (.if_icmp .ge 69, 3) := by decide +kernel
theorem dX10_loadWays_48 : decode cX10_loadWays 48 = .ok (.aload_n 0, 1) := by decide +kernel
theorem dX10_loadWays_49 : decode cX10_loadWays 49 = .ok (.getfield 43, 3) := by decide +kernel
theorem dX10_loadWays_52 : decode cX10_loadWays 52 = .ok (.getfield 79, 3) := by decide +kernel
theorem dX10_loadWays_55 : decode cX10_loadWays 55 = .ok (.iconst 1, 1) := by decide +kernel
theorem dX10_loadWays_56 : decode cX10_loadWays 56 = .ok (.isub, 1) := by decide +kernel
theorem dX10_loadWays_57 : decode cX10_loadWays 57 = .ok (.iload_n 2, 1) := by decide +kernel
theorem dX10_loadWays_58 : decode cX10_loadWays 58 = .ok (.isub, 1) := by decide +kernel
theorem dX10_loadWays_59 : decode cX10_loadWays 59 = .ok (.istore_n 3, 1) := by decide +kernel
theorem dX10_loadWays_60 : decode cX10_loadWays 60 = .ok (.iload_n 3, 1) := by decide +kernel
theorem dX10_loadWays_61 : decode cX10_loadWays 61 = .ok (.bipush 6, 2) := by decide +kernel
theorem dX10_loadWays_63 : decode cX10_loadWays 63 = .ok (.if_icmp .ge 32, 3) := by decide +kernel
theorem dX10_loadWays_66 : decode cX10_loadWays 66 = .ok (.aload_n 0, 1) := by decide +kernel
theorem dX10_loadWays_67 : decode cX10_loadWays 67 = .ok (.getfield 15, 3) := by decide +kernel
theorem dX10_loadWays_70 : decode cX10_loadWays 70 = .ok (.iload_n 2, 1) := by decide +kernel
theorem dX10_loadWays_71 : decode cX10_loadWays 71 = .ok (.getstatic 94, 3) := by decide +kernel
theorem dX10_loadWays_74 : decode cX10_loadWays 74 = .ok (.iload_n 3, 1) := by decide +kernel
theorem dX10_loadWays_75 : decode cX10_loadWays 75 = .ok (.laload, 1) := by decide +kernel
theorem dX10_loadWays_76 : decode cX10_loadWays 76 = .ok (.lastore, 1) := by decide +kernel
theorem dX10_loadWays_77 : decode cX10_loadWays 77 = .ok (.aload_n 0, 1) := by decide +kernel
theorem dX10_loadWays_78 : decode cX10_loadWays 78 = .ok (.getfield 9, 3) := by decide +kernel
theorem dX10_loadWays_81 : decode cX10_loadWays 81 = .ok (.iload_n 2, 1) := by decide +kernel
theorem dX10_loadWays_82 : decode cX10_loadWays 82 = .ok (.getstatic 94, 3) := by decide +kernel
theorem dX10_loadWays_85 : decode cX10_loadWays 85 = .ok (.iload_n 3, 1) := by decide +kernel
theorem dX10_loadWays_86 : decode cX10_loadWays 86 = .ok (.laload, 1) := by decide +kernel
theorem dX10_loadWays_87 : decode cX10_loadWays 87 = .ok (.ldc2_w 61, 3) := by decide +kernel
theorem dX10_loadWays_90 : decode cX10_loadWays 90 = .ok (.lxor, 1) := by decide +kernel
theorem dX10_loadWays_91 : decode cX10_loadWays 91 = .ok (.lastore, 1) := by decide +kernel
theorem dX10_loadWays_92 : decode cX10_loadWays 92 = .ok (.goto 16, 3) := by decide +kernel
theorem dX10_loadWays_95 : decode cX10_loadWays 95 = .ok (.aload_n 0, 1) := by decide +kernel
theorem dX10_loadWays_96 : decode cX10_loadWays 96 = .ok (.iload_n 2, 1) := by decide +kernel
theorem dX10_loadWays_97 : decode cX10_loadWays 97 = .ok (.iload_n 1, 1) := by decide +kernel
theorem dX10_loadWays_98 : decode cX10_loadWays 98 = .ok (.iload_n 3, 1) := by decide +kernel
theorem dX10_loadWays_99 : decode cX10_loadWays 99 = .ok (.bipush 6, 2) := by decide +kernel
theorem dX10_loadWays_101 : decode cX10_loadWays 101 = .ok (.isub, 1) := by decide +kernel
theorem dX10_loadWays_102 : decode cX10_loadWays 102 = .ok (.ishr, 1) := by decide +kernel
theorem dX10_loadWays_103 : decode cX10_loadWays 103 = .ok (.iconst 1, 1) := by decide +kernel
theorem dX10_loadWays_104 : decode cX10_loadWays 104 = .ok (.iand, 1) := by decide +kernel
theorem dX10_loadWays_105 : decode cX10_loadWays 105 = .ok (.invokevirtual 97, 3) := by decide +kernel
theorem dX10_loadWays_108 : decode cX10_loadWays 108 = .ok (.iinc 2 1, 3) := by decide +kernel
theorem dX10_loadWays_111 : decode cX10_loadWays 111 = .ok (.goto (-74), 3) := by decide +kernel
theorem dX10_loadWays_114 : decode cX10_loadWays 114 = .ok (.return_, 1) := by decide +kernel
theorem dX10_runGood_0 : decode cX10_runGood 0 = .ok (.aload_n 0, 1) := by decide +kernel
theorem dX10_runGood_1 : decode cX10_runGood 1 = .ok (.lconst 0, 1) := by decide +kernel
theorem dX10_runGood_2 : decode cX10_runGood 2 = .ok (.putfield 105, 3) := by decide +kernel
theorem dX10_runGood_5 : decode cX10_runGood 5 = .ok (.iconst 0, 1) := by decide +kernel
theorem dX10_runGood_6 : decode cX10_runGood 6 = .ok (.istore_n 1, 1) := by decide +kernel
theorem dX10_runGood_7 : decode cX10_runGood 7 = .ok (.iload_n 1, 1) := by decide +kernel
theorem dX10_runGood_8 : decode cX10_runGood 8 = .ok (.aload_n 0, 1) := by decide +kernel
theorem dX10_runGood_9 : decode cX10_runGood 9 = .ok (.getfield 43, 3) := by decide +kernel
theorem dX10_runGood_12 : decode cX10_runGood 12 = .ok (.getfield 108, 3) := by decide +kernel
theorem dX10_runGood_15 : decode cX10_runGood 15 = .ok (.if_icmp .ge 225, 3) := by decide +kernel
theorem dX10_runGood_18 : decode cX10_runGood 18 = .ok (.aload_n 0, 1) := by decide +kernel
theorem dX10_runGood_19 : decode cX10_runGood 19 = .ok (.getfield 43, 3) := by decide +kernel
theorem dX10_runGood_22 : decode cX10_runGood 22 = .ok (.getfield 111, 3) := by decide +kernel
theorem dX10_runGood_25 : decode cX10_runGood 25 = .ok (.iload_n 1, 1) := by decide +kernel
theorem dX10_runGood_26 : decode cX10_runGood 26 = .ok (.iaload, 1) := by decide +kernel
theorem dX10_runGood_27 : decode cX10_runGood 27 = .ok (.istore_n 2, 1) := by decide +kernel
theorem dX10_runGood_28 : decode cX10_runGood 28 = .ok (.aload_n 0, 1) := by decide +kernel
theorem dX10_runGood_29 : decode cX10_runGood 29 = .ok (.getfield 43, 3) := by decide +kernel
theorem dX10_runGood_32 : decode cX10_runGood 32 = .ok (.getfield 114, 3) := by decide +kernel
theorem dX10_runGood_35 : decode cX10_runGood 35 = .ok (.iload_n 1, 1) := by decide +kernel
theorem dX10_runGood_36 : decode cX10_runGood 36 = .ok (.iaload, 1) := by decide +kernel
theorem dX10_runGood_37 : decode cX10_runGood 37 = .ok (.iconst 2, 1) := by decide +kernel
theorem dX10_runGood_38 : decode cX10_runGood 38 = .ok (.if_icmp .eq 56, 3) := by decide +kernel
theorem dX10_runGood_41 : decode cX10_runGood 41 = .ok (.aload_n 0, 1) := by decide +kernel
theorem dX10_runGood_42 : decode cX10_runGood 42 = .ok (.getfield 18, 3) := by decide +kernel
theorem dX10_runGood_45 : decode cX10_runGood 45 = .ok (.iload_n 1, 1) := by decide +kernel
theorem dX10_runGood_46 : decode cX10_runGood 46 = .ok (.aload_n 0, 1) := by decide +kernel
theorem dX10_runGood_47 : decode cX10_runGood 47 = .ok (.getfield 43, 3) := by decide +kernel
theorem dX10_runGood_50 : decode cX10_runGood 50 = .ok (.getfield 114, 3) := by decide +kernel
theorem dX10_runGood_53 : decode cX10_runGood 53 = .ok (.iload_n 1, 1) := by decide +kernel
theorem dX10_runGood_54 : decode cX10_runGood 54 = .ok (.iaload, 1) := by decide +kernel
theorem dX10_runGood_55 : decode cX10_runGood 55 = .ok (.ifCond .ne 9, 3) := by decide +kernel
theorem dX10_runGood_58 : decode cX10_runGood 58 = .ok (.ldc2_w 61, 3) := by decide +kernel
theorem dX10_runGood_61 : decode cX10_runGood 61 = .ok (.goto 4, 3) := by decide +kernel
theorem dX10_runGood_64 : decode cX10_runGood 64 = .ok (.lconst 0, 1) := by decide +kernel
theorem dX10_runGood_65 : decode cX10_runGood 65 = .ok (.lastore, 1) := by decide +kernel
theorem dX10_runGood_66 : decode cX10_runGood 66 = .ok (.aload_n 0, 1) := by decide +kernel
theorem dX10_runGood_67 : decode cX10_runGood 67 = .ok (.getfield 21, 3) := by decide +kernel
theorem dX10_runGood_70 : decode cX10_runGood 70 = .ok (.iload_n 1, 1) := by decide +kernel
theorem dX10_runGood_71 : decode cX10_runGood 71 = .ok (.aload_n 0, 1) := by decide +kernel
theorem dX10_runGood_72 : decode cX10_runGood 72 = .ok (.getfield 43, 3) := by decide +kernel
theorem dX10_runGood_75 : decode cX10_runGood 75 = .ok (.getfield 114, 3) := by decide +kernel
theorem dX10_runGood_78 : decode cX10_runGood 78 = .ok (.iload_n 1, 1) := by decide +kernel
theorem dX10_runGood_79 : decode cX10_runGood 79 = .ok (.iaload, 1) := by decide +kernel
theorem dX10_runGood_80 : decode cX10_runGood 80 = .ok (.ifCond .ne 7, 3) := by decide +kernel
theorem dX10_runGood_83 : decode cX10_runGood 83 = .ok (.lconst 0, 1) := by decide +kernel
theorem dX10_runGood_84 : decode cX10_runGood 84 = .ok (.goto 6, 3) := by decide +kernel
theorem dX10_runGood_87 : decode cX10_runGood 87 = .ok (.ldc2_w 61, 3) := by decide +kernel
theorem dX10_runGood_90 : decode cX10_runGood 90 = .ok (.lastore, 1) := by decide +kernel
theorem dX10_runGood_91 : decode cX10_runGood 91 = .ok (.goto 143, 3) := by decide +kernel
theorem dX10_runGood_94 : decode cX10_runGood 94 = .ok (.iload_n 2, 1) := by decide +kernel
theorem dX10_runGood_95 : decode cX10_runGood 95 = .ok (.ifCond .lt 30, 3) := by decide +kernel
theorem dX10_runGood_98 : decode cX10_runGood 98 = .ok (.aload_n 0, 1) := by decide +kernel
theorem dX10_runGood_99 : decode cX10_runGood 99 = .ok (.getfield 18, 3) := by decide +kernel
theorem dX10_runGood_102 : decode cX10_runGood 102 = .ok (.iload_n 1, 1) := by decide +kernel
theorem dX10_runGood_103 : decode cX10_runGood 103 = .ok (.aload_n 0, 1) := by decide +kernel
theorem dX10_runGood_104 : decode cX10_runGood 104 = .ok (.getfield 9, 3) := by decide +kernel
theorem dX10_runGood_107 : decode cX10_runGood 107 = .ok (.iload_n 2, 1) := by decide +kernel
theorem dX10_runGood_108 : decode cX10_runGood 108 = .ok (.laload, 1) := by decide +kernel
theorem dX10_runGood_109 : decode cX10_runGood 109 = .ok (.lastore, 1) := by decide +kernel
theorem dX10_runGood_110 : decode cX10_runGood 110 = .ok (.aload_n 0, 1) := by decide +kernel
theorem dX10_runGood_111 : decode cX10_runGood 111 = .ok (.getfield 21, 3) := by decide +kernel
theorem dX10_runGood_114 : decode cX10_runGood 114 = .ok (.iload_n 1, 1) := by decide +kernel
theorem dX10_runGood_115 : decode cX10_runGood 115 = .ok (.aload_n 0, 1) := by decide +kernel
theorem dX10_runGood_116 : decode cX10_runGood 116 = .ok (.getfield 15, 3) := by decide +kernel
theorem dX10_runGood_119 : decode cX10_runGood 119 = .ok (.iload_n 2, 1) := by decide +kernel
theorem dX10_runGood_120 : decode cX10_runGood 120 = .ok (.laload, 1) := by decide +kernel
theorem dX10_runGood_121 : decode cX10_runGood 121 = .ok (.lastore, 1) := by decide +kernel
theorem dX10_runGood_122 : decode cX10_runGood 122 = .ok (.goto 112, 3) := by decide +kernel
theorem dX10_runGood_125 : decode cX10_runGood 125 = .ok (.aload_n 0, 1) := by decide +kernel
theorem dX10_runGood_126 : decode cX10_runGood 126 = .ok (.getfield 43, 3) := by decide +kernel
theorem dX10_runGood_129 : decode cX10_runGood 129 = .ok (.getfield 117, 3) := by decide +kernel
theorem dX10_runGood_132 : decode cX10_runGood 132 = .ok (.iload_n 1, 1) := by decide +kernel
theorem dX10_runGood_133 : decode cX10_runGood 133 = .ok (.iaload, 1) := by decide +kernel
theorem dX10_runGood_134 : decode cX10_runGood 134 = .ok (.istore_n 3, 1) := by decide +kernel
theorem dX10_runGood_135 : decode cX10_runGood 135 = .ok (.aload_n 0, 1) := by decide +kernel
theorem dX10_runGood_136 : decode cX10_runGood 136 = .ok (.getfield 43, 3) := by decide +kernel
theorem dX10_runGood_139 : decode cX10_runGood 139 = .ok (.getfield 120, 3) := by decide +kernel
theorem dX10_runGood_142 : decode cX10_runGood 142 = .ok (.iload_n 1, 1) := by decide +kernel
theorem dX10_runGood_143 : decode cX10_runGood 143 = .ok (.iaload, 1) := by decide +kernel
theorem dX10_runGood_144 : decode cX10_runGood 144 = .ok (.istore 4, 2) := by decide +kernel
theorem dX10_runGood_146 : decode cX10_runGood 146 = .ok (.aload_n 0, 1) := by decide +kernel
theorem dX10_runGood_147 : decode cX10_runGood 147 = .ok (.getfield 18, 3) := by decide +kernel
theorem dX10_runGood_150 : decode cX10_runGood 150 = .ok (.iload_n 1, 1) := by decide +kernel
theorem dX10_runGood_151 : decode cX10_runGood 151 = .ok (.aload_n 0, 1) := by decide +kernel
theorem dX10_runGood_152 : decode cX10_runGood 152 = .ok (.getfield 43, 3) := by decide +kernel
theorem dX10_runGood_155 : decode cX10_runGood 155 = .ok (.getfield 123, 3) := by decide +kernel
theorem dX10_runGood_158 : decode cX10_runGood 158 = .ok (.iload_n 1, 1) := by decide +kernel
theorem dX10_runGood_159 : decode cX10_runGood 159 = .ok (.caload, 1) := by decide +kernel
theorem dX10_runGood_160 : decode cX10_runGood 160 = .ok (.aload_n 0, 1) := by decide +kernel
theorem dX10_runGood_161 : decode cX10_runGood 161 = .ok (.getfield 18, 3) := by decide +kernel
theorem dX10_runGood_164 : decode cX10_runGood 164 = .ok (.iload_n 3, 1) := by decide +kernel
theorem dX10_runGood_165 : decode cX10_runGood 165 = .ok (.laload, 1) := by decide +kernel
theorem dX10_runGood_166 : decode cX10_runGood 166 = .ok (.aload_n 0, 1) := by decide +kernel
theorem dX10_runGood_167 : decode cX10_runGood 167 = .ok (.getfield 21, 3) := by decide +kernel
theorem dX10_runGood_170 : decode cX10_runGood 170 = .ok (.iload_n 3, 1) := by decide +kernel
theorem dX10_runGood_171 : decode cX10_runGood 171 = .ok (.laload, 1) := by decide +kernel
theorem dX10_runGood_172 : decode cX10_runGood 172 = .ok (.aload_n 0, 1) := by decide +kernel
theorem dX10_runGood_173 : decode cX10_runGood 173 = .ok (.getfield 18, 3) := by decide +kernel
theorem dX10_runGood_176 : decode cX10_runGood 176 = .ok (.iload 4, 2) := by decide +kernel
theorem dX10_runGood_178 : decode cX10_runGood 178 = .ok (.laload, 1) := by decide +kernel
theorem dX10_runGood_179 : decode cX10_runGood 179 = .ok (.aload_n 0, 1) := by decide +kernel
theorem dX10_runGood_180 : decode cX10_runGood 180 = .ok (.getfield 21, 3) := by decide +kernel
theorem dX10_runGood_183 : decode cX10_runGood 183 = .ok (.iload 4, 2) := by decide +kernel
theorem dX10_runGood_185 : decode cX10_runGood 185 = .ok (.laload, 1) := by decide +kernel
theorem dX10_runGood_186 : decode cX10_runGood 186 = .ok (.invokestatic 127, 3) := by decide +kernel
theorem dX10_runGood_189 : decode cX10_runGood 189 = .ok (.lastore, 1) := by decide +kernel
theorem dX10_runGood_190 : decode cX10_runGood 190 = .ok (.aload_n 0, 1) := by decide +kernel
theorem dX10_runGood_191 : decode cX10_runGood 191 = .ok (.getfield 21, 3) := by decide +kernel
theorem dX10_runGood_194 : decode cX10_runGood 194 = .ok (.iload_n 1, 1) := by decide +kernel
theorem dX10_runGood_195 : decode cX10_runGood 195 = .ok (.aload_n 0, 1) := by decide +kernel
theorem dX10_runGood_196 : decode cX10_runGood 196 = .ok (.getfield 43, 3) := by decide +kernel
theorem dX10_runGood_199 : decode cX10_runGood 199 = .ok (.getfield 123, 3) := by decide +kernel
theorem dX10_runGood_202 : decode cX10_runGood 202 = .ok (.iload_n 1, 1) := by decide +kernel
theorem dX10_runGood_203 : decode cX10_runGood 203 = .ok (.caload, 1) := by decide +kernel
theorem dX10_runGood_204 : decode cX10_runGood 204 = .ok (.aload_n 0, 1) := by decide +kernel
theorem dX10_runGood_205 : decode cX10_runGood 205 = .ok (.getfield 18, 3) := by decide +kernel
theorem dX10_runGood_208 : decode cX10_runGood 208 = .ok (.iload_n 3, 1) := by decide +kernel
theorem dX10_runGood_209 : decode cX10_runGood 209 = .ok (.laload, 1) := by decide +kernel
theorem dX10_runGood_210 : decode cX10_runGood 210 = .ok (.aload_n 0, 1) := by decide +kernel
theorem dX10_runGood_211 : decode cX10_runGood 211 = .ok (.getfield 21, 3) := by decide +kernel
theorem dX10_runGood_214 : decode cX10_runGood 214 = .ok (.iload_n 3, 1) := by decide +kernel
theorem dX10_runGood_215 : decode cX10_runGood 215 = .ok (.laload, 1) := by decide +kernel
theorem dX10_runGood_216 : decode cX10_runGood 216 = .ok (.aload_n 0, 1) := by decide +kernel
theorem dX10_runGood_217 : decode cX10_runGood 217 = .ok (.getfield 18, 3) := by decide +kernel
theorem dX10_runGood_220 : decode cX10_runGood 220 = .ok (.iload 4, 2) := by decide +kernel
theorem dX10_runGood_222 : decode cX10_runGood 222 = .ok (.laload, 1) := by decide +kernel
theorem dX10_runGood_223 : decode cX10_runGood 223 = .ok (.aload_n 0, 1) := by decide +kernel
theorem dX10_runGood_224 : decode cX10_runGood 224 = .ok (.getfield 21, 3) := by decide +kernel
theorem dX10_runGood_227 : decode cX10_runGood 227 = .ok (.iload 4, 2) := by decide +kernel
theorem dX10_runGood_229 : decode cX10_runGood 229 = .ok (.laload, 1) := by decide +kernel
theorem dX10_runGood_230 : decode cX10_runGood 230 = .ok (.invokestatic 131, 3) := by decide +kernel
theorem dX10_runGood_233 : decode cX10_runGood 233 = .ok (.lastore, 1) := by decide +kernel
theorem dX10_runGood_234 : decode cX10_runGood 234 = .ok (.iinc 1 1, 3) := by decide +kernel
theorem dX10_runGood_237 : decode cX10_runGood 237 = .ok (.goto (-230), 3) := by decide +kernel
theorem dX10_runGood_240 : decode cX10_runGood 240 = .ok (.return_, 1) := by decide +kernel
theorem dX10_runSeveral_0 : decode cX10_runSeveral 0 = .ok (.aload_n 0, 1) := by decide +kernel
theorem dX10_runSeveral_1 : decode cX10_runSeveral 1 = .ok (.aload_n 0, 1) := by decide +kernel
theorem dX10_runSeveral_2 : decode cX10_runSeveral 2 = .ok (.getfield 43, 3) := by decide +kernel
theorem dX10_runSeveral_5 : decode cX10_runSeveral 5 = .ok (.getfield 108, 3) := by decide +kernel
theorem dX10_runSeveral_8 : decode cX10_runSeveral 8 = .ok (.putfield 134, 3) := by decide +kernel
theorem dX10_runSeveral_11 : decode cX10_runSeveral 11 = .ok (.iconst 0, 1) := by decide +kernel
theorem dX10_runSeveral_12 : decode cX10_runSeveral 12 = .ok (.istore_n 3, 1) := by decide +kernel
theorem dX10_runSeveral_13 : decode cX10_runSeveral 13 = .ok (.iload_n 3, 1) := by decide +kernel
theorem dX10_runSeveral_14 : decode cX10_runSeveral 14 = .ok (.iload_n 2, 1) := by decide +kernel
theorem dX10_runSeveral_15 : decode cX10_runSeveral 15 = .ok (.if_icmp .ge 16, 3) := by decide +kernel
theorem dX10_runSeveral_18 : decode cX10_runSeveral 18 = .ok (.aload_n 0, 1) := by decide +kernel
theorem dX10_runSeveral_19 : decode cX10_runSeveral 19 = .ok (.aload_n 1, 1) := by decide +kernel
theorem dX10_runSeveral_20 : decode cX10_runSeveral 20 = .ok (.iload_n 3, 1) := by decide +kernel
theorem dX10_runSeveral_21 : decode cX10_runSeveral 21 = .ok (.iaload, 1) := by decide +kernel
theorem dX10_runSeveral_22 : decode cX10_runSeveral 22 = .ok (.invokevirtual 137, 3) := by decide +kernel
theorem dX10_runSeveral_25 : decode cX10_runSeveral 25 = .ok (.iinc 3 1, 3) := by decide +kernel
theorem dX10_runSeveral_28 : decode cX10_runSeveral 28 = .ok (.goto (-15), 3) := by decide +kernel
theorem dX10_runSeveral_31 : decode cX10_runSeveral 31 = .ok (.aload_n 0, 1) := by decide +kernel
theorem dX10_runSeveral_32 : decode cX10_runSeveral 32 = .ok (.invokevirtual 140, 3) := by decide +kernel
theorem dX10_runSeveral_35 : decode cX10_runSeveral 35 = .ok (.iconst 0, 1) := by decide +kernel
theorem dX10_runSeveral_36 : decode cX10_runSeveral 36 = .ok (.istore_n 3, 1) := by decide +kernel
theorem dX10_runSeveral_37 : decode cX10_runSeveral 37 = .ok (.iload_n 3, 1) := by decide +kernel
theorem dX10_runSeveral_38 : decode cX10_runSeveral 38 = .ok (.iload_n 2, 1) := by decide +kernel
theorem dX10_runSeveral_39 : decode cX10_runSeveral 39 = .ok (.if_icmp .ge 16, 3) := by decide +kernel
theorem dX10_runSeveral_42 : decode cX10_runSeveral 42 = .ok (.aload_n 0, 1) := by decide +kernel
theorem dX10_runSeveral_43 : decode cX10_runSeveral 43 = .ok (.aload_n 1, 1) := by decide +kernel
theorem dX10_runSeveral_44 : decode cX10_runSeveral 44 = .ok (.iload_n 3, 1) := by decide +kernel
theorem dX10_runSeveral_45 : decode cX10_runSeveral 45 = .ok (.iaload, 1) := by decide +kernel
theorem dX10_runSeveral_46 : decode cX10_runSeveral 46 = .ok (.invokevirtual 143, 3) := by decide +kernel
theorem dX10_runSeveral_49 : decode cX10_runSeveral 49 = .ok (.iinc 3 1, 3) := by decide +kernel
theorem dX10_runSeveral_52 : decode cX10_runSeveral 52 = .ok (.goto (-15), 3) := by decide +kernel
theorem dX10_runSeveral_55 : decode cX10_runSeveral 55 = .ok (.return_, 1) := by decide +kernel
theorem dX10_spread_0 : decode cX10_spread 0 = .ok (.aload_n 0, 1) := by decide +kernel
theorem dX10_spread_1 : decode cX10_spread 1 = .ok (.lconst 0, 1) := by decide +kernel
theorem dX10_spread_2 : decode cX10_spread 2 = .ok (.putfield 105, 3) := by decide +kernel
theorem dX10_spread_5 : decode cX10_spread 5 = .ok (.aload_n 0, 1) := by decide +kernel
theorem dX10_spread_6 : decode cX10_spread 6 = .ok (.getfield 134, 3) := by decide +kernel
theorem dX10_spread_9 : decode cX10_spread 9 = .ok (.istore_n 1, 1) := by decide +kernel
theorem dX10_spread_10 : decode cX10_spread 10 = .ok (.iload_n 1, 1) := by decide +kernel
theorem dX10_spread_11 : decode cX10_spread 11 = .ok (.aload_n 0, 1) := by decide +kernel
theorem dX10_spread_12 : decode cX10_spread 12 = .ok (.getfield 43, 3) := by decide +kernel
theorem dX10_spread_15 : decode cX10_spread 15 = .ok (.getfield 108, 3) := by decide +kernel
theorem dX10_spread_18 : decode cX10_spread 18 = .ok (.if_icmp .ge 149, 3) := by decide +kernel
theorem dX10_spread_21 : decode cX10_spread 21 = .ok (.aload_n 0, 1) := by decide +kernel
theorem dX10_spread_22 : decode cX10_spread 22 = .ok (.getfield 51, 3) := by decide +kernel
theorem dX10_spread_25 : decode cX10_spread 25 = .ok (.ifCond .lt 43, 3) := by decide +kernel
theorem dX10_spread_28 : decode cX10_spread 28 = .ok (.aload_n 0, 1) := by decide +kernel
theorem dX10_spread_29 : decode cX10_spread 29 = .ok (.getfield 47, 3) := by decide +kernel
theorem dX10_spread_32 : decode cX10_spread 32 = .ok (.getfield 150, 3) := by decide +kernel
theorem dX10_spread_35 : decode cX10_spread 35 = .ok (.aload_n 0, 1) := by decide +kernel
theorem dX10_spread_36 : decode cX10_spread 36 = .ok (.getfield 51, 3) := by decide +kernel
theorem dX10_spread_39 : decode cX10_spread 39 = .ok (.iaload, 1) := by decide +kernel
theorem dX10_spread_40 : decode cX10_spread 40 = .ok (.iload_n 1, 1) := by decide +kernel
theorem dX10_spread_41 : decode cX10_spread 41 = .ok (.if_icmp .eq 19, 3) := by decide +kernel
theorem dX10_spread_44 : decode cX10_spread 44 = .ok (.aload_n 0, 1) := by decide +kernel
theorem dX10_spread_45 : decode cX10_spread 45 = .ok (.getfield 47, 3) := by decide +kernel
theorem dX10_spread_48 : decode cX10_spread 48 = .ok (.getfield 167, 3) := by decide +kernel
theorem dX10_spread_51 : decode cX10_spread 51 = .ok (.aload_n 0, 1) := by decide +kernel
theorem dX10_spread_52 : decode cX10_spread 52 = .ok (.getfield 51, 3) := by decide +kernel
theorem dX10_spread_55 : decode cX10_spread 55 = .ok (.iaload, 1) := by decide +kernel
theorem dX10_spread_56 : decode cX10_spread 56 = .ok (.iload_n 1, 1) := by decide +kernel
theorem dX10_spread_57 : decode cX10_spread 57 = .ok (.if_icmp .ne 11, 3) := by decide +kernel
theorem dX10_spread_60 : decode cX10_spread 60 = .ok (.aload_n 0, 1) := by decide +kernel
theorem dX10_spread_61 : decode cX10_spread 61 = .ok (.iload_n 1, 1) := by decide +kernel
theorem dX10_spread_62 : decode cX10_spread 62 = .ok (.invokevirtual 179, 3) := by decide +kernel
theorem dX10_spread_65 : decode cX10_spread 65 = .ok (.goto 96, 3) := by decide +kernel
theorem dX10_spread_68 : decode cX10_spread 68 = .ok (.aload_n 0, 1) := by decide +kernel
theorem dX10_spread_69 : decode cX10_spread 69 = .ok (.getfield 30, 3) := by decide +kernel
theorem dX10_spread_72 : decode cX10_spread 72 = .ok (.iload_n 1, 1) := by decide +kernel
theorem dX10_spread_73 : decode cX10_spread 73 = .ok (.iaload, 1) := by decide +kernel
theorem dX10_spread_74 : decode cX10_spread 74 = .ok (.iconst 2, 1) := by decide +kernel
theorem dX10_spread_75 : decode cX10_spread 75 = .ok (.if_icmp .eq 73, 3) := by decide +kernel
theorem dX10_spread_78 : decode cX10_spread 78 = .ok (.aload_n 0, 1) := by decide +kernel
theorem dX10_spread_79 : decode cX10_spread 79 = .ok (.getfield 155, 3) := by decide +kernel
theorem dX10_spread_82 : decode cX10_spread 82 = .ok (.ldc2_w 61, 3) := by decide +kernel
theorem dX10_spread_85 : decode cX10_spread 85 = .ok (.lxor, 1) := by decide +kernel
theorem dX10_spread_86 : decode cX10_spread 86 = .ok (.lstore_n 2, 1) := by decide +kernel
theorem dX10_spread_87 : decode cX10_spread 87 = .ok (.aload_n 0, 1) := by decide +kernel
theorem dX10_spread_88 : decode cX10_spread 88 = .ok (.iload_n 1, 1) := by decide +kernel
theorem dX10_spread_89 : decode cX10_spread 89 = .ok (.aload_n 0, 1) := by decide +kernel
theorem dX10_spread_90 : decode cX10_spread 90 = .ok (.getfield 30, 3) := by decide +kernel
theorem dX10_spread_93 : decode cX10_spread 93 = .ok (.iload_n 1, 1) := by decide +kernel
theorem dX10_spread_94 : decode cX10_spread 94 = .ok (.iaload, 1) := by decide +kernel
theorem dX10_spread_95 : decode cX10_spread 95 = .ok (.ifCond .ne 10, 3) := by decide +kernel
theorem dX10_spread_98 : decode cX10_spread 98 = .ok (.aload_n 0, 1) := by decide +kernel
theorem dX10_spread_99 : decode cX10_spread 99 = .ok (.getfield 155, 3) := by decide +kernel
theorem dX10_spread_102 : decode cX10_spread 102 = .ok (.goto 4, 3) := by decide +kernel
theorem dX10_spread_105 : decode cX10_spread 105 = .ok (.lconst 0, 1) := by decide +kernel
theorem dX10_spread_106 : decode cX10_spread 106 = .ok (.aload_n 0, 1) := by decide +kernel
theorem dX10_spread_107 : decode cX10_spread 107 = .ok (.getfield 18, 3) := by decide +kernel
theorem dX10_spread_110 : decode cX10_spread 110 = .ok (.iload_n 1, 1) := by decide +kernel
theorem dX10_spread_111 : decode cX10_spread 111 = .ok (.laload, 1) := by decide +kernel
theorem dX10_spread_112 : decode cX10_spread 112 = .ok (.lload_n 2, 1) := by decide +kernel
theorem dX10_spread_113 : decode cX10_spread 113 = .ok (.land, 1) := by decide +kernel
theorem dX10_spread_114 : decode cX10_spread 114 = .ok (.lor, 1) := by decide +kernel
theorem dX10_spread_115 : decode cX10_spread 115 = .ok (.aload_n 0, 1) := by decide +kernel
theorem dX10_spread_116 : decode cX10_spread 116 = .ok (.getfield 30, 3) := by decide +kernel
theorem dX10_spread_119 : decode cX10_spread 119 = .ok (.iload_n 1, 1) := by decide +kernel
theorem dX10_spread_120 : decode cX10_spread 120 = .ok (.iaload, 1) := by decide +kernel
theorem dX10_spread_121 : decode cX10_spread 121 = .ok (.iconst 1, 1) := by decide +kernel
theorem dX10_spread_122 : decode cX10_spread 122 = .ok (.if_icmp .ne 10, 3) := by decide +kernel
theorem dX10_spread_125 : decode cX10_spread 125 = .ok (.aload_n 0, 1) := by decide +kernel
theorem dX10_spread_126 : decode cX10_spread 126 = .ok (.getfield 155, 3) := by decide +kernel
theorem dX10_spread_129 : decode cX10_spread 129 = .ok (.goto 4, 3) := by decide +kernel
theorem dX10_spread_132 : decode cX10_spread 132 = .ok (.lconst 0, 1) := by decide +kernel
theorem dX10_spread_133 : decode cX10_spread 133 = .ok (.aload_n 0, 1) := by decide +kernel
theorem dX10_spread_134 : decode cX10_spread 134 = .ok (.getfield 21, 3) := by decide +kernel
theorem dX10_spread_137 : decode cX10_spread 137 = .ok (.iload_n 1, 1) := by decide +kernel
theorem dX10_spread_138 : decode cX10_spread 138 = .ok (.laload, 1) := by decide +kernel
theorem dX10_spread_139 : decode cX10_spread 139 = .ok (.lload_n 2, 1) := by decide +kernel
theorem dX10_spread_140 : decode cX10_spread 140 = .ok (.land, 1) := by decide +kernel
theorem dX10_spread_141 : decode cX10_spread 141 = .ok (.lor, 1) := by decide +kernel
theorem dX10_spread_142 : decode cX10_spread 142 = .ok (.invokevirtual 182, 3) := by decide +kernel
theorem dX10_spread_145 : decode cX10_spread 145 = .ok (.goto 16, 3) := by decide +kernel
theorem dX10_spread_148 : decode cX10_spread 148 = .ok (.aload_n 0, 1) := by decide +kernel
theorem dX10_spread_149 : decode cX10_spread 149 = .ok (.iload_n 1, 1) := by decide +kernel
theorem dX10_spread_150 : decode cX10_spread 150 = .ok (.invokevirtual 186, 3) := by decide +kernel
theorem dX10_spread_153 : decode cX10_spread 153 = .ok (.ifCond .eq 8, 3) := by decide +kernel
theorem dX10_spread_156 : decode cX10_spread 156 = .ok (.aload_n 0, 1) := by decide +kernel
theorem dX10_spread_157 : decode cX10_spread 157 = .ok (.iload_n 1, 1) := by decide +kernel
theorem dX10_spread_158 : decode cX10_spread 158 = .ok (.invokevirtual 189, 3) := by decide +kernel
theorem dX10_spread_161 : decode cX10_spread 161 = .ok (.iinc 1 1, 3) := by decide +kernel
theorem dX10_spread_164 : decode cX10_spread 164 = .ok (.goto (-154), 3) := by decide +kernel
theorem dX10_spread_167 : decode cX10_spread 167 = .ok (.return_, 1) := by decide +kernel
theorem dX10_wordsOfWays_0 : decode cX10_wordsOfWays 0 = .ok (.aload_n 0, 1) := by decide +kernel
theorem dX10_wordsOfWays_1 : decode cX10_wordsOfWays 1 = .ok (.getfield 43, 3) := by decide +kernel
theorem dX10_wordsOfWays_4 : decode cX10_wordsOfWays 4 = .ok (.getfield 79, 3) := by decide +kernel
theorem dX10_wordsOfWays_7 : decode cX10_wordsOfWays 7 = .ok (.bipush 6, 2) := by decide +kernel
theorem dX10_wordsOfWays_9 : decode cX10_wordsOfWays 9 = .ok (.if_icmp .le 18, 3) := by decide +kernel
theorem dX10_wordsOfWays_12 : decode cX10_wordsOfWays 12 = .ok (.iconst 1, 1) := by decide +kernel
theorem dX10_wordsOfWays_13 : decode cX10_wordsOfWays 13 = .ok (.aload_n 0, 1) := by decide +kernel
theorem dX10_wordsOfWays_14 : decode cX10_wordsOfWays 14 = .ok (.getfield 43, 3) := by decide +kernel
theorem dX10_wordsOfWays_17 : decode cX10_wordsOfWays 17 = .ok (.getfield 79, 3) := by decide +kernel
theorem dX10_wordsOfWays_20 : decode cX10_wordsOfWays 20 = .ok (.bipush 6, 2) := by decide +kernel
theorem dX10_wordsOfWays_22 : decode cX10_wordsOfWays 22 = .ok (.isub, 1) := by decide +kernel
theorem dX10_wordsOfWays_23 : decode cX10_wordsOfWays 23 = .ok (.ishl, 1) := by decide +kernel
theorem dX10_wordsOfWays_24 : decode cX10_wordsOfWays 24 = .ok (.goto 4, 3) := by decide +kernel
theorem dX10_wordsOfWays_27 : decode cX10_wordsOfWays 27 = .ok (.iconst 1, 1) := by decide +kernel
theorem dX10_wordsOfWays_28 : decode cX10_wordsOfWays 28 = .ok (.ireturn, 1) := by decide +kernel
theorem dX11_addSource_0 : decode cX11_addSource 0 = .ok (.aload_n 0, 1) := by decide +kernel
theorem dX11_addSource_1 : decode cX11_addSource 1 = .ok (.invokevirtual 135, 3) := by decide +kernel
theorem dX11_addSource_4 : decode cX11_addSource 4 = .ok (.aload_n 0, 1) := by decide +kernel
theorem dX11_addSource_5 : decode cX11_addSource 5 = .ok (.getfield 10, 3) := by decide +kernel
theorem dX11_addSource_8 : decode cX11_addSource 8 = .ok (.getfield 96, 3) := by decide +kernel
theorem dX11_addSource_11 : decode cX11_addSource 11 = .ok (.bipush 40, 2) := by decide +kernel
theorem dX11_addSource_13 : decode cX11_addSource 13 = .ok (.if_icmp .ge 15, 3) := by decide +kernel
theorem dX11_addSource_16 : decode cX11_addSource 16 = .ok (.aload_n 0, 1) := by decide +kernel
theorem dX11_addSource_17 : decode cX11_addSource 17 = .ok (.getfield 10, 3) := by decide +kernel
theorem dX11_addSource_20 : decode cX11_addSource 20 = .ok (.getfield 138, 3) := by decide +kernel
theorem dX11_addSource_23 : decode cX11_addSource 23 = .ok (.bipush 12, 2) := by decide +kernel
theorem dX11_addSource_25 : decode cX11_addSource 25 = .ok (.if_icmp .lt 11, 3) := by decide +kernel
theorem dX11_addSource_28 : decode cX11_addSource 28 = .ok (.new 141, 3) := by decide +kernel
theorem dX11_addSource_31 : decode cX11_addSource 31 = .ok (.dup, 1) := by decide +kernel
theorem dX11_addSource_32 : decode cX11_addSource 32 = .ok (.invokespecial 143, 3) := by decide +kernel
theorem dX11_addSource_35 : decode cX11_addSource 35 = .ok (.athrow, 1) := by decide +kernel
theorem dX11_addSource_36 : decode cX11_addSource 36 = .ok (.aload_n 0, 1) := by decide +kernel
theorem dX11_addSource_37 : decode cX11_addSource 37 = .ok (.getfield 10, 3) := by decide +kernel
theorem dX11_addSource_40 : decode cX11_addSource 40 = .ok (.iload_n 1, 1) := by decide +kernel
theorem dX11_addSource_41 : decode cX11_addSource 41 = .ok (.invokevirtual 144, 3) := by decide +kernel
theorem dX11_addSource_44 : decode cX11_addSource 44 = .ok (.ireturn, 1) := by decide +kernel
theorem dX11_aliased_0 : decode cX11_aliased 0 = .ok (.aload_n 0, 1) := by decide +kernel
theorem dX11_aliased_1 : decode cX11_aliased 1 = .ok (.getfield 37, 3) := by decide +kernel
theorem dX11_aliased_4 : decode cX11_aliased 4 = .ok (.aload_n 0, 1) := by decide +kernel
theorem dX11_aliased_5 : decode cX11_aliased 5 = .ok (.getfield 28, 3) := by decide +kernel
theorem dX11_aliased_8 : decode cX11_aliased 8 = .ok (.invokevirtual 378, 3) := by decide +kernel
theorem dX11_aliased_11 : decode cX11_aliased 11 = .ok (.aload_n 0, 1) := by decide +kernel
theorem dX11_aliased_12 : decode cX11_aliased 12 = .ok (.getfield 37, 3) := by decide +kernel
theorem dX11_aliased_15 : decode cX11_aliased 15 = .ok (.invokevirtual 381, 3) := by decide +kernel
theorem dX11_aliased_18 : decode cX11_aliased 18 = .ok (.aload_n 0, 1) := by decide +kernel
theorem dX11_aliased_19 : decode cX11_aliased 19 = .ok (.invokevirtual 387, 3) := by decide +kernel
theorem dX11_aliased_22 : decode cX11_aliased 22 = .ok (.istore_n 1, 1) := by decide +kernel
theorem dX11_aliased_23 : decode cX11_aliased 23 = .ok (.iconst 0, 1) := by decide +kernel
theorem dX11_aliased_24 : decode cX11_aliased 24 = .ok (.istore_n 2, 1) := by decide +kernel
theorem dX11_aliased_25 : decode cX11_aliased 25 = .ok (.iconst 0, 1) := by decide +kernel
theorem dX11_aliased_26 : decode cX11_aliased 26 = .ok (.istore_n 3, 1) := by decide +kernel
theorem dX11_aliased_27 : decode cX11_aliased 27 = .ok (.iload_n 3, 1) := by decide +kernel
theorem dX11_aliased_28 : decode cX11_aliased 28 = .ok (.aload_n 0, 1) := by decide +kernel
theorem dX11_aliased_29 : decode cX11_aliased 29 = .ok (.getfield 21, 3) := by decide +kernel
theorem dX11_aliased_32 : decode cX11_aliased 32 = .ok (.getfield 111, 3) := by decide +kernel
theorem dX11_aliased_35 : decode cX11_aliased 35 = .ok (.if_icmp .ge 44, 3) := by decide +kernel
theorem dX11_aliased_38 : decode cX11_aliased 38 = .ok (.aload_n 0, 1) := by decide +kernel
theorem dX11_aliased_39 : decode cX11_aliased 39 = .ok (.getfield 21, 3) := by decide +kernel
theorem dX11_aliased_42 : decode cX11_aliased 42 = .ok (.iload_n 3, 1) := by decide +kernel
theorem dX11_aliased_43 : decode cX11_aliased 43 = .ok (.invokevirtual 294, 3) := by decide +kernel
theorem dX11_aliased_46 : decode cX11_aliased 46 = .ok (.ifCond .eq 27, 3) := by decide +kernel
theorem dX11_aliased_49 : decode cX11_aliased 49 = .ok (.aload_n 0, 1) := by decide +kernel
theorem dX11_aliased_50 : decode cX11_aliased 50 = .ok (.getfield 37, 3) := by decide +kernel
theorem dX11_aliased_53 : decode cX11_aliased 53 = .ok (.iload_n 3, 1) := by decide +kernel
theorem dX11_aliased_54 : decode cX11_aliased 54 = .ok (.invokevirtual 383, 3) := by decide +kernel
theorem dX11_aliased_57 : decode cX11_aliased 57 = .ok (.lconst 0, 1) := by decide +kernel
theorem dX11_aliased_58 : decode cX11_aliased 58 = .ok (.lcmp, 1) := by decide +kernel
theorem dX11_aliased_59 : decode cX11_aliased 59 = .ok (.ifCond .eq 14, 3) := by decide +kernel
theorem dX11_aliased_62 : decode cX11_aliased 62 = .ok (.aload_n 0, 1) := by decide +kernel
theorem dX11_aliased_63 : decode cX11_aliased 63 = .ok (.invokevirtual 387, 3) := by decide +kernel
theorem dX11_aliased_66 : decode cX11_aliased 66 = .ok (.iload_n 1, 1) := by decide +kernel
theorem dX11_aliased_67 : decode cX11_aliased 67 = .ok (.if_icmp .ne 6, 3) := by decide +kernel
theorem dX11_aliased_70 : decode cX11_aliased 70 = .ok (.iinc 2 1, 3) := by decide +kernel
theorem dX11_aliased_73 : decode cX11_aliased 73 = .ok (.iinc 3 1, 3) := by decide +kernel
theorem dX11_aliased_76 : decode cX11_aliased 76 = .ok (.goto (-49), 3) := by decide +kernel
theorem dX11_aliased_79 : decode cX11_aliased 79 = .ok (.iload_n 2, 1) := by decide +kernel
theorem dX11_aliased_80 : decode cX11_aliased 80 = .ok (.ireturn, 1) := by decide +kernel
theorem dX11_alike_0 : decode cX11_alike 0 = .ok (.aload_n 0, 1) := by decide +kernel
theorem dX11_alike_1 : decode cX11_alike 1 = .ok (.iload_n 1, 1) := by decide +kernel
theorem dX11_alike_2 : decode cX11_alike 2 = .ok (.invokevirtual 107, 3) := by decide +kernel
theorem dX11_alike_5 : decode cX11_alike 5 = .ok (.aload_n 0, 1) := by decide +kernel
theorem dX11_alike_6 : decode cX11_alike 6 = .ok (.getfield 21, 3) := by decide +kernel
theorem dX11_alike_9 : decode cX11_alike 9 = .ok (.getfield 222, 3) := by decide +kernel
theorem dX11_alike_12 : decode cX11_alike 12 = .ok (.iload_n 1, 1) := by decide +kernel
theorem dX11_alike_13 : decode cX11_alike 13 = .ok (.iaload, 1) := by decide +kernel
theorem dX11_alike_14 : decode cX11_alike 14 = .ok (.ireturn, 1) := by decide +kernel
theorem dX11_areLikesFoundAlike_0 : decode cX11_areLikesFoundAlike 0 = .ok (.iconst 0, 1) := by decide +kernel
theorem dX11_areLikesFoundAlike_1 : decode cX11_areLikesFoundAlike 1 = .ok (.istore_n 1, 1) := by decide +kernel
theorem dX11_areLikesFoundAlike_2 : decode cX11_areLikesFoundAlike 2 = .ok (.iload_n 1, 1) := by decide +kernel
theorem dX11_areLikesFoundAlike_3 : decode cX11_areLikesFoundAlike 3 = .ok (.aload_n 0, 1) := by decide +kernel
theorem dX11_areLikesFoundAlike_4 : decode cX11_areLikesFoundAlike 4 = .ok (.getfield 21, 3) := by decide +kernel
theorem dX11_areLikesFoundAlike_7 : decode cX11_areLikesFoundAlike 7 = .ok (.getfield 111, 3) := by decide +kernel
theorem dX11_areLikesFoundAlike_10 : decode cX11_areLikesFoundAlike 10 = .ok (.if_icmp .ge 41, 3) := by decide +kernel
theorem dX11_areLikesFoundAlike_13 : decode cX11_areLikesFoundAlike 13 = .ok (.aload_n 0, 1) := by decide +kernel
theorem dX11_areLikesFoundAlike_14 : decode cX11_areLikesFoundAlike 14 = .ok (.getfield 37, 3) := by decide +kernel
theorem dX11_areLikesFoundAlike_17 : decode cX11_areLikesFoundAlike 17 = .ok (.getfield 280, 3) := by decide +kernel
theorem dX11_areLikesFoundAlike_20 : decode cX11_areLikesFoundAlike 20 = .ok (.iload_n 1, 1) := by decide +kernel
theorem dX11_areLikesFoundAlike_21 : decode cX11_areLikesFoundAlike 21 = .ok (.laload, 1) := by decide +kernel
theorem dX11_areLikesFoundAlike_22 : decode cX11_areLikesFoundAlike 22 = .ok (.aload_n 0, 1) := by decide +kernel
theorem dX11_areLikesFoundAlike_23 : decode cX11_areLikesFoundAlike 23 = .ok (.getfield 37, 3) := by decide +kernel
theorem dX11_areLikesFoundAlike_26 : decode cX11_areLikesFoundAlike 26 = .ok (.getfield 280, 3) := by decide +kernel
theorem dX11_areLikesFoundAlike_29 : decode cX11_areLikesFoundAlike 29 = .ok (.aload_n 0, 1) := by decide +kernel
theorem dX11_areLikesFoundAlike_30 : decode cX11_areLikesFoundAlike 30 = .ok (.getfield 21, 3) := by decide +kernel
theorem dX11_areLikesFoundAlike_33 : decode cX11_areLikesFoundAlike 33 = .ok (.getfield 222, 3) := by decide +kernel
theorem dX11_areLikesFoundAlike_36 : decode cX11_areLikesFoundAlike 36 = .ok (.iload_n 1, 1) := by decide +kernel
theorem dX11_areLikesFoundAlike_37 : decode cX11_areLikesFoundAlike 37 = .ok (.iaload, 1) := by decide +kernel
theorem dX11_areLikesFoundAlike_38 : decode cX11_areLikesFoundAlike 38 = .ok (.laload, 1) := by decide +kernel
theorem dX11_areLikesFoundAlike_39 : decode cX11_areLikesFoundAlike 39 = .ok (.lcmp, 1) := by decide +kernel
theorem dX11_areLikesFoundAlike_40 : decode cX11_areLikesFoundAlike 40 = .ok (.ifCond .eq 5, 3) := by decide +kernel
theorem dX11_areLikesFoundAlike_43 : decode cX11_areLikesFoundAlike 43 = .ok (.iconst 0, 1) := by decide +kernel
theorem dX11_areLikesFoundAlike_44 : decode cX11_areLikesFoundAlike 44 = .ok (.ireturn, 1) := by decide +kernel
theorem dX11_areLikesFoundAlike_45 : decode cX11_areLikesFoundAlike 45 = .ok (.iinc 1 1, 3) := by decide +kernel
theorem dX11_areLikesFoundAlike_48 : decode cX11_areLikesFoundAlike 48 = .ok (.goto (-46), 3) := by decide +kernel
theorem dX11_areLikesFoundAlike_51 : decode cX11_areLikesFoundAlike 51 = .ok (.iconst 1, 1) := by decide +kernel
theorem dX11_areLikesFoundAlike_52 : decode cX11_areLikesFoundAlike 52 = .ok (.ireturn, 1) := by decide +kernel
theorem dX11_badWires_0 : decode cX11_badWires 0 = .ok (.aload_n 0, 1) := by decide +kernel
theorem dX11_badWires_1 : decode cX11_badWires 1 = .ok (.iload_n 1, 1) := by decide +kernel
theorem dX11_badWires_2 : decode cX11_badWires 2 = .ok (.invokevirtual 526, 3) := by decide +kernel
theorem dX11_badWires_5 : decode cX11_badWires 5 = .ok (.iconst 0, 1) := by decide +kernel
theorem dX11_badWires_6 : decode cX11_badWires 6 = .ok (.istore_n 2, 1) := by decide +kernel
theorem dX11_badWires_7 : decode cX11_badWires 7 = .ok (.iconst 0, 1) := by decide +kernel
theorem dX11_badWires_8 : decode cX11_badWires 8 = .ok (.istore_n 3, 1) := by decide +kernel
theorem dX11_badWires_9 : decode cX11_badWires 9 = .ok (.iload_n 3, 1) := by decide +kernel
theorem dX11_badWires_10 : decode cX11_badWires 10 = .ok (.aload_n 0, 1) := by decide +kernel
theorem dX11_badWires_11 : decode cX11_badWires 11 = .ok (.getfield 85, 3) := by decide +kernel
theorem dX11_badWires_14 : decode cX11_badWires 14 = .ok (.getfield 128, 3) := by decide +kernel
theorem dX11_badWires_17 : decode cX11_badWires 17 = .ok (.if_icmp .ge 36, 3) := by decide +kernel
theorem dX11_badWires_20 : decode cX11_badWires 20 = .ok (.aload_n 0, 1) := by decide +kernel
theorem dX11_badWires_21 : decode cX11_badWires 21 = .ok (.getfield 85, 3) := by decide +kernel
theorem dX11_badWires_24 : decode cX11_badWires 24 = .ok (.iload_n 3, 1) := by decide +kernel
theorem dX11_badWires_25 : decode cX11_badWires 25 = .ok (.iload_n 1, 1) := by decide +kernel
theorem dX11_badWires_26 : decode cX11_badWires 26 = .ok (.invokevirtual 529, 3) := by decide +kernel
theorem dX11_badWires_29 : decode cX11_badWires 29 = .ok (.aload_n 0, 1) := by decide +kernel
theorem dX11_badWires_30 : decode cX11_badWires 30 = .ok (.getfield 85, 3) := by decide +kernel
theorem dX11_badWires_33 : decode cX11_badWires 33 = .ok (.iload_n 3, 1) := by decide +kernel
theorem dX11_badWires_34 : decode cX11_badWires 34 = .ok (.iload_n 1, 1) := by decide +kernel
theorem dX11_badWires_35 : decode cX11_badWires 35 = .ok (.invokevirtual 532, 3) := by decide +kernel
theorem dX11_badWires_38 : decode cX11_badWires 38 = .ok (.if_icmp .eq 9, 3) := by decide +kernel
theorem dX11_badWires_41 : decode cX11_badWires 41 = .ok (.iload_n 2, 1) := by decide +kernel
theorem dX11_badWires_42 : decode cX11_badWires 42 = .ok (.iconst 1, 1) := by decide +kernel
theorem dX11_badWires_43 : decode cX11_badWires 43 = .ok (.iload_n 3, 1) := by decide +kernel
theorem dX11_badWires_44 : decode cX11_badWires 44 = .ok (.ishl, 1) := by decide +kernel
theorem dX11_badWires_45 : decode cX11_badWires 45 = .ok (.ior, 1) := by decide +kernel
theorem dX11_badWires_46 : decode cX11_badWires 46 = .ok (.istore_n 2, 1) := by decide +kernel
theorem dX11_badWires_47 : decode cX11_badWires 47 = .ok (.iinc 3 1, 3) := by decide +kernel
theorem dX11_badWires_50 : decode cX11_badWires 50 = .ok (.goto (-41), 3) := by decide +kernel
theorem dX11_badWires_53 : decode cX11_badWires 53 = .ok (.iload_n 2, 1) := by decide +kernel
theorem dX11_badWires_54 : decode cX11_badWires 54 = .ok (.ireturn, 1) := by decide +kernel
theorem dX11_begins_0 : decode cX11_begins 0 = .ok (.iload_n 3, 1) := by decide +kernel
theorem dX11_begins_1 : decode cX11_begins 1 = .ok (.ifCond .lt 14, 3) := by decide +kernel
theorem dX11_begins_4 : decode cX11_begins 4 = .ok (.iload_n 3, 1) := by decide +kernel
theorem dX11_begins_5 : decode cX11_begins 5 = .ok (.aload_n 0, 1) := by decide +kernel
theorem dX11_begins_6 : decode cX11_begins 6 = .ok (.getfield 92, 3) := by decide +kernel
theorem dX11_begins_9 : decode cX11_begins 9 = .ok (.getfield 535, 3) := by decide +kernel
theorem dX11_begins_12 : decode cX11_begins 12 = .ok (.if_icmp .lt 11, 3) := by decide +kernel
theorem dX11_begins_15 : decode cX11_begins 15 = .ok (.new 100, 3) := by decide +kernel
theorem dX11_begins_18 : decode cX11_begins 18 = .ok (.dup, 1) := by decide +kernel
theorem dX11_begins_19 : decode cX11_begins 19 = .ok (.invokespecial 102, 3) := by decide +kernel
theorem dX11_begins_22 : decode cX11_begins 22 = .ok (.athrow, 1) := by decide +kernel
theorem dX11_begins_23 : decode cX11_begins 23 = .ok (.aload_n 0, 1) := by decide +kernel
theorem dX11_begins_24 : decode cX11_begins 24 = .ok (.iload_n 1, 1) := by decide +kernel
theorem dX11_begins_25 : decode cX11_begins 25 = .ok (.iload_n 2, 1) := by decide +kernel
theorem dX11_begins_26 : decode cX11_begins 26 = .ok (.invokevirtual 538, 3) := by decide +kernel
theorem dX11_begins_29 : decode cX11_begins 29 = .ok (.aload_n 0, 1) := by decide +kernel
theorem dX11_begins_30 : decode cX11_begins 30 = .ok (.getfield 92, 3) := by decide +kernel
theorem dX11_begins_33 : decode cX11_begins 33 = .ok (.iload_n 1, 1) := by decide +kernel
theorem dX11_begins_34 : decode cX11_begins 34 = .ok (.iload_n 2, 1) := by decide +kernel
theorem dX11_begins_35 : decode cX11_begins 35 = .ok (.invokevirtual 541, 3) := by decide +kernel
theorem dX11_begins_38 : decode cX11_begins 38 = .ok (.pop, 1) := by decide +kernel
theorem dX11_begins_39 : decode cX11_begins 39 = .ok (.aload_n 0, 1) := by decide +kernel
theorem dX11_begins_40 : decode cX11_begins 40 = .ok (.getfield 92, 3) := by decide +kernel
theorem dX11_begins_43 : decode cX11_begins 43 = .ok (.getfield 544, 3) := by decide +kernel
theorem dX11_begins_46 : decode cX11_begins 46 = .ok (.iload_n 3, 1) := by decide +kernel
theorem dX11_begins_47 : decode cX11_begins 47 = .ok (.iaload, 1) := by decide +kernel
theorem dX11_begins_48 : decode cX11_begins 48 = .ok (.ireturn, 1) := by decide +kernel
theorem dX11_board_0 : decode cX11_board 0 = .ok (.iload_n 1, 1) := by decide +kernel
theorem dX11_board_1 : decode cX11_board 1 = .ok (.iconst 1, 1) := by decide +kernel
theorem dX11_board_2 : decode cX11_board 2 = .ok (.bipush 12, 2) := by decide +kernel
theorem dX11_board_4 : decode cX11_board 4 = .ok (.invokestatic 361, 3) := by decide +kernel
theorem dX11_board_7 : decode cX11_board 7 = .ok (.iload_n 2, 1) := by decide +kernel
theorem dX11_board_8 : decode cX11_board 8 = .ok (.bipush 97, 2) := by decide +kernel
theorem dX11_board_10 : decode cX11_board 10 = .ok (.if_icmp .eq 17, 3) := by decide +kernel
theorem dX11_board_13 : decode cX11_board 13 = .ok (.iload_n 2, 1) := by decide +kernel
theorem dX11_board_14 : decode cX11_board 14 = .ok (.bipush 111, 2) := by decide +kernel
theorem dX11_board_16 : decode cX11_board 16 = .ok (.if_icmp .eq 11, 3) := by decide +kernel
theorem dX11_board_19 : decode cX11_board 19 = .ok (.new 114, 3) := by decide +kernel
theorem dX11_board_22 : decode cX11_board 22 = .ok (.dup, 1) := by decide +kernel
theorem dX11_board_23 : decode cX11_board 23 = .ok (.invokespecial 116, 3) := by decide +kernel
theorem dX11_board_26 : decode cX11_board 26 = .ok (.athrow, 1) := by decide +kernel
theorem dX11_board_27 : decode cX11_board 27 = .ok (.aload_n 0, 1) := by decide +kernel
theorem dX11_board_28 : decode cX11_board 28 = .ok (.getfield 85, 3) := by decide +kernel
theorem dX11_board_31 : decode cX11_board 31 = .ok (.iload_n 1, 1) := by decide +kernel
theorem dX11_board_32 : decode cX11_board 32 = .ok (.iload_n 2, 1) := by decide +kernel
theorem dX11_board_33 : decode cX11_board 33 = .ok (.invokevirtual 511, 3) := by decide +kernel
theorem dX11_board_36 : decode cX11_board 36 = .ok (.ireturn, 1) := by decide +kernel
theorem dX11_breakChain_0 : decode cX11_breakChain 0 = .ok (.iload_n 1, 1) := by decide +kernel
theorem dX11_breakChain_1 : decode cX11_breakChain 1 = .ok (.iconst (-1), 1) := by decide +kernel
theorem dX11_breakChain_2 : decode cX11_breakChain 2 = .ok (.aload_n 0, 1) := by decide +kernel
theorem dX11_breakChain_3 : decode cX11_breakChain 3 = .ok (.getfield 10, 3) := by decide +kernel
theorem dX11_breakChain_6 : decode cX11_breakChain 6 = .ok (.getfield 453, 3) := by decide +kernel
theorem dX11_breakChain_9 : decode cX11_breakChain 9 = .ok (.iconst 1, 1) := by decide +kernel
theorem dX11_breakChain_10 : decode cX11_breakChain 10 = .ok (.isub, 1) := by decide +kernel
theorem dX11_breakChain_11 : decode cX11_breakChain 11 = .ok (.invokestatic 361, 3) := by decide +kernel
theorem dX11_breakChain_14 : decode cX11_breakChain 14 = .ok (.iload_n 2, 1) := by decide +kernel
theorem dX11_breakChain_15 : decode cX11_breakChain 15 = .ok (.iconst 0, 1) := by decide +kernel
theorem dX11_breakChain_16 : decode cX11_breakChain 16 = .ok (.iconst 1, 1) := by decide +kernel
theorem dX11_breakChain_17 : decode cX11_breakChain 17 = .ok (.invokestatic 361, 3) := by decide +kernel
theorem dX11_breakChain_20 : decode cX11_breakChain 20 = .ok (.aload_n 0, 1) := by decide +kernel
theorem dX11_breakChain_21 : decode cX11_breakChain 21 = .ok (.invokevirtual 177, 3) := by decide +kernel
theorem dX11_breakChain_24 : decode cX11_breakChain 24 = .ok (.aload_n 0, 1) := by decide +kernel
theorem dX11_breakChain_25 : decode cX11_breakChain 25 = .ok (.getfield 71, 3) := by decide +kernel
theorem dX11_breakChain_28 : decode cX11_breakChain 28 = .ok (.getfield 456, 3) := by decide +kernel
theorem dX11_breakChain_31 : decode cX11_breakChain 31 = .ok (.istore_n 3, 1) := by decide +kernel
theorem dX11_breakChain_32 : decode cX11_breakChain 32 = .ok (.aload_n 0, 1) := by decide +kernel
theorem dX11_breakChain_33 : decode cX11_breakChain 33 = .ok (.getfield 71, 3) := by decide +kernel
theorem dX11_breakChain_36 : decode cX11_breakChain 36 = .ok (.iload_n 1, 1) := by decide +kernel
theorem dX11_breakChain_37 : decode cX11_breakChain 37 = .ok (.putfield 456, 3) := by decide +kernel
theorem dX11_breakChain_40 : decode cX11_breakChain 40 = .ok (.aload_n 0, 1) := by decide +kernel
theorem dX11_breakChain_41 : decode cX11_breakChain 41 = .ok (.getfield 71, 3) := by decide +kernel
theorem dX11_breakChain_44 : decode cX11_breakChain 44 = .ok (.iload_n 2, 1) := by decide +kernel
theorem dX11_breakChain_45 : decode cX11_breakChain 45 = .ok (.putfield 459, 3) := by decide +kernel
theorem dX11_breakChain_48 : decode cX11_breakChain 48 = .ok (.iload_n 3, 1) := by decide +kernel
theorem dX11_breakChain_49 : decode cX11_breakChain 49 = .ok (.ireturn, 1) := by decide +kernel
theorem dX11_breakChip_0 : decode cX11_breakChip 0 = .ok (.aload_n 0, 1) := by decide +kernel
theorem dX11_breakChip_1 : decode cX11_breakChip 1 = .ok (.iload_n 1, 1) := by decide +kernel
theorem dX11_breakChip_2 : decode cX11_breakChip 2 = .ok (.invokevirtual 319, 3) := by decide +kernel
theorem dX11_breakChip_5 : decode cX11_breakChip 5 = .ok (.aload_n 0, 1) := by decide +kernel
theorem dX11_breakChip_6 : decode cX11_breakChip 6 = .ok (.getfield 71, 3) := by decide +kernel
theorem dX11_breakChip_9 : decode cX11_breakChip 9 = .ok (.getfield 429, 3) := by decide +kernel
theorem dX11_breakChip_12 : decode cX11_breakChip 12 = .ok (.iconst 2, 1) := by decide +kernel
theorem dX11_breakChip_13 : decode cX11_breakChip 13 = .ok (.if_icmp .lt 11, 3) := by decide +kernel
theorem dX11_breakChip_16 : decode cX11_breakChip 16 = .ok (.new 141, 3) := by decide +kernel
theorem dX11_breakChip_19 : decode cX11_breakChip 19 = .ok (.dup, 1) := by decide +kernel
theorem dX11_breakChip_20 : decode cX11_breakChip 20 = .ok (.invokespecial 143, 3) := by decide +kernel
theorem dX11_breakChip_23 : decode cX11_breakChip 23 = .ok (.athrow, 1) := by decide +kernel
theorem dX11_breakChip_24 : decode cX11_breakChip 24 = .ok (.aload_n 0, 1) := by decide +kernel
theorem dX11_breakChip_25 : decode cX11_breakChip 25 = .ok (.getfield 71, 3) := by decide +kernel
theorem dX11_breakChip_28 : decode cX11_breakChip 28 = .ok (.iload_n 1, 1) := by decide +kernel
theorem dX11_breakChip_29 : decode cX11_breakChip 29 = .ok (.invokevirtual 432, 3) := by decide +kernel
theorem dX11_breakChip_32 : decode cX11_breakChip 32 = .ok (.ireturn, 1) := by decide +kernel
theorem dX11_bridge_0 : decode cX11_bridge 0 = .ok (.iload_n 1, 1) := by decide +kernel
theorem dX11_bridge_1 : decode cX11_bridge 1 = .ok (.bipush 119, 2) := by decide +kernel
theorem dX11_bridge_3 : decode cX11_bridge 3 = .ok (.if_icmp .eq 23, 3) := by decide +kernel
theorem dX11_bridge_6 : decode cX11_bridge 6 = .ok (.iload_n 1, 1) := by decide +kernel
theorem dX11_bridge_7 : decode cX11_bridge 7 = .ok (.bipush 117, 2) := by decide +kernel
theorem dX11_bridge_9 : decode cX11_bridge 9 = .ok (.if_icmp .eq 17, 3) := by decide +kernel
theorem dX11_bridge_12 : decode cX11_bridge 12 = .ok (.iload_n 1, 1) := by decide +kernel
theorem dX11_bridge_13 : decode cX11_bridge 13 = .ok (.bipush 100, 2) := by decide +kernel
theorem dX11_bridge_15 : decode cX11_bridge 15 = .ok (.if_icmp .eq 11, 3) := by decide +kernel
theorem dX11_bridge_18 : decode cX11_bridge 18 = .ok (.new 114, 3) := by decide +kernel
theorem dX11_bridge_21 : decode cX11_bridge 21 = .ok (.dup, 1) := by decide +kernel
theorem dX11_bridge_22 : decode cX11_bridge 22 = .ok (.invokespecial 116, 3) := by decide +kernel
theorem dX11_bridge_25 : decode cX11_bridge 25 = .ok (.athrow, 1) := by decide +kernel
theorem dX11_bridge_26 : decode cX11_bridge 26 = .ok (.aload_n 0, 1) := by decide +kernel
theorem dX11_bridge_27 : decode cX11_bridge 27 = .ok (.iload_n 2, 1) := by decide +kernel
theorem dX11_bridge_28 : decode cX11_bridge 28 = .ok (.invokevirtual 149, 3) := by decide +kernel
theorem dX11_bridge_31 : decode cX11_bridge 31 = .ok (.aload_n 0, 1) := by decide +kernel
theorem dX11_bridge_32 : decode cX11_bridge 32 = .ok (.iload_n 3, 1) := by decide +kernel
theorem dX11_bridge_33 : decode cX11_bridge 33 = .ok (.invokevirtual 149, 3) := by decide +kernel
theorem dX11_bridge_36 : decode cX11_bridge 36 = .ok (.aload_n 0, 1) := by decide +kernel
theorem dX11_bridge_37 : decode cX11_bridge 37 = .ok (.invokevirtual 177, 3) := by decide +kernel
theorem dX11_bridge_40 : decode cX11_bridge 40 = .ok (.aload_n 0, 1) := by decide +kernel
theorem dX11_bridge_41 : decode cX11_bridge 41 = .ok (.getfield 10, 3) := by decide +kernel
theorem dX11_bridge_44 : decode cX11_bridge 44 = .ok (.iload_n 2, 1) := by decide +kernel
theorem dX11_bridge_45 : decode cX11_bridge 45 = .ok (.iload_n 3, 1) := by decide +kernel
theorem dX11_bridge_46 : decode cX11_bridge 46 = .ok (.invokevirtual 228, 3) := by decide +kernel
theorem dX11_bridge_49 : decode cX11_bridge 49 = .ok (.ifCond .ne 15, 3) := by decide +kernel
theorem dX11_bridge_52 : decode cX11_bridge 52 = .ok (.aload_n 0, 1) := by decide +kernel
theorem dX11_bridge_53 : decode cX11_bridge 53 = .ok (.getfield 10, 3) := by decide +kernel
theorem dX11_bridge_56 : decode cX11_bridge 56 = .ok (.iload_n 3, 1) := by decide +kernel
theorem dX11_bridge_57 : decode cX11_bridge 57 = .ok (.iload_n 2, 1) := by decide +kernel
theorem dX11_bridge_58 : decode cX11_bridge 58 = .ok (.invokevirtual 228, 3) := by decide +kernel
theorem dX11_bridge_61 : decode cX11_bridge 61 = .ok (.ifCond .eq 11, 3) := by decide +kernel
theorem dX11_bridge_64 : decode cX11_bridge 64 = .ok (.new 125, 3) := by decide +kernel
theorem dX11_bridge_67 : decode cX11_bridge 67 = .ok (.dup, 1) := by decide +kernel
theorem dX11_bridge_68 : decode cX11_bridge 68 = .ok (.invokespecial 127, 3) := by decide +kernel
theorem dX11_bridge_71 : decode cX11_bridge 71 = .ok (.athrow, 1) := by decide +kernel
theorem dX11_bridge_72 : decode cX11_bridge 72 = .ok (.aload_n 0, 1) := by decide +kernel
theorem dX11_bridge_73 : decode cX11_bridge 73 = .ok (.getfield 21, 3) := by decide +kernel
theorem dX11_bridge_76 : decode cX11_bridge 76 = .ok (.getfield 232, 3) := by decide +kernel
theorem dX11_bridge_79 : decode cX11_bridge 79 = .ok (.bipush 8, 2) := by decide +kernel
theorem dX11_bridge_81 : decode cX11_bridge 81 = .ok (.if_icmp .lt 11, 3) := by decide +kernel
theorem dX11_bridge_84 : decode cX11_bridge 84 = .ok (.new 141, 3) := by decide +kernel
theorem dX11_bridge_87 : decode cX11_bridge 87 = .ok (.dup, 1) := by decide +kernel
theorem dX11_bridge_88 : decode cX11_bridge 88 = .ok (.invokespecial 143, 3) := by decide +kernel
theorem dX11_bridge_91 : decode cX11_bridge 91 = .ok (.athrow, 1) := by decide +kernel
theorem dX11_bridge_92 : decode cX11_bridge 92 = .ok (.aload_n 0, 1) := by decide +kernel
theorem dX11_bridge_93 : decode cX11_bridge 93 = .ok (.getfield 21, 3) := by decide +kernel
theorem dX11_bridge_96 : decode cX11_bridge 96 = .ok (.iload_n 1, 1) := by decide +kernel
theorem dX11_bridge_97 : decode cX11_bridge 97 = .ok (.iload_n 2, 1) := by decide +kernel
theorem dX11_bridge_98 : decode cX11_bridge 98 = .ok (.iload_n 3, 1) := by decide +kernel
theorem dX11_bridge_99 : decode cX11_bridge 99 = .ok (.invokevirtual 235, 3) := by decide +kernel
theorem dX11_bridge_102 : decode cX11_bridge 102 = .ok (.ireturn, 1) := by decide +kernel
theorem dX11_candidate_0 : decode cX11_candidate 0 = .ok (.aload_n 0, 1) := by decide +kernel
theorem dX11_candidate_1 : decode cX11_candidate 1 = .ok (.getfield 71, 3) := by decide +kernel
theorem dX11_candidate_4 : decode cX11_candidate 4 = .ok (.invokevirtual 438, 3) := by decide +kernel
theorem dX11_candidate_7 : decode cX11_candidate 7 = .ok (.aload_n 0, 1) := by decide +kernel
theorem dX11_candidate_8 : decode cX11_candidate 8 = .ok (.getfield 71, 3) := by decide +kernel
theorem dX11_candidate_11 : decode cX11_candidate 11 = .ok (.iload_n 1, 1) := by decide +kernel
theorem dX11_candidate_12 : decode cX11_candidate 12 = .ok (.invokevirtual 441, 3) := by decide +kernel
theorem dX11_candidate_15 : decode cX11_candidate 15 = .ok (.istore_n 2, 1) := by decide +kernel
theorem dX11_candidate_16 : decode cX11_candidate 16 = .ok (.iload_n 2, 1) := by decide +kernel
theorem dX11_candidate_17 : decode cX11_candidate 17 = .ok (.ifCond .ge 11, 3) := by decide +kernel
theorem dX11_candidate_20 : decode cX11_candidate 20 = .ok (.new 310, 3) := by decide +kernel
theorem dX11_candidate_23 : decode cX11_candidate 23 = .ok (.dup, 1) := by decide +kernel
theorem dX11_candidate_24 : decode cX11_candidate 24 = .ok (.invokespecial 312, 3) := by decide +kernel
theorem dX11_candidate_27 : decode cX11_candidate 27 = .ok (.athrow, 1) := by decide +kernel
theorem dX11_candidate_28 : decode cX11_candidate 28 = .ok (.iload_n 2, 1) := by decide +kernel
theorem dX11_candidate_29 : decode cX11_candidate 29 = .ok (.ireturn, 1) := by decide +kernel
theorem dX11_cell_0 : decode cX11_cell 0 = .ok (.aload_n 0, 1) := by decide +kernel
theorem dX11_cell_1 : decode cX11_cell 1 = .ok (.iconst 1, 1) := by decide +kernel
theorem dX11_cell_2 : decode cX11_cell 2 = .ok (.invokevirtual 131, 3) := by decide +kernel
theorem dX11_cell_5 : decode cX11_cell 5 = .ok (.ireturn, 1) := by decide +kernel
theorem dX11_chance_0 : decode cX11_chance 0 = .ok (.iload_n 1, 1) := by decide +kernel
theorem dX11_chance_1 : decode cX11_chance 1 = .ok (.iconst 0, 1) := by decide +kernel
theorem dX11_chance_2 : decode cX11_chance 2 = .ok (.ldc_w 399, 3) := by decide +kernel
theorem dX11_chance_5 : decode cX11_chance 5 = .ok (.invokestatic 361, 3) := by decide +kernel
theorem dX11_chance_8 : decode cX11_chance 8 = .ok (.iload_n 2, 1) := by decide +kernel
theorem dX11_chance_9 : decode cX11_chance 9 = .ok (.iconst 1, 1) := by decide +kernel
theorem dX11_chance_10 : decode cX11_chance 10 = .ok (.sipush 200, 3) := by decide +kernel
theorem dX11_chance_13 : decode cX11_chance 13 = .ok (.invokestatic 361, 3) := by decide +kernel
theorem dX11_chance_16 : decode cX11_chance 16 = .ok (.aload_n 0, 1) := by decide +kernel
theorem dX11_chance_17 : decode cX11_chance 17 = .ok (.invokevirtual 177, 3) := by decide +kernel
theorem dX11_chance_20 : decode cX11_chance 20 = .ok (.aload_n 0, 1) := by decide +kernel
theorem dX11_chance_21 : decode cX11_chance 21 = .ok (.getfield 37, 3) := by decide +kernel
theorem dX11_chance_24 : decode cX11_chance 24 = .ok (.getfield 280, 3) := by decide +kernel
theorem dX11_chance_27 : decode cX11_chance 27 = .ok (.lconst 0, 1) := by decide +kernel
theorem dX11_chance_28 : decode cX11_chance 28 = .ok (.invokestatic 284, 3) := by decide +kernel
theorem dX11_chance_31 : decode cX11_chance 31 = .ok (.iload_n 1, 1) := by decide +kernel
theorem dX11_chance_32 : decode cX11_chance 32 = .ok (.aload_n 0, 1) := by decide +kernel
theorem dX11_chance_33 : decode cX11_chance 33 = .ok (.getfield 62, 3) := by decide +kernel
theorem dX11_chance_36 : decode cX11_chance 36 = .ok (.invokevirtual 400, 3) := by decide +kernel
theorem dX11_chance_39 : decode cX11_chance 39 = .ok (.iand, 1) := by decide +kernel
theorem dX11_chance_40 : decode cX11_chance 40 = .ok (.istore_n 3, 1) := by decide +kernel
theorem dX11_chance_41 : decode cX11_chance 41 = .ok (.iconst 0, 1) := by decide +kernel
theorem dX11_chance_42 : decode cX11_chance 42 = .ok (.istore 4, 2) := by decide +kernel
theorem dX11_chance_44 : decode cX11_chance 44 = .ok (.iload 4, 2) := by decide +kernel
theorem dX11_chance_46 : decode cX11_chance 46 = .ok (.iload_n 2, 1) := by decide +kernel
theorem dX11_chance_47 : decode cX11_chance 47 = .ok (.if_icmp .ge 86, 3) := by decide +kernel
theorem dX11_chance_50 : decode cX11_chance 50 = .ok (.aload_n 0, 1) := by decide +kernel
theorem dX11_chance_51 : decode cX11_chance 51 = .ok (.iload_n 3, 1) := by decide +kernel
theorem dX11_chance_52 : decode cX11_chance 52 = .ok (.bipush 64, 2) := by decide +kernel
theorem dX11_chance_54 : decode cX11_chance 54 = .ok (.iload_n 2, 1) := by decide +kernel
theorem dX11_chance_55 : decode cX11_chance 55 = .ok (.iload 4, 2) := by decide +kernel
theorem dX11_chance_57 : decode cX11_chance 57 = .ok (.isub, 1) := by decide +kernel
theorem dX11_chance_58 : decode cX11_chance 58 = .ok (.invokestatic 403, 3) := by decide +kernel
theorem dX11_chance_61 : decode cX11_chance 61 = .ok (.invokevirtual 408, 3) := by decide +kernel
theorem dX11_chance_64 : decode cX11_chance 64 = .ok (.istore_n 3, 1) := by decide +kernel
theorem dX11_chance_65 : decode cX11_chance 65 = .ok (.aload_n 0, 1) := by decide +kernel
theorem dX11_chance_66 : decode cX11_chance 66 = .ok (.getfield 37, 3) := by decide +kernel
theorem dX11_chance_69 : decode cX11_chance 69 = .ok (.invokevirtual 381, 3) := by decide +kernel
theorem dX11_chance_72 : decode cX11_chance 72 = .ok (.iconst 0, 1) := by decide +kernel
theorem dX11_chance_73 : decode cX11_chance 73 = .ok (.istore 5, 2) := by decide +kernel
theorem dX11_chance_75 : decode cX11_chance 75 = .ok (.iload 5, 2) := by decide +kernel
theorem dX11_chance_77 : decode cX11_chance 77 = .ok (.aload_n 0, 1) := by decide +kernel
theorem dX11_chance_78 : decode cX11_chance 78 = .ok (.getfield 21, 3) := by decide +kernel
theorem dX11_chance_81 : decode cX11_chance 81 = .ok (.getfield 111, 3) := by decide +kernel
theorem dX11_chance_84 : decode cX11_chance 84 = .ok (.if_icmp .ge 43, 3) := by decide +kernel
theorem dX11_chance_87 : decode cX11_chance 87 = .ok (.aload_n 0, 1) := by decide +kernel
theorem dX11_chance_88 : decode cX11_chance 88 = .ok (.getfield 21, 3) := by decide +kernel
theorem dX11_chance_91 : decode cX11_chance 91 = .ok (.iload 5, 2) := by decide +kernel
theorem dX11_chance_93 : decode cX11_chance 93 = .ok (.invokevirtual 294, 3) := by decide +kernel
theorem dX11_chance_96 : decode cX11_chance 96 = .ok (.ifCond .eq 25, 3) := by decide +kernel
theorem dX11_chance_99 : decode cX11_chance 99 = .ok (.aload_n 0, 1) := by decide +kernel
theorem dX11_chance_100 : decode cX11_chance 100 = .ok (.getfield 37, 3) := by decide +kernel
theorem dX11_chance_103 : decode cX11_chance 103 = .ok (.getfield 280, 3) := by decide +kernel
theorem dX11_chance_106 : decode cX11_chance 106 = .ok (.iload 5, 2) := by decide +kernel
theorem dX11_chance_108 : decode cX11_chance 108 = .ok (.dup2, 1) := by decide +kernel
theorem dX11_chance_109 : decode cX11_chance 109 = .ok (.laload, 1) := by decide +kernel
theorem dX11_chance_110 : decode cX11_chance 110 = .ok (.aload_n 0, 1) := by decide +kernel
theorem dX11_chance_111 : decode cX11_chance 111 = .ok (.getfield 37, 3) := by decide +kernel
theorem dX11_chance_114 : decode cX11_chance 114 = .ok (.iload 5, 2) := by decide +kernel
theorem dX11_chance_116 : decode cX11_chance 116 = .ok (.invokevirtual 383, 3) := by decide +kernel
theorem dX11_chance_119 : decode cX11_chance 119 = .ok (.lor, 1) := by decide +kernel
theorem dX11_chance_120 : decode cX11_chance 120 = .ok (.lastore, 1) := by decide +kernel
theorem dX11_chance_121 : decode cX11_chance 121 = .ok (.iinc 5 1, 3) := by decide +kernel
theorem dX11_chance_124 : decode cX11_chance 124 = .ok (.goto (-49), 3) := by decide +kernel
theorem dX11_chance_127 : decode cX11_chance 127 = .ok (.iinc 4 64, 3) := by decide +kernel
theorem dX11_chance_130 : decode cX11_chance 130 = .ok (.goto (-86), 3) := by decide +kernel
theorem dX11_chance_133 : decode cX11_chance 133 = .ok (.aload_n 0, 1) := by decide +kernel
theorem dX11_chance_134 : decode cX11_chance 134 = .ok (.invokevirtual 273, 3) := by decide +kernel
theorem dX11_chance_137 : decode cX11_chance 137 = .ok (.ireturn, 1) := by decide +kernel
theorem dX11_classes_0 : decode cX11_classes 0 = .ok (.aload_n 0, 1) := by decide +kernel
theorem dX11_classes_1 : decode cX11_classes 1 = .ok (.getfield 21, 3) := by decide +kernel
theorem dX11_classes_4 : decode cX11_classes 4 = .ok (.invokevirtual 225, 3) := by decide +kernel
theorem dX11_classes_7 : decode cX11_classes 7 = .ok (.ireturn, 1) := by decide +kernel
theorem dX11_close_0 : decode cX11_close 0 = .ok (.aload_n 0, 1) := by decide +kernel
theorem dX11_close_1 : decode cX11_close 1 = .ok (.invokevirtual 135, 3) := by decide +kernel
theorem dX11_close_4 : decode cX11_close 4 = .ok (.aload_n 0, 1) := by decide +kernel
theorem dX11_close_5 : decode cX11_close 5 = .ok (.getfield 10, 3) := by decide +kernel
theorem dX11_close_8 : decode cX11_close 8 = .ok (.invokevirtual 167, 3) := by decide +kernel
theorem dX11_close_11 : decode cX11_close 11 = .ok (.ifCond .ne 11, 3) := by decide +kernel
theorem dX11_close_14 : decode cX11_close 14 = .ok (.new 125, 3) := by decide +kernel
theorem dX11_close_17 : decode cX11_close 17 = .ok (.dup, 1) := by decide +kernel
theorem dX11_close_18 : decode cX11_close 18 = .ok (.invokespecial 127, 3) := by decide +kernel
theorem dX11_close_21 : decode cX11_close 21 = .ok (.athrow, 1) := by decide +kernel
theorem dX11_close_22 : decode cX11_close 22 = .ok (.aload_n 0, 1) := by decide +kernel
theorem dX11_close_23 : decode cX11_close 23 = .ok (.getfield 10, 3) := by decide +kernel
theorem dX11_close_26 : decode cX11_close 26 = .ok (.invokevirtual 171, 3) := by decide +kernel
theorem dX11_close_29 : decode cX11_close 29 = .ok (.aload_n 0, 1) := by decide +kernel
theorem dX11_close_30 : decode cX11_close 30 = .ok (.getfield 21, 3) := by decide +kernel
theorem dX11_close_33 : decode cX11_close 33 = .ok (.invokevirtual 174, 3) := by decide +kernel
theorem dX11_close_36 : decode cX11_close 36 = .ok (.aload_n 0, 1) := by decide +kernel
theorem dX11_close_37 : decode cX11_close 37 = .ok (.getfield 21, 3) := by decide +kernel
theorem dX11_close_40 : decode cX11_close 40 = .ok (.getfield 111, 3) := by decide +kernel
theorem dX11_close_43 : decode cX11_close 43 = .ok (.ireturn, 1) := by decide +kernel
theorem dX11_core_0 : decode cX11_core 0 = .ok (.iload_n 1, 1) := by decide +kernel
theorem dX11_core_1 : decode cX11_core 1 = .ok (.iconst 1, 1) := by decide +kernel
theorem dX11_core_2 : decode cX11_core 2 = .ok (.sipush 999, 3) := by decide +kernel
theorem dX11_core_5 : decode cX11_core 5 = .ok (.invokestatic 361, 3) := by decide +kernel
theorem dX11_core_8 : decode cX11_core 8 = .ok (.iload_n 2, 1) := by decide +kernel
theorem dX11_core_9 : decode cX11_core 9 = .ok (.iconst 1, 1) := by decide +kernel
theorem dX11_core_10 : decode cX11_core 10 = .ok (.bipush 64, 2) := by decide +kernel
theorem dX11_core_12 : decode cX11_core 12 = .ok (.invokestatic 361, 3) := by decide +kernel
theorem dX11_core_15 : decode cX11_core 15 = .ok (.iload_n 3, 1) := by decide +kernel
theorem dX11_core_16 : decode cX11_core 16 = .ok (.iconst 0, 1) := by decide +kernel
theorem dX11_core_17 : decode cX11_core 17 = .ok (.sipush 999, 3) := by decide +kernel
theorem dX11_core_20 : decode cX11_core 20 = .ok (.invokestatic 361, 3) := by decide +kernel
theorem dX11_core_23 : decode cX11_core 23 = .ok (.aload_n 0, 1) := by decide +kernel
theorem dX11_core_24 : decode cX11_core 24 = .ok (.getfield 92, 3) := by decide +kernel
theorem dX11_core_27 : decode cX11_core 27 = .ok (.getfield 535, 3) := by decide +kernel
theorem dX11_core_30 : decode cX11_core 30 = .ok (.bipush 6, 2) := by decide +kernel
theorem dX11_core_32 : decode cX11_core 32 = .ok (.if_icmp .lt 11, 3) := by decide +kernel
theorem dX11_core_35 : decode cX11_core 35 = .ok (.new 141, 3) := by decide +kernel
theorem dX11_core_38 : decode cX11_core 38 = .ok (.dup, 1) := by decide +kernel
theorem dX11_core_39 : decode cX11_core 39 = .ok (.invokespecial 143, 3) := by decide +kernel
theorem dX11_core_42 : decode cX11_core 42 = .ok (.athrow, 1) := by decide +kernel
theorem dX11_core_43 : decode cX11_core 43 = .ok (.aload_n 0, 1) := by decide +kernel
theorem dX11_core_44 : decode cX11_core 44 = .ok (.getfield 92, 3) := by decide +kernel
theorem dX11_core_47 : decode cX11_core 47 = .ok (.iload_n 1, 1) := by decide +kernel
theorem dX11_core_48 : decode cX11_core 48 = .ok (.iload_n 2, 1) := by decide +kernel
theorem dX11_core_49 : decode cX11_core 49 = .ok (.iload_n 3, 1) := by decide +kernel
theorem dX11_core_50 : decode cX11_core 50 = .ok (.invokevirtual 536, 3) := by decide +kernel
theorem dX11_core_53 : decode cX11_core 53 = .ok (.ireturn, 1) := by decide +kernel
theorem dX11_coverage_0 : decode cX11_coverage 0 = .ok (.aload_n 0, 1) := by decide +kernel
theorem dX11_coverage_1 : decode cX11_coverage 1 = .ok (.iload_n 1, 1) := by decide +kernel
theorem dX11_coverage_2 : decode cX11_coverage 2 = .ok (.invokevirtual 244, 3) := by decide +kernel
theorem dX11_coverage_5 : decode cX11_coverage 5 = .ok (.aload_n 0, 1) := by decide +kernel
theorem dX11_coverage_6 : decode cX11_coverage 6 = .ok (.getfield 21, 3) := by decide +kernel
theorem dX11_coverage_9 : decode cX11_coverage 9 = .ok (.invokevirtual 225, 3) := by decide +kernel
theorem dX11_coverage_12 : decode cX11_coverage 12 = .ok (.istore_n 2, 1) := by decide +kernel
theorem dX11_coverage_13 : decode cX11_coverage 13 = .ok (.iload_n 2, 1) := by decide +kernel
theorem dX11_coverage_14 : decode cX11_coverage 14 = .ok (.ifCond .ne 11, 3) := by decide +kernel
theorem dX11_coverage_17 : decode cX11_coverage 17 = .ok (.new 267, 3) := by decide +kernel
theorem dX11_coverage_20 : decode cX11_coverage 20 = .ok (.dup, 1) := by decide +kernel
theorem dX11_coverage_21 : decode cX11_coverage 21 = .ok (.invokespecial 269, 3) := by decide +kernel
theorem dX11_coverage_24 : decode cX11_coverage 24 = .ok (.athrow, 1) := by decide +kernel
theorem dX11_coverage_25 : decode cX11_coverage 25 = .ok (.aload_n 0, 1) := by decide +kernel
theorem dX11_coverage_26 : decode cX11_coverage 26 = .ok (.iload_n 1, 1) := by decide +kernel
theorem dX11_coverage_27 : decode cX11_coverage 27 = .ok (.invokevirtual 270, 3) := by decide +kernel
theorem dX11_coverage_30 : decode cX11_coverage 30 = .ok (.aload_n 0, 1) := by decide +kernel
theorem dX11_coverage_31 : decode cX11_coverage 31 = .ok (.invokevirtual 273, 3) := by decide +kernel
theorem dX11_coverage_34 : decode cX11_coverage 34 = .ok (.i2f, 1) := by decide +kernel
theorem dX11_coverage_35 : decode cX11_coverage 35 = .ok (.iload_n 2, 1) := by decide +kernel
theorem dX11_coverage_36 : decode cX11_coverage 36 = .ok (.i2f, 1) := by decide +kernel
theorem dX11_coverage_37 : decode cX11_coverage 37 = .ok (.fdiv, 1) := by decide +kernel
theorem dX11_coverage_38 : decode cX11_coverage 38 = .ok (.freturn, 1) := by decide +kernel
theorem dX11_cycles_0 : decode cX11_cycles 0 = .ok (.aload_n 0, 1) := by decide +kernel
theorem dX11_cycles_1 : decode cX11_cycles 1 = .ok (.getfield 10, 3) := by decide +kernel
theorem dX11_cycles_4 : decode cX11_cycles 4 = .ok (.getfield 453, 3) := by decide +kernel
theorem dX11_cycles_7 : decode cX11_cycles 7 = .ok (.iconst 1, 1) := by decide +kernel
theorem dX11_cycles_8 : decode cX11_cycles 8 = .ok (.iadd, 1) := by decide +kernel
theorem dX11_cycles_9 : decode cX11_cycles 9 = .ok (.aload_n 0, 1) := by decide +kernel
theorem dX11_cycles_10 : decode cX11_cycles 10 = .ok (.getfield 28, 3) := by decide +kernel
theorem dX11_cycles_13 : decode cX11_cycles 13 = .ok (.getfield 103, 3) := by decide +kernel
theorem dX11_cycles_16 : decode cX11_cycles 16 = .ok (.imul, 1) := by decide +kernel
theorem dX11_cycles_17 : decode cX11_cycles 17 = .ok (.aload_n 0, 1) := by decide +kernel
theorem dX11_cycles_18 : decode cX11_cycles 18 = .ok (.getfield 10, 3) := by decide +kernel
theorem dX11_cycles_21 : decode cX11_cycles 21 = .ok (.getfield 453, 3) := by decide +kernel
theorem dX11_cycles_24 : decode cX11_cycles 24 = .ok (.iadd, 1) := by decide +kernel
theorem dX11_cycles_25 : decode cX11_cycles 25 = .ok (.ireturn, 1) := by decide +kernel
theorem dX11_data_0 : decode cX11_data 0 = .ok (.aload_n 0, 1) := by decide +kernel
theorem dX11_data_1 : decode cX11_data 1 = .ok (.iload_n 1, 1) := by decide +kernel
theorem dX11_data_2 : decode cX11_data 2 = .ok (.invokevirtual 149, 3) := by decide +kernel
theorem dX11_data_5 : decode cX11_data 5 = .ok (.aload_n 0, 1) := by decide +kernel
theorem dX11_data_6 : decode cX11_data 6 = .ok (.iload_n 2, 1) := by decide +kernel
theorem dX11_data_7 : decode cX11_data 7 = .ok (.invokevirtual 149, 3) := by decide +kernel
theorem dX11_data_10 : decode cX11_data 10 = .ok (.aload_n 0, 1) := by decide +kernel
theorem dX11_data_11 : decode cX11_data 11 = .ok (.invokevirtual 135, 3) := by decide +kernel
theorem dX11_data_14 : decode cX11_data 14 = .ok (.aload_n 0, 1) := by decide +kernel
theorem dX11_data_15 : decode cX11_data 15 = .ok (.getfield 10, 3) := by decide +kernel
theorem dX11_data_18 : decode cX11_data 18 = .ok (.getfield 156, 3) := by decide +kernel
theorem dX11_data_21 : decode cX11_data 21 = .ok (.iload_n 1, 1) := by decide +kernel
theorem dX11_data_22 : decode cX11_data 22 = .ok (.caload, 1) := by decide +kernel
theorem dX11_data_23 : decode cX11_data 23 = .ok (.bipush 102, 2) := by decide +kernel
theorem dX11_data_25 : decode cX11_data 25 = .ok (.if_icmp .eq 11, 3) := by decide +kernel
theorem dX11_data_28 : decode cX11_data 28 = .ok (.new 125, 3) := by decide +kernel
theorem dX11_data_31 : decode cX11_data 31 = .ok (.dup, 1) := by decide +kernel
theorem dX11_data_32 : decode cX11_data 32 = .ok (.invokespecial 127, 3) := by decide +kernel
theorem dX11_data_35 : decode cX11_data 35 = .ok (.athrow, 1) := by decide +kernel
theorem dX11_data_36 : decode cX11_data 36 = .ok (.aload_n 0, 1) := by decide +kernel
theorem dX11_data_37 : decode cX11_data 37 = .ok (.getfield 10, 3) := by decide +kernel
theorem dX11_data_40 : decode cX11_data 40 = .ok (.getfield 159, 3) := by decide +kernel
theorem dX11_data_43 : decode cX11_data 43 = .ok (.iload_n 1, 1) := by decide +kernel
theorem dX11_data_44 : decode cX11_data 44 = .ok (.iaload, 1) := by decide +kernel
theorem dX11_data_45 : decode cX11_data 45 = .ok (.istore_n 3, 1) := by decide +kernel
theorem dX11_data_46 : decode cX11_data 46 = .ok (.aload_n 0, 1) := by decide +kernel
theorem dX11_data_47 : decode cX11_data 47 = .ok (.getfield 10, 3) := by decide +kernel
theorem dX11_data_50 : decode cX11_data 50 = .ok (.getfield 159, 3) := by decide +kernel
theorem dX11_data_53 : decode cX11_data 53 = .ok (.iload_n 1, 1) := by decide +kernel
theorem dX11_data_54 : decode cX11_data 54 = .ok (.iload_n 2, 1) := by decide +kernel
theorem dX11_data_55 : decode cX11_data 55 = .ok (.iastore, 1) := by decide +kernel
theorem dX11_data_56 : decode cX11_data 56 = .ok (.iload_n 3, 1) := by decide +kernel
theorem dX11_data_57 : decode cX11_data 57 = .ok (.ireturn, 1) := by decide +kernel
theorem dX11_doEnginesAgree_0 : decode cX11_doEnginesAgree 0 = .ok (.iconst 0, 1) := by decide +kernel
theorem dX11_doEnginesAgree_1 : decode cX11_doEnginesAgree 1 = .ok (.istore_n 1, 1) := by decide +kernel
theorem dX11_doEnginesAgree_2 : decode cX11_doEnginesAgree 2 = .ok (.iload_n 1, 1) := by decide +kernel
theorem dX11_doEnginesAgree_3 : decode cX11_doEnginesAgree 3 = .ok (.aload_n 0, 1) := by decide +kernel
theorem dX11_doEnginesAgree_4 : decode cX11_doEnginesAgree 4 = .ok (.getfield 28, 3) := by decide +kernel
theorem dX11_doEnginesAgree_7 : decode cX11_doEnginesAgree 7 = .ok (.getfield 103, 3) := by decide +kernel
theorem dX11_doEnginesAgree_10 : decode cX11_doEnginesAgree 10 = .ok (.if_icmp .ge 27, 3) := by decide +kernel
theorem dX11_doEnginesAgree_13 : decode cX11_doEnginesAgree 13 = .ok (.aload_n 0, 1) := by decide +kernel
theorem dX11_doEnginesAgree_14 : decode cX11_doEnginesAgree 14 = .ok (.iload_n 1, 1) := by decide +kernel
theorem dX11_doEnginesAgree_15 : decode cX11_doEnginesAgree 15 = .ok (.invokevirtual 259, 3) := by decide +kernel
theorem dX11_doEnginesAgree_18 : decode cX11_doEnginesAgree 18 = .ok (.ifCond .eq 13, 3) := by decide +kernel
theorem dX11_doEnginesAgree_21 : decode cX11_doEnginesAgree 21 = .ok (.aload_n 0, 1) := by decide +kernel
theorem dX11_doEnginesAgree_22 : decode cX11_doEnginesAgree 22 = .ok (.iload_n 1, 1) := by decide +kernel
theorem dX11_doEnginesAgree_23 : decode cX11_doEnginesAgree 23 = .ok (.invokevirtual 562, 3) := by decide +kernel
theorem dX11_doEnginesAgree_26 : decode cX11_doEnginesAgree 26 = .ok (.ifCond .ne 5, 3) := by decide +kernel
theorem dX11_doEnginesAgree_29 : decode cX11_doEnginesAgree 29 = .ok (.iconst 0, 1) := by decide +kernel
theorem dX11_doEnginesAgree_30 : decode cX11_doEnginesAgree 30 = .ok (.ireturn, 1) := by decide +kernel
theorem dX11_doEnginesAgree_31 : decode cX11_doEnginesAgree 31 = .ok (.iinc 1 1, 3) := by decide +kernel
theorem dX11_doEnginesAgree_34 : decode cX11_doEnginesAgree 34 = .ok (.goto (-32), 3) := by decide +kernel
theorem dX11_doEnginesAgree_37 : decode cX11_doEnginesAgree 37 = .ok (.iconst 1, 1) := by decide +kernel
theorem dX11_doEnginesAgree_38 : decode cX11_doEnginesAgree 38 = .ok (.ireturn, 1) := by decide +kernel
theorem dX11_eraseMarch_0 : decode cX11_eraseMarch 0 = .ok (.aload_n 0, 1) := by decide +kernel
theorem dX11_eraseMarch_1 : decode cX11_eraseMarch 1 = .ok (.getfield 78, 3) := by decide +kernel
theorem dX11_eraseMarch_4 : decode cX11_eraseMarch 4 = .ok (.getfield 482, 3) := by decide +kernel
theorem dX11_eraseMarch_7 : decode cX11_eraseMarch 7 = .ok (.istore_n 1, 1) := by decide +kernel
theorem dX11_eraseMarch_8 : decode cX11_eraseMarch 8 = .ok (.aload_n 0, 1) := by decide +kernel
theorem dX11_eraseMarch_9 : decode cX11_eraseMarch 9 = .ok (.getfield 78, 3) := by decide +kernel
theorem dX11_eraseMarch_12 : decode cX11_eraseMarch 12 = .ok (.iconst 0, 1) := by decide +kernel
theorem dX11_eraseMarch_13 : decode cX11_eraseMarch 13 = .ok (.putfield 482, 3) := by decide +kernel
theorem dX11_eraseMarch_16 : decode cX11_eraseMarch 16 = .ok (.iload_n 1, 1) := by decide +kernel
theorem dX11_eraseMarch_17 : decode cX11_eraseMarch 17 = .ok (.ireturn, 1) := by decide +kernel
theorem dX11_escapes_0 : decode cX11_escapes 0 = .ok (.iload_n 1, 1) := by decide +kernel
theorem dX11_escapes_1 : decode cX11_escapes 1 = .ok (.iconst 0, 1) := by decide +kernel
theorem dX11_escapes_2 : decode cX11_escapes 2 = .ok (.aload_n 0, 1) := by decide +kernel
theorem dX11_escapes_3 : decode cX11_escapes 3 = .ok (.getfield 28, 3) := by decide +kernel
theorem dX11_escapes_6 : decode cX11_escapes 6 = .ok (.getfield 103, 3) := by decide +kernel
theorem dX11_escapes_9 : decode cX11_escapes 9 = .ok (.invokestatic 361, 3) := by decide +kernel
theorem dX11_escapes_12 : decode cX11_escapes 12 = .ok (.aload_n 0, 1) := by decide +kernel
theorem dX11_escapes_13 : decode cX11_escapes 13 = .ok (.getfield 37, 3) := by decide +kernel
theorem dX11_escapes_16 : decode cX11_escapes 16 = .ok (.aload_n 0, 1) := by decide +kernel
theorem dX11_escapes_17 : decode cX11_escapes 17 = .ok (.getfield 28, 3) := by decide +kernel
theorem dX11_escapes_20 : decode cX11_escapes 20 = .ok (.invokevirtual 276, 3) := by decide +kernel
theorem dX11_escapes_23 : decode cX11_escapes 23 = .ok (.aload_n 0, 1) := by decide +kernel
theorem dX11_escapes_24 : decode cX11_escapes 24 = .ok (.getfield 28, 3) := by decide +kernel
theorem dX11_escapes_27 : decode cX11_escapes 27 = .ok (.aload_n 0, 1) := by decide +kernel
theorem dX11_escapes_28 : decode cX11_escapes 28 = .ok (.getfield 37, 3) := by decide +kernel
theorem dX11_escapes_31 : decode cX11_escapes 31 = .ok (.aload_n 0, 1) := by decide +kernel
theorem dX11_escapes_32 : decode cX11_escapes 32 = .ok (.getfield 21, 3) := by decide +kernel
theorem dX11_escapes_35 : decode cX11_escapes 35 = .ok (.invokevirtual 471, 3) := by decide +kernel
theorem dX11_escapes_38 : decode cX11_escapes 38 = .ok (.lconst 0, 1) := by decide +kernel
theorem dX11_escapes_39 : decode cX11_escapes 39 = .ok (.lstore_n 2, 1) := by decide +kernel
theorem dX11_escapes_40 : decode cX11_escapes 40 = .ok (.iconst 0, 1) := by decide +kernel
theorem dX11_escapes_41 : decode cX11_escapes 41 = .ok (.istore 4, 2) := by decide +kernel
theorem dX11_escapes_43 : decode cX11_escapes 43 = .ok (.iload 4, 2) := by decide +kernel
theorem dX11_escapes_45 : decode cX11_escapes 45 = .ok (.iload_n 1, 1) := by decide +kernel
theorem dX11_escapes_46 : decode cX11_escapes 46 = .ok (.if_icmp .ge 24, 3) := by decide +kernel
theorem dX11_escapes_49 : decode cX11_escapes 49 = .ok (.lload_n 2, 1) := by decide +kernel
theorem dX11_escapes_50 : decode cX11_escapes 50 = .ok (.lconst 1, 1) := by decide +kernel
theorem dX11_escapes_51 : decode cX11_escapes 51 = .ok (.aload_n 0, 1) := by decide +kernel
theorem dX11_escapes_52 : decode cX11_escapes 52 = .ok (.getfield 28, 3) := by decide +kernel
theorem dX11_escapes_55 : decode cX11_escapes 55 = .ok (.getfield 475, 3) := by decide +kernel
theorem dX11_escapes_58 : decode cX11_escapes 58 = .ok (.iload 4, 2) := by decide +kernel
theorem dX11_escapes_60 : decode cX11_escapes 60 = .ok (.iaload, 1) := by decide +kernel
theorem dX11_escapes_61 : decode cX11_escapes 61 = .ok (.lshl, 1) := by decide +kernel
theorem dX11_escapes_62 : decode cX11_escapes 62 = .ok (.lor, 1) := by decide +kernel
theorem dX11_escapes_63 : decode cX11_escapes 63 = .ok (.lstore_n 2, 1) := by decide +kernel
theorem dX11_escapes_64 : decode cX11_escapes 64 = .ok (.iinc 4 1, 3) := by decide +kernel
theorem dX11_escapes_67 : decode cX11_escapes 67 = .ok (.goto (-24), 3) := by decide +kernel
theorem dX11_escapes_70 : decode cX11_escapes 70 = .ok (.iconst 0, 1) := by decide +kernel
theorem dX11_escapes_71 : decode cX11_escapes 71 = .ok (.istore 4, 2) := by decide +kernel
theorem dX11_escapes_73 : decode cX11_escapes 73 = .ok (.iconst 0, 1) := by decide +kernel
theorem dX11_escapes_74 : decode cX11_escapes 74 = .ok (.istore 5, 2) := by decide +kernel
theorem dX11_escapes_76 : decode cX11_escapes 76 = .ok (.iload 5, 2) := by decide +kernel
theorem dX11_escapes_78 : decode cX11_escapes 78 = .ok (.aload_n 0, 1) := by decide +kernel
theorem dX11_escapes_79 : decode cX11_escapes 79 = .ok (.getfield 21, 3) := by decide +kernel
theorem dX11_escapes_82 : decode cX11_escapes 82 = .ok (.getfield 111, 3) := by decide +kernel
theorem dX11_escapes_85 : decode cX11_escapes 85 = .ok (.if_icmp .ge 52, 3) := by decide +kernel
theorem dX11_escapes_88 : decode cX11_escapes 88 = .ok (.aload_n 0, 1) := by decide +kernel
theorem dX11_escapes_89 : decode cX11_escapes 89 = .ok (.getfield 21, 3) := by decide +kernel
theorem dX11_escapes_92 : decode cX11_escapes 92 = .ok (.iload 5, 2) := by decide +kernel
theorem dX11_escapes_94 : decode cX11_escapes 94 = .ok (.invokevirtual 294, 3) := by decide +kernel
theorem dX11_escapes_97 : decode cX11_escapes 97 = .ok (.ifCond .eq 34, 3) := by decide +kernel
theorem dX11_escapes_100 : decode cX11_escapes 100 = .ok (.aload_n 0, 1) := by decide +kernel
theorem dX11_escapes_101 : decode cX11_escapes 101 = .ok (.getfield 37, 3) := by decide +kernel
theorem dX11_escapes_104 : decode cX11_escapes 104 = .ok (.getfield 280, 3) := by decide +kernel
theorem dX11_escapes_107 : decode cX11_escapes 107 = .ok (.iload 5, 2) := by decide +kernel
theorem dX11_escapes_109 : decode cX11_escapes 109 = .ok (.laload, 1) := by decide +kernel
theorem dX11_escapes_110 : decode cX11_escapes 110 = .ok (.lload_n 2, 1) := by decide +kernel
theorem dX11_escapes_111 : decode cX11_escapes 111 = .ok (.land, 1) := by decide +kernel
theorem dX11_escapes_112 : decode cX11_escapes 112 = .ok (.lconst 0, 1) := by decide +kernel
theorem dX11_escapes_113 : decode cX11_escapes 113 = .ok (.lcmp, 1) := by decide +kernel
theorem dX11_escapes_114 : decode cX11_escapes 114 = .ok (.ifCond .ne 17, 3) := by decide +kernel
theorem dX11_escapes_117 : decode cX11_escapes 117 = .ok (.iload 4, 2) := by decide +kernel
theorem dX11_escapes_119 : decode cX11_escapes 119 = .ok (.aload_n 0, 1) := by decide +kernel
theorem dX11_escapes_120 : decode cX11_escapes 120 = .ok (.getfield 21, 3) := by decide +kernel
theorem dX11_escapes_123 : decode cX11_escapes 123 = .ok (.iload 5, 2) := by decide +kernel
theorem dX11_escapes_125 : decode cX11_escapes 125 = .ok (.invokevirtual 450, 3) := by decide +kernel
theorem dX11_escapes_128 : decode cX11_escapes 128 = .ok (.iadd, 1) := by decide +kernel
theorem dX11_escapes_129 : decode cX11_escapes 129 = .ok (.istore 4, 2) := by decide +kernel
theorem dX11_escapes_131 : decode cX11_escapes 131 = .ok (.iinc 5 1, 3) := by decide +kernel
theorem dX11_escapes_134 : decode cX11_escapes 134 = .ok (.goto (-58), 3) := by decide +kernel
theorem dX11_escapes_137 : decode cX11_escapes 137 = .ok (.iload 4, 2) := by decide +kernel
theorem dX11_escapes_139 : decode cX11_escapes 139 = .ok (.ireturn, 1) := by decide +kernel
theorem dX11_fails_0 : decode cX11_fails 0 = .ok (.aload_n 0, 1) := by decide +kernel
theorem dX11_fails_1 : decode cX11_fails 1 = .ok (.iload_n 1, 1) := by decide +kernel
theorem dX11_fails_2 : decode cX11_fails 2 = .ok (.invokevirtual 200, 3) := by decide +kernel
theorem dX11_fails_5 : decode cX11_fails 5 = .ok (.aload_n 0, 1) := by decide +kernel
theorem dX11_fails_6 : decode cX11_fails 6 = .ok (.getfield 71, 3) := by decide +kernel
theorem dX11_fails_9 : decode cX11_fails 9 = .ok (.iload_n 1, 1) := by decide +kernel
theorem dX11_fails_10 : decode cX11_fails 10 = .ok (.invokevirtual 435, 3) := by decide +kernel
theorem dX11_fails_13 : decode cX11_fails 13 = .ok (.lreturn, 1) := by decide +kernel
theorem dX11_faults_0 : decode cX11_faults 0 = .ok (.aload_n 0, 1) := by decide +kernel
theorem dX11_faults_1 : decode cX11_faults 1 = .ok (.getfield 21, 3) := by decide +kernel
theorem dX11_faults_4 : decode cX11_faults 4 = .ok (.getfield 106, 3) := by decide +kernel
theorem dX11_faults_7 : decode cX11_faults 7 = .ok (.ireturn, 1) := by decide +kernel
theorem dX11_faulty_0 : decode cX11_faulty 0 = .ok (.aload_n 0, 1) := by decide +kernel
theorem dX11_faulty_1 : decode cX11_faulty 1 = .ok (.iload_n 1, 1) := by decide +kernel
theorem dX11_faulty_2 : decode cX11_faulty 2 = .ok (.invokevirtual 200, 3) := by decide +kernel
theorem dX11_faulty_5 : decode cX11_faulty 5 = .ok (.aload_n 0, 1) := by decide +kernel
theorem dX11_faulty_6 : decode cX11_faulty 6 = .ok (.iload_n 2, 1) := by decide +kernel
theorem dX11_faulty_7 : decode cX11_faulty 7 = .ok (.invokevirtual 149, 3) := by decide +kernel
theorem dX11_faulty_10 : decode cX11_faulty 10 = .ok (.aload_n 0, 1) := by decide +kernel
theorem dX11_faulty_11 : decode cX11_faulty 11 = .ok (.iload_n 3, 1) := by decide +kernel
theorem dX11_faulty_12 : decode cX11_faulty 12 = .ok (.invokevirtual 107, 3) := by decide +kernel
theorem dX11_faulty_15 : decode cX11_faulty 15 = .ok (.aload_n 0, 1) := by decide +kernel
theorem dX11_faulty_16 : decode cX11_faulty 16 = .ok (.getfield 46, 3) := by decide +kernel
theorem dX11_faulty_19 : decode cX11_faulty 19 = .ok (.iload_n 3, 1) := by decide +kernel
theorem dX11_faulty_20 : decode cX11_faulty 20 = .ok (.iload_n 1, 1) := by decide +kernel
theorem dX11_faulty_21 : decode cX11_faulty 21 = .ok (.invokevirtual 209, 3) := by decide +kernel
theorem dX11_faulty_24 : decode cX11_faulty 24 = .ok (.aload_n 0, 1) := by decide +kernel
theorem dX11_faulty_25 : decode cX11_faulty 25 = .ok (.getfield 46, 3) := by decide +kernel
theorem dX11_faulty_28 : decode cX11_faulty 28 = .ok (.getfield 213, 3) := by decide +kernel
theorem dX11_faulty_31 : decode cX11_faulty 31 = .ok (.iload_n 2, 1) := by decide +kernel
theorem dX11_faulty_32 : decode cX11_faulty 32 = .ok (.iaload, 1) := by decide +kernel
theorem dX11_faulty_33 : decode cX11_faulty 33 = .ok (.ireturn, 1) := by decide +kernel
theorem dX11_fill_0 : decode cX11_fill 0 = .ok (.aload_n 0, 1) := by decide +kernel
theorem dX11_fill_1 : decode cX11_fill 1 = .ok (.iload_n 1, 1) := by decide +kernel
theorem dX11_fill_2 : decode cX11_fill 2 = .ok (.invokevirtual 200, 3) := by decide +kernel
theorem dX11_fill_5 : decode cX11_fill 5 = .ok (.iload_n 2, 1) := by decide +kernel
theorem dX11_fill_6 : decode cX11_fill 6 = .ok (.bipush 122, 2) := by decide +kernel
theorem dX11_fill_8 : decode cX11_fill 8 = .ok (.if_icmp .eq 23, 3) := by decide +kernel
theorem dX11_fill_11 : decode cX11_fill 11 = .ok (.iload_n 2, 1) := by decide +kernel
theorem dX11_fill_12 : decode cX11_fill 12 = .ok (.bipush 111, 2) := by decide +kernel
theorem dX11_fill_14 : decode cX11_fill 14 = .ok (.if_icmp .eq 17, 3) := by decide +kernel
theorem dX11_fill_17 : decode cX11_fill 17 = .ok (.iload_n 2, 1) := by decide +kernel
theorem dX11_fill_18 : decode cX11_fill 18 = .ok (.bipush 97, 2) := by decide +kernel
theorem dX11_fill_20 : decode cX11_fill 20 = .ok (.if_icmp .eq 11, 3) := by decide +kernel
theorem dX11_fill_23 : decode cX11_fill 23 = .ok (.new 114, 3) := by decide +kernel
theorem dX11_fill_26 : decode cX11_fill 26 = .ok (.dup, 1) := by decide +kernel
theorem dX11_fill_27 : decode cX11_fill 27 = .ok (.invokespecial 116, 3) := by decide +kernel
theorem dX11_fill_30 : decode cX11_fill 30 = .ok (.athrow, 1) := by decide +kernel
theorem dX11_fill_31 : decode cX11_fill 31 = .ok (.aload_n 0, 1) := by decide +kernel
theorem dX11_fill_32 : decode cX11_fill 32 = .ok (.getfield 28, 3) := by decide +kernel
theorem dX11_fill_35 : decode cX11_fill 35 = .ok (.iload_n 1, 1) := by decide +kernel
theorem dX11_fill_36 : decode cX11_fill 36 = .ok (.iload_n 2, 1) := by decide +kernel
theorem dX11_fill_37 : decode cX11_fill 37 = .ok (.aload_n 0, 1) := by decide +kernel
theorem dX11_fill_38 : decode cX11_fill 38 = .ok (.getfield 10, 3) := by decide +kernel
theorem dX11_fill_41 : decode cX11_fill 41 = .ok (.getfield 138, 3) := by decide +kernel
theorem dX11_fill_44 : decode cX11_fill 44 = .ok (.invokevirtual 351, 3) := by decide +kernel
theorem dX11_fill_47 : decode cX11_fill 47 = .ok (.ireturn, 1) := by decide +kernel
theorem dX11_finds_0 : decode cX11_finds 0 = .ok (.aload_n 0, 1) := by decide +kernel
theorem dX11_finds_1 : decode cX11_finds 1 = .ok (.iload_n 1, 1) := by decide +kernel
theorem dX11_finds_2 : decode cX11_finds 2 = .ok (.invokevirtual 107, 3) := by decide +kernel
theorem dX11_finds_5 : decode cX11_finds 5 = .ok (.aload_n 0, 1) := by decide +kernel
theorem dX11_finds_6 : decode cX11_finds 6 = .ok (.iload_n 2, 1) := by decide +kernel
theorem dX11_finds_7 : decode cX11_finds 7 = .ok (.invokevirtual 200, 3) := by decide +kernel
theorem dX11_finds_10 : decode cX11_finds 10 = .ok (.aload_n 0, 1) := by decide +kernel
theorem dX11_finds_11 : decode cX11_finds 11 = .ok (.iload_n 3, 1) := by decide +kernel
theorem dX11_finds_12 : decode cX11_finds 12 = .ok (.invokevirtual 244, 3) := by decide +kernel
theorem dX11_finds_15 : decode cX11_finds 15 = .ok (.aload_n 0, 1) := by decide +kernel
theorem dX11_finds_16 : decode cX11_finds 16 = .ok (.iload_n 3, 1) := by decide +kernel
theorem dX11_finds_17 : decode cX11_finds 17 = .ok (.iload_n 1, 1) := by decide +kernel
theorem dX11_finds_18 : decode cX11_finds 18 = .ok (.iload_n 2, 1) := by decide +kernel
theorem dX11_finds_19 : decode cX11_finds 19 = .ok (.invokevirtual 248, 3) := by decide +kernel
theorem dX11_finds_22 : decode cX11_finds 22 = .ok (.ireturn, 1) := by decide +kernel
theorem dX11_foldObserved_0 : decode cX11_foldObserved 0 = .ok (.iconst 0, 1) := by decide +kernel
theorem dX11_foldObserved_1 : decode cX11_foldObserved 1 = .ok (.istore_n 1, 1) := by decide +kernel
theorem dX11_foldObserved_2 : decode cX11_foldObserved 2 = .ok (.iconst 0, 1) := by decide +kernel
theorem dX11_foldObserved_3 : decode cX11_foldObserved 3 = .ok (.istore_n 2, 1) := by decide +kernel
theorem dX11_foldObserved_4 : decode cX11_foldObserved 4 = .ok (.iload_n 2, 1) := by decide +kernel
theorem dX11_foldObserved_5 : decode cX11_foldObserved 5 = .ok (.aload_n 0, 1) := by decide +kernel
theorem dX11_foldObserved_6 : decode cX11_foldObserved 6 = .ok (.getfield 28, 3) := by decide +kernel
theorem dX11_foldObserved_9 : decode cX11_foldObserved 9 = .ok (.getfield 103, 3) := by decide +kernel
theorem dX11_foldObserved_12 : decode cX11_foldObserved 12 = .ok (.if_icmp .ge 89, 3) := by decide +kernel
theorem dX11_foldObserved_15 : decode cX11_foldObserved 15 = .ok (.aload_n 0, 1) := by decide +kernel
theorem dX11_foldObserved_16 : decode cX11_foldObserved 16 = .ok (.getfield 62, 3) := by decide +kernel
theorem dX11_foldObserved_19 : decode cX11_foldObserved 19 = .ok (.iload_n 1, 1) := by decide +kernel
theorem dX11_foldObserved_20 : decode cX11_foldObserved 20 = .ok (.invokevirtual 390, 3) := by decide +kernel
theorem dX11_foldObserved_23 : decode cX11_foldObserved 23 = .ok (.istore_n 1, 1) := by decide +kernel
theorem dX11_foldObserved_24 : decode cX11_foldObserved 24 = .ok (.iconst 0, 1) := by decide +kernel
theorem dX11_foldObserved_25 : decode cX11_foldObserved 25 = .ok (.istore_n 3, 1) := by decide +kernel
theorem dX11_foldObserved_26 : decode cX11_foldObserved 26 = .ok (.iconst 0, 1) := by decide +kernel
theorem dX11_foldObserved_27 : decode cX11_foldObserved 27 = .ok (.istore 4, 2) := by decide +kernel
theorem dX11_foldObserved_29 : decode cX11_foldObserved 29 = .ok (.iload 4, 2) := by decide +kernel
theorem dX11_foldObserved_31 : decode cX11_foldObserved 31 = .ok (.aload_n 0, 1) := by decide +kernel
theorem dX11_foldObserved_32 : decode cX11_foldObserved 32 = .ok (.getfield 10, 3) := by decide +kernel
theorem dX11_foldObserved_35 : decode cX11_foldObserved 35 = .ok (.getfield 189, 3) := by decide +kernel
theorem dX11_foldObserved_38 : decode cX11_foldObserved 38 = .ok (.if_icmp .ge 57, 3) := by decide +kernel
theorem dX11_foldObserved_41 : decode cX11_foldObserved 41 = .ok (.iload_n 1, 1) := by decide +kernel
theorem dX11_foldObserved_42 : decode cX11_foldObserved 42 = .ok (.aload_n 0, 1) := by decide +kernel
theorem dX11_foldObserved_43 : decode cX11_foldObserved 43 = .ok (.getfield 37, 3) := by decide +kernel
theorem dX11_foldObserved_46 : decode cX11_foldObserved 46 = .ok (.aload_n 0, 1) := by decide +kernel
theorem dX11_foldObserved_47 : decode cX11_foldObserved 47 = .ok (.getfield 10, 3) := by decide +kernel
theorem dX11_foldObserved_50 : decode cX11_foldObserved 50 = .ok (.getfield 393, 3) := by decide +kernel
theorem dX11_foldObserved_53 : decode cX11_foldObserved 53 = .ok (.iload 4, 2) := by decide +kernel
theorem dX11_foldObserved_55 : decode cX11_foldObserved 55 = .ok (.iaload, 1) := by decide +kernel
theorem dX11_foldObserved_56 : decode cX11_foldObserved 56 = .ok (.invokevirtual 396, 3) := by decide +kernel
theorem dX11_foldObserved_59 : decode cX11_foldObserved 59 = .ok (.iload_n 2, 1) := by decide +kernel
theorem dX11_foldObserved_60 : decode cX11_foldObserved 60 = .ok (.lshr, 1) := by decide +kernel
theorem dX11_foldObserved_61 : decode cX11_foldObserved 61 = .ok (.lconst 1, 1) := by decide +kernel
theorem dX11_foldObserved_62 : decode cX11_foldObserved 62 = .ok (.land, 1) := by decide +kernel
theorem dX11_foldObserved_63 : decode cX11_foldObserved 63 = .ok (.l2i, 1) := by decide +kernel
theorem dX11_foldObserved_64 : decode cX11_foldObserved 64 = .ok (.iload_n 3, 1) := by decide +kernel
theorem dX11_foldObserved_65 : decode cX11_foldObserved 65 = .ok (.ishl, 1) := by decide +kernel
theorem dX11_foldObserved_66 : decode cX11_foldObserved 66 = .ok (.ixor, 1) := by decide +kernel
theorem dX11_foldObserved_67 : decode cX11_foldObserved 67 = .ok (.istore_n 1, 1) := by decide +kernel
theorem dX11_foldObserved_68 : decode cX11_foldObserved 68 = .ok (.iload_n 3, 1) := by decide +kernel
theorem dX11_foldObserved_69 : decode cX11_foldObserved 69 = .ok (.iconst 1, 1) := by decide +kernel
theorem dX11_foldObserved_70 : decode cX11_foldObserved 70 = .ok (.iadd, 1) := by decide +kernel
theorem dX11_foldObserved_71 : decode cX11_foldObserved 71 = .ok (.aload_n 0, 1) := by decide +kernel
theorem dX11_foldObserved_72 : decode cX11_foldObserved 72 = .ok (.getfield 62, 3) := by decide +kernel
theorem dX11_foldObserved_75 : decode cX11_foldObserved 75 = .ok (.getfield 365, 3) := by decide +kernel
theorem dX11_foldObserved_78 : decode cX11_foldObserved 78 = .ok (.if_icmp .ge 9, 3) := by decide +kernel
theorem dX11_foldObserved_81 : decode cX11_foldObserved 81 = .ok (.iload_n 3, 1) := by decide +kernel
theorem dX11_foldObserved_82 : decode cX11_foldObserved 82 = .ok (.iconst 1, 1) := by decide +kernel
theorem dX11_foldObserved_83 : decode cX11_foldObserved 83 = .ok (.iadd, 1) := by decide +kernel
theorem dX11_foldObserved_84 : decode cX11_foldObserved 84 = .ok (.goto 4, 3) := by decide +kernel
theorem dX11_foldObserved_87 : decode cX11_foldObserved 87 = .ok (.iconst 0, 1) := by decide +kernel
theorem dX11_foldObserved_88 : decode cX11_foldObserved 88 = .ok (.istore_n 3, 1) := by decide +kernel
theorem dX11_foldObserved_89 : decode cX11_foldObserved 89 = .ok (.iinc 4 1, 3) := by decide +kernel
theorem dX11_foldObserved_92 : decode cX11_foldObserved 92 = .ok (.goto (-63), 3) := by decide +kernel
theorem dX11_foldObserved_95 : decode cX11_foldObserved 95 = .ok (.iinc 2 1, 3) := by decide +kernel
theorem dX11_foldObserved_98 : decode cX11_foldObserved 98 = .ok (.goto (-94), 3) := by decide +kernel
theorem dX11_foldObserved_101 : decode cX11_foldObserved 101 = .ok (.iload_n 1, 1) := by decide +kernel
theorem dX11_foldObserved_102 : decode cX11_foldObserved 102 = .ok (.ireturn, 1) := by decide +kernel
theorem dX11_foundBy_0 : decode cX11_foundBy 0 = .ok (.aload_n 0, 1) := by decide +kernel
theorem dX11_foundBy_1 : decode cX11_foundBy 1 = .ok (.iload_n 1, 1) := by decide +kernel
theorem dX11_foundBy_2 : decode cX11_foundBy 2 = .ok (.invokevirtual 107, 3) := by decide +kernel
theorem dX11_foundBy_5 : decode cX11_foundBy 5 = .ok (.aload_n 0, 1) := by decide +kernel
theorem dX11_foundBy_6 : decode cX11_foundBy 6 = .ok (.getfield 37, 3) := by decide +kernel
theorem dX11_foundBy_9 : decode cX11_foundBy 9 = .ok (.iload_n 1, 1) := by decide +kernel
theorem dX11_foundBy_10 : decode cX11_foundBy 10 = .ok (.aload_n 0, 1) := by decide +kernel
theorem dX11_foundBy_11 : decode cX11_foundBy 11 = .ok (.getfield 28, 3) := by decide +kernel
theorem dX11_foundBy_14 : decode cX11_foundBy 14 = .ok (.invokevirtual 252, 3) := by decide +kernel
theorem dX11_foundBy_17 : decode cX11_foundBy 17 = .ok (.lreturn, 1) := by decide +kernel
theorem dX11_gate_0 : decode cX11_gate 0 = .ok (.iload_n 1, 1) := by decide +kernel
theorem dX11_gate_1 : decode cX11_gate 1 = .ok (.invokestatic 145, 3) := by decide +kernel
theorem dX11_gate_4 : decode cX11_gate 4 = .ok (.istore 4, 2) := by decide +kernel
theorem dX11_gate_6 : decode cX11_gate 6 = .ok (.iload 4, 2) := by decide +kernel
theorem dX11_gate_8 : decode cX11_gate 8 = .ok (.ifCond .ne 11, 3) := by decide +kernel
theorem dX11_gate_11 : decode cX11_gate 11 = .ok (.new 114, 3) := by decide +kernel
theorem dX11_gate_14 : decode cX11_gate 14 = .ok (.dup, 1) := by decide +kernel
theorem dX11_gate_15 : decode cX11_gate 15 = .ok (.invokespecial 116, 3) := by decide +kernel
theorem dX11_gate_18 : decode cX11_gate 18 = .ok (.athrow, 1) := by decide +kernel
theorem dX11_gate_19 : decode cX11_gate 19 = .ok (.aload_n 0, 1) := by decide +kernel
theorem dX11_gate_20 : decode cX11_gate 20 = .ok (.iload_n 2, 1) := by decide +kernel
theorem dX11_gate_21 : decode cX11_gate 21 = .ok (.invokevirtual 149, 3) := by decide +kernel
theorem dX11_gate_24 : decode cX11_gate 24 = .ok (.iload 4, 2) := by decide +kernel
theorem dX11_gate_26 : decode cX11_gate 26 = .ok (.iconst 2, 1) := by decide +kernel
theorem dX11_gate_27 : decode cX11_gate 27 = .ok (.if_icmp .ne 8, 3) := by decide +kernel
theorem dX11_gate_30 : decode cX11_gate 30 = .ok (.aload_n 0, 1) := by decide +kernel
theorem dX11_gate_31 : decode cX11_gate 31 = .ok (.iload_n 3, 1) := by decide +kernel
theorem dX11_gate_32 : decode cX11_gate 32 = .ok (.invokevirtual 149, 3) := by decide +kernel
theorem dX11_gate_35 : decode cX11_gate 35 = .ok (.aload_n 0, 1) := by decide +kernel
theorem dX11_gate_36 : decode cX11_gate 36 = .ok (.invokevirtual 135, 3) := by decide +kernel
theorem dX11_gate_39 : decode cX11_gate 39 = .ok (.aload_n 0, 1) := by decide +kernel
theorem dX11_gate_40 : decode cX11_gate 40 = .ok (.getfield 10, 3) := by decide +kernel
theorem dX11_gate_43 : decode cX11_gate 43 = .ok (.getfield 96, 3) := by decide +kernel
theorem dX11_gate_46 : decode cX11_gate 46 = .ok (.bipush 40, 2) := by decide +kernel
theorem dX11_gate_48 : decode cX11_gate 48 = .ok (.if_icmp .lt 11, 3) := by decide +kernel
theorem dX11_gate_51 : decode cX11_gate 51 = .ok (.new 141, 3) := by decide +kernel
theorem dX11_gate_54 : decode cX11_gate 54 = .ok (.dup, 1) := by decide +kernel
theorem dX11_gate_55 : decode cX11_gate 55 = .ok (.invokespecial 143, 3) := by decide +kernel
theorem dX11_gate_58 : decode cX11_gate 58 = .ok (.athrow, 1) := by decide +kernel
theorem dX11_gate_59 : decode cX11_gate 59 = .ok (.aload_n 0, 1) := by decide +kernel
theorem dX11_gate_60 : decode cX11_gate 60 = .ok (.getfield 10, 3) := by decide +kernel
theorem dX11_gate_63 : decode cX11_gate 63 = .ok (.iload_n 1, 1) := by decide +kernel
theorem dX11_gate_64 : decode cX11_gate 64 = .ok (.iload_n 2, 1) := by decide +kernel
theorem dX11_gate_65 : decode cX11_gate 65 = .ok (.iload 4, 2) := by decide +kernel
theorem dX11_gate_67 : decode cX11_gate 67 = .ok (.iconst 2, 1) := by decide +kernel
theorem dX11_gate_68 : decode cX11_gate 68 = .ok (.if_icmp .ne 7, 3) := by decide +kernel
theorem dX11_gate_71 : decode cX11_gate 71 = .ok (.iload_n 3, 1) := by decide +kernel
theorem dX11_gate_72 : decode cX11_gate 72 = .ok (.goto 4, 3) := by decide +kernel
theorem dX11_gate_75 : decode cX11_gate 75 = .ok (.iload_n 2, 1) := by decide +kernel
theorem dX11_gate_76 : decode cX11_gate 76 = .ok (.invokevirtual 152, 3) := by decide +kernel
theorem dX11_gate_79 : decode cX11_gate 79 = .ok (.ireturn, 1) := by decide +kernel
theorem dX11_got_0 : decode cX11_got 0 = .ok (.aload_n 0, 1) := by decide +kernel
theorem dX11_got_1 : decode cX11_got 1 = .ok (.iload_n 1, 1) := by decide +kernel
theorem dX11_got_2 : decode cX11_got 2 = .ok (.invokevirtual 515, 3) := by decide +kernel
theorem dX11_got_5 : decode cX11_got 5 = .ok (.aload_n 0, 1) := by decide +kernel
theorem dX11_got_6 : decode cX11_got 6 = .ok (.iload_n 2, 1) := by decide +kernel
theorem dX11_got_7 : decode cX11_got 7 = .ok (.invokevirtual 526, 3) := by decide +kernel
theorem dX11_got_10 : decode cX11_got 10 = .ok (.aload_n 0, 1) := by decide +kernel
theorem dX11_got_11 : decode cX11_got 11 = .ok (.getfield 85, 3) := by decide +kernel
theorem dX11_got_14 : decode cX11_got 14 = .ok (.iload_n 1, 1) := by decide +kernel
theorem dX11_got_15 : decode cX11_got 15 = .ok (.iload_n 2, 1) := by decide +kernel
theorem dX11_got_16 : decode cX11_got 16 = .ok (.invokevirtual 529, 3) := by decide +kernel
theorem dX11_got_19 : decode cX11_got 19 = .ok (.ireturn, 1) := by decide +kernel
theorem dX11_hardest_0 : decode cX11_hardest 0 = .ok (.aload_n 0, 1) := by decide +kernel
theorem dX11_hardest_1 : decode cX11_hardest 1 = .ok (.getfield 37, 3) := by decide +kernel
theorem dX11_hardest_4 : decode cX11_hardest 4 = .ok (.invokevirtual 423, 3) := by decide +kernel
theorem dX11_hardest_7 : decode cX11_hardest 7 = .ok (.iconst (-1), 1) := by decide +kernel
theorem dX11_hardest_8 : decode cX11_hardest 8 = .ok (.istore_n 1, 1) := by decide +kernel
theorem dX11_hardest_9 : decode cX11_hardest 9 = .ok (.iconst 0, 1) := by decide +kernel
theorem dX11_hardest_10 : decode cX11_hardest 10 = .ok (.istore_n 2, 1) := by decide +kernel
theorem dX11_hardest_11 : decode cX11_hardest 11 = .ok (.iload_n 2, 1) := by decide +kernel
theorem dX11_hardest_12 : decode cX11_hardest 12 = .ok (.aload_n 0, 1) := by decide +kernel
theorem dX11_hardest_13 : decode cX11_hardest 13 = .ok (.getfield 21, 3) := by decide +kernel
theorem dX11_hardest_16 : decode cX11_hardest 16 = .ok (.getfield 111, 3) := by decide +kernel
theorem dX11_hardest_19 : decode cX11_hardest 19 = .ok (.if_icmp .ge 69, 3) := by decide +kernel
theorem dX11_hardest_22 : decode cX11_hardest 22 = .ok (.aload_n 0, 1) := by decide +kernel
theorem dX11_hardest_23 : decode cX11_hardest 23 = .ok (.getfield 21, 3) := by decide +kernel
theorem dX11_hardest_26 : decode cX11_hardest 26 = .ok (.iload_n 2, 1) := by decide +kernel
theorem dX11_hardest_27 : decode cX11_hardest 27 = .ok (.invokevirtual 294, 3) := by decide +kernel
theorem dX11_hardest_30 : decode cX11_hardest 30 = .ok (.ifCond .eq 19, 3) := by decide +kernel
theorem dX11_hardest_33 : decode cX11_hardest 33 = .ok (.aload_n 0, 1) := by decide +kernel
theorem dX11_hardest_34 : decode cX11_hardest 34 = .ok (.getfield 37, 3) := by decide +kernel
theorem dX11_hardest_37 : decode cX11_hardest 37 = .ok (.getfield 426, 3) := by decide +kernel
theorem dX11_hardest_40 : decode cX11_hardest 40 = .ok (.iload_n 2, 1) := by decide +kernel
theorem dX11_hardest_41 : decode cX11_hardest 41 = .ok (.iaload, 1) := by decide +kernel
theorem dX11_hardest_42 : decode cX11_hardest 42 = .ok (.ifCond .le 7, 3) := by decide +kernel
theorem dX11_hardest_45 : decode cX11_hardest 45 = .ok (.iconst 1, 1) := by decide +kernel
theorem dX11_hardest_46 : decode cX11_hardest 46 = .ok (.goto 4, 3) := by decide +kernel
theorem dX11_hardest_49 : decode cX11_hardest 49 = .ok (.iconst 0, 1) := by decide +kernel
theorem dX11_hardest_50 : decode cX11_hardest 50 = .ok (.istore_n 3, 1) := by decide +kernel
theorem dX11_hardest_51 : decode cX11_hardest 51 = .ok (.iload_n 3, 1) := by decide +kernel
theorem dX11_hardest_52 : decode cX11_hardest 52 = .ok (.ifCond .eq 30, 3) := by decide +kernel
theorem dX11_hardest_55 : decode cX11_hardest 55 = .ok (.iload_n 1, 1) := by decide +kernel
theorem dX11_hardest_56 : decode cX11_hardest 56 = .ok (.ifCond .lt 24, 3) := by decide +kernel
theorem dX11_hardest_59 : decode cX11_hardest 59 = .ok (.aload_n 0, 1) := by decide +kernel
theorem dX11_hardest_60 : decode cX11_hardest 60 = .ok (.getfield 37, 3) := by decide +kernel
theorem dX11_hardest_63 : decode cX11_hardest 63 = .ok (.getfield 426, 3) := by decide +kernel
theorem dX11_hardest_66 : decode cX11_hardest 66 = .ok (.iload_n 2, 1) := by decide +kernel
theorem dX11_hardest_67 : decode cX11_hardest 67 = .ok (.iaload, 1) := by decide +kernel
theorem dX11_hardest_68 : decode cX11_hardest 68 = .ok (.aload_n 0, 1) := by decide +kernel
theorem dX11_hardest_69 : decode cX11_hardest 69 = .ok (.getfield 37, 3) := by decide +kernel
theorem dX11_hardest_72 : decode cX11_hardest 72 = .ok (.getfield 426, 3) := by decide +kernel
theorem dX11_hardest_75 : decode cX11_hardest 75 = .ok (.iload_n 1, 1) := by decide +kernel
theorem dX11_hardest_76 : decode cX11_hardest 76 = .ok (.iaload, 1) := by decide +kernel
theorem dX11_hardest_77 : decode cX11_hardest 77 = .ok (.if_icmp .ge 5, 3) := by decide +kernel
theorem dX11_hardest_80 : decode cX11_hardest 80 = .ok (.iload_n 2, 1) := by decide +kernel
theorem dX11_hardest_81 : decode cX11_hardest 81 = .ok (.istore_n 1, 1) := by decide +kernel
theorem dX11_hardest_82 : decode cX11_hardest 82 = .ok (.iinc 2 1, 3) := by decide +kernel
theorem dX11_hardest_85 : decode cX11_hardest 85 = .ok (.goto (-74), 3) := by decide +kernel
theorem dX11_hardest_88 : decode cX11_hardest 88 = .ok (.iload_n 1, 1) := by decide +kernel
theorem dX11_hardest_89 : decode cX11_hardest 89 = .ok (.ifCond .ge 11, 3) := by decide +kernel
theorem dX11_hardest_92 : decode cX11_hardest 92 = .ok (.new 310, 3) := by decide +kernel
theorem dX11_hardest_95 : decode cX11_hardest 95 = .ok (.dup, 1) := by decide +kernel
theorem dX11_hardest_96 : decode cX11_hardest 96 = .ok (.invokespecial 312, 3) := by decide +kernel
theorem dX11_hardest_99 : decode cX11_hardest 99 = .ok (.athrow, 1) := by decide +kernel
theorem dX11_hardest_100 : decode cX11_hardest 100 = .ok (.iload_n 1, 1) := by decide +kernel
theorem dX11_hardest_101 : decode cX11_hardest 101 = .ok (.ireturn, 1) := by decide +kernel
theorem dX11_input_0 : decode cX11_input 0 = .ok (.aload_n 0, 1) := by decide +kernel
theorem dX11_input_1 : decode cX11_input 1 = .ok (.iconst 0, 1) := by decide +kernel
theorem dX11_input_2 : decode cX11_input 2 = .ok (.invokevirtual 131, 3) := by decide +kernel
theorem dX11_input_5 : decode cX11_input 5 = .ok (.ireturn, 1) := by decide +kernel
theorem dX11_isChipTold_0 : decode cX11_isChipTold 0 = .ok (.aload_n 0, 1) := by decide +kernel
theorem dX11_isChipTold_1 : decode cX11_isChipTold 1 = .ok (.getfield 71, 3) := by decide +kernel
theorem dX11_isChipTold_4 : decode cX11_isChipTold 4 = .ok (.getfield 429, 3) := by decide +kernel
theorem dX11_isChipTold_7 : decode cX11_isChipTold 7 = .ok (.iconst 1, 1) := by decide +kernel
theorem dX11_isChipTold_8 : decode cX11_isChipTold 8 = .ok (.if_icmp .eq 5, 3) := by decide +kernel
theorem dX11_isChipTold_11 : decode cX11_isChipTold 11 = .ok (.iconst 1, 1) := by decide +kernel
theorem dX11_isChipTold_12 : decode cX11_isChipTold 12 = .ok (.ireturn, 1) := by decide +kernel
theorem dX11_isChipTold_13 : decode cX11_isChipTold 13 = .ok (.aload_n 0, 1) := by decide +kernel
theorem dX11_isChipTold_14 : decode cX11_isChipTold 14 = .ok (.getfield 71, 3) := by decide +kernel
theorem dX11_isChipTold_17 : decode cX11_isChipTold 17 = .ok (.invokevirtual 438, 3) := by decide +kernel
theorem dX11_isChipTold_20 : decode cX11_isChipTold 20 = .ok (.aload_n 0, 1) := by decide +kernel
theorem dX11_isChipTold_21 : decode cX11_isChipTold 21 = .ok (.getfield 71, 3) := by decide +kernel
theorem dX11_isChipTold_24 : decode cX11_isChipTold 24 = .ok (.invokevirtual 577, 3) := by decide +kernel
theorem dX11_isChipTold_27 : decode cX11_isChipTold 27 = .ok (.ifCond .eq 31, 3) := by decide +kernel
theorem dX11_isChipTold_30 : decode cX11_isChipTold 30 = .ok (.aload_n 0, 1) := by decide +kernel
theorem dX11_isChipTold_31 : decode cX11_isChipTold 31 = .ok (.getfield 71, 3) := by decide +kernel
theorem dX11_isChipTold_34 : decode cX11_isChipTold 34 = .ok (.getfield 580, 3) := by decide +kernel
theorem dX11_isChipTold_37 : decode cX11_isChipTold 37 = .ok (.aload_n 0, 1) := by decide +kernel
theorem dX11_isChipTold_38 : decode cX11_isChipTold 38 = .ok (.getfield 21, 3) := by decide +kernel
theorem dX11_isChipTold_41 : decode cX11_isChipTold 41 = .ok (.getfield 222, 3) := by decide +kernel
theorem dX11_isChipTold_44 : decode cX11_isChipTold 44 = .ok (.aload_n 0, 1) := by decide +kernel
theorem dX11_isChipTold_45 : decode cX11_isChipTold 45 = .ok (.getfield 71, 3) := by decide +kernel
theorem dX11_isChipTold_48 : decode cX11_isChipTold 48 = .ok (.getfield 583, 3) := by decide +kernel
theorem dX11_isChipTold_51 : decode cX11_isChipTold 51 = .ok (.iconst 0, 1) := by decide +kernel
theorem dX11_isChipTold_52 : decode cX11_isChipTold 52 = .ok (.iaload, 1) := by decide +kernel
theorem dX11_isChipTold_53 : decode cX11_isChipTold 53 = .ok (.iaload, 1) := by decide +kernel
theorem dX11_isChipTold_54 : decode cX11_isChipTold 54 = .ok (.iaload, 1) := by decide +kernel
theorem dX11_isChipTold_55 : decode cX11_isChipTold 55 = .ok (.ifCond .le 7, 3) := by decide +kernel
theorem dX11_isChipTold_58 : decode cX11_isChipTold 58 = .ok (.iconst 1, 1) := by decide +kernel
theorem dX11_isChipTold_59 : decode cX11_isChipTold 59 = .ok (.goto 4, 3) := by decide +kernel
theorem dX11_isChipTold_62 : decode cX11_isChipTold 62 = .ok (.iconst 0, 1) := by decide +kernel
theorem dX11_isChipTold_63 : decode cX11_isChipTold 63 = .ok (.ireturn, 1) := by decide +kernel
theorem dX11_isImpossible_0 : decode cX11_isImpossible 0 = .ok (.aload_n 0, 1) := by decide +kernel
theorem dX11_isImpossible_1 : decode cX11_isImpossible 1 = .ok (.iload_n 1, 1) := by decide +kernel
theorem dX11_isImpossible_2 : decode cX11_isImpossible 2 = .ok (.invokevirtual 303, 3) := by decide +kernel
theorem dX11_isImpossible_5 : decode cX11_isImpossible 5 = .ok (.aload_n 0, 1) := by decide +kernel
theorem dX11_isImpossible_6 : decode cX11_isImpossible 6 = .ok (.getfield 37, 3) := by decide +kernel
theorem dX11_isImpossible_9 : decode cX11_isImpossible 9 = .ok (.iload_n 1, 1) := by decide +kernel
theorem dX11_isImpossible_10 : decode cX11_isImpossible 10 = .ok (.invokevirtual 306, 3) := by decide +kernel
theorem dX11_isImpossible_13 : decode cX11_isImpossible 13 = .ok (.ifCond .ge 7, 3) := by decide +kernel
theorem dX11_isImpossible_16 : decode cX11_isImpossible 16 = .ok (.iconst 1, 1) := by decide +kernel
theorem dX11_isImpossible_17 : decode cX11_isImpossible 17 = .ok (.goto 4, 3) := by decide +kernel
theorem dX11_isImpossible_20 : decode cX11_isImpossible 20 = .ok (.iconst 0, 1) := by decide +kernel
theorem dX11_isImpossible_21 : decode cX11_isImpossible 21 = .ok (.ireturn, 1) := by decide +kernel
theorem dX11_isNoImpossibleFound_0 : decode cX11_isNoImpossibleFound 0 = .ok (.aload_n 0, 1) := by decide +kernel
theorem dX11_isNoImpossibleFound_1 : decode cX11_isNoImpossibleFound 1 = .ok (.getfield 37, 3) := by decide +kernel
theorem dX11_isNoImpossibleFound_4 : decode cX11_isNoImpossibleFound 4 = .ok (.invokevirtual 423, 3) := by decide +kernel
theorem dX11_isNoImpossibleFound_7 : decode cX11_isNoImpossibleFound 7 = .ok (.iconst 0, 1) := by decide +kernel
theorem dX11_isNoImpossibleFound_8 : decode cX11_isNoImpossibleFound 8 = .ok (.istore_n 1, 1) := by decide +kernel
theorem dX11_isNoImpossibleFound_9 : decode cX11_isNoImpossibleFound 9 = .ok (.iload_n 1, 1) := by decide +kernel
theorem dX11_isNoImpossibleFound_10 : decode cX11_isNoImpossibleFound 10 = .ok (.aload_n 0, 1) := by decide +kernel
theorem dX11_isNoImpossibleFound_11 : decode cX11_isNoImpossibleFound 11 = .ok (.getfield 21, 3) := by decide +kernel
theorem dX11_isNoImpossibleFound_14 : decode cX11_isNoImpossibleFound 14 = .ok (.getfield 111, 3) := by decide +kernel
theorem dX11_isNoImpossibleFound_17 : decode cX11_isNoImpossibleFound 17 = .ok (.if_icmp .ge 48, 3) := by decide +kernel
theorem dX11_isNoImpossibleFound_20 : decode cX11_isNoImpossibleFound 20 = .ok (.aload_n 0, 1) := by decide +kernel
theorem dX11_isNoImpossibleFound_21 : decode cX11_isNoImpossibleFound 21 = .ok (.getfield 21, 3) := by decide +kernel
theorem dX11_isNoImpossibleFound_24 : decode cX11_isNoImpossibleFound 24 = .ok (.iload_n 1, 1) := by decide +kernel
theorem dX11_isNoImpossibleFound_25 : decode cX11_isNoImpossibleFound 25 = .ok (.invokevirtual 294, 3) := by decide +kernel
theorem dX11_isNoImpossibleFound_28 : decode cX11_isNoImpossibleFound 28 = .ok (.ifCond .eq 31, 3) := by decide +kernel
theorem dX11_isNoImpossibleFound_31 : decode cX11_isNoImpossibleFound 31 = .ok (.aload_n 0, 1) := by decide +kernel
theorem dX11_isNoImpossibleFound_32 : decode cX11_isNoImpossibleFound 32 = .ok (.getfield 37, 3) := by decide +kernel
theorem dX11_isNoImpossibleFound_35 : decode cX11_isNoImpossibleFound 35 = .ok (.getfield 426, 3) := by decide +kernel
theorem dX11_isNoImpossibleFound_38 : decode cX11_isNoImpossibleFound 38 = .ok (.iload_n 1, 1) := by decide +kernel
theorem dX11_isNoImpossibleFound_39 : decode cX11_isNoImpossibleFound 39 = .ok (.iaload, 1) := by decide +kernel
theorem dX11_isNoImpossibleFound_40 : decode cX11_isNoImpossibleFound 40 = .ok (.ifCond .ne 19, 3) := by decide +kernel
theorem dX11_isNoImpossibleFound_43 : decode cX11_isNoImpossibleFound 43 = .ok (.aload_n 0, 1) := by decide +kernel
theorem dX11_isNoImpossibleFound_44 : decode cX11_isNoImpossibleFound 44 = .ok (.getfield 37, 3) := by decide +kernel
theorem dX11_isNoImpossibleFound_47 : decode cX11_isNoImpossibleFound 47 = .ok (.getfield 280, 3) := by decide +kernel
theorem dX11_isNoImpossibleFound_50 : decode cX11_isNoImpossibleFound 50 = .ok (.iload_n 1, 1) := by decide +kernel
theorem dX11_isNoImpossibleFound_51 : decode cX11_isNoImpossibleFound 51 = .ok (.laload, 1) := by decide +kernel
theorem dX11_isNoImpossibleFound_52 : decode cX11_isNoImpossibleFound 52 = .ok (.lconst 0, 1) := by decide +kernel
theorem dX11_isNoImpossibleFound_53 : decode cX11_isNoImpossibleFound 53 = .ok (.lcmp, 1) := by decide +kernel
theorem dX11_isNoImpossibleFound_54 : decode cX11_isNoImpossibleFound 54 = .ok (.ifCond .eq 5, 3) := by decide +kernel
theorem dX11_isNoImpossibleFound_57 : decode cX11_isNoImpossibleFound 57 = .ok (.iconst 0, 1) := by decide +kernel
theorem dX11_isNoImpossibleFound_58 : decode cX11_isNoImpossibleFound 58 = .ok (.ireturn, 1) := by decide +kernel
theorem dX11_isNoImpossibleFound_59 : decode cX11_isNoImpossibleFound 59 = .ok (.iinc 1 1, 3) := by decide +kernel
theorem dX11_isNoImpossibleFound_62 : decode cX11_isNoImpossibleFound 62 = .ok (.goto (-53), 3) := by decide +kernel
theorem dX11_isNoImpossibleFound_65 : decode cX11_isNoImpossibleFound 65 = .ok (.iconst 1, 1) := by decide +kernel
theorem dX11_isNoImpossibleFound_66 : decode cX11_isNoImpossibleFound 66 = .ok (.ireturn, 1) := by decide +kernel
theorem dX11_isRight_0 : decode cX11_isRight 0 = .ok (.aload_n 0, 1) := by decide +kernel
theorem dX11_isRight_1 : decode cX11_isRight 1 = .ok (.getfield 78, 3) := by decide +kernel
theorem dX11_isRight_4 : decode cX11_isRight 4 = .ok (.invokevirtual 488, 3) := by decide +kernel
theorem dX11_isRight_7 : decode cX11_isRight 7 = .ok (.ireturn, 1) := by decide +kernel
theorem dX11_isSound_0 : decode cX11_isSound 0 = .ok (.aload_n 0, 1) := by decide +kernel
theorem dX11_isSound_1 : decode cX11_isSound 1 = .ok (.getfield 37, 3) := by decide +kernel
theorem dX11_isSound_4 : decode cX11_isSound 4 = .ok (.aload_n 0, 1) := by decide +kernel
theorem dX11_isSound_5 : decode cX11_isSound 5 = .ok (.getfield 28, 3) := by decide +kernel
theorem dX11_isSound_8 : decode cX11_isSound 8 = .ok (.invokevirtual 276, 3) := by decide +kernel
theorem dX11_isSound_11 : decode cX11_isSound 11 = .ok (.aload_n 0, 1) := by decide +kernel
theorem dX11_isSound_12 : decode cX11_isSound 12 = .ok (.invokevirtual 550, 3) := by decide +kernel
theorem dX11_isSound_15 : decode cX11_isSound 15 = .ok (.ifCond .eq 28, 3) := by decide +kernel
theorem dX11_isSound_18 : decode cX11_isSound 18 = .ok (.aload_n 0, 1) := by decide +kernel
theorem dX11_isSound_19 : decode cX11_isSound 19 = .ok (.invokevirtual 553, 3) := by decide +kernel
theorem dX11_isSound_22 : decode cX11_isSound 22 = .ok (.ifCond .eq 21, 3) := by decide +kernel
theorem dX11_isSound_25 : decode cX11_isSound 25 = .ok (.aload_n 0, 1) := by decide +kernel
theorem dX11_isSound_26 : decode cX11_isSound 26 = .ok (.invokevirtual 556, 3) := by decide +kernel
theorem dX11_isSound_29 : decode cX11_isSound 29 = .ok (.ifCond .eq 14, 3) := by decide +kernel
theorem dX11_isSound_32 : decode cX11_isSound 32 = .ok (.aload_n 0, 1) := by decide +kernel
theorem dX11_isSound_33 : decode cX11_isSound 33 = .ok (.invokevirtual 559, 3) := by decide +kernel
theorem dX11_isSound_36 : decode cX11_isSound 36 = .ok (.ifCond .eq 7, 3) := by decide +kernel
theorem dX11_isSound_39 : decode cX11_isSound 39 = .ok (.iconst 1, 1) := by decide +kernel
theorem dX11_isSound_40 : decode cX11_isSound 40 = .ok (.goto 4, 3) := by decide +kernel
theorem dX11_isSound_43 : decode cX11_isSound 43 = .ok (.iconst 0, 1) := by decide +kernel
theorem dX11_isSound_44 : decode cX11_isSound 44 = .ok (.ireturn, 1) := by decide +kernel
theorem dX11_known_0 : decode cX11_known 0 = .ok (.aload_n 0, 1) := by decide +kernel
theorem dX11_known_1 : decode cX11_known 1 = .ok (.iload_n 1, 1) := by decide +kernel
theorem dX11_known_2 : decode cX11_known 2 = .ok (.invokevirtual 200, 3) := by decide +kernel
theorem dX11_known_5 : decode cX11_known 5 = .ok (.iload_n 2, 1) := by decide +kernel
theorem dX11_known_6 : decode cX11_known 6 = .ok (.ifCond .eq 15, 3) := by decide +kernel
theorem dX11_known_9 : decode cX11_known 9 = .ok (.aload_n 0, 1) := by decide +kernel
theorem dX11_known_10 : decode cX11_known 10 = .ok (.getfield 28, 3) := by decide +kernel
theorem dX11_known_13 : decode cX11_known 13 = .ok (.getfield 358, 3) := by decide +kernel
theorem dX11_known_16 : decode cX11_known 16 = .ok (.iload_n 1, 1) := by decide +kernel
theorem dX11_known_17 : decode cX11_known 17 = .ok (.iaload, 1) := by decide +kernel
theorem dX11_known_18 : decode cX11_known 18 = .ok (.goto 12, 3) := by decide +kernel
theorem dX11_known_21 : decode cX11_known 21 = .ok (.aload_n 0, 1) := by decide +kernel
theorem dX11_known_22 : decode cX11_known 22 = .ok (.getfield 28, 3) := by decide +kernel
theorem dX11_known_25 : decode cX11_known 25 = .ok (.getfield 264, 3) := by decide +kernel
theorem dX11_known_28 : decode cX11_known 28 = .ok (.iload_n 1, 1) := by decide +kernel
theorem dX11_known_29 : decode cX11_known 29 = .ok (.iaload, 1) := by decide +kernel
theorem dX11_known_30 : decode cX11_known 30 = .ok (.ireturn, 1) := by decide +kernel
theorem dX11_least_0 : decode cX11_least 0 = .ok (.aload_n 0, 1) := by decide +kernel
theorem dX11_least_1 : decode cX11_least 1 = .ok (.iload_n 1, 1) := by decide +kernel
theorem dX11_least_2 : decode cX11_least 2 = .ok (.iload_n 2, 1) := by decide +kernel
theorem dX11_least_3 : decode cX11_least 3 = .ok (.invokevirtual 538, 3) := by decide +kernel
theorem dX11_least_6 : decode cX11_least 6 = .ok (.aload_n 0, 1) := by decide +kernel
theorem dX11_least_7 : decode cX11_least 7 = .ok (.getfield 92, 3) := by decide +kernel
theorem dX11_least_10 : decode cX11_least 10 = .ok (.iload_n 1, 1) := by decide +kernel
theorem dX11_least_11 : decode cX11_least 11 = .ok (.iload_n 2, 1) := by decide +kernel
theorem dX11_least_12 : decode cX11_least 12 = .ok (.invokevirtual 541, 3) := by decide +kernel
theorem dX11_least_15 : decode cX11_least 15 = .ok (.ireturn, 1) := by decide +kernel
theorem dX11_lineOf_0 : decode cX11_lineOf 0 = .ok (.aload_n 0, 1) := by decide +kernel
theorem dX11_lineOf_1 : decode cX11_lineOf 1 = .ok (.iload_n 1, 1) := by decide +kernel
theorem dX11_lineOf_2 : decode cX11_lineOf 2 = .ok (.invokevirtual 107, 3) := by decide +kernel
theorem dX11_lineOf_5 : decode cX11_lineOf 5 = .ok (.aload_n 0, 1) := by decide +kernel
theorem dX11_lineOf_6 : decode cX11_lineOf 6 = .ok (.getfield 21, 3) := by decide +kernel
theorem dX11_lineOf_9 : decode cX11_lineOf 9 = .ok (.getfield 216, 3) := by decide +kernel
theorem dX11_lineOf_12 : decode cX11_lineOf 12 = .ok (.iload_n 1, 1) := by decide +kernel
theorem dX11_lineOf_13 : decode cX11_lineOf 13 = .ok (.iaload, 1) := by decide +kernel
theorem dX11_lineOf_14 : decode cX11_lineOf 14 = .ok (.ireturn, 1) := by decide +kernel
theorem dX11_make_0 : decode cX11_make 0 = .ok (.aload_n 0, 1) := by decide +kernel
theorem dX11_make_1 : decode cX11_make 1 = .ok (.iload_n 1, 1) := by decide +kernel
theorem dX11_make_2 : decode cX11_make 2 = .ok (.invokevirtual 303, 3) := by decide +kernel
theorem dX11_make_5 : decode cX11_make 5 = .ok (.aload_n 0, 1) := by decide +kernel
theorem dX11_make_6 : decode cX11_make 6 = .ok (.getfield 37, 3) := by decide +kernel
theorem dX11_make_9 : decode cX11_make 9 = .ok (.iload_n 1, 1) := by decide +kernel
theorem dX11_make_10 : decode cX11_make 10 = .ok (.invokevirtual 306, 3) := by decide +kernel
theorem dX11_make_13 : decode cX11_make 13 = .ok (.istore_n 2, 1) := by decide +kernel
theorem dX11_make_14 : decode cX11_make 14 = .ok (.iload_n 2, 1) := by decide +kernel
theorem dX11_make_15 : decode cX11_make 15 = .ok (.ifCond .ge 11, 3) := by decide +kernel
theorem dX11_make_18 : decode cX11_make 18 = .ok (.new 310, 3) := by decide +kernel
theorem dX11_make_21 : decode cX11_make 21 = .ok (.dup, 1) := by decide +kernel
theorem dX11_make_22 : decode cX11_make 22 = .ok (.invokespecial 312, 3) := by decide +kernel
theorem dX11_make_25 : decode cX11_make 25 = .ok (.athrow, 1) := by decide +kernel
theorem dX11_make_26 : decode cX11_make 26 = .ok (.aload_n 0, 1) := by decide +kernel
theorem dX11_make_27 : decode cX11_make 27 = .ok (.getfield 28, 3) := by decide +kernel
theorem dX11_make_30 : decode cX11_make 30 = .ok (.getfield 103, 3) := by decide +kernel
theorem dX11_make_33 : decode cX11_make 33 = .ok (.bipush 32, 2) := by decide +kernel
theorem dX11_make_35 : decode cX11_make 35 = .ok (.if_icmp .lt 11, 3) := by decide +kernel
theorem dX11_make_38 : decode cX11_make 38 = .ok (.new 141, 3) := by decide +kernel
theorem dX11_make_41 : decode cX11_make 41 = .ok (.dup, 1) := by decide +kernel
theorem dX11_make_42 : decode cX11_make 42 = .ok (.invokespecial 143, 3) := by decide +kernel
theorem dX11_make_45 : decode cX11_make 45 = .ok (.athrow, 1) := by decide +kernel
theorem dX11_make_46 : decode cX11_make 46 = .ok (.aload_n 0, 1) := by decide +kernel
theorem dX11_make_47 : decode cX11_make 47 = .ok (.getfield 37, 3) := by decide +kernel
theorem dX11_make_50 : decode cX11_make 50 = .ok (.iload_n 1, 1) := by decide +kernel
theorem dX11_make_51 : decode cX11_make 51 = .ok (.iload_n 2, 1) := by decide +kernel
theorem dX11_make_52 : decode cX11_make 52 = .ok (.invokevirtual 313, 3) := by decide +kernel
theorem dX11_make_55 : decode cX11_make 55 = .ok (.istore_n 3, 1) := by decide +kernel
theorem dX11_make_56 : decode cX11_make 56 = .ok (.iconst 0, 1) := by decide +kernel
theorem dX11_make_57 : decode cX11_make 57 = .ok (.istore 4, 2) := by decide +kernel
theorem dX11_make_59 : decode cX11_make 59 = .ok (.iconst 0, 1) := by decide +kernel
theorem dX11_make_60 : decode cX11_make 60 = .ok (.istore 5, 2) := by decide +kernel
theorem dX11_make_62 : decode cX11_make 62 = .ok (.iload 5, 2) := by decide +kernel
theorem dX11_make_64 : decode cX11_make 64 = .ok (.iload_n 3, 1) := by decide +kernel
theorem dX11_make_65 : decode cX11_make 65 = .ok (.if_icmp .ge 27, 3) := by decide +kernel
theorem dX11_make_68 : decode cX11_make 68 = .ok (.iload 4, 2) := by decide +kernel
theorem dX11_make_70 : decode cX11_make 70 = .ok (.aload_n 0, 1) := by decide +kernel
theorem dX11_make_71 : decode cX11_make 71 = .ok (.getfield 37, 3) := by decide +kernel
theorem dX11_make_74 : decode cX11_make 74 = .ok (.iload_n 2, 1) := by decide +kernel
theorem dX11_make_75 : decode cX11_make 75 = .ok (.iload 5, 2) := by decide +kernel
theorem dX11_make_77 : decode cX11_make 77 = .ok (.invokevirtual 316, 3) := by decide +kernel
theorem dX11_make_80 : decode cX11_make 80 = .ok (.iload 5, 2) := by decide +kernel
theorem dX11_make_82 : decode cX11_make 82 = .ok (.ishl, 1) := by decide +kernel
theorem dX11_make_83 : decode cX11_make 83 = .ok (.ior, 1) := by decide +kernel
theorem dX11_make_84 : decode cX11_make 84 = .ok (.istore 4, 2) := by decide +kernel
theorem dX11_make_86 : decode cX11_make 86 = .ok (.iinc 5 1, 3) := by decide +kernel
theorem dX11_make_89 : decode cX11_make 89 = .ok (.goto (-27), 3) := by decide +kernel
theorem dX11_make_92 : decode cX11_make 92 = .ok (.aload_n 0, 1) := by decide +kernel
theorem dX11_make_93 : decode cX11_make 93 = .ok (.getfield 28, 3) := by decide +kernel
theorem dX11_make_96 : decode cX11_make 96 = .ok (.iconst 1, 1) := by decide +kernel
theorem dX11_make_97 : decode cX11_make 97 = .ok (.iload_n 3, 1) := by decide +kernel
theorem dX11_make_98 : decode cX11_make 98 = .ok (.ishl, 1) := by decide +kernel
theorem dX11_make_99 : decode cX11_make 99 = .ok (.iconst 1, 1) := by decide +kernel
theorem dX11_make_100 : decode cX11_make 100 = .ok (.isub, 1) := by decide +kernel
theorem dX11_make_101 : decode cX11_make 101 = .ok (.iload 4, 2) := by decide +kernel
theorem dX11_make_103 : decode cX11_make 103 = .ok (.invokevirtual 196, 3) := by decide +kernel
theorem dX11_make_106 : decode cX11_make 106 = .ok (.ireturn, 1) := by decide +kernel
theorem dX11_march_0 : decode cX11_march 0 = .ok (.iload_n 1, 1) := by decide +kernel
theorem dX11_march_1 : decode cX11_march 1 = .ok (.invokestatic 478, 3) := by decide +kernel
theorem dX11_march_4 : decode cX11_march 4 = .ok (.ifCond .ne 11, 3) := by decide +kernel
theorem dX11_march_7 : decode cX11_march 7 = .ok (.new 114, 3) := by decide +kernel
theorem dX11_march_10 : decode cX11_march 10 = .ok (.dup, 1) := by decide +kernel
theorem dX11_march_11 : decode cX11_march 11 = .ok (.invokespecial 116, 3) := by decide +kernel
theorem dX11_march_14 : decode cX11_march 14 = .ok (.athrow, 1) := by decide +kernel
theorem dX11_march_15 : decode cX11_march 15 = .ok (.aload_n 0, 1) := by decide +kernel
theorem dX11_march_16 : decode cX11_march 16 = .ok (.getfield 78, 3) := by decide +kernel
theorem dX11_march_19 : decode cX11_march 19 = .ok (.getfield 482, 3) := by decide +kernel
theorem dX11_march_22 : decode cX11_march 22 = .ok (.bipush 24, 2) := by decide +kernel
theorem dX11_march_24 : decode cX11_march 24 = .ok (.if_icmp .lt 11, 3) := by decide +kernel
theorem dX11_march_27 : decode cX11_march 27 = .ok (.new 141, 3) := by decide +kernel
theorem dX11_march_30 : decode cX11_march 30 = .ok (.dup, 1) := by decide +kernel
theorem dX11_march_31 : decode cX11_march 31 = .ok (.invokespecial 143, 3) := by decide +kernel
theorem dX11_march_34 : decode cX11_march 34 = .ok (.athrow, 1) := by decide +kernel
theorem dX11_march_35 : decode cX11_march 35 = .ok (.aload_n 0, 1) := by decide +kernel
theorem dX11_march_36 : decode cX11_march 36 = .ok (.getfield 78, 3) := by decide +kernel
theorem dX11_march_39 : decode cX11_march 39 = .ok (.iload_n 1, 1) := by decide +kernel
theorem dX11_march_40 : decode cX11_march 40 = .ok (.invokevirtual 485, 3) := by decide +kernel
theorem dX11_march_43 : decode cX11_march 43 = .ok (.ireturn, 1) := by decide +kernel
theorem dX11_marchCount_0 : decode cX11_marchCount 0 = .ok (.iload_n 1, 1) := by decide +kernel
theorem dX11_marchCount_1 : decode cX11_marchCount 1 = .ok (.invokestatic 498, 3) := by decide +kernel
theorem dX11_marchCount_4 : decode cX11_marchCount 4 = .ok (.ifCond .ne 11, 3) := by decide +kernel
theorem dX11_marchCount_7 : decode cX11_marchCount 7 = .ok (.new 114, 3) := by decide +kernel
theorem dX11_marchCount_10 : decode cX11_marchCount 10 = .ok (.dup, 1) := by decide +kernel
theorem dX11_marchCount_11 : decode cX11_marchCount 11 = .ok (.invokespecial 116, 3) := by decide +kernel
theorem dX11_marchCount_14 : decode cX11_marchCount 14 = .ok (.athrow, 1) := by decide +kernel
theorem dX11_marchCount_15 : decode cX11_marchCount 15 = .ok (.aload_n 0, 1) := by decide +kernel
theorem dX11_marchCount_16 : decode cX11_marchCount 16 = .ok (.getfield 78, 3) := by decide +kernel
theorem dX11_marchCount_19 : decode cX11_marchCount 19 = .ok (.invokevirtual 488, 3) := by decide +kernel
theorem dX11_marchCount_22 : decode cX11_marchCount 22 = .ok (.ifCond .ne 11, 3) := by decide +kernel
theorem dX11_marchCount_25 : decode cX11_marchCount 25 = .ok (.new 125, 3) := by decide +kernel
theorem dX11_marchCount_28 : decode cX11_marchCount 28 = .ok (.dup, 1) := by decide +kernel
theorem dX11_marchCount_29 : decode cX11_marchCount 29 = .ok (.invokespecial 127, 3) := by decide +kernel
theorem dX11_marchCount_32 : decode cX11_marchCount 32 = .ok (.athrow, 1) := by decide +kernel
theorem dX11_marchCount_33 : decode cX11_marchCount 33 = .ok (.aload_n 0, 1) := by decide +kernel
theorem dX11_marchCount_34 : decode cX11_marchCount 34 = .ok (.getfield 78, 3) := by decide +kernel
theorem dX11_marchCount_37 : decode cX11_marchCount 37 = .ok (.iload_n 1, 1) := by decide +kernel
theorem dX11_marchCount_38 : decode cX11_marchCount 38 = .ok (.invokevirtual 501, 3) := by decide +kernel
theorem dX11_marchCount_41 : decode cX11_marchCount 41 = .ok (.ireturn, 1) := by decide +kernel
theorem dX11_marchFinds_0 : decode cX11_marchFinds 0 = .ok (.iload_n 1, 1) := by decide +kernel
theorem dX11_marchFinds_1 : decode cX11_marchFinds 1 = .ok (.iload_n 2, 1) := by decide +kernel
theorem dX11_marchFinds_2 : decode cX11_marchFinds 2 = .ok (.iload_n 3, 1) := by decide +kernel
theorem dX11_marchFinds_3 : decode cX11_marchFinds 3 = .ok (.iload 4, 2) := by decide +kernel
theorem dX11_marchFinds_5 : decode cX11_marchFinds 5 = .ok (.iload 5, 2) := by decide +kernel
theorem dX11_marchFinds_7 : decode cX11_marchFinds 7 = .ok (.invokestatic 491, 3) := by decide +kernel
theorem dX11_marchFinds_10 : decode cX11_marchFinds 10 = .ok (.ifCond .ne 11, 3) := by decide +kernel
theorem dX11_marchFinds_13 : decode cX11_marchFinds 13 = .ok (.new 114, 3) := by decide +kernel
theorem dX11_marchFinds_16 : decode cX11_marchFinds 16 = .ok (.dup, 1) := by decide +kernel
theorem dX11_marchFinds_17 : decode cX11_marchFinds 17 = .ok (.invokespecial 116, 3) := by decide +kernel
theorem dX11_marchFinds_20 : decode cX11_marchFinds 20 = .ok (.athrow, 1) := by decide +kernel
theorem dX11_marchFinds_21 : decode cX11_marchFinds 21 = .ok (.aload_n 0, 1) := by decide +kernel
theorem dX11_marchFinds_22 : decode cX11_marchFinds 22 = .ok (.getfield 78, 3) := by decide +kernel
theorem dX11_marchFinds_25 : decode cX11_marchFinds 25 = .ok (.invokevirtual 488, 3) := by decide +kernel
theorem dX11_marchFinds_28 : decode cX11_marchFinds 28 = .ok (.ifCond .ne 11, 3) := by decide +kernel
theorem dX11_marchFinds_31 : decode cX11_marchFinds 31 = .ok (.new 125, 3) := by decide +kernel
theorem dX11_marchFinds_34 : decode cX11_marchFinds 34 = .ok (.dup, 1) := by decide +kernel
theorem dX11_marchFinds_35 : decode cX11_marchFinds 35 = .ok (.invokespecial 127, 3) := by decide +kernel
theorem dX11_marchFinds_38 : decode cX11_marchFinds 38 = .ok (.athrow, 1) := by decide +kernel
theorem dX11_marchFinds_39 : decode cX11_marchFinds 39 = .ok (.aload_n 0, 1) := by decide +kernel
theorem dX11_marchFinds_40 : decode cX11_marchFinds 40 = .ok (.getfield 78, 3) := by decide +kernel
theorem dX11_marchFinds_43 : decode cX11_marchFinds 43 = .ok (.iload_n 1, 1) := by decide +kernel
theorem dX11_marchFinds_44 : decode cX11_marchFinds 44 = .ok (.iload_n 2, 1) := by decide +kernel
theorem dX11_marchFinds_45 : decode cX11_marchFinds 45 = .ok (.iload_n 3, 1) := by decide +kernel
theorem dX11_marchFinds_46 : decode cX11_marchFinds 46 = .ok (.iload 4, 2) := by decide +kernel
theorem dX11_marchFinds_48 : decode cX11_marchFinds 48 = .ok (.iload 5, 2) := by decide +kernel
theorem dX11_marchFinds_50 : decode cX11_marchFinds 50 = .ok (.invokevirtual 495, 3) := by decide +kernel
theorem dX11_marchFinds_53 : decode cX11_marchFinds 53 = .ok (.ireturn, 1) := by decide +kernel
theorem dX11_meanFound_0 : decode cX11_meanFound 0 = .ok (.aload_n 0, 1) := by decide +kernel
theorem dX11_meanFound_1 : decode cX11_meanFound 1 = .ok (.getfield 21, 3) := by decide +kernel
theorem dX11_meanFound_4 : decode cX11_meanFound 4 = .ok (.invokevirtual 225, 3) := by decide +kernel
theorem dX11_meanFound_7 : decode cX11_meanFound 7 = .ok (.istore_n 1, 1) := by decide +kernel
theorem dX11_meanFound_8 : decode cX11_meanFound 8 = .ok (.iload_n 1, 1) := by decide +kernel
theorem dX11_meanFound_9 : decode cX11_meanFound 9 = .ok (.ifCond .ne 11, 3) := by decide +kernel
theorem dX11_meanFound_12 : decode cX11_meanFound 12 = .ok (.new 267, 3) := by decide +kernel
theorem dX11_meanFound_15 : decode cX11_meanFound 15 = .ok (.dup, 1) := by decide +kernel
theorem dX11_meanFound_16 : decode cX11_meanFound 16 = .ok (.invokespecial 269, 3) := by decide +kernel
theorem dX11_meanFound_19 : decode cX11_meanFound 19 = .ok (.athrow, 1) := by decide +kernel
theorem dX11_meanFound_20 : decode cX11_meanFound 20 = .ok (.aload_n 0, 1) := by decide +kernel
theorem dX11_meanFound_21 : decode cX11_meanFound 21 = .ok (.getfield 37, 3) := by decide +kernel
theorem dX11_meanFound_24 : decode cX11_meanFound 24 = .ok (.aload_n 0, 1) := by decide +kernel
theorem dX11_meanFound_25 : decode cX11_meanFound 25 = .ok (.getfield 28, 3) := by decide +kernel
theorem dX11_meanFound_28 : decode cX11_meanFound 28 = .ok (.invokevirtual 276, 3) := by decide +kernel
theorem dX11_meanFound_31 : decode cX11_meanFound 31 = .ok (.iconst 0, 1) := by decide +kernel
theorem dX11_meanFound_32 : decode cX11_meanFound 32 = .ok (.istore_n 2, 1) := by decide +kernel
theorem dX11_meanFound_33 : decode cX11_meanFound 33 = .ok (.iconst 0, 1) := by decide +kernel
theorem dX11_meanFound_34 : decode cX11_meanFound 34 = .ok (.istore_n 3, 1) := by decide +kernel
theorem dX11_meanFound_35 : decode cX11_meanFound 35 = .ok (.iload_n 3, 1) := by decide +kernel
theorem dX11_meanFound_36 : decode cX11_meanFound 36 = .ok (.aload_n 0, 1) := by decide +kernel
theorem dX11_meanFound_37 : decode cX11_meanFound 37 = .ok (.getfield 21, 3) := by decide +kernel
theorem dX11_meanFound_40 : decode cX11_meanFound 40 = .ok (.getfield 111, 3) := by decide +kernel
theorem dX11_meanFound_43 : decode cX11_meanFound 43 = .ok (.if_icmp .ge 35, 3) := by decide +kernel
theorem dX11_meanFound_46 : decode cX11_meanFound 46 = .ok (.aload_n 0, 1) := by decide +kernel
theorem dX11_meanFound_47 : decode cX11_meanFound 47 = .ok (.getfield 21, 3) := by decide +kernel
theorem dX11_meanFound_50 : decode cX11_meanFound 50 = .ok (.iload_n 3, 1) := by decide +kernel
theorem dX11_meanFound_51 : decode cX11_meanFound 51 = .ok (.invokevirtual 294, 3) := by decide +kernel
theorem dX11_meanFound_54 : decode cX11_meanFound 54 = .ok (.ifCond .eq 18, 3) := by decide +kernel
theorem dX11_meanFound_57 : decode cX11_meanFound 57 = .ok (.iload_n 2, 1) := by decide +kernel
theorem dX11_meanFound_58 : decode cX11_meanFound 58 = .ok (.aload_n 0, 1) := by decide +kernel
theorem dX11_meanFound_59 : decode cX11_meanFound 59 = .ok (.getfield 37, 3) := by decide +kernel
theorem dX11_meanFound_62 : decode cX11_meanFound 62 = .ok (.getfield 280, 3) := by decide +kernel
theorem dX11_meanFound_65 : decode cX11_meanFound 65 = .ok (.iload_n 3, 1) := by decide +kernel
theorem dX11_meanFound_66 : decode cX11_meanFound 66 = .ok (.laload, 1) := by decide +kernel
theorem dX11_meanFound_67 : decode cX11_meanFound 67 = .ok (.invokestatic 297, 3) := by decide +kernel
theorem dX11_meanFound_70 : decode cX11_meanFound 70 = .ok (.iadd, 1) := by decide +kernel
theorem dX11_meanFound_71 : decode cX11_meanFound 71 = .ok (.istore_n 2, 1) := by decide +kernel
theorem dX11_meanFound_72 : decode cX11_meanFound 72 = .ok (.iinc 3 1, 3) := by decide +kernel
theorem dX11_meanFound_75 : decode cX11_meanFound 75 = .ok (.goto (-40), 3) := by decide +kernel
theorem dX11_meanFound_78 : decode cX11_meanFound 78 = .ok (.iload_n 2, 1) := by decide +kernel
theorem dX11_meanFound_79 : decode cX11_meanFound 79 = .ok (.i2d, 1) := by decide +kernel
theorem dX11_meanFound_80 : decode cX11_meanFound 80 = .ok (.iload_n 1, 1) := by decide +kernel
theorem dX11_meanFound_81 : decode cX11_meanFound 81 = .ok (.i2d, 1) := by decide +kernel
theorem dX11_meanFound_82 : decode cX11_meanFound 82 = .ok (.ddiv, 1) := by decide +kernel
theorem dX11_meanFound_83 : decode cX11_meanFound 83 = .ok (.dreturn, 1) := by decide +kernel
theorem dX11_mend_0 : decode cX11_mend 0 = .ok (.aload_n 0, 1) := by decide +kernel
theorem dX11_mend_1 : decode cX11_mend 1 = .ok (.getfield 71, 3) := by decide +kernel
theorem dX11_mend_4 : decode cX11_mend 4 = .ok (.getfield 429, 3) := by decide +kernel
theorem dX11_mend_7 : decode cX11_mend 7 = .ok (.istore_n 1, 1) := by decide +kernel
theorem dX11_mend_8 : decode cX11_mend 8 = .ok (.aload_n 0, 1) := by decide +kernel
theorem dX11_mend_9 : decode cX11_mend 9 = .ok (.getfield 71, 3) := by decide +kernel
theorem dX11_mend_12 : decode cX11_mend 12 = .ok (.iconst 0, 1) := by decide +kernel
theorem dX11_mend_13 : decode cX11_mend 13 = .ok (.putfield 429, 3) := by decide +kernel
theorem dX11_mend_16 : decode cX11_mend 16 = .ok (.iload_n 1, 1) := by decide +kernel
theorem dX11_mend_17 : decode cX11_mend 17 = .ok (.ireturn, 1) := by decide +kernel
theorem dX11_merge_0 : decode cX11_merge 0 = .ok (.aload_n 0, 1) := by decide +kernel
theorem dX11_merge_1 : decode cX11_merge 1 = .ok (.iload_n 1, 1) := by decide +kernel
theorem dX11_merge_2 : decode cX11_merge 2 = .ok (.invokevirtual 200, 3) := by decide +kernel
theorem dX11_merge_5 : decode cX11_merge 5 = .ok (.aload_n 0, 1) := by decide +kernel
theorem dX11_merge_6 : decode cX11_merge 6 = .ok (.iload_n 2, 1) := by decide +kernel
theorem dX11_merge_7 : decode cX11_merge 7 = .ok (.invokevirtual 200, 3) := by decide +kernel
theorem dX11_merge_10 : decode cX11_merge 10 = .ok (.iload_n 1, 1) := by decide +kernel
theorem dX11_merge_11 : decode cX11_merge 11 = .ok (.iload_n 2, 1) := by decide +kernel
theorem dX11_merge_12 : decode cX11_merge 12 = .ok (.if_icmp .eq 15, 3) := by decide +kernel
theorem dX11_merge_15 : decode cX11_merge 15 = .ok (.aload_n 0, 1) := by decide +kernel
theorem dX11_merge_16 : decode cX11_merge 16 = .ok (.getfield 28, 3) := by decide +kernel
theorem dX11_merge_19 : decode cX11_merge 19 = .ok (.iload_n 1, 1) := by decide +kernel
theorem dX11_merge_20 : decode cX11_merge 20 = .ok (.iload_n 2, 1) := by decide +kernel
theorem dX11_merge_21 : decode cX11_merge 21 = .ok (.invokevirtual 331, 3) := by decide +kernel
theorem dX11_merge_24 : decode cX11_merge 24 = .ok (.ifCond .ne 11, 3) := by decide +kernel
theorem dX11_merge_27 : decode cX11_merge 27 = .ok (.new 125, 3) := by decide +kernel
theorem dX11_merge_30 : decode cX11_merge 30 = .ok (.dup, 1) := by decide +kernel
theorem dX11_merge_31 : decode cX11_merge 31 = .ok (.invokespecial 127, 3) := by decide +kernel
theorem dX11_merge_34 : decode cX11_merge 34 = .ok (.athrow, 1) := by decide +kernel
theorem dX11_merge_35 : decode cX11_merge 35 = .ok (.aload_n 0, 1) := by decide +kernel
theorem dX11_merge_36 : decode cX11_merge 36 = .ok (.getfield 28, 3) := by decide +kernel
theorem dX11_merge_39 : decode cX11_merge 39 = .ok (.iload_n 1, 1) := by decide +kernel
theorem dX11_merge_40 : decode cX11_merge 40 = .ok (.iload_n 2, 1) := by decide +kernel
theorem dX11_merge_41 : decode cX11_merge 41 = .ok (.invokevirtual 334, 3) := by decide +kernel
theorem dX11_merge_44 : decode cX11_merge 44 = .ok (.aload_n 0, 1) := by decide +kernel
theorem dX11_merge_45 : decode cX11_merge 45 = .ok (.getfield 28, 3) := by decide +kernel
theorem dX11_merge_48 : decode cX11_merge 48 = .ok (.iload_n 2, 1) := by decide +kernel
theorem dX11_merge_49 : decode cX11_merge 49 = .ok (.invokevirtual 337, 3) := by decide +kernel
theorem dX11_merge_52 : decode cX11_merge 52 = .ok (.aload_n 0, 1) := by decide +kernel
theorem dX11_merge_53 : decode cX11_merge 53 = .ok (.getfield 28, 3) := by decide +kernel
theorem dX11_merge_56 : decode cX11_merge 56 = .ok (.getfield 103, 3) := by decide +kernel
theorem dX11_merge_59 : decode cX11_merge 59 = .ok (.ireturn, 1) := by decide +kernel
theorem dX11_mergeAll_0 : decode cX11_mergeAll 0 = .ok (.aload_n 0, 1) := by decide +kernel
theorem dX11_mergeAll_1 : decode cX11_mergeAll 1 = .ok (.getfield 28, 3) := by decide +kernel
theorem dX11_mergeAll_4 : decode cX11_mergeAll 4 = .ok (.invokevirtual 340, 3) := by decide +kernel
theorem dX11_mergeAll_7 : decode cX11_mergeAll 7 = .ok (.aload_n 0, 1) := by decide +kernel
theorem dX11_mergeAll_8 : decode cX11_mergeAll 8 = .ok (.getfield 28, 3) := by decide +kernel
theorem dX11_mergeAll_11 : decode cX11_mergeAll 11 = .ok (.getfield 103, 3) := by decide +kernel
theorem dX11_mergeAll_14 : decode cX11_mergeAll 14 = .ok (.ireturn, 1) := by decide +kernel
theorem dX11_needClosedNet_0 : decode cX11_needClosedNet 0 = .ok (.aload_n 0, 1) := by decide +kernel
theorem dX11_needClosedNet_1 : decode cX11_needClosedNet 1 = .ok (.getfield 10, 3) := by decide +kernel
theorem dX11_needClosedNet_4 : decode cX11_needClosedNet 4 = .ok (.getfield 121, 3) := by decide +kernel
theorem dX11_needClosedNet_7 : decode cX11_needClosedNet 7 = .ok (.ifCond .ne 11, 3) := by decide +kernel
theorem dX11_needClosedNet_10 : decode cX11_needClosedNet 10 = .ok (.new 125, 3) := by decide +kernel
theorem dX11_needClosedNet_13 : decode cX11_needClosedNet 13 = .ok (.dup, 1) := by decide +kernel
theorem dX11_needClosedNet_14 : decode cX11_needClosedNet 14 = .ok (.invokespecial 127, 3) := by decide +kernel
theorem dX11_needClosedNet_17 : decode cX11_needClosedNet 17 = .ok (.athrow, 1) := by decide +kernel
theorem dX11_needClosedNet_18 : decode cX11_needClosedNet 18 = .ok (.return_, 1) := by decide +kernel
theorem dX11_needCode_0 : decode cX11_needCode 0 = .ok (.iload_n 1, 1) := by decide +kernel
theorem dX11_needCode_1 : decode cX11_needCode 1 = .ok (.bipush 99, 2) := by decide +kernel
theorem dX11_needCode_3 : decode cX11_needCode 3 = .ok (.if_icmp .eq 17, 3) := by decide +kernel
theorem dX11_needCode_6 : decode cX11_needCode 6 = .ok (.iload_n 1, 1) := by decide +kernel
theorem dX11_needCode_7 : decode cX11_needCode 7 = .ok (.bipush 116, 2) := by decide +kernel
theorem dX11_needCode_9 : decode cX11_needCode 9 = .ok (.if_icmp .eq 11, 3) := by decide +kernel
theorem dX11_needCode_12 : decode cX11_needCode 12 = .ok (.new 114, 3) := by decide +kernel
theorem dX11_needCode_15 : decode cX11_needCode 15 = .ok (.dup, 1) := by decide +kernel
theorem dX11_needCode_16 : decode cX11_needCode 16 = .ok (.invokespecial 116, 3) := by decide +kernel
theorem dX11_needCode_19 : decode cX11_needCode 19 = .ok (.athrow, 1) := by decide +kernel
theorem dX11_needCode_20 : decode cX11_needCode 20 = .ok (.return_, 1) := by decide +kernel
theorem dX11_needEngine_0 : decode cX11_needEngine 0 = .ok (.iload_n 1, 1) := by decide +kernel
theorem dX11_needEngine_1 : decode cX11_needEngine 1 = .ok (.bipush 115, 2) := by decide +kernel
theorem dX11_needEngine_3 : decode cX11_needEngine 3 = .ok (.if_icmp .eq 23, 3) := by decide +kernel
theorem dX11_needEngine_6 : decode cX11_needEngine 6 = .ok (.iload_n 1, 1) := by decide +kernel
theorem dX11_needEngine_7 : decode cX11_needEngine 7 = .ok (.bipush 112, 2) := by decide +kernel
theorem dX11_needEngine_9 : decode cX11_needEngine 9 = .ok (.if_icmp .eq 17, 3) := by decide +kernel
theorem dX11_needEngine_12 : decode cX11_needEngine 12 = .ok (.iload_n 1, 1) := by decide +kernel
theorem dX11_needEngine_13 : decode cX11_needEngine 13 = .ok (.bipush 100, 2) := by decide +kernel
theorem dX11_needEngine_15 : decode cX11_needEngine 15 = .ok (.if_icmp .eq 11, 3) := by decide +kernel
theorem dX11_needEngine_18 : decode cX11_needEngine 18 = .ok (.new 114, 3) := by decide +kernel
theorem dX11_needEngine_21 : decode cX11_needEngine 21 = .ok (.dup, 1) := by decide +kernel
theorem dX11_needEngine_22 : decode cX11_needEngine 22 = .ok (.invokespecial 116, 3) := by decide +kernel
theorem dX11_needEngine_25 : decode cX11_needEngine 25 = .ok (.athrow, 1) := by decide +kernel
theorem dX11_needEngine_26 : decode cX11_needEngine 26 = .ok (.return_, 1) := by decide +kernel
theorem dX11_needFault_0 : decode cX11_needFault 0 = .ok (.iload_n 1, 1) := by decide +kernel
theorem dX11_needFault_1 : decode cX11_needFault 1 = .ok (.ifCond .lt 14, 3) := by decide +kernel
theorem dX11_needFault_4 : decode cX11_needFault 4 = .ok (.iload_n 1, 1) := by decide +kernel
theorem dX11_needFault_5 : decode cX11_needFault 5 = .ok (.aload_n 0, 1) := by decide +kernel
theorem dX11_needFault_6 : decode cX11_needFault 6 = .ok (.getfield 21, 3) := by decide +kernel
theorem dX11_needFault_9 : decode cX11_needFault 9 = .ok (.getfield 106, 3) := by decide +kernel
theorem dX11_needFault_12 : decode cX11_needFault 12 = .ok (.if_icmp .lt 11, 3) := by decide +kernel
theorem dX11_needFault_15 : decode cX11_needFault 15 = .ok (.new 100, 3) := by decide +kernel
theorem dX11_needFault_18 : decode cX11_needFault 18 = .ok (.dup, 1) := by decide +kernel
theorem dX11_needFault_19 : decode cX11_needFault 19 = .ok (.invokespecial 102, 3) := by decide +kernel
theorem dX11_needFault_22 : decode cX11_needFault 22 = .ok (.athrow, 1) := by decide +kernel
theorem dX11_needFault_23 : decode cX11_needFault 23 = .ok (.return_, 1) := by decide +kernel
theorem dX11_needLine_0 : decode cX11_needLine 0 = .ok (.iload_n 1, 1) := by decide +kernel
theorem dX11_needLine_1 : decode cX11_needLine 1 = .ok (.ifCond .lt 14, 3) := by decide +kernel
theorem dX11_needLine_4 : decode cX11_needLine 4 = .ok (.iload_n 1, 1) := by decide +kernel
theorem dX11_needLine_5 : decode cX11_needLine 5 = .ok (.aload_n 0, 1) := by decide +kernel
theorem dX11_needLine_6 : decode cX11_needLine 6 = .ok (.getfield 10, 3) := by decide +kernel
theorem dX11_needLine_9 : decode cX11_needLine 9 = .ok (.getfield 96, 3) := by decide +kernel
theorem dX11_needLine_12 : decode cX11_needLine 12 = .ok (.if_icmp .lt 11, 3) := by decide +kernel
theorem dX11_needLine_15 : decode cX11_needLine 15 = .ok (.new 100, 3) := by decide +kernel
theorem dX11_needLine_18 : decode cX11_needLine 18 = .ok (.dup, 1) := by decide +kernel
theorem dX11_needLine_19 : decode cX11_needLine 19 = .ok (.invokespecial 102, 3) := by decide +kernel
theorem dX11_needLine_22 : decode cX11_needLine 22 = .ok (.athrow, 1) := by decide +kernel
theorem dX11_needLine_23 : decode cX11_needLine 23 = .ok (.return_, 1) := by decide +kernel
theorem dX11_needNotSlow_0 : decode cX11_needNotSlow 0 = .ok (.aload_n 0, 1) := by decide +kernel
theorem dX11_needNotSlow_1 : decode cX11_needNotSlow 1 = .ok (.iload_n 1, 1) := by decide +kernel
theorem dX11_needNotSlow_2 : decode cX11_needNotSlow 2 = .ok (.invokevirtual 107, 3) := by decide +kernel
theorem dX11_needNotSlow_5 : decode cX11_needNotSlow 5 = .ok (.aload_n 0, 1) := by decide +kernel
theorem dX11_needNotSlow_6 : decode cX11_needNotSlow 6 = .ok (.getfield 21, 3) := by decide +kernel
theorem dX11_needNotSlow_9 : decode cX11_needNotSlow 9 = .ok (.getfield 117, 3) := by decide +kernel
theorem dX11_needNotSlow_12 : decode cX11_needNotSlow 12 = .ok (.iload_n 1, 1) := by decide +kernel
theorem dX11_needNotSlow_13 : decode cX11_needNotSlow 13 = .ok (.caload, 1) := by decide +kernel
theorem dX11_needNotSlow_14 : decode cX11_needNotSlow 14 = .ok (.bipush 108, 2) := by decide +kernel
theorem dX11_needNotSlow_16 : decode cX11_needNotSlow 16 = .ok (.if_icmp .ne 11, 3) := by decide +kernel
theorem dX11_needNotSlow_19 : decode cX11_needNotSlow 19 = .ok (.new 114, 3) := by decide +kernel
theorem dX11_needNotSlow_22 : decode cX11_needNotSlow 22 = .ok (.dup, 1) := by decide +kernel
theorem dX11_needNotSlow_23 : decode cX11_needNotSlow 23 = .ok (.invokespecial 116, 3) := by decide +kernel
theorem dX11_needNotSlow_26 : decode cX11_needNotSlow 26 = .ok (.athrow, 1) := by decide +kernel
theorem dX11_needNotSlow_27 : decode cX11_needNotSlow 27 = .ok (.return_, 1) := by decide +kernel
theorem dX11_needOpenNet_0 : decode cX11_needOpenNet 0 = .ok (.aload_n 0, 1) := by decide +kernel
theorem dX11_needOpenNet_1 : decode cX11_needOpenNet 1 = .ok (.getfield 10, 3) := by decide +kernel
theorem dX11_needOpenNet_4 : decode cX11_needOpenNet 4 = .ok (.getfield 121, 3) := by decide +kernel
theorem dX11_needOpenNet_7 : decode cX11_needOpenNet 7 = .ok (.ifCond .eq 11, 3) := by decide +kernel
theorem dX11_needOpenNet_10 : decode cX11_needOpenNet 10 = .ok (.new 125, 3) := by decide +kernel
theorem dX11_needOpenNet_13 : decode cX11_needOpenNet 13 = .ok (.dup, 1) := by decide +kernel
theorem dX11_needOpenNet_14 : decode cX11_needOpenNet 14 = .ok (.invokespecial 127, 3) := by decide +kernel
theorem dX11_needOpenNet_17 : decode cX11_needOpenNet 17 = .ok (.athrow, 1) := by decide +kernel
theorem dX11_needOpenNet_18 : decode cX11_needOpenNet 18 = .ok (.return_, 1) := by decide +kernel
theorem dX11_needPattern_0 : decode cX11_needPattern 0 = .ok (.iload_n 1, 1) := by decide +kernel
theorem dX11_needPattern_1 : decode cX11_needPattern 1 = .ok (.ifCond .lt 14, 3) := by decide +kernel
theorem dX11_needPattern_4 : decode cX11_needPattern 4 = .ok (.iload_n 1, 1) := by decide +kernel
theorem dX11_needPattern_5 : decode cX11_needPattern 5 = .ok (.aload_n 0, 1) := by decide +kernel
theorem dX11_needPattern_6 : decode cX11_needPattern 6 = .ok (.getfield 28, 3) := by decide +kernel
theorem dX11_needPattern_9 : decode cX11_needPattern 9 = .ok (.getfield 103, 3) := by decide +kernel
theorem dX11_needPattern_12 : decode cX11_needPattern 12 = .ok (.if_icmp .lt 11, 3) := by decide +kernel
theorem dX11_needPattern_15 : decode cX11_needPattern 15 = .ok (.new 100, 3) := by decide +kernel
theorem dX11_needPattern_18 : decode cX11_needPattern 18 = .ok (.dup, 1) := by decide +kernel
theorem dX11_needPattern_19 : decode cX11_needPattern 19 = .ok (.invokespecial 102, 3) := by decide +kernel
theorem dX11_needPattern_22 : decode cX11_needPattern 22 = .ok (.athrow, 1) := by decide +kernel
theorem dX11_needPattern_23 : decode cX11_needPattern 23 = .ok (.return_, 1) := by decide +kernel
theorem dX11_needRange_0 : decode cX11_needRange 0 = .ok (.iload_n 0, 1) := by decide +kernel
theorem dX11_needRange_1 : decode cX11_needRange 1 = .ok (.iload_n 1, 1) := by decide +kernel
theorem dX11_needRange_2 : decode cX11_needRange 2 = .ok (.if_icmp .lt 8, 3) := by decide +kernel
theorem dX11_needRange_5 : decode cX11_needRange 5 = .ok (.iload_n 0, 1) := by decide +kernel
theorem dX11_needRange_6 : decode cX11_needRange 6 = .ok (.iload_n 2, 1) := by decide +kernel
theorem dX11_needRange_7 : decode cX11_needRange 7 = .ok (.if_icmp .le 11, 3) := by decide +kernel
theorem dX11_needRange_10 : decode cX11_needRange 10 = .ok (.new 114, 3) := by decide +kernel
theorem dX11_needRange_13 : decode cX11_needRange 13 = .ok (.dup, 1) := by decide +kernel
theorem dX11_needRange_14 : decode cX11_needRange 14 = .ok (.invokespecial 116, 3) := by decide +kernel
theorem dX11_needRange_17 : decode cX11_needRange 17 = .ok (.athrow, 1) := by decide +kernel
theorem dX11_needRange_18 : decode cX11_needRange 18 = .ok (.return_, 1) := by decide +kernel
theorem dX11_needRoomForCores_0 : decode cX11_needRoomForCores 0 = .ok (.aload_n 0, 1) := by decide +kernel
theorem dX11_needRoomForCores_1 : decode cX11_needRoomForCores 1 = .ok (.getfield 92, 3) := by decide +kernel
theorem dX11_needRoomForCores_4 : decode cX11_needRoomForCores 4 = .ok (.getfield 535, 3) := by decide +kernel
theorem dX11_needRoomForCores_7 : decode cX11_needRoomForCores 7 = .ok (.ifCond .eq 15, 3) := by decide +kernel
theorem dX11_needRoomForCores_10 : decode cX11_needRoomForCores 10 = .ok (.aload_n 0, 1) := by decide +kernel
theorem dX11_needRoomForCores_11 : decode cX11_needRoomForCores 11 = .ok (.getfield 92, 3) := by decide +kernel
theorem dX11_needRoomForCores_14 : decode cX11_needRoomForCores 14 = .ok (.iload_n 1, 1) := by decide +kernel
theorem dX11_needRoomForCores_15 : decode cX11_needRoomForCores 15 = .ok (.iload_n 2, 1) := by decide +kernel
theorem dX11_needRoomForCores_16 : decode cX11_needRoomForCores 16 = .ok (.invokevirtual 547, 3) := by decide +kernel
theorem dX11_needRoomForCores_19 : decode cX11_needRoomForCores 19 = .ok (.ifCond .ne 11, 3) := by decide +kernel
theorem dX11_needRoomForCores_22 : decode cX11_needRoomForCores 22 = .ok (.new 310, 3) := by decide +kernel
theorem dX11_needRoomForCores_25 : decode cX11_needRoomForCores 25 = .ok (.dup, 1) := by decide +kernel
theorem dX11_needRoomForCores_26 : decode cX11_needRoomForCores 26 = .ok (.invokespecial 312, 3) := by decide +kernel
theorem dX11_needRoomForCores_29 : decode cX11_needRoomForCores 29 = .ok (.athrow, 1) := by decide +kernel
theorem dX11_needRoomForCores_30 : decode cX11_needRoomForCores 30 = .ok (.return_, 1) := by decide +kernel
theorem dX11_needStuck_0 : decode cX11_needStuck 0 = .ok (.aload_n 0, 1) := by decide +kernel
theorem dX11_needStuck_1 : decode cX11_needStuck 1 = .ok (.iload_n 1, 1) := by decide +kernel
theorem dX11_needStuck_2 : decode cX11_needStuck 2 = .ok (.invokevirtual 107, 3) := by decide +kernel
theorem dX11_needStuck_5 : decode cX11_needStuck 5 = .ok (.iload_n 1, 1) := by decide +kernel
theorem dX11_needStuck_6 : decode cX11_needStuck 6 = .ok (.aload_n 0, 1) := by decide +kernel
theorem dX11_needStuck_7 : decode cX11_needStuck 7 = .ok (.getfield 21, 3) := by decide +kernel
theorem dX11_needStuck_10 : decode cX11_needStuck 10 = .ok (.getfield 111, 3) := by decide +kernel
theorem dX11_needStuck_13 : decode cX11_needStuck 13 = .ok (.if_icmp .lt 11, 3) := by decide +kernel
theorem dX11_needStuck_16 : decode cX11_needStuck 16 = .ok (.new 114, 3) := by decide +kernel
theorem dX11_needStuck_19 : decode cX11_needStuck 19 = .ok (.dup, 1) := by decide +kernel
theorem dX11_needStuck_20 : decode cX11_needStuck 20 = .ok (.invokespecial 116, 3) := by decide +kernel
theorem dX11_needStuck_23 : decode cX11_needStuck 23 = .ok (.athrow, 1) := by decide +kernel
theorem dX11_needStuck_24 : decode cX11_needStuck 24 = .ok (.return_, 1) := by decide +kernel
theorem dX11_needWire_0 : decode cX11_needWire 0 = .ok (.iload_n 1, 1) := by decide +kernel
theorem dX11_needWire_1 : decode cX11_needWire 1 = .ok (.ifCond .lt 14, 3) := by decide +kernel
theorem dX11_needWire_4 : decode cX11_needWire 4 = .ok (.iload_n 1, 1) := by decide +kernel
theorem dX11_needWire_5 : decode cX11_needWire 5 = .ok (.aload_n 0, 1) := by decide +kernel
theorem dX11_needWire_6 : decode cX11_needWire 6 = .ok (.getfield 85, 3) := by decide +kernel
theorem dX11_needWire_9 : decode cX11_needWire 9 = .ok (.getfield 128, 3) := by decide +kernel
theorem dX11_needWire_12 : decode cX11_needWire 12 = .ok (.if_icmp .lt 11, 3) := by decide +kernel
theorem dX11_needWire_15 : decode cX11_needWire 15 = .ok (.new 100, 3) := by decide +kernel
theorem dX11_needWire_18 : decode cX11_needWire 18 = .ok (.dup, 1) := by decide +kernel
theorem dX11_needWire_19 : decode cX11_needWire 19 = .ok (.invokespecial 102, 3) := by decide +kernel
theorem dX11_needWire_22 : decode cX11_needWire 22 = .ok (.athrow, 1) := by decide +kernel
theorem dX11_needWire_23 : decode cX11_needWire 23 = .ok (.return_, 1) := by decide +kernel
theorem dX11_openWire_0 : decode cX11_openWire 0 = .ok (.aload_n 0, 1) := by decide +kernel
theorem dX11_openWire_1 : decode cX11_openWire 1 = .ok (.iload_n 1, 1) := by decide +kernel
theorem dX11_openWire_2 : decode cX11_openWire 2 = .ok (.invokevirtual 515, 3) := by decide +kernel
theorem dX11_openWire_5 : decode cX11_openWire 5 = .ok (.iload_n 2, 1) := by decide +kernel
theorem dX11_openWire_6 : decode cX11_openWire 6 = .ok (.iconst 0, 1) := by decide +kernel
theorem dX11_openWire_7 : decode cX11_openWire 7 = .ok (.iconst 1, 1) := by decide +kernel
theorem dX11_openWire_8 : decode cX11_openWire 8 = .ok (.invokestatic 361, 3) := by decide +kernel
theorem dX11_openWire_11 : decode cX11_openWire 11 = .ok (.aload_n 0, 1) := by decide +kernel
theorem dX11_openWire_12 : decode cX11_openWire 12 = .ok (.getfield 85, 3) := by decide +kernel
theorem dX11_openWire_15 : decode cX11_openWire 15 = .ok (.iload_n 1, 1) := by decide +kernel
theorem dX11_openWire_16 : decode cX11_openWire 16 = .ok (.invokevirtual 518, 3) := by decide +kernel
theorem dX11_openWire_19 : decode cX11_openWire 19 = .ok (.ifCond .ne 7, 3) := by decide +kernel
theorem dX11_openWire_22 : decode cX11_openWire 22 = .ok (.iconst 1, 1) := by decide +kernel
theorem dX11_openWire_23 : decode cX11_openWire 23 = .ok (.goto 4, 3) := by decide +kernel
theorem dX11_openWire_26 : decode cX11_openWire 26 = .ok (.iconst 0, 1) := by decide +kernel
theorem dX11_openWire_27 : decode cX11_openWire 27 = .ok (.istore_n 3, 1) := by decide +kernel
theorem dX11_openWire_28 : decode cX11_openWire 28 = .ok (.aload_n 0, 1) := by decide +kernel
theorem dX11_openWire_29 : decode cX11_openWire 29 = .ok (.getfield 85, 3) := by decide +kernel
theorem dX11_openWire_32 : decode cX11_openWire 32 = .ok (.getfield 521, 3) := by decide +kernel
theorem dX11_openWire_35 : decode cX11_openWire 35 = .ok (.iload_n 1, 1) := by decide +kernel
theorem dX11_openWire_36 : decode cX11_openWire 36 = .ok (.iload_n 2, 1) := by decide +kernel
theorem dX11_openWire_37 : decode cX11_openWire 37 = .ok (.iastore, 1) := by decide +kernel
theorem dX11_openWire_38 : decode cX11_openWire 38 = .ok (.iload_n 3, 1) := by decide +kernel
theorem dX11_openWire_39 : decode cX11_openWire 39 = .ok (.ireturn, 1) := by decide +kernel
theorem dX11_orderAt_0 : decode cX11_orderAt 0 = .ok (.iload_n 1, 1) := by decide +kernel
theorem dX11_orderAt_1 : decode cX11_orderAt 1 = .ok (.ifCond .lt 14, 3) := by decide +kernel
theorem dX11_orderAt_4 : decode cX11_orderAt 4 = .ok (.iload_n 1, 1) := by decide +kernel
theorem dX11_orderAt_5 : decode cX11_orderAt 5 = .ok (.aload_n 0, 1) := by decide +kernel
theorem dX11_orderAt_6 : decode cX11_orderAt 6 = .ok (.getfield 28, 3) := by decide +kernel
theorem dX11_orderAt_9 : decode cX11_orderAt 9 = .ok (.getfield 103, 3) := by decide +kernel
theorem dX11_orderAt_12 : decode cX11_orderAt 12 = .ok (.if_icmp .lt 11, 3) := by decide +kernel
theorem dX11_orderAt_15 : decode cX11_orderAt 15 = .ok (.new 310, 3) := by decide +kernel
theorem dX11_orderAt_18 : decode cX11_orderAt 18 = .ok (.dup, 1) := by decide +kernel
theorem dX11_orderAt_19 : decode cX11_orderAt 19 = .ok (.invokespecial 312, 3) := by decide +kernel
theorem dX11_orderAt_22 : decode cX11_orderAt 22 = .ok (.athrow, 1) := by decide +kernel
theorem dX11_orderAt_23 : decode cX11_orderAt 23 = .ok (.aload_n 0, 1) := by decide +kernel
theorem dX11_orderAt_24 : decode cX11_orderAt 24 = .ok (.getfield 37, 3) := by decide +kernel
theorem dX11_orderAt_27 : decode cX11_orderAt 27 = .ok (.aload_n 0, 1) := by decide +kernel
theorem dX11_orderAt_28 : decode cX11_orderAt 28 = .ok (.getfield 28, 3) := by decide +kernel
theorem dX11_orderAt_31 : decode cX11_orderAt 31 = .ok (.invokevirtual 276, 3) := by decide +kernel
theorem dX11_orderAt_34 : decode cX11_orderAt 34 = .ok (.aload_n 0, 1) := by decide +kernel
theorem dX11_orderAt_35 : decode cX11_orderAt 35 = .ok (.getfield 28, 3) := by decide +kernel
theorem dX11_orderAt_38 : decode cX11_orderAt 38 = .ok (.aload_n 0, 1) := by decide +kernel
theorem dX11_orderAt_39 : decode cX11_orderAt 39 = .ok (.getfield 37, 3) := by decide +kernel
theorem dX11_orderAt_42 : decode cX11_orderAt 42 = .ok (.aload_n 0, 1) := by decide +kernel
theorem dX11_orderAt_43 : decode cX11_orderAt 43 = .ok (.getfield 21, 3) := by decide +kernel
theorem dX11_orderAt_46 : decode cX11_orderAt 46 = .ok (.invokevirtual 471, 3) := by decide +kernel
theorem dX11_orderAt_49 : decode cX11_orderAt 49 = .ok (.aload_n 0, 1) := by decide +kernel
theorem dX11_orderAt_50 : decode cX11_orderAt 50 = .ok (.getfield 28, 3) := by decide +kernel
theorem dX11_orderAt_53 : decode cX11_orderAt 53 = .ok (.getfield 475, 3) := by decide +kernel
theorem dX11_orderAt_56 : decode cX11_orderAt 56 = .ok (.iload_n 1, 1) := by decide +kernel
theorem dX11_orderAt_57 : decode cX11_orderAt 57 = .ok (.iaload, 1) := by decide +kernel
theorem dX11_orderAt_58 : decode cX11_orderAt 58 = .ok (.ireturn, 1) := by decide +kernel
theorem dX11_output_0 : decode cX11_output 0 = .ok (.aload_n 0, 1) := by decide +kernel
theorem dX11_output_1 : decode cX11_output 1 = .ok (.iload_n 1, 1) := by decide +kernel
theorem dX11_output_2 : decode cX11_output 2 = .ok (.invokevirtual 149, 3) := by decide +kernel
theorem dX11_output_5 : decode cX11_output 5 = .ok (.aload_n 0, 1) := by decide +kernel
theorem dX11_output_6 : decode cX11_output 6 = .ok (.invokevirtual 135, 3) := by decide +kernel
theorem dX11_output_9 : decode cX11_output 9 = .ok (.aload_n 0, 1) := by decide +kernel
theorem dX11_output_10 : decode cX11_output 10 = .ok (.getfield 10, 3) := by decide +kernel
theorem dX11_output_13 : decode cX11_output 13 = .ok (.getfield 163, 3) := by decide +kernel
theorem dX11_output_16 : decode cX11_output 16 = .ok (.iload_n 1, 1) := by decide +kernel
theorem dX11_output_17 : decode cX11_output 17 = .ok (.baload, 1) := by decide +kernel
theorem dX11_output_18 : decode cX11_output 18 = .ok (.ifCond .ne 7, 3) := by decide +kernel
theorem dX11_output_21 : decode cX11_output 21 = .ok (.iconst 1, 1) := by decide +kernel
theorem dX11_output_22 : decode cX11_output 22 = .ok (.goto 4, 3) := by decide +kernel
theorem dX11_output_25 : decode cX11_output 25 = .ok (.iconst 0, 1) := by decide +kernel
theorem dX11_output_26 : decode cX11_output 26 = .ok (.istore_n 2, 1) := by decide +kernel
theorem dX11_output_27 : decode cX11_output 27 = .ok (.aload_n 0, 1) := by decide +kernel
theorem dX11_output_28 : decode cX11_output 28 = .ok (.getfield 10, 3) := by decide +kernel
theorem dX11_output_31 : decode cX11_output 31 = .ok (.getfield 163, 3) := by decide +kernel
theorem dX11_output_34 : decode cX11_output 34 = .ok (.iload_n 1, 1) := by decide +kernel
theorem dX11_output_35 : decode cX11_output 35 = .ok (.iconst 1, 1) := by decide +kernel
theorem dX11_output_36 : decode cX11_output 36 = .ok (.bastore, 1) := by decide +kernel
theorem dX11_output_37 : decode cX11_output 37 = .ok (.iload_n 2, 1) := by decide +kernel
theorem dX11_output_38 : decode cX11_output 38 = .ok (.ireturn, 1) := by decide +kernel
theorem dX11_pattern_0 : decode cX11_pattern 0 = .ok (.iload_n 1, 1) := by decide +kernel
theorem dX11_pattern_1 : decode cX11_pattern 1 = .ok (.aload_n 0, 1) := by decide +kernel
theorem dX11_pattern_2 : decode cX11_pattern 2 = .ok (.getfield 10, 3) := by decide +kernel
theorem dX11_pattern_5 : decode cX11_pattern 5 = .ok (.invokevirtual 192, 3) := by decide +kernel
theorem dX11_pattern_8 : decode cX11_pattern 8 = .ok (.iconst (-1), 1) := by decide +kernel
theorem dX11_pattern_9 : decode cX11_pattern 9 = .ok (.ixor, 1) := by decide +kernel
theorem dX11_pattern_10 : decode cX11_pattern 10 = .ok (.iand, 1) := by decide +kernel
theorem dX11_pattern_11 : decode cX11_pattern 11 = .ok (.ifCond .ne 11, 3) := by decide +kernel
theorem dX11_pattern_14 : decode cX11_pattern 14 = .ok (.iload_n 2, 1) := by decide +kernel
theorem dX11_pattern_15 : decode cX11_pattern 15 = .ok (.iload_n 1, 1) := by decide +kernel
theorem dX11_pattern_16 : decode cX11_pattern 16 = .ok (.iconst (-1), 1) := by decide +kernel
theorem dX11_pattern_17 : decode cX11_pattern 17 = .ok (.ixor, 1) := by decide +kernel
theorem dX11_pattern_18 : decode cX11_pattern 18 = .ok (.iand, 1) := by decide +kernel
theorem dX11_pattern_19 : decode cX11_pattern 19 = .ok (.ifCond .eq 11, 3) := by decide +kernel
theorem dX11_pattern_22 : decode cX11_pattern 22 = .ok (.new 114, 3) := by decide +kernel
theorem dX11_pattern_25 : decode cX11_pattern 25 = .ok (.dup, 1) := by decide +kernel
theorem dX11_pattern_26 : decode cX11_pattern 26 = .ok (.invokespecial 116, 3) := by decide +kernel
theorem dX11_pattern_29 : decode cX11_pattern 29 = .ok (.athrow, 1) := by decide +kernel
theorem dX11_pattern_30 : decode cX11_pattern 30 = .ok (.aload_n 0, 1) := by decide +kernel
theorem dX11_pattern_31 : decode cX11_pattern 31 = .ok (.invokevirtual 177, 3) := by decide +kernel
theorem dX11_pattern_34 : decode cX11_pattern 34 = .ok (.aload_n 0, 1) := by decide +kernel
theorem dX11_pattern_35 : decode cX11_pattern 35 = .ok (.getfield 28, 3) := by decide +kernel
theorem dX11_pattern_38 : decode cX11_pattern 38 = .ok (.getfield 103, 3) := by decide +kernel
theorem dX11_pattern_41 : decode cX11_pattern 41 = .ok (.bipush 32, 2) := by decide +kernel
theorem dX11_pattern_43 : decode cX11_pattern 43 = .ok (.if_icmp .lt 11, 3) := by decide +kernel
theorem dX11_pattern_46 : decode cX11_pattern 46 = .ok (.new 141, 3) := by decide +kernel
theorem dX11_pattern_49 : decode cX11_pattern 49 = .ok (.dup, 1) := by decide +kernel
theorem dX11_pattern_50 : decode cX11_pattern 50 = .ok (.invokespecial 143, 3) := by decide +kernel
theorem dX11_pattern_53 : decode cX11_pattern 53 = .ok (.athrow, 1) := by decide +kernel
theorem dX11_pattern_54 : decode cX11_pattern 54 = .ok (.aload_n 0, 1) := by decide +kernel
theorem dX11_pattern_55 : decode cX11_pattern 55 = .ok (.getfield 28, 3) := by decide +kernel
theorem dX11_pattern_58 : decode cX11_pattern 58 = .ok (.iload_n 1, 1) := by decide +kernel
theorem dX11_pattern_59 : decode cX11_pattern 59 = .ok (.iload_n 2, 1) := by decide +kernel
theorem dX11_pattern_60 : decode cX11_pattern 60 = .ok (.invokevirtual 196, 3) := by decide +kernel
theorem dX11_pattern_63 : decode cX11_pattern 63 = .ok (.ireturn, 1) := by decide +kernel
theorem dX11_patterns_0 : decode cX11_patterns 0 = .ok (.aload_n 0, 1) := by decide +kernel
theorem dX11_patterns_1 : decode cX11_patterns 1 = .ok (.getfield 28, 3) := by decide +kernel
theorem dX11_patterns_4 : decode cX11_patterns 4 = .ok (.getfield 103, 3) := by decide +kernel
theorem dX11_patterns_7 : decode cX11_patterns 7 = .ok (.ireturn, 1) := by decide +kernel
theorem dX11_pinOf_0 : decode cX11_pinOf 0 = .ok (.aload_n 0, 1) := by decide +kernel
theorem dX11_pinOf_1 : decode cX11_pinOf 1 = .ok (.iload_n 1, 1) := by decide +kernel
theorem dX11_pinOf_2 : decode cX11_pinOf 2 = .ok (.invokevirtual 107, 3) := by decide +kernel
theorem dX11_pinOf_5 : decode cX11_pinOf 5 = .ok (.aload_n 0, 1) := by decide +kernel
theorem dX11_pinOf_6 : decode cX11_pinOf 6 = .ok (.getfield 21, 3) := by decide +kernel
theorem dX11_pinOf_9 : decode cX11_pinOf 9 = .ok (.getfield 219, 3) := by decide +kernel
theorem dX11_pinOf_12 : decode cX11_pinOf 12 = .ok (.iload_n 1, 1) := by decide +kernel
theorem dX11_pinOf_13 : decode cX11_pinOf 13 = .ok (.iaload, 1) := by decide +kernel
theorem dX11_pinOf_14 : decode cX11_pinOf 14 = .ok (.ireturn, 1) := by decide +kernel
theorem dX11_power_0 : decode cX11_power 0 = .ok (.aload_n 0, 1) := by decide +kernel
theorem dX11_power_1 : decode cX11_power 1 = .ok (.iload_n 1, 1) := by decide +kernel
theorem dX11_power_2 : decode cX11_power 2 = .ok (.invokevirtual 200, 3) := by decide +kernel
theorem dX11_power_5 : decode cX11_power 5 = .ok (.aload_n 0, 1) := by decide +kernel
theorem dX11_power_6 : decode cX11_power 6 = .ok (.getfield 28, 3) := by decide +kernel
theorem dX11_power_9 : decode cX11_power 9 = .ok (.iload_n 1, 1) := by decide +kernel
theorem dX11_power_10 : decode cX11_power 10 = .ok (.aload_n 0, 1) := by decide +kernel
theorem dX11_power_11 : decode cX11_power 11 = .ok (.getfield 10, 3) := by decide +kernel
theorem dX11_power_14 : decode cX11_power 14 = .ok (.getfield 138, 3) := by decide +kernel
theorem dX11_power_17 : decode cX11_power 17 = .ok (.invokevirtual 355, 3) := by decide +kernel
theorem dX11_power_20 : decode cX11_power 20 = .ok (.ireturn, 1) := by decide +kernel
theorem dX11_record_0 : decode cX11_record 0 = .ok (.aload_n 0, 1) := by decide +kernel
theorem dX11_record_1 : decode cX11_record 1 = .ok (.getfield 71, 3) := by decide +kernel
theorem dX11_record_4 : decode cX11_record 4 = .ok (.invokevirtual 438, 3) := by decide +kernel
theorem dX11_record_7 : decode cX11_record 7 = .ok (.aload_n 0, 1) := by decide +kernel
theorem dX11_record_8 : decode cX11_record 8 = .ok (.getfield 71, 3) := by decide +kernel
theorem dX11_record_11 : decode cX11_record 11 = .ok (.iconst 0, 1) := by decide +kernel
theorem dX11_record_12 : decode cX11_record 12 = .ok (.invokevirtual 441, 3) := by decide +kernel
theorem dX11_record_15 : decode cX11_record 15 = .ok (.istore_n 1, 1) := by decide +kernel
theorem dX11_record_16 : decode cX11_record 16 = .ok (.iload_n 1, 1) := by decide +kernel
theorem dX11_record_17 : decode cX11_record 17 = .ok (.ifCond .ge 11, 3) := by decide +kernel
theorem dX11_record_20 : decode cX11_record 20 = .ok (.new 310, 3) := by decide +kernel
theorem dX11_record_23 : decode cX11_record 23 = .ok (.dup, 1) := by decide +kernel
theorem dX11_record_24 : decode cX11_record 24 = .ok (.invokespecial 312, 3) := by decide +kernel
theorem dX11_record_27 : decode cX11_record 27 = .ok (.athrow, 1) := by decide +kernel
theorem dX11_record_28 : decode cX11_record 28 = .ok (.aload_n 0, 1) := by decide +kernel
theorem dX11_record_29 : decode cX11_record 29 = .ok (.getfield 21, 3) := by decide +kernel
theorem dX11_record_32 : decode cX11_record 32 = .ok (.getfield 447, 3) := by decide +kernel
theorem dX11_record_35 : decode cX11_record 35 = .ok (.iload_n 1, 1) := by decide +kernel
theorem dX11_record_36 : decode cX11_record 36 = .ok (.dup2, 1) := by decide +kernel
theorem dX11_record_37 : decode cX11_record 37 = .ok (.iaload, 1) := by decide +kernel
theorem dX11_record_38 : decode cX11_record 38 = .ok (.iconst 1, 1) := by decide +kernel
theorem dX11_record_39 : decode cX11_record 39 = .ok (.iadd, 1) := by decide +kernel
theorem dX11_record_40 : decode cX11_record 40 = .ok (.iastore, 1) := by decide +kernel
theorem dX11_record_41 : decode cX11_record 41 = .ok (.aload_n 0, 1) := by decide +kernel
theorem dX11_record_42 : decode cX11_record 42 = .ok (.getfield 21, 3) := by decide +kernel
theorem dX11_record_45 : decode cX11_record 45 = .ok (.iload_n 1, 1) := by decide +kernel
theorem dX11_record_46 : decode cX11_record 46 = .ok (.invokevirtual 450, 3) := by decide +kernel
theorem dX11_record_49 : decode cX11_record 49 = .ok (.ireturn, 1) := by decide +kernel
theorem dX11_repair_0 : decode cX11_repair 0 = .ok (.iload_n 1, 1) := by decide +kernel
theorem dX11_repair_1 : decode cX11_repair 1 = .ok (.iconst 0, 1) := by decide +kernel
theorem dX11_repair_2 : decode cX11_repair 2 = .ok (.bipush 8, 2) := by decide +kernel
theorem dX11_repair_4 : decode cX11_repair 4 = .ok (.invokestatic 361, 3) := by decide +kernel
theorem dX11_repair_7 : decode cX11_repair 7 = .ok (.iload_n 2, 1) := by decide +kernel
theorem dX11_repair_8 : decode cX11_repair 8 = .ok (.iconst 0, 1) := by decide +kernel
theorem dX11_repair_9 : decode cX11_repair 9 = .ok (.bipush 8, 2) := by decide +kernel
theorem dX11_repair_11 : decode cX11_repair 11 = .ok (.invokestatic 361, 3) := by decide +kernel
theorem dX11_repair_14 : decode cX11_repair 14 = .ok (.aload_n 0, 1) := by decide +kernel
theorem dX11_repair_15 : decode cX11_repair 15 = .ok (.getfield 78, 3) := by decide +kernel
theorem dX11_repair_18 : decode cX11_repair 18 = .ok (.iload_n 1, 1) := by decide +kernel
theorem dX11_repair_19 : decode cX11_repair 19 = .ok (.iload_n 2, 1) := by decide +kernel
theorem dX11_repair_20 : decode cX11_repair 20 = .ok (.invokevirtual 508, 3) := by decide +kernel
theorem dX11_repair_23 : decode cX11_repair 23 = .ok (.istore_n 3, 1) := by decide +kernel
theorem dX11_repair_24 : decode cX11_repair 24 = .ok (.iload_n 3, 1) := by decide +kernel
theorem dX11_repair_25 : decode cX11_repair 25 = .ok (.ifCond .ge 11, 3) := by decide +kernel
theorem dX11_repair_28 : decode cX11_repair 28 = .ok (.new 310, 3) := by decide +kernel
theorem dX11_repair_31 : decode cX11_repair 31 = .ok (.dup, 1) := by decide +kernel
theorem dX11_repair_32 : decode cX11_repair 32 = .ok (.invokespecial 312, 3) := by decide +kernel
theorem dX11_repair_35 : decode cX11_repair 35 = .ok (.athrow, 1) := by decide +kernel
theorem dX11_repair_36 : decode cX11_repair 36 = .ok (.iload_n 3, 1) := by decide +kernel
theorem dX11_repair_37 : decode cX11_repair 37 = .ok (.ireturn, 1) := by decide +kernel
theorem dX11_sameAs_0 : decode cX11_sameAs 0 = .ok (.aload_n 0, 1) := by decide +kernel
theorem dX11_sameAs_1 : decode cX11_sameAs 1 = .ok (.iload_n 1, 1) := by decide +kernel
theorem dX11_sameAs_2 : decode cX11_sameAs 2 = .ok (.invokevirtual 515, 3) := by decide +kernel
theorem dX11_sameAs_5 : decode cX11_sameAs 5 = .ok (.aload_n 0, 1) := by decide +kernel
theorem dX11_sameAs_6 : decode cX11_sameAs 6 = .ok (.iload_n 2, 1) := by decide +kernel
theorem dX11_sameAs_7 : decode cX11_sameAs 7 = .ok (.invokevirtual 526, 3) := by decide +kernel
theorem dX11_sameAs_10 : decode cX11_sameAs 10 = .ok (.aload_n 0, 1) := by decide +kernel
theorem dX11_sameAs_11 : decode cX11_sameAs 11 = .ok (.getfield 85, 3) := by decide +kernel
theorem dX11_sameAs_14 : decode cX11_sameAs 14 = .ok (.iload_n 1, 1) := by decide +kernel
theorem dX11_sameAs_15 : decode cX11_sameAs 15 = .ok (.iload_n 2, 1) := by decide +kernel
theorem dX11_sameAs_16 : decode cX11_sameAs 16 = .ok (.invokevirtual 529, 3) := by decide +kernel
theorem dX11_sameAs_19 : decode cX11_sameAs 19 = .ok (.istore_n 3, 1) := by decide +kernel
theorem dX11_sameAs_20 : decode cX11_sameAs 20 = .ok (.iconst 0, 1) := by decide +kernel
theorem dX11_sameAs_21 : decode cX11_sameAs 21 = .ok (.istore 4, 2) := by decide +kernel
theorem dX11_sameAs_23 : decode cX11_sameAs 23 = .ok (.iconst 0, 1) := by decide +kernel
theorem dX11_sameAs_24 : decode cX11_sameAs 24 = .ok (.istore 5, 2) := by decide +kernel
theorem dX11_sameAs_26 : decode cX11_sameAs 26 = .ok (.iload 5, 2) := by decide +kernel
theorem dX11_sameAs_28 : decode cX11_sameAs 28 = .ok (.aload_n 0, 1) := by decide +kernel
theorem dX11_sameAs_29 : decode cX11_sameAs 29 = .ok (.getfield 85, 3) := by decide +kernel
theorem dX11_sameAs_32 : decode cX11_sameAs 32 = .ok (.getfield 128, 3) := by decide +kernel
theorem dX11_sameAs_35 : decode cX11_sameAs 35 = .ok (.if_icmp .ge 26, 3) := by decide +kernel
theorem dX11_sameAs_38 : decode cX11_sameAs 38 = .ok (.aload_n 0, 1) := by decide +kernel
theorem dX11_sameAs_39 : decode cX11_sameAs 39 = .ok (.getfield 85, 3) := by decide +kernel
theorem dX11_sameAs_42 : decode cX11_sameAs 42 = .ok (.iload 5, 2) := by decide +kernel
theorem dX11_sameAs_44 : decode cX11_sameAs 44 = .ok (.iload_n 2, 1) := by decide +kernel
theorem dX11_sameAs_45 : decode cX11_sameAs 45 = .ok (.invokevirtual 529, 3) := by decide +kernel
theorem dX11_sameAs_48 : decode cX11_sameAs 48 = .ok (.iload_n 3, 1) := by decide +kernel
theorem dX11_sameAs_49 : decode cX11_sameAs 49 = .ok (.if_icmp .ne 6, 3) := by decide +kernel
theorem dX11_sameAs_52 : decode cX11_sameAs 52 = .ok (.iinc 4 1, 3) := by decide +kernel
theorem dX11_sameAs_55 : decode cX11_sameAs 55 = .ok (.iinc 5 1, 3) := by decide +kernel
theorem dX11_sameAs_58 : decode cX11_sameAs 58 = .ok (.goto (-32), 3) := by decide +kernel
theorem dX11_sameAs_61 : decode cX11_sameAs 61 = .ok (.iload 4, 2) := by decide +kernel
theorem dX11_sameAs_63 : decode cX11_sameAs 63 = .ok (.ireturn, 1) := by decide +kernel
theorem dX11_seedFor_0 : decode cX11_seedFor 0 = .ok (.aload_n 0, 1) := by decide +kernel
theorem dX11_seedFor_1 : decode cX11_seedFor 1 = .ok (.iload_n 1, 1) := by decide +kernel
theorem dX11_seedFor_2 : decode cX11_seedFor 2 = .ok (.invokevirtual 200, 3) := by decide +kernel
theorem dX11_seedFor_5 : decode cX11_seedFor 5 = .ok (.aload_n 0, 1) := by decide +kernel
theorem dX11_seedFor_6 : decode cX11_seedFor 6 = .ok (.getfield 62, 3) := by decide +kernel
theorem dX11_seedFor_9 : decode cX11_seedFor 9 = .ok (.aload_n 0, 1) := by decide +kernel
theorem dX11_seedFor_10 : decode cX11_seedFor 10 = .ok (.getfield 28, 3) := by decide +kernel
theorem dX11_seedFor_13 : decode cX11_seedFor 13 = .ok (.getfield 264, 3) := by decide +kernel
theorem dX11_seedFor_16 : decode cX11_seedFor 16 = .ok (.iload_n 1, 1) := by decide +kernel
theorem dX11_seedFor_17 : decode cX11_seedFor 17 = .ok (.iaload, 1) := by decide +kernel
theorem dX11_seedFor_18 : decode cX11_seedFor 18 = .ok (.aload_n 0, 1) := by decide +kernel
theorem dX11_seedFor_19 : decode cX11_seedFor 19 = .ok (.getfield 28, 3) := by decide +kernel
theorem dX11_seedFor_22 : decode cX11_seedFor 22 = .ok (.getfield 358, 3) := by decide +kernel
theorem dX11_seedFor_25 : decode cX11_seedFor 25 = .ok (.iload_n 1, 1) := by decide +kernel
theorem dX11_seedFor_26 : decode cX11_seedFor 26 = .ok (.iaload, 1) := by decide +kernel
theorem dX11_seedFor_27 : decode cX11_seedFor 27 = .ok (.aload_n 0, 1) := by decide +kernel
theorem dX11_seedFor_28 : decode cX11_seedFor 28 = .ok (.getfield 10, 3) := by decide +kernel
theorem dX11_seedFor_31 : decode cX11_seedFor 31 = .ok (.getfield 138, 3) := by decide +kernel
theorem dX11_seedFor_34 : decode cX11_seedFor 34 = .ok (.invokevirtual 374, 3) := by decide +kernel
theorem dX11_seedFor_37 : decode cX11_seedFor 37 = .ok (.istore_n 2, 1) := by decide +kernel
theorem dX11_seedFor_38 : decode cX11_seedFor 38 = .ok (.iload_n 2, 1) := by decide +kernel
theorem dX11_seedFor_39 : decode cX11_seedFor 39 = .ok (.ifCond .ge 11, 3) := by decide +kernel
theorem dX11_seedFor_42 : decode cX11_seedFor 42 = .ok (.new 310, 3) := by decide +kernel
theorem dX11_seedFor_45 : decode cX11_seedFor 45 = .ok (.dup, 1) := by decide +kernel
theorem dX11_seedFor_46 : decode cX11_seedFor 46 = .ok (.invokespecial 312, 3) := by decide +kernel
theorem dX11_seedFor_49 : decode cX11_seedFor 49 = .ok (.athrow, 1) := by decide +kernel
theorem dX11_seedFor_50 : decode cX11_seedFor 50 = .ok (.iload_n 2, 1) := by decide +kernel
theorem dX11_seedFor_51 : decode cX11_seedFor 51 = .ok (.ireturn, 1) := by decide +kernel
theorem dX11_seen_0 : decode cX11_seen 0 = .ok (.aload_n 0, 1) := by decide +kernel
theorem dX11_seen_1 : decode cX11_seen 1 = .ok (.iload_n 1, 1) := by decide +kernel
theorem dX11_seen_2 : decode cX11_seen 2 = .ok (.invokevirtual 200, 3) := by decide +kernel
theorem dX11_seen_5 : decode cX11_seen 5 = .ok (.iload_n 2, 1) := by decide +kernel
theorem dX11_seen_6 : decode cX11_seen 6 = .ok (.ifCond .lt 14, 3) := by decide +kernel
theorem dX11_seen_9 : decode cX11_seen 9 = .ok (.iload_n 2, 1) := by decide +kernel
theorem dX11_seen_10 : decode cX11_seen 10 = .ok (.aload_n 0, 1) := by decide +kernel
theorem dX11_seen_11 : decode cX11_seen 11 = .ok (.getfield 10, 3) := by decide +kernel
theorem dX11_seen_14 : decode cX11_seen 14 = .ok (.getfield 453, 3) := by decide +kernel
theorem dX11_seen_17 : decode cX11_seen 17 = .ok (.if_icmp .lt 11, 3) := by decide +kernel
theorem dX11_seen_20 : decode cX11_seen 20 = .ok (.new 100, 3) := by decide +kernel
theorem dX11_seen_23 : decode cX11_seen 23 = .ok (.dup, 1) := by decide +kernel
theorem dX11_seen_24 : decode cX11_seen 24 = .ok (.invokespecial 102, 3) := by decide +kernel
theorem dX11_seen_27 : decode cX11_seen 27 = .ok (.athrow, 1) := by decide +kernel
theorem dX11_seen_28 : decode cX11_seen 28 = .ok (.aload_n 0, 1) := by decide +kernel
theorem dX11_seen_29 : decode cX11_seen 29 = .ok (.getfield 71, 3) := by decide +kernel
theorem dX11_seen_32 : decode cX11_seen 32 = .ok (.iload_n 1, 1) := by decide +kernel
theorem dX11_seen_33 : decode cX11_seen 33 = .ok (.iload_n 2, 1) := by decide +kernel
theorem dX11_seen_34 : decode cX11_seen 34 = .ok (.invokevirtual 462, 3) := by decide +kernel
theorem dX11_seen_37 : decode cX11_seen 37 = .ok (.ireturn, 1) := by decide +kernel
theorem dX11_setTime_0 : decode cX11_setTime 0 = .ok (.aload_n 0, 1) := by decide +kernel
theorem dX11_setTime_1 : decode cX11_setTime 1 = .ok (.iload_n 1, 1) := by decide +kernel
theorem dX11_setTime_2 : decode cX11_setTime 2 = .ok (.invokevirtual 200, 3) := by decide +kernel
theorem dX11_setTime_5 : decode cX11_setTime 5 = .ok (.iload_n 2, 1) := by decide +kernel
theorem dX11_setTime_6 : decode cX11_setTime 6 = .ok (.iconst 1, 1) := by decide +kernel
theorem dX11_setTime_7 : decode cX11_setTime 7 = .ok (.bipush 99, 2) := by decide +kernel
theorem dX11_setTime_9 : decode cX11_setTime 9 = .ok (.invokestatic 361, 3) := by decide +kernel
theorem dX11_setTime_12 : decode cX11_setTime 12 = .ok (.aload_n 0, 1) := by decide +kernel
theorem dX11_setTime_13 : decode cX11_setTime 13 = .ok (.getfield 28, 3) := by decide +kernel
theorem dX11_setTime_16 : decode cX11_setTime 16 = .ok (.getfield 468, 3) := by decide +kernel
theorem dX11_setTime_19 : decode cX11_setTime 19 = .ok (.iload_n 1, 1) := by decide +kernel
theorem dX11_setTime_20 : decode cX11_setTime 20 = .ok (.iaload, 1) := by decide +kernel
theorem dX11_setTime_21 : decode cX11_setTime 21 = .ok (.istore_n 3, 1) := by decide +kernel
theorem dX11_setTime_22 : decode cX11_setTime 22 = .ok (.aload_n 0, 1) := by decide +kernel
theorem dX11_setTime_23 : decode cX11_setTime 23 = .ok (.getfield 28, 3) := by decide +kernel
theorem dX11_setTime_26 : decode cX11_setTime 26 = .ok (.getfield 468, 3) := by decide +kernel
theorem dX11_setTime_29 : decode cX11_setTime 29 = .ok (.iload_n 1, 1) := by decide +kernel
theorem dX11_setTime_30 : decode cX11_setTime 30 = .ok (.iload_n 2, 1) := by decide +kernel
theorem dX11_setTime_31 : decode cX11_setTime 31 = .ok (.iastore, 1) := by decide +kernel
theorem dX11_setTime_32 : decode cX11_setTime 32 = .ok (.iload_n 3, 1) := by decide +kernel
theorem dX11_setTime_33 : decode cX11_setTime 33 = .ok (.ireturn, 1) := by decide +kernel
theorem dX11_shortWires_0 : decode cX11_shortWires 0 = .ok (.aload_n 0, 1) := by decide +kernel
theorem dX11_shortWires_1 : decode cX11_shortWires 1 = .ok (.iload_n 1, 1) := by decide +kernel
theorem dX11_shortWires_2 : decode cX11_shortWires 2 = .ok (.invokevirtual 515, 3) := by decide +kernel
theorem dX11_shortWires_5 : decode cX11_shortWires 5 = .ok (.aload_n 0, 1) := by decide +kernel
theorem dX11_shortWires_6 : decode cX11_shortWires 6 = .ok (.iload_n 2, 1) := by decide +kernel
theorem dX11_shortWires_7 : decode cX11_shortWires 7 = .ok (.invokevirtual 515, 3) := by decide +kernel
theorem dX11_shortWires_10 : decode cX11_shortWires 10 = .ok (.iload_n 1, 1) := by decide +kernel
theorem dX11_shortWires_11 : decode cX11_shortWires 11 = .ok (.iload_n 2, 1) := by decide +kernel
theorem dX11_shortWires_12 : decode cX11_shortWires 12 = .ok (.if_icmp .ne 11, 3) := by decide +kernel
theorem dX11_shortWires_15 : decode cX11_shortWires 15 = .ok (.new 114, 3) := by decide +kernel
theorem dX11_shortWires_18 : decode cX11_shortWires 18 = .ok (.dup, 1) := by decide +kernel
theorem dX11_shortWires_19 : decode cX11_shortWires 19 = .ok (.invokespecial 116, 3) := by decide +kernel
theorem dX11_shortWires_22 : decode cX11_shortWires 22 = .ok (.athrow, 1) := by decide +kernel
theorem dX11_shortWires_23 : decode cX11_shortWires 23 = .ok (.aload_n 0, 1) := by decide +kernel
theorem dX11_shortWires_24 : decode cX11_shortWires 24 = .ok (.getfield 85, 3) := by decide +kernel
theorem dX11_shortWires_27 : decode cX11_shortWires 27 = .ok (.iload_n 1, 1) := by decide +kernel
theorem dX11_shortWires_28 : decode cX11_shortWires 28 = .ok (.iload_n 2, 1) := by decide +kernel
theorem dX11_shortWires_29 : decode cX11_shortWires 29 = .ok (.invokevirtual 524, 3) := by decide +kernel
theorem dX11_shortWires_32 : decode cX11_shortWires 32 = .ok (.ireturn, 1) := by decide +kernel
theorem dX11_signature_0 : decode cX11_signature 0 = .ok (.aload_n 0, 1) := by decide +kernel
theorem dX11_signature_1 : decode cX11_signature 1 = .ok (.getfield 37, 3) := by decide +kernel
theorem dX11_signature_4 : decode cX11_signature 4 = .ok (.aload_n 0, 1) := by decide +kernel
theorem dX11_signature_5 : decode cX11_signature 5 = .ok (.getfield 28, 3) := by decide +kernel
theorem dX11_signature_8 : decode cX11_signature 8 = .ok (.invokevirtual 378, 3) := by decide +kernel
theorem dX11_signature_11 : decode cX11_signature 11 = .ok (.aload_n 0, 1) := by decide +kernel
theorem dX11_signature_12 : decode cX11_signature 12 = .ok (.getfield 37, 3) := by decide +kernel
theorem dX11_signature_15 : decode cX11_signature 15 = .ok (.invokevirtual 381, 3) := by decide +kernel
theorem dX11_signature_18 : decode cX11_signature 18 = .ok (.iload_n 1, 1) := by decide +kernel
theorem dX11_signature_19 : decode cX11_signature 19 = .ok (.iconst (-1), 1) := by decide +kernel
theorem dX11_signature_20 : decode cX11_signature 20 = .ok (.if_icmp .eq 17, 3) := by decide +kernel
theorem dX11_signature_23 : decode cX11_signature 23 = .ok (.aload_n 0, 1) := by decide +kernel
theorem dX11_signature_24 : decode cX11_signature 24 = .ok (.iload_n 1, 1) := by decide +kernel
theorem dX11_signature_25 : decode cX11_signature 25 = .ok (.invokevirtual 319, 3) := by decide +kernel
theorem dX11_signature_28 : decode cX11_signature 28 = .ok (.aload_n 0, 1) := by decide +kernel
theorem dX11_signature_29 : decode cX11_signature 29 = .ok (.getfield 37, 3) := by decide +kernel
theorem dX11_signature_32 : decode cX11_signature 32 = .ok (.iload_n 1, 1) := by decide +kernel
theorem dX11_signature_33 : decode cX11_signature 33 = .ok (.invokevirtual 383, 3) := by decide +kernel
theorem dX11_signature_36 : decode cX11_signature 36 = .ok (.pop2, 1) := by decide +kernel
theorem dX11_signature_37 : decode cX11_signature 37 = .ok (.aload_n 0, 1) := by decide +kernel
theorem dX11_signature_38 : decode cX11_signature 38 = .ok (.invokevirtual 387, 3) := by decide +kernel
theorem dX11_signature_41 : decode cX11_signature 41 = .ok (.ireturn, 1) := by decide +kernel
theorem dX11_slow_0 : decode cX11_slow 0 = .ok (.aload_n 0, 1) := by decide +kernel
theorem dX11_slow_1 : decode cX11_slow 1 = .ok (.iload_n 1, 1) := by decide +kernel
theorem dX11_slow_2 : decode cX11_slow 2 = .ok (.invokevirtual 149, 3) := by decide +kernel
theorem dX11_slow_5 : decode cX11_slow 5 = .ok (.aload_n 0, 1) := by decide +kernel
theorem dX11_slow_6 : decode cX11_slow 6 = .ok (.invokevirtual 177, 3) := by decide +kernel
theorem dX11_slow_9 : decode cX11_slow 9 = .ok (.aload_n 0, 1) := by decide +kernel
theorem dX11_slow_10 : decode cX11_slow 10 = .ok (.getfield 21, 3) := by decide +kernel
theorem dX11_slow_13 : decode cX11_slow 13 = .ok (.getfield 238, 3) := by decide +kernel
theorem dX11_slow_16 : decode cX11_slow 16 = .ok (.bipush 8, 2) := by decide +kernel
theorem dX11_slow_18 : decode cX11_slow 18 = .ok (.if_icmp .lt 11, 3) := by decide +kernel
theorem dX11_slow_21 : decode cX11_slow 21 = .ok (.new 141, 3) := by decide +kernel
theorem dX11_slow_24 : decode cX11_slow 24 = .ok (.dup, 1) := by decide +kernel
theorem dX11_slow_25 : decode cX11_slow 25 = .ok (.invokespecial 143, 3) := by decide +kernel
theorem dX11_slow_28 : decode cX11_slow 28 = .ok (.athrow, 1) := by decide +kernel
theorem dX11_slow_29 : decode cX11_slow 29 = .ok (.aload_n 0, 1) := by decide +kernel
theorem dX11_slow_30 : decode cX11_slow 30 = .ok (.getfield 21, 3) := by decide +kernel
theorem dX11_slow_33 : decode cX11_slow 33 = .ok (.iload_n 1, 1) := by decide +kernel
theorem dX11_slow_34 : decode cX11_slow 34 = .ok (.iload_n 2, 1) := by decide +kernel
theorem dX11_slow_35 : decode cX11_slow 35 = .ok (.ifCond .eq 7, 3) := by decide +kernel
theorem dX11_slow_38 : decode cX11_slow 38 = .ok (.iconst 0, 1) := by decide +kernel
theorem dX11_slow_39 : decode cX11_slow 39 = .ok (.goto 4, 3) := by decide +kernel
theorem dX11_slow_42 : decode cX11_slow 42 = .ok (.iconst 1, 1) := by decide +kernel
theorem dX11_slow_43 : decode cX11_slow 43 = .ok (.invokevirtual 241, 3) := by decide +kernel
theorem dX11_slow_46 : decode cX11_slow 46 = .ok (.ireturn, 1) := by decide +kernel
theorem dX11_suspects_0 : decode cX11_suspects 0 = .ok (.aload_n 0, 1) := by decide +kernel
theorem dX11_suspects_1 : decode cX11_suspects 1 = .ok (.getfield 71, 3) := by decide +kernel
theorem dX11_suspects_4 : decode cX11_suspects 4 = .ok (.invokevirtual 465, 3) := by decide +kernel
theorem dX11_suspects_7 : decode cX11_suspects 7 = .ok (.ireturn, 1) := by decide +kernel
theorem dX11_tally_0 : decode cX11_tally 0 = .ok (.aload_n 0, 1) := by decide +kernel
theorem dX11_tally_1 : decode cX11_tally 1 = .ok (.iload_n 1, 1) := by decide +kernel
theorem dX11_tally_2 : decode cX11_tally 2 = .ok (.invokevirtual 319, 3) := by decide +kernel
theorem dX11_tally_5 : decode cX11_tally 5 = .ok (.aload_n 0, 1) := by decide +kernel
theorem dX11_tally_6 : decode cX11_tally 6 = .ok (.getfield 21, 3) := by decide +kernel
theorem dX11_tally_9 : decode cX11_tally 9 = .ok (.aload_n 0, 1) := by decide +kernel
theorem dX11_tally_10 : decode cX11_tally 10 = .ok (.getfield 21, 3) := by decide +kernel
theorem dX11_tally_13 : decode cX11_tally 13 = .ok (.getfield 222, 3) := by decide +kernel
theorem dX11_tally_16 : decode cX11_tally 16 = .ok (.iload_n 1, 1) := by decide +kernel
theorem dX11_tally_17 : decode cX11_tally 17 = .ok (.iaload, 1) := by decide +kernel
theorem dX11_tally_18 : decode cX11_tally 18 = .ok (.invokevirtual 450, 3) := by decide +kernel
theorem dX11_tally_21 : decode cX11_tally 21 = .ok (.ireturn, 1) := by decide +kernel
theorem dX11_testPoint_0 : decode cX11_testPoint 0 = .ok (.aload_n 0, 1) := by decide +kernel
theorem dX11_testPoint_1 : decode cX11_testPoint 1 = .ok (.iload_n 1, 1) := by decide +kernel
theorem dX11_testPoint_2 : decode cX11_testPoint 2 = .ok (.invokevirtual 149, 3) := by decide +kernel
theorem dX11_testPoint_5 : decode cX11_testPoint 5 = .ok (.aload_n 0, 1) := by decide +kernel
theorem dX11_testPoint_6 : decode cX11_testPoint 6 = .ok (.invokevirtual 177, 3) := by decide +kernel
theorem dX11_testPoint_9 : decode cX11_testPoint 9 = .ok (.aload_n 0, 1) := by decide +kernel
theorem dX11_testPoint_10 : decode cX11_testPoint 10 = .ok (.getfield 10, 3) := by decide +kernel
theorem dX11_testPoint_13 : decode cX11_testPoint 13 = .ok (.getfield 180, 3) := by decide +kernel
theorem dX11_testPoint_16 : decode cX11_testPoint 16 = .ok (.iload_n 1, 1) := by decide +kernel
theorem dX11_testPoint_17 : decode cX11_testPoint 17 = .ok (.iconst 1, 1) := by decide +kernel
theorem dX11_testPoint_18 : decode cX11_testPoint 18 = .ok (.bastore, 1) := by decide +kernel
theorem dX11_testPoint_19 : decode cX11_testPoint 19 = .ok (.aload_n 0, 1) := by decide +kernel
theorem dX11_testPoint_20 : decode cX11_testPoint 20 = .ok (.getfield 10, 3) := by decide +kernel
theorem dX11_testPoint_23 : decode cX11_testPoint 23 = .ok (.invokevirtual 183, 3) := by decide +kernel
theorem dX11_testPoint_26 : decode cX11_testPoint 26 = .ok (.aload_n 0, 1) := by decide +kernel
theorem dX11_testPoint_27 : decode cX11_testPoint 27 = .ok (.getfield 21, 3) := by decide +kernel
theorem dX11_testPoint_30 : decode cX11_testPoint 30 = .ok (.invokevirtual 186, 3) := by decide +kernel
theorem dX11_testPoint_33 : decode cX11_testPoint 33 = .ok (.aload_n 0, 1) := by decide +kernel
theorem dX11_testPoint_34 : decode cX11_testPoint 34 = .ok (.getfield 10, 3) := by decide +kernel
theorem dX11_testPoint_37 : decode cX11_testPoint 37 = .ok (.getfield 189, 3) := by decide +kernel
theorem dX11_testPoint_40 : decode cX11_testPoint 40 = .ok (.ireturn, 1) := by decide +kernel
theorem dX11_tie_0 : decode cX11_tie 0 = .ok (.aload_n 0, 1) := by decide +kernel
theorem dX11_tie_1 : decode cX11_tie 1 = .ok (.iload_n 1, 1) := by decide +kernel
theorem dX11_tie_2 : decode cX11_tie 2 = .ok (.invokevirtual 319, 3) := by decide +kernel
theorem dX11_tie_5 : decode cX11_tie 5 = .ok (.aload_n 0, 1) := by decide +kernel
theorem dX11_tie_6 : decode cX11_tie 6 = .ok (.getfield 21, 3) := by decide +kernel
theorem dX11_tie_9 : decode cX11_tie 9 = .ok (.getfield 219, 3) := by decide +kernel
theorem dX11_tie_12 : decode cX11_tie 12 = .ok (.iload_n 1, 1) := by decide +kernel
theorem dX11_tie_13 : decode cX11_tie 13 = .ok (.iaload, 1) := by decide +kernel
theorem dX11_tie_14 : decode cX11_tie 14 = .ok (.ifCond .lt 11, 3) := by decide +kernel
theorem dX11_tie_17 : decode cX11_tie 17 = .ok (.new 114, 3) := by decide +kernel
theorem dX11_tie_20 : decode cX11_tie 20 = .ok (.dup, 1) := by decide +kernel
theorem dX11_tie_21 : decode cX11_tie 21 = .ok (.invokespecial 116, 3) := by decide +kernel
theorem dX11_tie_24 : decode cX11_tie 24 = .ok (.athrow, 1) := by decide +kernel
theorem dX11_tie_25 : decode cX11_tie 25 = .ok (.aload_n 0, 1) := by decide +kernel
theorem dX11_tie_26 : decode cX11_tie 26 = .ok (.getfield 21, 3) := by decide +kernel
theorem dX11_tie_29 : decode cX11_tie 29 = .ok (.getfield 216, 3) := by decide +kernel
theorem dX11_tie_32 : decode cX11_tie 32 = .ok (.iload_n 1, 1) := by decide +kernel
theorem dX11_tie_33 : decode cX11_tie 33 = .ok (.iaload, 1) := by decide +kernel
theorem dX11_tie_34 : decode cX11_tie 34 = .ok (.istore_n 2, 1) := by decide +kernel
theorem dX11_tie_35 : decode cX11_tie 35 = .ok (.aload_n 0, 1) := by decide +kernel
theorem dX11_tie_36 : decode cX11_tie 36 = .ok (.getfield 10, 3) := by decide +kernel
theorem dX11_tie_39 : decode cX11_tie 39 = .ok (.getfield 322, 3) := by decide +kernel
theorem dX11_tie_42 : decode cX11_tie 42 = .ok (.iload_n 2, 1) := by decide +kernel
theorem dX11_tie_43 : decode cX11_tie 43 = .ok (.iaload, 1) := by decide +kernel
theorem dX11_tie_44 : decode cX11_tie 44 = .ok (.iconst 2, 1) := by decide +kernel
theorem dX11_tie_45 : decode cX11_tie 45 = .ok (.if_icmp .ne 14, 3) := by decide +kernel
theorem dX11_tie_48 : decode cX11_tie 48 = .ok (.aload_n 0, 1) := by decide +kernel
theorem dX11_tie_49 : decode cX11_tie 49 = .ok (.getfield 37, 3) := by decide +kernel
theorem dX11_tie_52 : decode cX11_tie 52 = .ok (.iload_n 1, 1) := by decide +kernel
theorem dX11_tie_53 : decode cX11_tie 53 = .ok (.invokevirtual 306, 3) := by decide +kernel
theorem dX11_tie_56 : decode cX11_tie 56 = .ok (.ifCond .lt 11, 3) := by decide +kernel
theorem dX11_tie_59 : decode cX11_tie 59 = .ok (.new 125, 3) := by decide +kernel
theorem dX11_tie_62 : decode cX11_tie 62 = .ok (.dup, 1) := by decide +kernel
theorem dX11_tie_63 : decode cX11_tie 63 = .ok (.invokespecial 127, 3) := by decide +kernel
theorem dX11_tie_66 : decode cX11_tie 66 = .ok (.athrow, 1) := by decide +kernel
theorem dX11_tie_67 : decode cX11_tie 67 = .ok (.aload_n 0, 1) := by decide +kernel
theorem dX11_tie_68 : decode cX11_tie 68 = .ok (.getfield 10, 3) := by decide +kernel
theorem dX11_tie_71 : decode cX11_tie 71 = .ok (.getfield 322, 3) := by decide +kernel
theorem dX11_tie_74 : decode cX11_tie 74 = .ok (.iload_n 2, 1) := by decide +kernel
theorem dX11_tie_75 : decode cX11_tie 75 = .ok (.aload_n 0, 1) := by decide +kernel
theorem dX11_tie_76 : decode cX11_tie 76 = .ok (.getfield 21, 3) := by decide +kernel
theorem dX11_tie_79 : decode cX11_tie 79 = .ok (.getfield 325, 3) := by decide +kernel
theorem dX11_tie_82 : decode cX11_tie 82 = .ok (.iload_n 1, 1) := by decide +kernel
theorem dX11_tie_83 : decode cX11_tie 83 = .ok (.iaload, 1) := by decide +kernel
theorem dX11_tie_84 : decode cX11_tie 84 = .ok (.iastore, 1) := by decide +kernel
theorem dX11_tie_85 : decode cX11_tie 85 = .ok (.aload_n 0, 1) := by decide +kernel
theorem dX11_tie_86 : decode cX11_tie 86 = .ok (.getfield 10, 3) := by decide +kernel
theorem dX11_tie_89 : decode cX11_tie 89 = .ok (.dup, 1) := by decide +kernel
theorem dX11_tie_90 : decode cX11_tie 90 = .ok (.getfield 328, 3) := by decide +kernel
theorem dX11_tie_93 : decode cX11_tie 93 = .ok (.iconst 1, 1) := by decide +kernel
theorem dX11_tie_94 : decode cX11_tie 94 = .ok (.iadd, 1) := by decide +kernel
theorem dX11_tie_95 : decode cX11_tie 95 = .ok (.putfield 328, 3) := by decide +kernel
theorem dX11_tie_98 : decode cX11_tie 98 = .ok (.aload_n 0, 1) := by decide +kernel
theorem dX11_tie_99 : decode cX11_tie 99 = .ok (.getfield 21, 3) := by decide +kernel
theorem dX11_tie_102 : decode cX11_tie 102 = .ok (.invokevirtual 186, 3) := by decide +kernel
theorem dX11_tie_105 : decode cX11_tie 105 = .ok (.aload_n 0, 1) := by decide +kernel
theorem dX11_tie_106 : decode cX11_tie 106 = .ok (.getfield 10, 3) := by decide +kernel
theorem dX11_tie_109 : decode cX11_tie 109 = .ok (.getfield 328, 3) := by decide +kernel
theorem dX11_tie_112 : decode cX11_tie 112 = .ok (.ireturn, 1) := by decide +kernel
theorem dX11_turnAbout_0 : decode cX11_turnAbout 0 = .ok (.aload_n 0, 1) := by decide +kernel
theorem dX11_turnAbout_1 : decode cX11_turnAbout 1 = .ok (.getfield 37, 3) := by decide +kernel
theorem dX11_turnAbout_4 : decode cX11_turnAbout 4 = .ok (.aload_n 0, 1) := by decide +kernel
theorem dX11_turnAbout_5 : decode cX11_turnAbout 5 = .ok (.getfield 28, 3) := by decide +kernel
theorem dX11_turnAbout_8 : decode cX11_turnAbout 8 = .ok (.invokevirtual 276, 3) := by decide +kernel
theorem dX11_turnAbout_11 : decode cX11_turnAbout 11 = .ok (.aload_n 0, 1) := by decide +kernel
theorem dX11_turnAbout_12 : decode cX11_turnAbout 12 = .ok (.getfield 28, 3) := by decide +kernel
theorem dX11_turnAbout_15 : decode cX11_turnAbout 15 = .ok (.aload_n 0, 1) := by decide +kernel
theorem dX11_turnAbout_16 : decode cX11_turnAbout 16 = .ok (.getfield 28, 3) := by decide +kernel
theorem dX11_turnAbout_19 : decode cX11_turnAbout 19 = .ok (.aload_n 0, 1) := by decide +kernel
theorem dX11_turnAbout_20 : decode cX11_turnAbout 20 = .ok (.getfield 37, 3) := by decide +kernel
theorem dX11_turnAbout_23 : decode cX11_turnAbout 23 = .ok (.aload_n 0, 1) := by decide +kernel
theorem dX11_turnAbout_24 : decode cX11_turnAbout 24 = .ok (.getfield 21, 3) := by decide +kernel
theorem dX11_turnAbout_27 : decode cX11_turnAbout 27 = .ok (.invokevirtual 343, 3) := by decide +kernel
theorem dX11_turnAbout_30 : decode cX11_turnAbout 30 = .ok (.invokevirtual 347, 3) := by decide +kernel
theorem dX11_turnAbout_33 : decode cX11_turnAbout 33 = .ok (.aload_n 0, 1) := by decide +kernel
theorem dX11_turnAbout_34 : decode cX11_turnAbout 34 = .ok (.getfield 28, 3) := by decide +kernel
theorem dX11_turnAbout_37 : decode cX11_turnAbout 37 = .ok (.getfield 103, 3) := by decide +kernel
theorem dX11_turnAbout_40 : decode cX11_turnAbout 40 = .ok (.ireturn, 1) := by decide +kernel
theorem dX11_value_0 : decode cX11_value 0 = .ok (.aload_n 0, 1) := by decide +kernel
theorem dX11_value_1 : decode cX11_value 1 = .ok (.iload_n 1, 1) := by decide +kernel
theorem dX11_value_2 : decode cX11_value 2 = .ok (.invokevirtual 200, 3) := by decide +kernel
theorem dX11_value_5 : decode cX11_value 5 = .ok (.aload_n 0, 1) := by decide +kernel
theorem dX11_value_6 : decode cX11_value 6 = .ok (.iload_n 2, 1) := by decide +kernel
theorem dX11_value_7 : decode cX11_value 7 = .ok (.invokevirtual 149, 3) := by decide +kernel
theorem dX11_value_10 : decode cX11_value 10 = .ok (.aload_n 0, 1) := by decide +kernel
theorem dX11_value_11 : decode cX11_value 11 = .ok (.getfield 46, 3) := by decide +kernel
theorem dX11_value_14 : decode cX11_value 14 = .ok (.iload_n 1, 1) := by decide +kernel
theorem dX11_value_15 : decode cX11_value 15 = .ok (.invokevirtual 203, 3) := by decide +kernel
theorem dX11_value_18 : decode cX11_value 18 = .ok (.aload_n 0, 1) := by decide +kernel
theorem dX11_value_19 : decode cX11_value 19 = .ok (.getfield 46, 3) := by decide +kernel
theorem dX11_value_22 : decode cX11_value 22 = .ok (.getfield 206, 3) := by decide +kernel
theorem dX11_value_25 : decode cX11_value 25 = .ok (.iload_n 2, 1) := by decide +kernel
theorem dX11_value_26 : decode cX11_value 26 = .ok (.iaload, 1) := by decide +kernel
theorem dX11_value_27 : decode cX11_value 27 = .ok (.ireturn, 1) := by decide +kernel
theorem dX11_ways_0 : decode cX11_ways 0 = .ok (.aload_n 0, 1) := by decide +kernel
theorem dX11_ways_1 : decode cX11_ways 1 = .ok (.iload_n 1, 1) := by decide +kernel
theorem dX11_ways_2 : decode cX11_ways 2 = .ok (.invokevirtual 319, 3) := by decide +kernel
theorem dX11_ways_5 : decode cX11_ways 5 = .ok (.aload_n 0, 1) := by decide +kernel
theorem dX11_ways_6 : decode cX11_ways 6 = .ok (.getfield 37, 3) := by decide +kernel
theorem dX11_ways_9 : decode cX11_ways 9 = .ok (.iload_n 1, 1) := by decide +kernel
theorem dX11_ways_10 : decode cX11_ways 10 = .ok (.invokevirtual 420, 3) := by decide +kernel
theorem dX11_ways_13 : decode cX11_ways 13 = .ok (.ireturn, 1) := by decide +kernel
theorem dX11_weight_0 : decode cX11_weight 0 = .ok (.aload_n 0, 1) := by decide +kernel
theorem dX11_weight_1 : decode cX11_weight 1 = .ok (.iload_n 1, 1) := by decide +kernel
theorem dX11_weight_2 : decode cX11_weight 2 = .ok (.invokevirtual 149, 3) := by decide +kernel
theorem dX11_weight_5 : decode cX11_weight 5 = .ok (.aload_n 0, 1) := by decide +kernel
theorem dX11_weight_6 : decode cX11_weight 6 = .ok (.invokevirtual 177, 3) := by decide +kernel
theorem dX11_weight_9 : decode cX11_weight 9 = .ok (.aload_n 0, 1) := by decide +kernel
theorem dX11_weight_10 : decode cX11_weight 10 = .ok (.getfield 37, 3) := by decide +kernel
theorem dX11_weight_13 : decode cX11_weight 13 = .ok (.iload_n 1, 1) := by decide +kernel
theorem dX11_weight_14 : decode cX11_weight 14 = .ok (.invokevirtual 417, 3) := by decide +kernel
theorem dX11_weight_17 : decode cX11_weight 17 = .ok (.ireturn, 1) := by decide +kernel
theorem dX11_wrong_0 : decode cX11_wrong 0 = .ok (.aload_n 0, 1) := by decide +kernel
theorem dX11_wrong_1 : decode cX11_wrong 1 = .ok (.iload_n 1, 1) := by decide +kernel
theorem dX11_wrong_2 : decode cX11_wrong 2 = .ok (.invokevirtual 319, 3) := by decide +kernel
theorem dX11_wrong_5 : decode cX11_wrong 5 = .ok (.aload_n 0, 1) := by decide +kernel
theorem dX11_wrong_6 : decode cX11_wrong 6 = .ok (.getfield 71, 3) := by decide +kernel
theorem dX11_wrong_9 : decode cX11_wrong 9 = .ok (.invokevirtual 438, 3) := by decide +kernel
theorem dX11_wrong_12 : decode cX11_wrong 12 = .ok (.aload_n 0, 1) := by decide +kernel
theorem dX11_wrong_13 : decode cX11_wrong 13 = .ok (.getfield 71, 3) := by decide +kernel
theorem dX11_wrong_16 : decode cX11_wrong 16 = .ok (.getfield 444, 3) := by decide +kernel
theorem dX11_wrong_19 : decode cX11_wrong 19 = .ok (.aload_n 0, 1) := by decide +kernel
theorem dX11_wrong_20 : decode cX11_wrong 20 = .ok (.getfield 21, 3) := by decide +kernel
theorem dX11_wrong_23 : decode cX11_wrong 23 = .ok (.getfield 222, 3) := by decide +kernel
theorem dX11_wrong_26 : decode cX11_wrong 26 = .ok (.iload_n 1, 1) := by decide +kernel
theorem dX11_wrong_27 : decode cX11_wrong 27 = .ok (.iaload, 1) := by decide +kernel
theorem dX11_wrong_28 : decode cX11_wrong 28 = .ok (.iaload, 1) := by decide +kernel
theorem dX11_wrong_29 : decode cX11_wrong 29 = .ok (.ireturn, 1) := by decide +kernel
theorem dX13_init_0 : decode cX13_init 0 = .ok (.aload_n 0, 1) := by decide +kernel
theorem dX13_init_1 : decode cX13_init 1 = .ok (.invokespecial 3, 3) := by decide +kernel
theorem dX13_init_4 : decode cX13_init 4 = .ok (.aload_n 0, 1) := by decide +kernel
theorem dX13_init_5 : decode cX13_init 5 = .ok (.iconst (-1), 1) := by decide +kernel
theorem dX13_init_6 : decode cX13_init 6 = .ok (.putfield 9, 3) := by decide +kernel
theorem dX13_init_9 : decode cX13_init 9 = .ok (.aload_n 0, 1) := by decide +kernel
theorem dX13_init_10 : decode cX13_init 10 = .ok (.iconst (-1), 1) := by decide +kernel
theorem dX13_init_11 : decode cX13_init 11 = .ok (.putfield 15, 3) := by decide +kernel
theorem dX13_init_14 : decode cX13_init 14 = .ok (.aload_n 0, 1) := by decide +kernel
theorem dX13_init_15 : decode cX13_init 15 = .ok (.iconst (-1), 1) := by decide +kernel
theorem dX13_init_16 : decode cX13_init 16 = .ok (.putfield 18, 3) := by decide +kernel
theorem dX13_init_19 : decode cX13_init 19 = .ok (.aload_n 0, 1) := by decide +kernel
theorem dX13_init_20 : decode cX13_init 20 = .ok (.iload_n 1, 1) := by decide +kernel
theorem dX13_init_21 : decode cX13_init 21 = .ok (.putfield 21, 3) := by decide +kernel
theorem dX13_init_24 : decode cX13_init 24 = .ok (.aload_n 0, 1) := by decide +kernel
theorem dX13_init_25 : decode cX13_init 25 = .ok (.aload_n 2, 1) := by decide +kernel
theorem dX13_init_26 : decode cX13_init 26 = .ok (.putfield 25, 3) := by decide +kernel
theorem dX13_init_29 : decode cX13_init 29 = .ok (.return_, 1) := by decide +kernel
theorem dX15_addSource_0 : decode cX15_addSource 0 = .ok (.aload_n 0, 1) := by decide +kernel
theorem dX15_addSource_1 : decode cX15_addSource 1 = .ok (.aload_n 0, 1) := by decide +kernel
theorem dX15_addSource_2 : decode cX15_addSource 2 = .ok (.getfield 102, 3) := by decide +kernel
theorem dX15_addSource_5 : decode cX15_addSource 5 = .ok (.ifCond .eq 7, 3) := by decide +kernel
theorem dX15_addSource_8 : decode cX15_addSource 8 = .ok (.iconst 1, 1) := by decide +kernel
theorem dX15_addSource_9 : decode cX15_addSource 9 = .ok (.goto 36, 3) := by decide +kernel
theorem dX15_addSource_12 : decode cX15_addSource 12 = .ok (.aload_n 0, 1) := by decide +kernel
theorem dX15_addSource_13 : decode cX15_addSource 13 = .ok (.getfield 16, 3) := by decide +kernel
theorem dX15_addSource_16 : decode cX15_addSource 16 = .ok (.invokeinterface 92 1, 5) := by decide +kernel
theorem dX15_addSource_21 : decode cX15_addSource 21 = .ok (.bipush 40, 2) := by decide +kernel
theorem dX15_addSource_23 : decode cX15_addSource 23 = .ok (.if_icmp .eq 17, 3) := by decide +kernel
theorem dX15_addSource_26 : decode cX15_addSource 26 = .ok (.aload_n 0, 1) := by decide +kernel
theorem dX15_addSource_27 : decode cX15_addSource 27 = .ok (.getfield 20, 3) := by decide +kernel
theorem dX15_addSource_30 : decode cX15_addSource 30 = .ok (.invokeinterface 92 1, 5) := by decide +kernel
theorem dX15_addSource_35 : decode cX15_addSource 35 = .ok (.bipush 12, 2) := by decide +kernel
theorem dX15_addSource_37 : decode cX15_addSource 37 = .ok (.if_icmp .ne 7, 3) := by decide +kernel
theorem dX15_addSource_40 : decode cX15_addSource 40 = .ok (.iconst 2, 1) := by decide +kernel
theorem dX15_addSource_41 : decode cX15_addSource 41 = .ok (.goto 4, 3) := by decide +kernel
theorem dX15_addSource_44 : decode cX15_addSource 44 = .ok (.iconst 0, 1) := by decide +kernel
theorem dX15_addSource_45 : decode cX15_addSource 45 = .ok (.invokevirtual 106, 3) := by decide +kernel
theorem dX15_addSource_48 : decode cX15_addSource 48 = .ok (.ifCond .eq 5, 3) := by decide +kernel
theorem dX15_addSource_51 : decode cX15_addSource 51 = .ok (.iconst 0, 1) := by decide +kernel
theorem dX15_addSource_52 : decode cX15_addSource 52 = .ok (.ireturn, 1) := by decide +kernel
theorem dX15_addSource_53 : decode cX15_addSource 53 = .ok (.new 110, 3) := by decide +kernel
theorem dX15_addSource_56 : decode cX15_addSource 56 = .ok (.dup, 1) := by decide +kernel
theorem dX15_addSource_57 : decode cX15_addSource 57 = .ok (.iload_n 1, 1) := by decide +kernel
theorem dX15_addSource_58 : decode cX15_addSource 58 = .ok (.iconst 0, 1) := by decide +kernel
theorem dX15_addSource_59 : decode cX15_addSource 59 = .ok (.newarray .int, 2) := by decide +kernel
theorem dX15_addSource_61 : decode cX15_addSource 61 = .ok (.invokespecial 112, 3) := by decide +kernel
theorem dX15_addSource_64 : decode cX15_addSource 64 = .ok (.astore_n 2, 1) := by decide +kernel
theorem dX15_addSource_65 : decode cX15_addSource 65 = .ok (.aload_n 2, 1) := by decide +kernel
theorem dX15_addSource_66 : decode cX15_addSource 66 = .ok (.aload_n 0, 1) := by decide +kernel
theorem dX15_addSource_67 : decode cX15_addSource 67 = .ok (.getfield 20, 3) := by decide +kernel
theorem dX15_addSource_70 : decode cX15_addSource 70 = .ok (.invokeinterface 92 1, 5) := by decide +kernel
theorem dX15_addSource_75 : decode cX15_addSource 75 = .ok (.putfield 115, 3) := by decide +kernel
theorem dX15_addSource_78 : decode cX15_addSource 78 = .ok (.aload_n 0, 1) := by decide +kernel
theorem dX15_addSource_79 : decode cX15_addSource 79 = .ok (.getfield 20, 3) := by decide +kernel
theorem dX15_addSource_82 : decode cX15_addSource 82 = .ok (.aload_n 0, 1) := by decide +kernel
theorem dX15_addSource_83 : decode cX15_addSource 83 = .ok (.getfield 16, 3) := by decide +kernel
theorem dX15_addSource_86 : decode cX15_addSource 86 = .ok (.invokeinterface 92 1, 5) := by decide +kernel
theorem dX15_addSource_91 : decode cX15_addSource 91 = .ok (.invokestatic 118, 3) := by decide +kernel
theorem dX15_addSource_94 : decode cX15_addSource 94 = .ok (.invokeinterface 124 2, 5) := by decide +kernel
theorem dX15_addSource_99 : decode cX15_addSource 99 = .ok (.pop, 1) := by decide +kernel
theorem dX15_addSource_100 : decode cX15_addSource 100 = .ok (.iload_n 1, 1) := by decide +kernel
theorem dX15_addSource_101 : decode cX15_addSource 101 = .ok (.bipush 102, 2) := by decide +kernel
theorem dX15_addSource_103 : decode cX15_addSource 103 = .ok (.if_icmp .ne 25, 3) := by decide +kernel
theorem dX15_addSource_106 : decode cX15_addSource 106 = .ok (.aload_n 0, 1) := by decide +kernel
theorem dX15_addSource_107 : decode cX15_addSource 107 = .ok (.getfield 23, 3) := by decide +kernel
theorem dX15_addSource_110 : decode cX15_addSource 110 = .ok (.aload_n 0, 1) := by decide +kernel
theorem dX15_addSource_111 : decode cX15_addSource 111 = .ok (.getfield 16, 3) := by decide +kernel
theorem dX15_addSource_114 : decode cX15_addSource 114 = .ok (.invokeinterface 92 1, 5) := by decide +kernel
theorem dX15_addSource_119 : decode cX15_addSource 119 = .ok (.invokestatic 118, 3) := by decide +kernel
theorem dX15_addSource_122 : decode cX15_addSource 122 = .ok (.invokeinterface 124 2, 5) := by decide +kernel
theorem dX15_addSource_127 : decode cX15_addSource 127 = .ok (.pop, 1) := by decide +kernel
theorem dX15_addSource_128 : decode cX15_addSource 128 = .ok (.aload_n 0, 1) := by decide +kernel
theorem dX15_addSource_129 : decode cX15_addSource 129 = .ok (.getfield 16, 3) := by decide +kernel
theorem dX15_addSource_132 : decode cX15_addSource 132 = .ok (.aload_n 2, 1) := by decide +kernel
theorem dX15_addSource_133 : decode cX15_addSource 133 = .ok (.invokeinterface 124 2, 5) := by decide +kernel
theorem dX15_addSource_138 : decode cX15_addSource 138 = .ok (.pop, 1) := by decide +kernel
theorem dX15_addSource_139 : decode cX15_addSource 139 = .ok (.aload_n 0, 1) := by decide +kernel
theorem dX15_addSource_140 : decode cX15_addSource 140 = .ok (.getfield 16, 3) := by decide +kernel
theorem dX15_addSource_143 : decode cX15_addSource 143 = .ok (.invokeinterface 92 1, 5) := by decide +kernel
theorem dX15_addSource_148 : decode cX15_addSource 148 = .ok (.iconst 1, 1) := by decide +kernel
theorem dX15_addSource_149 : decode cX15_addSource 149 = .ok (.isub, 1) := by decide +kernel
theorem dX15_addSource_150 : decode cX15_addSource 150 = .ok (.ireturn, 1) := by decide +kernel
theorem dX15_aliased_0 : decode cX15_aliased 0 = .ok (.aload_n 0, 1) := by decide +kernel
theorem dX15_aliased_1 : decode cX15_aliased 1 = .ok (.iconst 0, 1) := by decide +kernel
theorem dX15_aliased_2 : decode cX15_aliased 2 = .ok (.putfield 1, 3) := by decide +kernel
theorem dX15_aliased_5 : decode cX15_aliased 5 = .ok (.iconst 0, 1) := by decide +kernel
theorem dX15_aliased_6 : decode cX15_aliased 6 = .ok (.istore_n 1, 1) := by decide +kernel
theorem dX15_aliased_7 : decode cX15_aliased 7 = .ok (.aload_n 0, 1) := by decide +kernel
theorem dX15_aliased_8 : decode cX15_aliased 8 = .ok (.aconst_null, 1) := by decide +kernel
theorem dX15_aliased_9 : decode cX15_aliased 9 = .ok (.invokevirtual 389, 3) := by decide +kernel
theorem dX15_aliased_12 : decode cX15_aliased 12 = .ok (.istore_n 2, 1) := by decide +kernel
theorem dX15_aliased_13 : decode cX15_aliased 13 = .ok (.aload_n 0, 1) := by decide +kernel
theorem dX15_aliased_14 : decode cX15_aliased 14 = .ok (.invokevirtual 318, 3) := by decide +kernel
theorem dX15_aliased_17 : decode cX15_aliased 17 = .ok (.invokeinterface 156 1, 5) := by decide +kernel
theorem dX15_aliased_22 : decode cX15_aliased 22 = .ok (.astore_n 3, 1) := by decide +kernel
theorem dX15_aliased_23 : decode cX15_aliased 23 = .ok (.aload_n 3, 1) := by decide +kernel
theorem dX15_aliased_24 : decode cX15_aliased 24 = .ok (.invokeinterface 160 1, 5) := by decide +kernel
theorem dX15_aliased_29 : decode cX15_aliased 29 = .ok (.ifCond .eq 63, 3) := by decide +kernel
theorem dX15_aliased_32 : decode cX15_aliased 32 = .ok (.aload_n 3, 1) := by decide +kernel
theorem dX15_aliased_33 : decode cX15_aliased 33 = .ok (.invokeinterface 166 1, 5) := by decide +kernel
theorem dX15_aliased_38 : decode cX15_aliased 38 = .ok (.checkcast 119, 3) := by decide +kernel
theorem dX15_aliased_41 : decode cX15_aliased 41 = .ok (.invokevirtual 194, 3) := by decide +kernel
theorem dX15_aliased_44 : decode cX15_aliased 44 = .ok (.istore 4, 2) := by decide +kernel
theorem dX15_aliased_46 : decode cX15_aliased 46 = .ok (.iload_n 1, 1) := by decide +kernel
theorem dX15_aliased_47 : decode cX15_aliased 47 = .ok (.aload_n 0, 1) := by decide +kernel
theorem dX15_aliased_48 : decode cX15_aliased 48 = .ok (.iload 4, 2) := by decide +kernel
theorem dX15_aliased_50 : decode cX15_aliased 50 = .ok (.bipush 115, 2) := by decide +kernel
theorem dX15_aliased_52 : decode cX15_aliased 52 = .ok (.invokevirtual 345, 3) := by decide +kernel
theorem dX15_aliased_55 : decode cX15_aliased 55 = .ok (.lconst 0, 1) := by decide +kernel
theorem dX15_aliased_56 : decode cX15_aliased 56 = .ok (.lcmp, 1) := by decide +kernel
theorem dX15_aliased_57 : decode cX15_aliased 57 = .ok (.ifCond .eq 29, 3) := by decide +kernel
theorem dX15_aliased_60 : decode cX15_aliased 60 = .ok (.aload_n 0, 1) := by decide +kernel
theorem dX15_aliased_61 : decode cX15_aliased 61 = .ok (.aload_n 0, 1) := by decide +kernel
theorem dX15_aliased_62 : decode cX15_aliased 62 = .ok (.getfield 26, 3) := by decide +kernel
theorem dX15_aliased_65 : decode cX15_aliased 65 = .ok (.iload 4, 2) := by decide +kernel
theorem dX15_aliased_67 : decode cX15_aliased 67 = .ok (.invokeinterface 143 2, 5) := by decide +kernel
theorem dX15_aliased_72 : decode cX15_aliased 72 = .ok (.checkcast 170, 3) := by decide +kernel
theorem dX15_aliased_75 : decode cX15_aliased 75 = .ok (.invokevirtual 389, 3) := by decide +kernel
theorem dX15_aliased_78 : decode cX15_aliased 78 = .ok (.iload_n 2, 1) := by decide +kernel
theorem dX15_aliased_79 : decode cX15_aliased 79 = .ok (.if_icmp .ne 7, 3) := by decide +kernel
theorem dX15_aliased_82 : decode cX15_aliased 82 = .ok (.iconst 1, 1) := by decide +kernel
theorem dX15_aliased_83 : decode cX15_aliased 83 = .ok (.goto 4, 3) := by decide +kernel
theorem dX15_aliased_86 : decode cX15_aliased 86 = .ok (.iconst 0, 1) := by decide +kernel
theorem dX15_aliased_87 : decode cX15_aliased 87 = .ok (.iadd, 1) := by decide +kernel
theorem dX15_aliased_88 : decode cX15_aliased 88 = .ok (.istore_n 1, 1) := by decide +kernel
theorem dX15_aliased_89 : decode cX15_aliased 89 = .ok (.goto (-66), 3) := by decide +kernel
theorem dX15_aliased_92 : decode cX15_aliased 92 = .ok (.iload_n 1, 1) := by decide +kernel
theorem dX15_aliased_93 : decode cX15_aliased 93 = .ok (.ireturn, 1) := by decide +kernel
theorem dX15_alike_0 : decode cX15_alike 0 = .ok (.aload_n 0, 1) := by decide +kernel
theorem dX15_alike_1 : decode cX15_alike 1 = .ok (.aload_n 0, 1) := by decide +kernel
theorem dX15_alike_2 : decode cX15_alike 2 = .ok (.iload_n 1, 1) := by decide +kernel
theorem dX15_alike_3 : decode cX15_alike 3 = .ok (.invokevirtual 286, 3) := by decide +kernel
theorem dX15_alike_6 : decode cX15_alike 6 = .ok (.ifCond .eq 7, 3) := by decide +kernel
theorem dX15_alike_9 : decode cX15_alike 9 = .ok (.iconst 0, 1) := by decide +kernel
theorem dX15_alike_10 : decode cX15_alike 10 = .ok (.goto 4, 3) := by decide +kernel
theorem dX15_alike_13 : decode cX15_alike 13 = .ok (.iconst 1, 1) := by decide +kernel
theorem dX15_alike_14 : decode cX15_alike 14 = .ok (.invokevirtual 106, 3) := by decide +kernel
theorem dX15_alike_17 : decode cX15_alike 17 = .ok (.ifCond .eq 7, 3) := by decide +kernel
theorem dX15_alike_20 : decode cX15_alike 20 = .ok (.iconst 0, 1) := by decide +kernel
theorem dX15_alike_21 : decode cX15_alike 21 = .ok (.goto 21, 3) := by decide +kernel
theorem dX15_alike_24 : decode cX15_alike 24 = .ok (.iload_n 1, 1) := by decide +kernel
theorem dX15_alike_25 : decode cX15_alike 25 = .ok (.aload_n 0, 1) := by decide +kernel
theorem dX15_alike_26 : decode cX15_alike 26 = .ok (.getfield 188, 3) := by decide +kernel
theorem dX15_alike_29 : decode cX15_alike 29 = .ok (.if_icmp .ge 12, 3) := by decide +kernel
theorem dX15_alike_32 : decode cX15_alike 32 = .ok (.aload_n 0, 1) := by decide +kernel
theorem dX15_alike_33 : decode cX15_alike 33 = .ok (.invokevirtual 314, 3) := by decide +kernel
theorem dX15_alike_36 : decode cX15_alike 36 = .ok (.iload_n 1, 1) := by decide +kernel
theorem dX15_alike_37 : decode cX15_alike 37 = .ok (.iaload, 1) := by decide +kernel
theorem dX15_alike_38 : decode cX15_alike 38 = .ok (.goto 4, 3) := by decide +kernel
theorem dX15_alike_41 : decode cX15_alike 41 = .ok (.iload_n 1, 1) := by decide +kernel
theorem dX15_alike_42 : decode cX15_alike 42 = .ok (.ireturn, 1) := by decide +kernel
theorem dX15_allClasses_0 : decode cX15_allClasses 0 = .ok (.new 13, 3) := by decide +kernel
theorem dX15_allClasses_3 : decode cX15_allClasses 3 = .ok (.dup, 1) := by decide +kernel
theorem dX15_allClasses_4 : decode cX15_allClasses 4 = .ok (.invokespecial 15, 3) := by decide +kernel
theorem dX15_allClasses_7 : decode cX15_allClasses 7 = .ok (.astore_n 1, 1) := by decide +kernel
theorem dX15_allClasses_8 : decode cX15_allClasses 8 = .ok (.aload_n 0, 1) := by decide +kernel
theorem dX15_allClasses_9 : decode cX15_allClasses 9 = .ok (.invokevirtual 314, 3) := by decide +kernel
theorem dX15_allClasses_12 : decode cX15_allClasses 12 = .ok (.astore_n 2, 1) := by decide +kernel
theorem dX15_allClasses_13 : decode cX15_allClasses 13 = .ok (.iconst 0, 1) := by decide +kernel
theorem dX15_allClasses_14 : decode cX15_allClasses 14 = .ok (.istore_n 3, 1) := by decide +kernel
theorem dX15_allClasses_15 : decode cX15_allClasses 15 = .ok (.iload_n 3, 1) := by decide +kernel
theorem dX15_allClasses_16 : decode cX15_allClasses 16 = .ok (.aload_n 0, 1) := by decide +kernel
theorem dX15_allClasses_17 : decode cX15_allClasses 17 = .ok (.getfield 188, 3) := by decide +kernel
theorem dX15_allClasses_20 : decode cX15_allClasses 20 = .ok (.if_icmp .ge 27, 3) := by decide +kernel
theorem dX15_allClasses_23 : decode cX15_allClasses 23 = .ok (.aload_n 2, 1) := by decide +kernel
theorem dX15_allClasses_24 : decode cX15_allClasses 24 = .ok (.iload_n 3, 1) := by decide +kernel
theorem dX15_allClasses_25 : decode cX15_allClasses 25 = .ok (.iaload, 1) := by decide +kernel
theorem dX15_allClasses_26 : decode cX15_allClasses 26 = .ok (.iload_n 3, 1) := by decide +kernel
theorem dX15_allClasses_27 : decode cX15_allClasses 27 = .ok (.if_icmp .ne 14, 3) := by decide +kernel
theorem dX15_allClasses_30 : decode cX15_allClasses 30 = .ok (.aload_n 1, 1) := by decide +kernel
theorem dX15_allClasses_31 : decode cX15_allClasses 31 = .ok (.iload_n 3, 1) := by decide +kernel
theorem dX15_allClasses_32 : decode cX15_allClasses 32 = .ok (.invokestatic 118, 3) := by decide +kernel
theorem dX15_allClasses_35 : decode cX15_allClasses 35 = .ok (.invokeinterface 124 2, 5) := by decide +kernel
theorem dX15_allClasses_40 : decode cX15_allClasses 40 = .ok (.pop, 1) := by decide +kernel
theorem dX15_allClasses_41 : decode cX15_allClasses 41 = .ok (.iinc 3 1, 3) := by decide +kernel
theorem dX15_allClasses_44 : decode cX15_allClasses 44 = .ok (.goto (-29), 3) := by decide +kernel
theorem dX15_allClasses_47 : decode cX15_allClasses 47 = .ok (.aload_n 1, 1) := by decide +kernel
theorem dX15_allClasses_48 : decode cX15_allClasses 48 = .ok (.areturn, 1) := by decide +kernel
theorem dX15_badWires_0 : decode cX15_badWires 0 = .ok (.aload_n 0, 1) := by decide +kernel
theorem dX15_badWires_1 : decode cX15_badWires 1 = .ok (.iload_n 1, 1) := by decide +kernel
theorem dX15_badWires_2 : decode cX15_badWires 2 = .ok (.bipush 99, 2) := by decide +kernel
theorem dX15_badWires_4 : decode cX15_badWires 4 = .ok (.if_icmp .eq 13, 3) := by decide +kernel
theorem dX15_badWires_7 : decode cX15_badWires 7 = .ok (.iload_n 1, 1) := by decide +kernel
theorem dX15_badWires_8 : decode cX15_badWires 8 = .ok (.bipush 116, 2) := by decide +kernel
theorem dX15_badWires_10 : decode cX15_badWires 10 = .ok (.if_icmp .eq 7, 3) := by decide +kernel
theorem dX15_badWires_13 : decode cX15_badWires 13 = .ok (.iconst 1, 1) := by decide +kernel
theorem dX15_badWires_14 : decode cX15_badWires 14 = .ok (.goto 4, 3) := by decide +kernel
theorem dX15_badWires_17 : decode cX15_badWires 17 = .ok (.iconst 0, 1) := by decide +kernel
theorem dX15_badWires_18 : decode cX15_badWires 18 = .ok (.invokevirtual 106, 3) := by decide +kernel
theorem dX15_badWires_21 : decode cX15_badWires 21 = .ok (.ifCond .eq 5, 3) := by decide +kernel
theorem dX15_badWires_24 : decode cX15_badWires 24 = .ok (.iconst 0, 1) := by decide +kernel
theorem dX15_badWires_25 : decode cX15_badWires 25 = .ok (.ireturn, 1) := by decide +kernel
theorem dX15_badWires_26 : decode cX15_badWires 26 = .ok (.iconst 0, 1) := by decide +kernel
theorem dX15_badWires_27 : decode cX15_badWires 27 = .ok (.istore_n 2, 1) := by decide +kernel
theorem dX15_badWires_28 : decode cX15_badWires 28 = .ok (.iconst 0, 1) := by decide +kernel
theorem dX15_badWires_29 : decode cX15_badWires 29 = .ok (.istore_n 3, 1) := by decide +kernel
theorem dX15_badWires_30 : decode cX15_badWires 30 = .ok (.iload_n 3, 1) := by decide +kernel
theorem dX15_badWires_31 : decode cX15_badWires 31 = .ok (.aload_n 0, 1) := by decide +kernel
theorem dX15_badWires_32 : decode cX15_badWires 32 = .ok (.getfield 492, 3) := by decide +kernel
theorem dX15_badWires_35 : decode cX15_badWires 35 = .ok (.if_icmp .ge 34, 3) := by decide +kernel
theorem dX15_badWires_38 : decode cX15_badWires 38 = .ok (.iload_n 2, 1) := by decide +kernel
theorem dX15_badWires_39 : decode cX15_badWires 39 = .ok (.aload_n 0, 1) := by decide +kernel
theorem dX15_badWires_40 : decode cX15_badWires 40 = .ok (.iload_n 3, 1) := by decide +kernel
theorem dX15_badWires_41 : decode cX15_badWires 41 = .ok (.iload_n 1, 1) := by decide +kernel
theorem dX15_badWires_42 : decode cX15_badWires 42 = .ok (.invokevirtual 519, 3) := by decide +kernel
theorem dX15_badWires_45 : decode cX15_badWires 45 = .ok (.aload_n 0, 1) := by decide +kernel
theorem dX15_badWires_46 : decode cX15_badWires 46 = .ok (.iload_n 3, 1) := by decide +kernel
theorem dX15_badWires_47 : decode cX15_badWires 47 = .ok (.iload_n 1, 1) := by decide +kernel
theorem dX15_badWires_48 : decode cX15_badWires 48 = .ok (.invokevirtual 511, 3) := by decide +kernel
theorem dX15_badWires_51 : decode cX15_badWires 51 = .ok (.if_icmp .eq 9, 3) := by decide +kernel
theorem dX15_badWires_54 : decode cX15_badWires 54 = .ok (.iconst 1, 1) := by decide +kernel
theorem dX15_badWires_55 : decode cX15_badWires 55 = .ok (.iload_n 3, 1) := by decide +kernel
theorem dX15_badWires_56 : decode cX15_badWires 56 = .ok (.ishl, 1) := by decide +kernel
theorem dX15_badWires_57 : decode cX15_badWires 57 = .ok (.goto 4, 3) := by decide +kernel
theorem dX15_badWires_60 : decode cX15_badWires 60 = .ok (.iconst 0, 1) := by decide +kernel
theorem dX15_badWires_61 : decode cX15_badWires 61 = .ok (.ior, 1) := by decide +kernel
theorem dX15_badWires_62 : decode cX15_badWires 62 = .ok (.istore_n 2, 1) := by decide +kernel
theorem dX15_badWires_63 : decode cX15_badWires 63 = .ok (.iinc 3 1, 3) := by decide +kernel
theorem dX15_badWires_66 : decode cX15_badWires 66 = .ok (.goto (-36), 3) := by decide +kernel
theorem dX15_badWires_69 : decode cX15_badWires 69 = .ok (.iload_n 2, 1) := by decide +kernel
theorem dX15_badWires_70 : decode cX15_badWires 70 = .ok (.ireturn, 1) := by decide +kernel
theorem dX15_begins_0 : decode cX15_begins 0 = .ok (.aload_n 0, 1) := by decide +kernel
theorem dX15_begins_1 : decode cX15_begins 1 = .ok (.iload_n 3, 1) := by decide +kernel
theorem dX15_begins_2 : decode cX15_begins 2 = .ok (.iconst 0, 1) := by decide +kernel
theorem dX15_begins_3 : decode cX15_begins 3 = .ok (.aload_n 0, 1) := by decide +kernel
theorem dX15_begins_4 : decode cX15_begins 4 = .ok (.getfield 83, 3) := by decide +kernel
theorem dX15_begins_7 : decode cX15_begins 7 = .ok (.invokeinterface 92 1, 5) := by decide +kernel
theorem dX15_begins_12 : decode cX15_begins 12 = .ok (.iconst 1, 1) := by decide +kernel
theorem dX15_begins_13 : decode cX15_begins 13 = .ok (.isub, 1) := by decide +kernel
theorem dX15_begins_14 : decode cX15_begins 14 = .ok (.invokestatic 98, 3) := by decide +kernel
theorem dX15_begins_17 : decode cX15_begins 17 = .ok (.ifCond .ne 7, 3) := by decide +kernel
theorem dX15_begins_20 : decode cX15_begins 20 = .ok (.iconst 1, 1) := by decide +kernel
theorem dX15_begins_21 : decode cX15_begins 21 = .ok (.goto 17, 3) := by decide +kernel
theorem dX15_begins_24 : decode cX15_begins 24 = .ok (.aload_n 0, 1) := by decide +kernel
theorem dX15_begins_25 : decode cX15_begins 25 = .ok (.iload_n 1, 1) := by decide +kernel
theorem dX15_begins_26 : decode cX15_begins 26 = .ok (.iload_n 2, 1) := by decide +kernel
theorem dX15_begins_27 : decode cX15_begins 27 = .ok (.invokevirtual 537, 3) := by decide +kernel
theorem dX15_begins_30 : decode cX15_begins 30 = .ok (.ifCond .ne 7, 3) := by decide +kernel
theorem dX15_begins_33 : decode cX15_begins 33 = .ok (.iconst 2, 1) := by decide +kernel
theorem dX15_begins_34 : decode cX15_begins 34 = .ok (.goto 4, 3) := by decide +kernel
theorem dX15_begins_37 : decode cX15_begins 37 = .ok (.iconst 0, 1) := by decide +kernel
theorem dX15_begins_38 : decode cX15_begins 38 = .ok (.invokevirtual 106, 3) := by decide +kernel
theorem dX15_begins_41 : decode cX15_begins 41 = .ok (.ifCond .eq 5, 3) := by decide +kernel
theorem dX15_begins_44 : decode cX15_begins 44 = .ok (.iconst 0, 1) := by decide +kernel
theorem dX15_begins_45 : decode cX15_begins 45 = .ok (.ireturn, 1) := by decide +kernel
theorem dX15_begins_46 : decode cX15_begins 46 = .ok (.aload_n 0, 1) := by decide +kernel
theorem dX15_begins_47 : decode cX15_begins 47 = .ok (.iload_n 1, 1) := by decide +kernel
theorem dX15_begins_48 : decode cX15_begins 48 = .ok (.iload_n 2, 1) := by decide +kernel
theorem dX15_begins_49 : decode cX15_begins 49 = .ok (.invokevirtual 540, 3) := by decide +kernel
theorem dX15_begins_52 : decode cX15_begins 52 = .ok (.aload_n 0, 1) := by decide +kernel
theorem dX15_begins_53 : decode cX15_begins 53 = .ok (.getfield 523, 3) := by decide +kernel
theorem dX15_begins_56 : decode cX15_begins 56 = .ok (.iload_n 3, 1) := by decide +kernel
theorem dX15_begins_57 : decode cX15_begins 57 = .ok (.iaload, 1) := by decide +kernel
theorem dX15_begins_58 : decode cX15_begins 58 = .ok (.ireturn, 1) := by decide +kernel
theorem dX15_board_0 : decode cX15_board 0 = .ok (.aload_n 0, 1) := by decide +kernel
theorem dX15_board_1 : decode cX15_board 1 = .ok (.iload_n 1, 1) := by decide +kernel
theorem dX15_board_2 : decode cX15_board 2 = .ok (.iconst 1, 1) := by decide +kernel
theorem dX15_board_3 : decode cX15_board 3 = .ok (.bipush 12, 2) := by decide +kernel
theorem dX15_board_5 : decode cX15_board 5 = .ok (.invokestatic 98, 3) := by decide +kernel
theorem dX15_board_8 : decode cX15_board 8 = .ok (.ifCond .eq 19, 3) := by decide +kernel
theorem dX15_board_11 : decode cX15_board 11 = .ok (.iload_n 2, 1) := by decide +kernel
theorem dX15_board_12 : decode cX15_board 12 = .ok (.bipush 97, 2) := by decide +kernel
theorem dX15_board_14 : decode cX15_board 14 = .ok (.if_icmp .eq 9, 3) := by decide +kernel
theorem dX15_board_17 : decode cX15_board 17 = .ok (.iload_n 2, 1) := by decide +kernel
theorem dX15_board_18 : decode cX15_board 18 = .ok (.bipush 111, 2) := by decide +kernel
theorem dX15_board_20 : decode cX15_board 20 = .ok (.if_icmp .ne 7, 3) := by decide +kernel
theorem dX15_board_23 : decode cX15_board 23 = .ok (.iconst 0, 1) := by decide +kernel
theorem dX15_board_24 : decode cX15_board 24 = .ok (.goto 4, 3) := by decide +kernel
theorem dX15_board_27 : decode cX15_board 27 = .ok (.iconst 1, 1) := by decide +kernel
theorem dX15_board_28 : decode cX15_board 28 = .ok (.invokevirtual 106, 3) := by decide +kernel
theorem dX15_board_31 : decode cX15_board 31 = .ok (.ifCond .eq 5, 3) := by decide +kernel
theorem dX15_board_34 : decode cX15_board 34 = .ok (.iconst 0, 1) := by decide +kernel
theorem dX15_board_35 : decode cX15_board 35 = .ok (.ireturn, 1) := by decide +kernel
theorem dX15_board_36 : decode cX15_board 36 = .ok (.aload_n 0, 1) := by decide +kernel
theorem dX15_board_37 : decode cX15_board 37 = .ok (.getfield 492, 3) := by decide +kernel
theorem dX15_board_40 : decode cX15_board 40 = .ok (.istore_n 3, 1) := by decide +kernel
theorem dX15_board_41 : decode cX15_board 41 = .ok (.aload_n 0, 1) := by decide +kernel
theorem dX15_board_42 : decode cX15_board 42 = .ok (.iload_n 1, 1) := by decide +kernel
theorem dX15_board_43 : decode cX15_board 43 = .ok (.putfield 492, 3) := by decide +kernel
theorem dX15_board_46 : decode cX15_board 46 = .ok (.aload_n 0, 1) := by decide +kernel
theorem dX15_board_47 : decode cX15_board 47 = .ok (.iload_n 2, 1) := by decide +kernel
theorem dX15_board_48 : decode cX15_board 48 = .ok (.putfield 73, 3) := by decide +kernel
theorem dX15_board_51 : decode cX15_board 51 = .ok (.aload_n 0, 1) := by decide +kernel
theorem dX15_board_52 : decode cX15_board 52 = .ok (.getfield 77, 3) := by decide +kernel
theorem dX15_board_55 : decode cX15_board 55 = .ok (.iconst (-1), 1) := by decide +kernel
theorem dX15_board_56 : decode cX15_board 56 = .ok (.invokestatic 86, 3) := by decide +kernel
theorem dX15_board_59 : decode cX15_board 59 = .ok (.aload_n 0, 1) := by decide +kernel
theorem dX15_board_60 : decode cX15_board 60 = .ok (.getfield 80, 3) := by decide +kernel
theorem dX15_board_63 : decode cX15_board 63 = .ok (.astore 4, 2) := by decide +kernel
theorem dX15_board_65 : decode cX15_board 65 = .ok (.aload 4, 2) := by decide +kernel
theorem dX15_board_67 : decode cX15_board 67 = .ok (.arraylength, 1) := by decide +kernel
theorem dX15_board_68 : decode cX15_board 68 = .ok (.istore 5, 2) := by decide +kernel
theorem dX15_board_70 : decode cX15_board 70 = .ok (.iconst 0, 1) := by decide +kernel
theorem dX15_board_71 : decode cX15_board 71 = .ok (.istore 6, 2) := by decide +kernel
theorem dX15_board_73 : decode cX15_board 73 = .ok (.iload 6, 2) := by decide +kernel
theorem dX15_board_75 : decode cX15_board 75 = .ok (.iload 5, 2) := by decide +kernel
theorem dX15_board_77 : decode cX15_board 77 = .ok (.if_icmp .ge 22, 3) := by decide +kernel
theorem dX15_board_80 : decode cX15_board 80 = .ok (.aload 4, 2) := by decide +kernel
theorem dX15_board_82 : decode cX15_board 82 = .ok (.iload 6, 2) := by decide +kernel
theorem dX15_board_84 : decode cX15_board 84 = .ok (.aaload, 1) := by decide +kernel
theorem dX15_board_85 : decode cX15_board 85 = .ok (.astore 7, 2) := by decide +kernel
theorem dX15_board_87 : decode cX15_board 87 = .ok (.aload 7, 2) := by decide +kernel
theorem dX15_board_89 : decode cX15_board 89 = .ok (.iconst 0, 1) := by decide +kernel
theorem dX15_board_90 : decode cX15_board 90 = .ok (.invokestatic 495, 3) := by decide +kernel
theorem dX15_board_93 : decode cX15_board 93 = .ok (.iinc 6 1, 3) := by decide +kernel
theorem dX15_board_96 : decode cX15_board 96 = .ok (.goto (-23), 3) := by decide +kernel
theorem dX15_board_99 : decode cX15_board 99 = .ok (.iload_n 3, 1) := by decide +kernel
theorem dX15_board_100 : decode cX15_board 100 = .ok (.ireturn, 1) := by decide +kernel
theorem dX15_breakChain_0 : decode cX15_breakChain 0 = .ok (.iload_n 1, 1) := by decide +kernel
theorem dX15_breakChain_1 : decode cX15_breakChain 1 = .ok (.iconst (-1), 1) := by decide +kernel
theorem dX15_breakChain_2 : decode cX15_breakChain 2 = .ok (.aload_n 0, 1) := by decide +kernel
theorem dX15_breakChain_3 : decode cX15_breakChain 3 = .ok (.getfield 23, 3) := by decide +kernel
theorem dX15_breakChain_6 : decode cX15_breakChain 6 = .ok (.invokeinterface 92 1, 5) := by decide +kernel
theorem dX15_breakChain_11 : decode cX15_breakChain 11 = .ok (.iconst 1, 1) := by decide +kernel
theorem dX15_breakChain_12 : decode cX15_breakChain 12 = .ok (.isub, 1) := by decide +kernel
theorem dX15_breakChain_13 : decode cX15_breakChain 13 = .ok (.invokestatic 98, 3) := by decide +kernel
theorem dX15_breakChain_16 : decode cX15_breakChain 16 = .ok (.ifCond .eq 16, 3) := by decide +kernel
theorem dX15_breakChain_19 : decode cX15_breakChain 19 = .ok (.iload_n 2, 1) := by decide +kernel
theorem dX15_breakChain_20 : decode cX15_breakChain 20 = .ok (.iconst 0, 1) := by decide +kernel
theorem dX15_breakChain_21 : decode cX15_breakChain 21 = .ok (.iconst 1, 1) := by decide +kernel
theorem dX15_breakChain_22 : decode cX15_breakChain 22 = .ok (.invokestatic 98, 3) := by decide +kernel
theorem dX15_breakChain_25 : decode cX15_breakChain 25 = .ok (.ifCond .eq 7, 3) := by decide +kernel
theorem dX15_breakChain_28 : decode cX15_breakChain 28 = .ok (.iconst 1, 1) := by decide +kernel
theorem dX15_breakChain_29 : decode cX15_breakChain 29 = .ok (.goto 4, 3) := by decide +kernel
theorem dX15_breakChain_32 : decode cX15_breakChain 32 = .ok (.iconst 0, 1) := by decide +kernel
theorem dX15_breakChain_33 : decode cX15_breakChain 33 = .ok (.istore_n 3, 1) := by decide +kernel
theorem dX15_breakChain_34 : decode cX15_breakChain 34 = .ok (.aload_n 0, 1) := by decide +kernel
theorem dX15_breakChain_35 : decode cX15_breakChain 35 = .ok (.iload_n 3, 1) := by decide +kernel
theorem dX15_breakChain_36 : decode cX15_breakChain 36 = .ok (.ifCond .ne 7, 3) := by decide +kernel
theorem dX15_breakChain_39 : decode cX15_breakChain 39 = .ok (.iconst 1, 1) := by decide +kernel
theorem dX15_breakChain_40 : decode cX15_breakChain 40 = .ok (.goto 15, 3) := by decide +kernel
theorem dX15_breakChain_43 : decode cX15_breakChain 43 = .ok (.aload_n 0, 1) := by decide +kernel
theorem dX15_breakChain_44 : decode cX15_breakChain 44 = .ok (.getfield 102, 3) := by decide +kernel
theorem dX15_breakChain_47 : decode cX15_breakChain 47 = .ok (.ifCond .ne 7, 3) := by decide +kernel
theorem dX15_breakChain_50 : decode cX15_breakChain 50 = .ok (.iconst 2, 1) := by decide +kernel
theorem dX15_breakChain_51 : decode cX15_breakChain 51 = .ok (.goto 4, 3) := by decide +kernel
theorem dX15_breakChain_54 : decode cX15_breakChain 54 = .ok (.iconst 0, 1) := by decide +kernel
theorem dX15_breakChain_55 : decode cX15_breakChain 55 = .ok (.invokevirtual 106, 3) := by decide +kernel
theorem dX15_breakChain_58 : decode cX15_breakChain 58 = .ok (.ifCond .eq 5, 3) := by decide +kernel
theorem dX15_breakChain_61 : decode cX15_breakChain 61 = .ok (.iconst 0, 1) := by decide +kernel
theorem dX15_breakChain_62 : decode cX15_breakChain 62 = .ok (.ireturn, 1) := by decide +kernel
theorem dX15_breakChain_63 : decode cX15_breakChain 63 = .ok (.aload_n 0, 1) := by decide +kernel
theorem dX15_breakChain_64 : decode cX15_breakChain 64 = .ok (.getfield 59, 3) := by decide +kernel
theorem dX15_breakChain_67 : decode cX15_breakChain 67 = .ok (.istore 4, 2) := by decide +kernel
theorem dX15_breakChain_69 : decode cX15_breakChain 69 = .ok (.aload_n 0, 1) := by decide +kernel
theorem dX15_breakChain_70 : decode cX15_breakChain 70 = .ok (.iload_n 1, 1) := by decide +kernel
theorem dX15_breakChain_71 : decode cX15_breakChain 71 = .ok (.putfield 59, 3) := by decide +kernel
theorem dX15_breakChain_74 : decode cX15_breakChain 74 = .ok (.aload_n 0, 1) := by decide +kernel
theorem dX15_breakChain_75 : decode cX15_breakChain 75 = .ok (.iload_n 2, 1) := by decide +kernel
theorem dX15_breakChain_76 : decode cX15_breakChain 76 = .ok (.putfield 427, 3) := by decide +kernel
theorem dX15_breakChain_79 : decode cX15_breakChain 79 = .ok (.iload 4, 2) := by decide +kernel
theorem dX15_breakChain_81 : decode cX15_breakChain 81 = .ok (.ireturn, 1) := by decide +kernel
theorem dX15_breakChip_0 : decode cX15_breakChip 0 = .ok (.aload_n 0, 1) := by decide +kernel
theorem dX15_breakChip_1 : decode cX15_breakChip 1 = .ok (.iload_n 1, 1) := by decide +kernel
theorem dX15_breakChip_2 : decode cX15_breakChip 2 = .ok (.invokevirtual 393, 3) := by decide +kernel
theorem dX15_breakChip_5 : decode cX15_breakChip 5 = .ok (.ifCond .ne 28, 3) := by decide +kernel
theorem dX15_breakChip_8 : decode cX15_breakChip 8 = .ok (.aload_n 0, 1) := by decide +kernel
theorem dX15_breakChip_9 : decode cX15_breakChip 9 = .ok (.aload_n 0, 1) := by decide +kernel
theorem dX15_breakChip_10 : decode cX15_breakChip 10 = .ok (.getfield 29, 3) := by decide +kernel
theorem dX15_breakChip_13 : decode cX15_breakChip 13 = .ok (.invokeinterface 92 1, 5) := by decide +kernel
theorem dX15_breakChip_18 : decode cX15_breakChip 18 = .ok (.iconst 2, 1) := by decide +kernel
theorem dX15_breakChip_19 : decode cX15_breakChip 19 = .ok (.if_icmp .ne 7, 3) := by decide +kernel
theorem dX15_breakChip_22 : decode cX15_breakChip 22 = .ok (.iconst 3, 1) := by decide +kernel
theorem dX15_breakChip_23 : decode cX15_breakChip 23 = .ok (.goto 4, 3) := by decide +kernel
theorem dX15_breakChip_26 : decode cX15_breakChip 26 = .ok (.iconst 0, 1) := by decide +kernel
theorem dX15_breakChip_27 : decode cX15_breakChip 27 = .ok (.invokevirtual 106, 3) := by decide +kernel
theorem dX15_breakChip_30 : decode cX15_breakChip 30 = .ok (.ifCond .eq 5, 3) := by decide +kernel
theorem dX15_breakChip_33 : decode cX15_breakChip 33 = .ok (.iconst 0, 1) := by decide +kernel
theorem dX15_breakChip_34 : decode cX15_breakChip 34 = .ok (.ireturn, 1) := by decide +kernel
theorem dX15_breakChip_35 : decode cX15_breakChip 35 = .ok (.aload_n 0, 1) := by decide +kernel
theorem dX15_breakChip_36 : decode cX15_breakChip 36 = .ok (.getfield 29, 3) := by decide +kernel
theorem dX15_breakChip_39 : decode cX15_breakChip 39 = .ok (.aload_n 0, 1) := by decide +kernel
theorem dX15_breakChip_40 : decode cX15_breakChip 40 = .ok (.getfield 26, 3) := by decide +kernel
theorem dX15_breakChip_43 : decode cX15_breakChip 43 = .ok (.iload_n 1, 1) := by decide +kernel
theorem dX15_breakChip_44 : decode cX15_breakChip 44 = .ok (.invokeinterface 143 2, 5) := by decide +kernel
theorem dX15_breakChip_49 : decode cX15_breakChip 49 = .ok (.checkcast 170, 3) := by decide +kernel
theorem dX15_breakChip_52 : decode cX15_breakChip 52 = .ok (.invokeinterface 124 2, 5) := by decide +kernel
theorem dX15_breakChip_57 : decode cX15_breakChip 57 = .ok (.pop, 1) := by decide +kernel
theorem dX15_breakChip_58 : decode cX15_breakChip 58 = .ok (.aload_n 0, 1) := by decide +kernel
theorem dX15_breakChip_59 : decode cX15_breakChip 59 = .ok (.getfield 29, 3) := by decide +kernel
theorem dX15_breakChip_62 : decode cX15_breakChip 62 = .ok (.invokeinterface 92 1, 5) := by decide +kernel
theorem dX15_breakChip_67 : decode cX15_breakChip 67 = .ok (.ireturn, 1) := by decide +kernel
theorem dX15_bridge_0 : decode cX15_bridge 0 = .ok (.aload_n 0, 1) := by decide +kernel
theorem dX15_bridge_1 : decode cX15_bridge 1 = .ok (.ldc_w 326, 3) := by decide +kernel
theorem dX15_bridge_4 : decode cX15_bridge 4 = .ok (.iload_n 1, 1) := by decide +kernel
theorem dX15_bridge_5 : decode cX15_bridge 5 = .ok (.invokevirtual 134, 3) := by decide +kernel
theorem dX15_bridge_8 : decode cX15_bridge 8 = .ok (.ifCond .ge 7, 3) := by decide +kernel
theorem dX15_bridge_11 : decode cX15_bridge 11 = .ok (.iconst 1, 1) := by decide +kernel
theorem dX15_bridge_12 : decode cX15_bridge 12 = .ok (.goto 66, 3) := by decide +kernel
theorem dX15_bridge_15 : decode cX15_bridge 15 = .ok (.aload_n 0, 1) := by decide +kernel
theorem dX15_bridge_16 : decode cX15_bridge 16 = .ok (.iload_n 2, 1) := by decide +kernel
theorem dX15_bridge_17 : decode cX15_bridge 17 = .ok (.invokevirtual 140, 3) := by decide +kernel
theorem dX15_bridge_20 : decode cX15_bridge 20 = .ok (.ifCond .eq 11, 3) := by decide +kernel
theorem dX15_bridge_23 : decode cX15_bridge 23 = .ok (.aload_n 0, 1) := by decide +kernel
theorem dX15_bridge_24 : decode cX15_bridge 24 = .ok (.iload_n 3, 1) := by decide +kernel
theorem dX15_bridge_25 : decode cX15_bridge 25 = .ok (.invokevirtual 140, 3) := by decide +kernel
theorem dX15_bridge_28 : decode cX15_bridge 28 = .ok (.ifCond .ne 7, 3) := by decide +kernel
theorem dX15_bridge_31 : decode cX15_bridge 31 = .ok (.iconst 2, 1) := by decide +kernel
theorem dX15_bridge_32 : decode cX15_bridge 32 = .ok (.goto 46, 3) := by decide +kernel
theorem dX15_bridge_35 : decode cX15_bridge 35 = .ok (.aload_n 0, 1) := by decide +kernel
theorem dX15_bridge_36 : decode cX15_bridge 36 = .ok (.getfield 102, 3) := by decide +kernel
theorem dX15_bridge_39 : decode cX15_bridge 39 = .ok (.ifCond .eq 21, 3) := by decide +kernel
theorem dX15_bridge_42 : decode cX15_bridge 42 = .ok (.aload_n 0, 1) := by decide +kernel
theorem dX15_bridge_43 : decode cX15_bridge 43 = .ok (.iload_n 2, 1) := by decide +kernel
theorem dX15_bridge_44 : decode cX15_bridge 44 = .ok (.iload_n 3, 1) := by decide +kernel
theorem dX15_bridge_45 : decode cX15_bridge 45 = .ok (.invokevirtual 322, 3) := by decide +kernel
theorem dX15_bridge_48 : decode cX15_bridge 48 = .ok (.ifCond .ne 12, 3) := by decide +kernel
theorem dX15_bridge_51 : decode cX15_bridge 51 = .ok (.aload_n 0, 1) := by decide +kernel
theorem dX15_bridge_52 : decode cX15_bridge 52 = .ok (.iload_n 3, 1) := by decide +kernel
theorem dX15_bridge_53 : decode cX15_bridge 53 = .ok (.iload_n 2, 1) := by decide +kernel
theorem dX15_bridge_54 : decode cX15_bridge 54 = .ok (.invokevirtual 322, 3) := by decide +kernel
theorem dX15_bridge_57 : decode cX15_bridge 57 = .ok (.ifCond .eq 7, 3) := by decide +kernel
theorem dX15_bridge_60 : decode cX15_bridge 60 = .ok (.iconst 3, 1) := by decide +kernel
theorem dX15_bridge_61 : decode cX15_bridge 61 = .ok (.goto 17, 3) := by decide +kernel
theorem dX15_bridge_64 : decode cX15_bridge 64 = .ok (.aload_n 0, 1) := by decide +kernel
theorem dX15_bridge_65 : decode cX15_bridge 65 = .ok (.getfield 328, 3) := by decide +kernel
theorem dX15_bridge_68 : decode cX15_bridge 68 = .ok (.bipush 8, 2) := by decide +kernel
theorem dX15_bridge_70 : decode cX15_bridge 70 = .ok (.if_icmp .ne 7, 3) := by decide +kernel
theorem dX15_bridge_73 : decode cX15_bridge 73 = .ok (.iconst 4, 1) := by decide +kernel
theorem dX15_bridge_74 : decode cX15_bridge 74 = .ok (.goto 4, 3) := by decide +kernel
theorem dX15_bridge_77 : decode cX15_bridge 77 = .ok (.iconst 0, 1) := by decide +kernel
theorem dX15_bridge_78 : decode cX15_bridge 78 = .ok (.invokevirtual 106, 3) := by decide +kernel
theorem dX15_bridge_81 : decode cX15_bridge 81 = .ok (.ifCond .eq 5, 3) := by decide +kernel
theorem dX15_bridge_84 : decode cX15_bridge 84 = .ok (.iconst 0, 1) := by decide +kernel
theorem dX15_bridge_85 : decode cX15_bridge 85 = .ok (.ireturn, 1) := by decide +kernel
theorem dX15_bridge_86 : decode cX15_bridge 86 = .ok (.aload_n 0, 1) := by decide +kernel
theorem dX15_bridge_87 : decode cX15_bridge 87 = .ok (.dup, 1) := by decide +kernel
theorem dX15_bridge_88 : decode cX15_bridge 88 = .ok (.getfield 328, 3) := by decide +kernel
theorem dX15_bridge_91 : decode cX15_bridge 91 = .ok (.iconst 1, 1) := by decide +kernel
theorem dX15_bridge_92 : decode cX15_bridge 92 = .ok (.iadd, 1) := by decide +kernel
theorem dX15_bridge_93 : decode cX15_bridge 93 = .ok (.putfield 328, 3) := by decide +kernel
theorem dX15_bridge_96 : decode cX15_bridge 96 = .ok (.aload_n 0, 1) := by decide +kernel
theorem dX15_bridge_97 : decode cX15_bridge 97 = .ok (.getfield 26, 3) := by decide +kernel
theorem dX15_bridge_100 : decode cX15_bridge 100 = .ok (.new 170, 3) := by decide +kernel
theorem dX15_bridge_103 : decode cX15_bridge 103 = .ok (.dup, 1) := by decide +kernel
theorem dX15_bridge_104 : decode cX15_bridge 104 = .ok (.iload_n 1, 1) := by decide +kernel
theorem dX15_bridge_105 : decode cX15_bridge 105 = .ok (.iload_n 2, 1) := by decide +kernel
theorem dX15_bridge_106 : decode cX15_bridge 106 = .ok (.iload_n 3, 1) := by decide +kernel
theorem dX15_bridge_107 : decode cX15_bridge 107 = .ok (.iconst 0, 1) := by decide +kernel
theorem dX15_bridge_108 : decode cX15_bridge 108 = .ok (.invokespecial 172, 3) := by decide +kernel
theorem dX15_bridge_111 : decode cX15_bridge 111 = .ok (.invokeinterface 124 2, 5) := by decide +kernel
theorem dX15_bridge_116 : decode cX15_bridge 116 = .ok (.pop, 1) := by decide +kernel
theorem dX15_bridge_117 : decode cX15_bridge 117 = .ok (.aload_n 0, 1) := by decide +kernel
theorem dX15_bridge_118 : decode cX15_bridge 118 = .ok (.getfield 26, 3) := by decide +kernel
theorem dX15_bridge_121 : decode cX15_bridge 121 = .ok (.invokeinterface 92 1, 5) := by decide +kernel
theorem dX15_bridge_126 : decode cX15_bridge 126 = .ok (.iconst 1, 1) := by decide +kernel
theorem dX15_bridge_127 : decode cX15_bridge 127 = .ok (.isub, 1) := by decide +kernel
theorem dX15_bridge_128 : decode cX15_bridge 128 = .ok (.ireturn, 1) := by decide +kernel
theorem dX15_canClose_0 : decode cX15_canClose 0 = .ok (.iconst 1, 1) := by decide +kernel
theorem dX15_canClose_1 : decode cX15_canClose 1 = .ok (.istore_n 1, 1) := by decide +kernel
theorem dX15_canClose_2 : decode cX15_canClose 2 = .ok (.iconst 0, 1) := by decide +kernel
theorem dX15_canClose_3 : decode cX15_canClose 3 = .ok (.istore_n 2, 1) := by decide +kernel
theorem dX15_canClose_4 : decode cX15_canClose 4 = .ok (.aload_n 0, 1) := by decide +kernel
theorem dX15_canClose_5 : decode cX15_canClose 5 = .ok (.getfield 16, 3) := by decide +kernel
theorem dX15_canClose_8 : decode cX15_canClose 8 = .ok (.invokeinterface 156 1, 5) := by decide +kernel
theorem dX15_canClose_13 : decode cX15_canClose 13 = .ok (.astore_n 3, 1) := by decide +kernel
theorem dX15_canClose_14 : decode cX15_canClose 14 = .ok (.aload_n 3, 1) := by decide +kernel
theorem dX15_canClose_15 : decode cX15_canClose 15 = .ok (.invokeinterface 160 1, 5) := by decide +kernel
theorem dX15_canClose_20 : decode cX15_canClose 20 = .ok (.ifCond .eq 69, 3) := by decide +kernel
theorem dX15_canClose_23 : decode cX15_canClose 23 = .ok (.aload_n 3, 1) := by decide +kernel
theorem dX15_canClose_24 : decode cX15_canClose 24 = .ok (.invokeinterface 166 1, 5) := by decide +kernel
theorem dX15_canClose_29 : decode cX15_canClose 29 = .ok (.checkcast 110, 3) := by decide +kernel
theorem dX15_canClose_32 : decode cX15_canClose 32 = .ok (.astore 4, 2) := by decide +kernel
theorem dX15_canClose_34 : decode cX15_canClose 34 = .ok (.iload_n 1, 1) := by decide +kernel
theorem dX15_canClose_35 : decode cX15_canClose 35 = .ok (.aload 4, 2) := by decide +kernel
theorem dX15_canClose_37 : decode cX15_canClose 37 = .ok (.getfield 147, 3) := by decide +kernel
theorem dX15_canClose_40 : decode cX15_canClose 40 = .ok (.bipush 102, 2) := by decide +kernel
theorem dX15_canClose_42 : decode cX15_canClose 42 = .ok (.if_icmp .ne 12, 3) := by decide +kernel
theorem dX15_canClose_45 : decode cX15_canClose 45 = .ok (.aload 4, 2) := by decide +kernel
theorem dX15_canClose_47 : decode cX15_canClose 47 = .ok (.getfield 150, 3) := by decide +kernel
theorem dX15_canClose_50 : decode cX15_canClose 50 = .ok (.iconst (-1), 1) := by decide +kernel
theorem dX15_canClose_51 : decode cX15_canClose 51 = .ok (.if_icmp .eq 7, 3) := by decide +kernel
theorem dX15_canClose_54 : decode cX15_canClose 54 = .ok (.iconst 1, 1) := by decide +kernel
theorem dX15_canClose_55 : decode cX15_canClose 55 = .ok (.goto 4, 3) := by decide +kernel
theorem dX15_canClose_58 : decode cX15_canClose 58 = .ok (.iconst 0, 1) := by decide +kernel
theorem dX15_canClose_59 : decode cX15_canClose 59 = .ok (.iand, 1) := by decide +kernel
theorem dX15_canClose_60 : decode cX15_canClose 60 = .ok (.istore_n 1, 1) := by decide +kernel
theorem dX15_canClose_61 : decode cX15_canClose 61 = .ok (.iload_n 2, 1) := by decide +kernel
theorem dX15_canClose_62 : decode cX15_canClose 62 = .ok (.aload 4, 2) := by decide +kernel
theorem dX15_canClose_64 : decode cX15_canClose 64 = .ok (.getfield 153, 3) := by decide +kernel
theorem dX15_canClose_67 : decode cX15_canClose 67 = .ok (.ifCond .ne 12, 3) := by decide +kernel
theorem dX15_canClose_70 : decode cX15_canClose 70 = .ok (.aload 4, 2) := by decide +kernel
theorem dX15_canClose_72 : decode cX15_canClose 72 = .ok (.getfield 150, 3) := by decide +kernel
theorem dX15_canClose_75 : decode cX15_canClose 75 = .ok (.iconst (-1), 1) := by decide +kernel
theorem dX15_canClose_76 : decode cX15_canClose 76 = .ok (.if_icmp .eq 7, 3) := by decide +kernel
theorem dX15_canClose_79 : decode cX15_canClose 79 = .ok (.iconst 1, 1) := by decide +kernel
theorem dX15_canClose_80 : decode cX15_canClose 80 = .ok (.goto 4, 3) := by decide +kernel
theorem dX15_canClose_83 : decode cX15_canClose 83 = .ok (.iconst 0, 1) := by decide +kernel
theorem dX15_canClose_84 : decode cX15_canClose 84 = .ok (.ior, 1) := by decide +kernel
theorem dX15_canClose_85 : decode cX15_canClose 85 = .ok (.istore_n 2, 1) := by decide +kernel
theorem dX15_canClose_86 : decode cX15_canClose 86 = .ok (.goto (-72), 3) := by decide +kernel
theorem dX15_canClose_89 : decode cX15_canClose 89 = .ok (.iload_n 1, 1) := by decide +kernel
theorem dX15_canClose_90 : decode cX15_canClose 90 = .ok (.ifCond .eq 11, 3) := by decide +kernel
theorem dX15_canClose_93 : decode cX15_canClose 93 = .ok (.iload_n 2, 1) := by decide +kernel
theorem dX15_canClose_94 : decode cX15_canClose 94 = .ok (.ifCond .eq 7, 3) := by decide +kernel
theorem dX15_canClose_97 : decode cX15_canClose 97 = .ok (.iconst 1, 1) := by decide +kernel
theorem dX15_canClose_98 : decode cX15_canClose 98 = .ok (.goto 4, 3) := by decide +kernel
theorem dX15_canClose_101 : decode cX15_canClose 101 = .ok (.iconst 0, 1) := by decide +kernel
theorem dX15_canClose_102 : decode cX15_canClose 102 = .ok (.ireturn, 1) := by decide +kernel
theorem dX15_candidate_0 : decode cX15_candidate 0 = .ok (.aload_n 0, 1) := by decide +kernel
theorem dX15_candidate_1 : decode cX15_candidate 1 = .ok (.invokevirtual 421, 3) := by decide +kernel
theorem dX15_candidate_4 : decode cX15_candidate 4 = .ok (.astore_n 2, 1) := by decide +kernel
theorem dX15_candidate_5 : decode cX15_candidate 5 = .ok (.aload_n 0, 1) := by decide +kernel
theorem dX15_candidate_6 : decode cX15_candidate 6 = .ok (.iload_n 1, 1) := by decide +kernel
theorem dX15_candidate_7 : decode cX15_candidate 7 = .ok (.iconst 0, 1) := by decide +kernel
theorem dX15_candidate_8 : decode cX15_candidate 8 = .ok (.aload_n 2, 1) := by decide +kernel
theorem dX15_candidate_9 : decode cX15_candidate 9 = .ok (.invokeinterface 92 1, 5) := by decide +kernel
theorem dX15_candidate_14 : decode cX15_candidate 14 = .ok (.iconst 1, 1) := by decide +kernel
theorem dX15_candidate_15 : decode cX15_candidate 15 = .ok (.isub, 1) := by decide +kernel
theorem dX15_candidate_16 : decode cX15_candidate 16 = .ok (.invokestatic 98, 3) := by decide +kernel
theorem dX15_candidate_19 : decode cX15_candidate 19 = .ok (.ifCond .eq 7, 3) := by decide +kernel
theorem dX15_candidate_22 : decode cX15_candidate 22 = .ok (.iconst 0, 1) := by decide +kernel
theorem dX15_candidate_23 : decode cX15_candidate 23 = .ok (.goto 4, 3) := by decide +kernel
theorem dX15_candidate_26 : decode cX15_candidate 26 = .ok (.iconst 1, 1) := by decide +kernel
theorem dX15_candidate_27 : decode cX15_candidate 27 = .ok (.invokevirtual 106, 3) := by decide +kernel
theorem dX15_candidate_30 : decode cX15_candidate 30 = .ok (.ifCond .eq 7, 3) := by decide +kernel
theorem dX15_candidate_33 : decode cX15_candidate 33 = .ok (.iconst 0, 1) := by decide +kernel
theorem dX15_candidate_34 : decode cX15_candidate 34 = .ok (.goto 16, 3) := by decide +kernel
theorem dX15_candidate_37 : decode cX15_candidate 37 = .ok (.aload_n 2, 1) := by decide +kernel
theorem dX15_candidate_38 : decode cX15_candidate 38 = .ok (.iload_n 1, 1) := by decide +kernel
theorem dX15_candidate_39 : decode cX15_candidate 39 = .ok (.invokeinterface 143 2, 5) := by decide +kernel
theorem dX15_candidate_44 : decode cX15_candidate 44 = .ok (.checkcast 119, 3) := by decide +kernel
theorem dX15_candidate_47 : decode cX15_candidate 47 = .ok (.invokevirtual 194, 3) := by decide +kernel
theorem dX15_candidate_50 : decode cX15_candidate 50 = .ok (.ireturn, 1) := by decide +kernel
theorem dX15_candidates_0 : decode cX15_candidates 0 = .ok (.new 13, 3) := by decide +kernel
theorem dX15_candidates_3 : decode cX15_candidates 3 = .ok (.dup, 1) := by decide +kernel
theorem dX15_candidates_4 : decode cX15_candidates 4 = .ok (.invokespecial 15, 3) := by decide +kernel
theorem dX15_candidates_7 : decode cX15_candidates 7 = .ok (.astore_n 1, 1) := by decide +kernel
theorem dX15_candidates_8 : decode cX15_candidates 8 = .ok (.aload_n 0, 1) := by decide +kernel
theorem dX15_candidates_9 : decode cX15_candidates 9 = .ok (.invokevirtual 318, 3) := by decide +kernel
theorem dX15_candidates_12 : decode cX15_candidates 12 = .ok (.invokeinterface 156 1, 5) := by decide +kernel
theorem dX15_candidates_17 : decode cX15_candidates 17 = .ok (.astore_n 2, 1) := by decide +kernel
theorem dX15_candidates_18 : decode cX15_candidates 18 = .ok (.aload_n 2, 1) := by decide +kernel
theorem dX15_candidates_19 : decode cX15_candidates 19 = .ok (.invokeinterface 160 1, 5) := by decide +kernel
theorem dX15_candidates_24 : decode cX15_candidates 24 = .ok (.ifCond .eq 89, 3) := by decide +kernel
theorem dX15_candidates_27 : decode cX15_candidates 27 = .ok (.aload_n 2, 1) := by decide +kernel
theorem dX15_candidates_28 : decode cX15_candidates 28 = .ok (.invokeinterface 166 1, 5) := by decide +kernel
theorem dX15_candidates_33 : decode cX15_candidates 33 = .ok (.checkcast 119, 3) := by decide +kernel
theorem dX15_candidates_36 : decode cX15_candidates 36 = .ok (.invokevirtual 194, 3) := by decide +kernel
theorem dX15_candidates_39 : decode cX15_candidates 39 = .ok (.istore_n 3, 1) := by decide +kernel
theorem dX15_candidates_40 : decode cX15_candidates 40 = .ok (.aload_n 0, 1) := by decide +kernel
theorem dX15_candidates_41 : decode cX15_candidates 41 = .ok (.iload_n 3, 1) := by decide +kernel
theorem dX15_candidates_42 : decode cX15_candidates 42 = .ok (.invokevirtual 412, 3) := by decide +kernel
theorem dX15_candidates_45 : decode cX15_candidates 45 = .ok (.ifCond .ne 6, 3) := by decide +kernel
theorem dX15_candidates_48 : decode cX15_candidates 48 = .ok (.goto (-30), 3) := by decide +kernel
theorem dX15_candidates_51 : decode cX15_candidates 51 = .ok (.aload_n 1, 1) := by decide +kernel
theorem dX15_candidates_52 : decode cX15_candidates 52 = .ok (.invokeinterface 92 1, 5) := by decide +kernel
theorem dX15_candidates_57 : decode cX15_candidates 57 = .ok (.istore 4, 2) := by decide +kernel
theorem dX15_candidates_59 : decode cX15_candidates 59 = .ok (.iload 4, 2) := by decide +kernel
theorem dX15_candidates_61 : decode cX15_candidates 61 = .ok (.ifCond .le 37, 3) := by decide +kernel
theorem dX15_candidates_64 : decode cX15_candidates 64 = .ok (.aload_n 0, 1) := by decide +kernel
theorem dX15_candidates_65 : decode cX15_candidates 65 = .ok (.aload_n 1, 1) := by decide +kernel
theorem dX15_candidates_66 : decode cX15_candidates 66 = .ok (.iload 4, 2) := by decide +kernel
theorem dX15_candidates_68 : decode cX15_candidates 68 = .ok (.iconst 1, 1) := by decide +kernel
theorem dX15_candidates_69 : decode cX15_candidates 69 = .ok (.isub, 1) := by decide +kernel
theorem dX15_candidates_70 : decode cX15_candidates 70 = .ok (.invokeinterface 143 2, 5) := by decide +kernel
theorem dX15_candidates_75 : decode cX15_candidates 75 = .ok (.checkcast 119, 3) := by decide +kernel
theorem dX15_candidates_78 : decode cX15_candidates 78 = .ok (.invokevirtual 194, 3) := by decide +kernel
theorem dX15_candidates_81 : decode cX15_candidates 81 = .ok (.invokevirtual 415, 3) := by decide +kernel
theorem dX15_candidates_84 : decode cX15_candidates 84 = .ok (.aload_n 0, 1) := by decide +kernel
theorem dX15_candidates_85 : decode cX15_candidates 85 = .ok (.iload_n 3, 1) := by decide +kernel
theorem dX15_candidates_86 : decode cX15_candidates 86 = .ok (.invokevirtual 415, 3) := by decide +kernel
theorem dX15_candidates_89 : decode cX15_candidates 89 = .ok (.if_icmp .le 9, 3) := by decide +kernel
theorem dX15_candidates_92 : decode cX15_candidates 92 = .ok (.iinc 4 (-1), 3) := by decide +kernel
theorem dX15_candidates_95 : decode cX15_candidates 95 = .ok (.goto (-36), 3) := by decide +kernel
theorem dX15_candidates_98 : decode cX15_candidates 98 = .ok (.aload_n 1, 1) := by decide +kernel
theorem dX15_candidates_99 : decode cX15_candidates 99 = .ok (.iload 4, 2) := by decide +kernel
theorem dX15_candidates_101 : decode cX15_candidates 101 = .ok (.iload_n 3, 1) := by decide +kernel
theorem dX15_candidates_102 : decode cX15_candidates 102 = .ok (.invokestatic 118, 3) := by decide +kernel
theorem dX15_candidates_105 : decode cX15_candidates 105 = .ok (.invokeinterface 418 3, 5) := by decide +kernel
theorem dX15_candidates_110 : decode cX15_candidates 110 = .ok (.goto (-92), 3) := by decide +kernel
theorem dX15_candidates_113 : decode cX15_candidates 113 = .ok (.aload_n 1, 1) := by decide +kernel
theorem dX15_candidates_114 : decode cX15_candidates 114 = .ok (.areturn, 1) := by decide +kernel
theorem dX15_cell_0 : decode cX15_cell 0 = .ok (.aload_n 0, 1) := by decide +kernel
theorem dX15_cell_1 : decode cX15_cell 1 = .ok (.bipush 102, 2) := by decide +kernel
theorem dX15_cell_3 : decode cX15_cell 3 = .ok (.invokevirtual 128, 3) := by decide +kernel
theorem dX15_cell_6 : decode cX15_cell 6 = .ok (.ireturn, 1) := by decide +kernel
theorem dX15_chance_0 : decode cX15_chance 0 = .ok (.aload_n 0, 1) := by decide +kernel
theorem dX15_chance_1 : decode cX15_chance 1 = .ok (.iload_n 1, 1) := by decide +kernel
theorem dX15_chance_2 : decode cX15_chance 2 = .ok (.iconst 0, 1) := by decide +kernel
theorem dX15_chance_3 : decode cX15_chance 3 = .ok (.ldc_w 392, 3) := by decide +kernel
theorem dX15_chance_6 : decode cX15_chance 6 = .ok (.invokestatic 98, 3) := by decide +kernel
theorem dX15_chance_9 : decode cX15_chance 9 = .ok (.ifCond .eq 14, 3) := by decide +kernel
theorem dX15_chance_12 : decode cX15_chance 12 = .ok (.iload_n 2, 1) := by decide +kernel
theorem dX15_chance_13 : decode cX15_chance 13 = .ok (.iconst 1, 1) := by decide +kernel
theorem dX15_chance_14 : decode cX15_chance 14 = .ok (.sipush 200, 3) := by decide +kernel
theorem dX15_chance_17 : decode cX15_chance 17 = .ok (.invokestatic 98, 3) := by decide +kernel
theorem dX15_chance_20 : decode cX15_chance 20 = .ok (.ifCond .ne 7, 3) := by decide +kernel
theorem dX15_chance_23 : decode cX15_chance 23 = .ok (.iconst 1, 1) := by decide +kernel
theorem dX15_chance_24 : decode cX15_chance 24 = .ok (.goto 15, 3) := by decide +kernel
theorem dX15_chance_27 : decode cX15_chance 27 = .ok (.aload_n 0, 1) := by decide +kernel
theorem dX15_chance_28 : decode cX15_chance 28 = .ok (.getfield 102, 3) := by decide +kernel
theorem dX15_chance_31 : decode cX15_chance 31 = .ok (.ifCond .ne 7, 3) := by decide +kernel
theorem dX15_chance_34 : decode cX15_chance 34 = .ok (.iconst 2, 1) := by decide +kernel
theorem dX15_chance_35 : decode cX15_chance 35 = .ok (.goto 4, 3) := by decide +kernel
theorem dX15_chance_38 : decode cX15_chance 38 = .ok (.iconst 0, 1) := by decide +kernel
theorem dX15_chance_39 : decode cX15_chance 39 = .ok (.invokevirtual 106, 3) := by decide +kernel
theorem dX15_chance_42 : decode cX15_chance 42 = .ok (.ifCond .eq 5, 3) := by decide +kernel
theorem dX15_chance_45 : decode cX15_chance 45 = .ok (.iconst 0, 1) := by decide +kernel
theorem dX15_chance_46 : decode cX15_chance 46 = .ok (.ireturn, 1) := by decide +kernel
theorem dX15_chance_47 : decode cX15_chance 47 = .ok (.aload_n 0, 1) := by decide +kernel
theorem dX15_chance_48 : decode cX15_chance 48 = .ok (.invokevirtual 318, 3) := by decide +kernel
theorem dX15_chance_51 : decode cX15_chance 51 = .ok (.astore_n 3, 1) := by decide +kernel
theorem dX15_chance_52 : decode cX15_chance 52 = .ok (.aload_n 3, 1) := by decide +kernel
theorem dX15_chance_53 : decode cX15_chance 53 = .ok (.invokeinterface 92 1, 5) := by decide +kernel
theorem dX15_chance_58 : decode cX15_chance 58 = .ok (.istore 4, 2) := by decide +kernel
theorem dX15_chance_60 : decode cX15_chance 60 = .ok (.iload_n 1, 1) := by decide +kernel
theorem dX15_chance_61 : decode cX15_chance 61 = .ok (.iconst 1, 1) := by decide +kernel
theorem dX15_chance_62 : decode cX15_chance 62 = .ok (.aload_n 0, 1) := by decide +kernel
theorem dX15_chance_63 : decode cX15_chance 63 = .ok (.getfield 53, 3) := by decide +kernel
theorem dX15_chance_66 : decode cX15_chance 66 = .ok (.ishl, 1) := by decide +kernel
theorem dX15_chance_67 : decode cX15_chance 67 = .ok (.iconst 1, 1) := by decide +kernel
theorem dX15_chance_68 : decode cX15_chance 68 = .ok (.isub, 1) := by decide +kernel
theorem dX15_chance_69 : decode cX15_chance 69 = .ok (.iand, 1) := by decide +kernel
theorem dX15_chance_70 : decode cX15_chance 70 = .ok (.istore 5, 2) := by decide +kernel
theorem dX15_chance_72 : decode cX15_chance 72 = .ok (.aload_n 0, 1) := by decide +kernel
theorem dX15_chance_73 : decode cX15_chance 73 = .ok (.getfield 20, 3) := by decide +kernel
theorem dX15_chance_76 : decode cX15_chance 76 = .ok (.invokeinterface 92 1, 5) := by decide +kernel
theorem dX15_chance_81 : decode cX15_chance 81 = .ok (.newarray .int, 2) := by decide +kernel
theorem dX15_chance_83 : decode cX15_chance 83 = .ok (.astore 6, 2) := by decide +kernel
theorem dX15_chance_85 : decode cX15_chance 85 = .ok (.iconst 0, 1) := by decide +kernel
theorem dX15_chance_86 : decode cX15_chance 86 = .ok (.istore 7, 2) := by decide +kernel
theorem dX15_chance_88 : decode cX15_chance 88 = .ok (.iload 7, 2) := by decide +kernel
theorem dX15_chance_90 : decode cX15_chance 90 = .ok (.iload_n 2, 1) := by decide +kernel
theorem dX15_chance_91 : decode cX15_chance 91 = .ok (.if_icmp .ge 84, 3) := by decide +kernel
theorem dX15_chance_94 : decode cX15_chance 94 = .ok (.aload_n 0, 1) := by decide +kernel
theorem dX15_chance_95 : decode cX15_chance 95 = .ok (.iload 5, 2) := by decide +kernel
theorem dX15_chance_97 : decode cX15_chance 97 = .ok (.aload 6, 2) := by decide +kernel
theorem dX15_chance_99 : decode cX15_chance 99 = .ok (.invokevirtual 385, 3) := by decide +kernel
theorem dX15_chance_102 : decode cX15_chance 102 = .ok (.istore 5, 2) := by decide +kernel
theorem dX15_chance_104 : decode cX15_chance 104 = .ok (.aload_n 3, 1) := by decide +kernel
theorem dX15_chance_105 : decode cX15_chance 105 = .ok (.invokeinterface 92 1, 5) := by decide +kernel
theorem dX15_chance_110 : decode cX15_chance 110 = .ok (.iconst 1, 1) := by decide +kernel
theorem dX15_chance_111 : decode cX15_chance 111 = .ok (.isub, 1) := by decide +kernel
theorem dX15_chance_112 : decode cX15_chance 112 = .ok (.istore 8, 2) := by decide +kernel
theorem dX15_chance_114 : decode cX15_chance 114 = .ok (.iload 8, 2) := by decide +kernel
theorem dX15_chance_116 : decode cX15_chance 116 = .ok (.ifCond .lt 53, 3) := by decide +kernel
theorem dX15_chance_119 : decode cX15_chance 119 = .ok (.aload_n 0, 1) := by decide +kernel
theorem dX15_chance_120 : decode cX15_chance 120 = .ok (.aload 6, 2) := by decide +kernel
theorem dX15_chance_122 : decode cX15_chance 122 = .ok (.aload_n 0, 1) := by decide +kernel
theorem dX15_chance_123 : decode cX15_chance 123 = .ok (.getfield 26, 3) := by decide +kernel
theorem dX15_chance_126 : decode cX15_chance 126 = .ok (.aload_n 3, 1) := by decide +kernel
theorem dX15_chance_127 : decode cX15_chance 127 = .ok (.iload 8, 2) := by decide +kernel
theorem dX15_chance_129 : decode cX15_chance 129 = .ok (.invokeinterface 143 2, 5) := by decide +kernel
theorem dX15_chance_134 : decode cX15_chance 134 = .ok (.checkcast 119, 3) := by decide +kernel
theorem dX15_chance_137 : decode cX15_chance 137 = .ok (.invokevirtual 194, 3) := by decide +kernel
theorem dX15_chance_140 : decode cX15_chance 140 = .ok (.invokeinterface 143 2, 5) := by decide +kernel
theorem dX15_chance_145 : decode cX15_chance 145 = .ok (.checkcast 170, 3) := by decide +kernel
theorem dX15_chance_148 : decode cX15_chance 148 = .ok (.invokevirtual 275, 3) := by decide +kernel
theorem dX15_chance_151 : decode cX15_chance 151 = .ok (.ifCond .eq 12, 3) := by decide +kernel
theorem dX15_chance_154 : decode cX15_chance 154 = .ok (.aload_n 3, 1) := by decide +kernel
theorem dX15_chance_155 : decode cX15_chance 155 = .ok (.iload 8, 2) := by decide +kernel
theorem dX15_chance_157 : decode cX15_chance 157 = .ok (.invokeinterface 367 2, 5) := by decide +kernel
theorem dX15_chance_162 : decode cX15_chance 162 = .ok (.pop, 1) := by decide +kernel
theorem dX15_chance_163 : decode cX15_chance 163 = .ok (.iinc 8 (-1), 3) := by decide +kernel
theorem dX15_chance_166 : decode cX15_chance 166 = .ok (.goto (-52), 3) := by decide +kernel
theorem dX15_chance_169 : decode cX15_chance 169 = .ok (.iinc 7 1, 3) := by decide +kernel
theorem dX15_chance_172 : decode cX15_chance 172 = .ok (.goto (-84), 3) := by decide +kernel
theorem dX15_chance_175 : decode cX15_chance 175 = .ok (.iload 4, 2) := by decide +kernel
theorem dX15_chance_177 : decode cX15_chance 177 = .ok (.aload_n 3, 1) := by decide +kernel
theorem dX15_chance_178 : decode cX15_chance 178 = .ok (.invokeinterface 92 1, 5) := by decide +kernel
theorem dX15_chance_183 : decode cX15_chance 183 = .ok (.isub, 1) := by decide +kernel
theorem dX15_chance_184 : decode cX15_chance 184 = .ok (.ireturn, 1) := by decide +kernel
theorem dX15_classes_0 : decode cX15_classes 0 = .ok (.aload_n 0, 1) := by decide +kernel
theorem dX15_classes_1 : decode cX15_classes 1 = .ok (.iconst 0, 1) := by decide +kernel
theorem dX15_classes_2 : decode cX15_classes 2 = .ok (.putfield 1, 3) := by decide +kernel
theorem dX15_classes_5 : decode cX15_classes 5 = .ok (.aload_n 0, 1) := by decide +kernel
theorem dX15_classes_6 : decode cX15_classes 6 = .ok (.invokevirtual 318, 3) := by decide +kernel
theorem dX15_classes_9 : decode cX15_classes 9 = .ok (.invokeinterface 92 1, 5) := by decide +kernel
theorem dX15_classes_14 : decode cX15_classes 14 = .ok (.ireturn, 1) := by decide +kernel
theorem dX15_close_0 : decode cX15_close 0 = .ok (.aload_n 0, 1) := by decide +kernel
theorem dX15_close_1 : decode cX15_close 1 = .ok (.aload_n 0, 1) := by decide +kernel
theorem dX15_close_2 : decode cX15_close 2 = .ok (.getfield 102, 3) := by decide +kernel
theorem dX15_close_5 : decode cX15_close 5 = .ok (.ifCond .ne 10, 3) := by decide +kernel
theorem dX15_close_8 : decode cX15_close 8 = .ok (.aload_n 0, 1) := by decide +kernel
theorem dX15_close_9 : decode cX15_close 9 = .ok (.invokevirtual 175, 3) := by decide +kernel
theorem dX15_close_12 : decode cX15_close 12 = .ok (.ifCond .ne 7, 3) := by decide +kernel
theorem dX15_close_15 : decode cX15_close 15 = .ok (.iconst 1, 1) := by decide +kernel
theorem dX15_close_16 : decode cX15_close 16 = .ok (.goto 4, 3) := by decide +kernel
theorem dX15_close_19 : decode cX15_close 19 = .ok (.iconst 0, 1) := by decide +kernel
theorem dX15_close_20 : decode cX15_close 20 = .ok (.invokevirtual 106, 3) := by decide +kernel
theorem dX15_close_23 : decode cX15_close 23 = .ok (.ifCond .eq 5, 3) := by decide +kernel
theorem dX15_close_26 : decode cX15_close 26 = .ok (.iconst 0, 1) := by decide +kernel
theorem dX15_close_27 : decode cX15_close 27 = .ok (.ireturn, 1) := by decide +kernel
theorem dX15_close_28 : decode cX15_close 28 = .ok (.aload_n 0, 1) := by decide +kernel
theorem dX15_close_29 : decode cX15_close 29 = .ok (.iconst 1, 1) := by decide +kernel
theorem dX15_close_30 : decode cX15_close 30 = .ok (.putfield 102, 3) := by decide +kernel
theorem dX15_close_33 : decode cX15_close 33 = .ok (.aload_n 0, 1) := by decide +kernel
theorem dX15_close_34 : decode cX15_close 34 = .ok (.getfield 16, 3) := by decide +kernel
theorem dX15_close_37 : decode cX15_close 37 = .ok (.invokeinterface 156 1, 5) := by decide +kernel
theorem dX15_close_42 : decode cX15_close 42 = .ok (.astore_n 1, 1) := by decide +kernel
theorem dX15_close_43 : decode cX15_close 43 = .ok (.aload_n 1, 1) := by decide +kernel
theorem dX15_close_44 : decode cX15_close 44 = .ok (.invokeinterface 160 1, 5) := by decide +kernel
theorem dX15_close_49 : decode cX15_close 49 = .ok (.ifCond .eq 124, 3) := by decide +kernel
theorem dX15_close_52 : decode cX15_close 52 = .ok (.aload_n 1, 1) := by decide +kernel
theorem dX15_close_53 : decode cX15_close 53 = .ok (.invokeinterface 166 1, 5) := by decide +kernel
theorem dX15_close_58 : decode cX15_close 58 = .ok (.checkcast 110, 3) := by decide +kernel
theorem dX15_close_61 : decode cX15_close 61 = .ok (.astore_n 2, 1) := by decide +kernel
theorem dX15_close_62 : decode cX15_close 62 = .ok (.aload_n 2, 1) := by decide +kernel
theorem dX15_close_63 : decode cX15_close 63 = .ok (.getfield 178, 3) := by decide +kernel
theorem dX15_close_66 : decode cX15_close 66 = .ok (.astore_n 3, 1) := by decide +kernel
theorem dX15_close_67 : decode cX15_close 67 = .ok (.aload_n 3, 1) := by decide +kernel
theorem dX15_close_68 : decode cX15_close 68 = .ok (.arraylength, 1) := by decide +kernel
theorem dX15_close_69 : decode cX15_close 69 = .ok (.istore 4, 2) := by decide +kernel
theorem dX15_close_71 : decode cX15_close 71 = .ok (.iconst 0, 1) := by decide +kernel
theorem dX15_close_72 : decode cX15_close 72 = .ok (.istore 5, 2) := by decide +kernel
theorem dX15_close_74 : decode cX15_close 74 = .ok (.iload 5, 2) := by decide +kernel
theorem dX15_close_76 : decode cX15_close 76 = .ok (.iload 4, 2) := by decide +kernel
theorem dX15_close_78 : decode cX15_close 78 = .ok (.if_icmp .ge 38, 3) := by decide +kernel
theorem dX15_close_81 : decode cX15_close 81 = .ok (.aload_n 3, 1) := by decide +kernel
theorem dX15_close_82 : decode cX15_close 82 = .ok (.iload 5, 2) := by decide +kernel
theorem dX15_close_84 : decode cX15_close 84 = .ok (.iaload, 1) := by decide +kernel
theorem dX15_close_85 : decode cX15_close 85 = .ok (.istore 6, 2) := by decide +kernel
theorem dX15_close_87 : decode cX15_close 87 = .ok (.aload_n 0, 1) := by decide +kernel
theorem dX15_close_88 : decode cX15_close 88 = .ok (.getfield 16, 3) := by decide +kernel
theorem dX15_close_91 : decode cX15_close 91 = .ok (.iload 6, 2) := by decide +kernel
theorem dX15_close_93 : decode cX15_close 93 = .ok (.invokeinterface 143 2, 5) := by decide +kernel
theorem dX15_close_98 : decode cX15_close 98 = .ok (.checkcast 110, 3) := by decide +kernel
theorem dX15_close_101 : decode cX15_close 101 = .ok (.dup, 1) := by decide +kernel
theorem dX15_close_102 : decode cX15_close 102 = .ok (.getfield 181, 3) := by decide +kernel
theorem dX15_close_105 : decode cX15_close 105 = .ok (.iconst 1, 1) := by decide +kernel
theorem dX15_close_106 : decode cX15_close 106 = .ok (.iadd, 1) := by decide +kernel
theorem dX15_close_107 : decode cX15_close 107 = .ok (.putfield 181, 3) := by decide +kernel
theorem dX15_close_110 : decode cX15_close 110 = .ok (.iinc 5 1, 3) := by decide +kernel
theorem dX15_close_113 : decode cX15_close 113 = .ok (.goto (-39), 3) := by decide +kernel
theorem dX15_close_116 : decode cX15_close 116 = .ok (.aload_n 2, 1) := by decide +kernel
theorem dX15_close_117 : decode cX15_close 117 = .ok (.getfield 150, 3) := by decide +kernel
theorem dX15_close_120 : decode cX15_close 120 = .ok (.iconst (-1), 1) := by decide +kernel
theorem dX15_close_121 : decode cX15_close 121 = .ok (.if_icmp .eq 28, 3) := by decide +kernel
theorem dX15_close_124 : decode cX15_close 124 = .ok (.aload_n 0, 1) := by decide +kernel
theorem dX15_close_125 : decode cX15_close 125 = .ok (.getfield 16, 3) := by decide +kernel
theorem dX15_close_128 : decode cX15_close 128 = .ok (.aload_n 2, 1) := by decide +kernel
theorem dX15_close_129 : decode cX15_close 129 = .ok (.getfield 150, 3) := by decide +kernel
theorem dX15_close_132 : decode cX15_close 132 = .ok (.invokeinterface 143 2, 5) := by decide +kernel
theorem dX15_close_137 : decode cX15_close 137 = .ok (.checkcast 110, 3) := by decide +kernel
theorem dX15_close_140 : decode cX15_close 140 = .ok (.dup, 1) := by decide +kernel
theorem dX15_close_141 : decode cX15_close 141 = .ok (.getfield 181, 3) := by decide +kernel
theorem dX15_close_144 : decode cX15_close 144 = .ok (.iconst 1, 1) := by decide +kernel
theorem dX15_close_145 : decode cX15_close 145 = .ok (.iadd, 1) := by decide +kernel
theorem dX15_close_146 : decode cX15_close 146 = .ok (.putfield 181, 3) := by decide +kernel
theorem dX15_close_149 : decode cX15_close 149 = .ok (.aload_n 2, 1) := by decide +kernel
theorem dX15_close_150 : decode cX15_close 150 = .ok (.dup, 1) := by decide +kernel
theorem dX15_close_151 : decode cX15_close 151 = .ok (.getfield 181, 3) := by decide +kernel
theorem dX15_close_154 : decode cX15_close 154 = .ok (.aload_n 2, 1) := by decide +kernel
theorem dX15_close_155 : decode cX15_close 155 = .ok (.getfield 153, 3) := by decide +kernel
theorem dX15_close_158 : decode cX15_close 158 = .ok (.ifCond .eq 7, 3) := by decide +kernel
theorem dX15_close_161 : decode cX15_close 161 = .ok (.iconst 1, 1) := by decide +kernel
theorem dX15_close_162 : decode cX15_close 162 = .ok (.goto 4, 3) := by decide +kernel
theorem dX15_close_165 : decode cX15_close 165 = .ok (.iconst 0, 1) := by decide +kernel
theorem dX15_close_166 : decode cX15_close 166 = .ok (.iadd, 1) := by decide +kernel
theorem dX15_close_167 : decode cX15_close 167 = .ok (.putfield 181, 3) := by decide +kernel
theorem dX15_close_170 : decode cX15_close 170 = .ok (.goto (-127), 3) := by decide +kernel
theorem dX15_close_173 : decode cX15_close 173 = .ok (.iconst 0, 1) := by decide +kernel
theorem dX15_close_174 : decode cX15_close 174 = .ok (.istore_n 1, 1) := by decide +kernel
theorem dX15_close_175 : decode cX15_close 175 = .ok (.iload_n 1, 1) := by decide +kernel
theorem dX15_close_176 : decode cX15_close 176 = .ok (.aload_n 0, 1) := by decide +kernel
theorem dX15_close_177 : decode cX15_close 177 = .ok (.getfield 16, 3) := by decide +kernel
theorem dX15_close_180 : decode cX15_close 180 = .ok (.invokeinterface 92 1, 5) := by decide +kernel
theorem dX15_close_185 : decode cX15_close 185 = .ok (.if_icmp .ge 87, 3) := by decide +kernel
theorem dX15_close_188 : decode cX15_close 188 = .ok (.aload_n 0, 1) := by decide +kernel
theorem dX15_close_189 : decode cX15_close 189 = .ok (.iload_n 1, 1) := by decide +kernel
theorem dX15_close_190 : decode cX15_close 190 = .ok (.iconst (-1), 1) := by decide +kernel
theorem dX15_close_191 : decode cX15_close 191 = .ok (.invokevirtual 184, 3) := by decide +kernel
theorem dX15_close_194 : decode cX15_close 194 = .ok (.iconst 0, 1) := by decide +kernel
theorem dX15_close_195 : decode cX15_close 195 = .ok (.istore_n 2, 1) := by decide +kernel
theorem dX15_close_196 : decode cX15_close 196 = .ok (.iload_n 2, 1) := by decide +kernel
theorem dX15_close_197 : decode cX15_close 197 = .ok (.aload_n 0, 1) := by decide +kernel
theorem dX15_close_198 : decode cX15_close 198 = .ok (.getfield 16, 3) := by decide +kernel
theorem dX15_close_201 : decode cX15_close 201 = .ok (.iload_n 1, 1) := by decide +kernel
theorem dX15_close_202 : decode cX15_close 202 = .ok (.invokeinterface 143 2, 5) := by decide +kernel
theorem dX15_close_207 : decode cX15_close 207 = .ok (.checkcast 110, 3) := by decide +kernel
theorem dX15_close_210 : decode cX15_close 210 = .ok (.getfield 178, 3) := by decide +kernel
theorem dX15_close_213 : decode cX15_close 213 = .ok (.arraylength, 1) := by decide +kernel
theorem dX15_close_214 : decode cX15_close 214 = .ok (.if_icmp .ge 52, 3) := by decide +kernel
theorem dX15_close_217 : decode cX15_close 217 = .ok (.aload_n 0, 1) := by decide +kernel
theorem dX15_close_218 : decode cX15_close 218 = .ok (.getfield 16, 3) := by decide +kernel
theorem dX15_close_221 : decode cX15_close 221 = .ok (.aload_n 0, 1) := by decide +kernel
theorem dX15_close_222 : decode cX15_close 222 = .ok (.getfield 16, 3) := by decide +kernel
theorem dX15_close_225 : decode cX15_close 225 = .ok (.iload_n 1, 1) := by decide +kernel
theorem dX15_close_226 : decode cX15_close 226 = .ok (.invokeinterface 143 2, 5) := by decide +kernel
theorem dX15_close_231 : decode cX15_close 231 = .ok (.checkcast 110, 3) := by decide +kernel
theorem dX15_close_234 : decode cX15_close 234 = .ok (.getfield 178, 3) := by decide +kernel
theorem dX15_close_237 : decode cX15_close 237 = .ok (.iload_n 2, 1) := by decide +kernel
theorem dX15_close_238 : decode cX15_close 238 = .ok (.iaload, 1) := by decide +kernel
theorem dX15_close_239 : decode cX15_close 239 = .ok (.invokeinterface 143 2, 5) := by decide +kernel
theorem dX15_close_244 : decode cX15_close 244 = .ok (.checkcast 110, 3) := by decide +kernel
theorem dX15_close_247 : decode cX15_close 247 = .ok (.getfield 181, 3) := by decide +kernel
theorem dX15_close_250 : decode cX15_close 250 = .ok (.iconst 1, 1) := by decide +kernel
theorem dX15_close_251 : decode cX15_close 251 = .ok (.if_icmp .le 9, 3) := by decide +kernel
theorem dX15_close_254 : decode cX15_close 254 = .ok (.aload_n 0, 1) := by decide +kernel
theorem dX15_close_255 : decode cX15_close 255 = .ok (.iload_n 1, 1) := by decide +kernel
theorem dX15_close_256 : decode cX15_close 256 = .ok (.iload_n 2, 1) := by decide +kernel
theorem dX15_close_257 : decode cX15_close 257 = .ok (.invokevirtual 184, 3) := by decide +kernel
theorem dX15_close_260 : decode cX15_close 260 = .ok (.iinc 2 1, 3) := by decide +kernel
theorem dX15_close_263 : decode cX15_close 263 = .ok (.goto (-67), 3) := by decide +kernel
theorem dX15_close_266 : decode cX15_close 266 = .ok (.iinc 1 1, 3) := by decide +kernel
theorem dX15_close_269 : decode cX15_close 269 = .ok (.goto (-94), 3) := by decide +kernel
theorem dX15_close_272 : decode cX15_close 272 = .ok (.aload_n 0, 1) := by decide +kernel
theorem dX15_close_273 : decode cX15_close 273 = .ok (.aload_n 0, 1) := by decide +kernel
theorem dX15_close_274 : decode cX15_close 274 = .ok (.getfield 26, 3) := by decide +kernel
theorem dX15_close_277 : decode cX15_close 277 = .ok (.invokeinterface 92 1, 5) := by decide +kernel
theorem dX15_close_282 : decode cX15_close 282 = .ok (.putfield 188, 3) := by decide +kernel
theorem dX15_close_285 : decode cX15_close 285 = .ok (.aload_n 0, 1) := by decide +kernel
theorem dX15_close_286 : decode cX15_close 286 = .ok (.getfield 188, 3) := by decide +kernel
theorem dX15_close_289 : decode cX15_close 289 = .ok (.ireturn, 1) := by decide +kernel
theorem dX15_core_0 : decode cX15_core 0 = .ok (.aload_n 0, 1) := by decide +kernel
theorem dX15_core_1 : decode cX15_core 1 = .ok (.iload_n 1, 1) := by decide +kernel
theorem dX15_core_2 : decode cX15_core 2 = .ok (.iconst 1, 1) := by decide +kernel
theorem dX15_core_3 : decode cX15_core 3 = .ok (.sipush 999, 3) := by decide +kernel
theorem dX15_core_6 : decode cX15_core 6 = .ok (.invokestatic 98, 3) := by decide +kernel
theorem dX15_core_9 : decode cX15_core 9 = .ok (.ifCond .eq 24, 3) := by decide +kernel
theorem dX15_core_12 : decode cX15_core 12 = .ok (.iload_n 2, 1) := by decide +kernel
theorem dX15_core_13 : decode cX15_core 13 = .ok (.iconst 1, 1) := by decide +kernel
theorem dX15_core_14 : decode cX15_core 14 = .ok (.bipush 64, 2) := by decide +kernel
theorem dX15_core_16 : decode cX15_core 16 = .ok (.invokestatic 98, 3) := by decide +kernel
theorem dX15_core_19 : decode cX15_core 19 = .ok (.ifCond .eq 14, 3) := by decide +kernel
theorem dX15_core_22 : decode cX15_core 22 = .ok (.iload_n 3, 1) := by decide +kernel
theorem dX15_core_23 : decode cX15_core 23 = .ok (.iconst 0, 1) := by decide +kernel
theorem dX15_core_24 : decode cX15_core 24 = .ok (.sipush 999, 3) := by decide +kernel
theorem dX15_core_27 : decode cX15_core 27 = .ok (.invokestatic 98, 3) := by decide +kernel
theorem dX15_core_30 : decode cX15_core 30 = .ok (.ifCond .ne 7, 3) := by decide +kernel
theorem dX15_core_33 : decode cX15_core 33 = .ok (.iconst 1, 1) := by decide +kernel
theorem dX15_core_34 : decode cX15_core 34 = .ok (.goto 22, 3) := by decide +kernel
theorem dX15_core_37 : decode cX15_core 37 = .ok (.aload_n 0, 1) := by decide +kernel
theorem dX15_core_38 : decode cX15_core 38 = .ok (.getfield 83, 3) := by decide +kernel
theorem dX15_core_41 : decode cX15_core 41 = .ok (.invokeinterface 92 1, 5) := by decide +kernel
theorem dX15_core_46 : decode cX15_core 46 = .ok (.bipush 6, 2) := by decide +kernel
theorem dX15_core_48 : decode cX15_core 48 = .ok (.if_icmp .ne 7, 3) := by decide +kernel
theorem dX15_core_51 : decode cX15_core 51 = .ok (.iconst 2, 1) := by decide +kernel
theorem dX15_core_52 : decode cX15_core 52 = .ok (.goto 4, 3) := by decide +kernel
theorem dX15_core_55 : decode cX15_core 55 = .ok (.iconst 0, 1) := by decide +kernel
theorem dX15_core_56 : decode cX15_core 56 = .ok (.invokevirtual 106, 3) := by decide +kernel
theorem dX15_core_59 : decode cX15_core 59 = .ok (.ifCond .eq 5, 3) := by decide +kernel
theorem dX15_core_62 : decode cX15_core 62 = .ok (.iconst 0, 1) := by decide +kernel
theorem dX15_core_63 : decode cX15_core 63 = .ok (.ireturn, 1) := by decide +kernel
theorem dX15_core_64 : decode cX15_core 64 = .ok (.aload_n 0, 1) := by decide +kernel
theorem dX15_core_65 : decode cX15_core 65 = .ok (.getfield 83, 3) := by decide +kernel
theorem dX15_core_68 : decode cX15_core 68 = .ok (.iconst 3, 1) := by decide +kernel
theorem dX15_core_69 : decode cX15_core 69 = .ok (.newarray .int, 2) := by decide +kernel
theorem dX15_core_71 : decode cX15_core 71 = .ok (.dup, 1) := by decide +kernel
theorem dX15_core_72 : decode cX15_core 72 = .ok (.iconst 0, 1) := by decide +kernel
theorem dX15_core_73 : decode cX15_core 73 = .ok (.iload_n 1, 1) := by decide +kernel
theorem dX15_core_74 : decode cX15_core 74 = .ok (.iastore, 1) := by decide +kernel
theorem dX15_core_75 : decode cX15_core 75 = .ok (.dup, 1) := by decide +kernel
theorem dX15_core_76 : decode cX15_core 76 = .ok (.iconst 1, 1) := by decide +kernel
theorem dX15_core_77 : decode cX15_core 77 = .ok (.iload_n 2, 1) := by decide +kernel
theorem dX15_core_78 : decode cX15_core 78 = .ok (.iastore, 1) := by decide +kernel
theorem dX15_core_79 : decode cX15_core 79 = .ok (.dup, 1) := by decide +kernel
theorem dX15_core_80 : decode cX15_core 80 = .ok (.iconst 2, 1) := by decide +kernel
theorem dX15_core_81 : decode cX15_core 81 = .ok (.iload_n 3, 1) := by decide +kernel
theorem dX15_core_82 : decode cX15_core 82 = .ok (.iastore, 1) := by decide +kernel
theorem dX15_core_83 : decode cX15_core 83 = .ok (.invokeinterface 124 2, 5) := by decide +kernel
theorem dX15_core_88 : decode cX15_core 88 = .ok (.pop, 1) := by decide +kernel
theorem dX15_core_89 : decode cX15_core 89 = .ok (.aload_n 0, 1) := by decide +kernel
theorem dX15_core_90 : decode cX15_core 90 = .ok (.getfield 83, 3) := by decide +kernel
theorem dX15_core_93 : decode cX15_core 93 = .ok (.invokeinterface 92 1, 5) := by decide +kernel
theorem dX15_core_98 : decode cX15_core 98 = .ok (.iconst 1, 1) := by decide +kernel
theorem dX15_core_99 : decode cX15_core 99 = .ok (.isub, 1) := by decide +kernel
theorem dX15_core_100 : decode cX15_core 100 = .ok (.ireturn, 1) := by decide +kernel
theorem dX15_coverage_0 : decode cX15_coverage 0 = .ok (.aload_n 0, 1) := by decide +kernel
theorem dX15_coverage_1 : decode cX15_coverage 1 = .ok (.invokevirtual 318, 3) := by decide +kernel
theorem dX15_coverage_4 : decode cX15_coverage 4 = .ok (.astore_n 2, 1) := by decide +kernel
theorem dX15_coverage_5 : decode cX15_coverage 5 = .ok (.aload_n 0, 1) := by decide +kernel
theorem dX15_coverage_6 : decode cX15_coverage 6 = .ok (.ldc_w 339, 3) := by decide +kernel
theorem dX15_coverage_9 : decode cX15_coverage 9 = .ok (.iload_n 1, 1) := by decide +kernel
theorem dX15_coverage_10 : decode cX15_coverage 10 = .ok (.invokevirtual 134, 3) := by decide +kernel
theorem dX15_coverage_13 : decode cX15_coverage 13 = .ok (.ifCond .ge 7, 3) := by decide +kernel
theorem dX15_coverage_16 : decode cX15_coverage 16 = .ok (.iconst 1, 1) := by decide +kernel
theorem dX15_coverage_17 : decode cX15_coverage 17 = .ok (.goto 17, 3) := by decide +kernel
theorem dX15_coverage_20 : decode cX15_coverage 20 = .ok (.aload_n 2, 1) := by decide +kernel
theorem dX15_coverage_21 : decode cX15_coverage 21 = .ok (.invokeinterface 349 1, 5) := by decide +kernel
theorem dX15_coverage_26 : decode cX15_coverage 26 = .ok (.ifCond .eq 7, 3) := by decide +kernel
theorem dX15_coverage_29 : decode cX15_coverage 29 = .ok (.iconst 2, 1) := by decide +kernel
theorem dX15_coverage_30 : decode cX15_coverage 30 = .ok (.goto 4, 3) := by decide +kernel
theorem dX15_coverage_33 : decode cX15_coverage 33 = .ok (.iconst 0, 1) := by decide +kernel
theorem dX15_coverage_34 : decode cX15_coverage 34 = .ok (.invokevirtual 106, 3) := by decide +kernel
theorem dX15_coverage_37 : decode cX15_coverage 37 = .ok (.ifCond .eq 5, 3) := by decide +kernel
theorem dX15_coverage_40 : decode cX15_coverage 40 = .ok (.fconst 0, 1) := by decide +kernel
theorem dX15_coverage_41 : decode cX15_coverage 41 = .ok (.freturn, 1) := by decide +kernel
theorem dX15_coverage_42 : decode cX15_coverage 42 = .ok (.iconst 0, 1) := by decide +kernel
theorem dX15_coverage_43 : decode cX15_coverage 43 = .ok (.istore_n 3, 1) := by decide +kernel
theorem dX15_coverage_44 : decode cX15_coverage 44 = .ok (.aload_n 2, 1) := by decide +kernel
theorem dX15_coverage_45 : decode cX15_coverage 45 = .ok (.invokeinterface 156 1, 5) := by decide +kernel
theorem dX15_coverage_50 : decode cX15_coverage 50 = .ok (.astore 4, 2) := by decide +kernel
theorem dX15_coverage_52 : decode cX15_coverage 52 = .ok (.aload 4, 2) := by decide +kernel
theorem dX15_coverage_54 : decode cX15_coverage 54 = .ok (.invokeinterface 160 1, 5) := by decide +kernel
theorem dX15_coverage_59 : decode cX15_coverage 59 = .ok (.ifCond .eq 41, 3) := by decide +kernel
theorem dX15_coverage_62 : decode cX15_coverage 62 = .ok (.aload 4, 2) := by decide +kernel
theorem dX15_coverage_64 : decode cX15_coverage 64 = .ok (.invokeinterface 166 1, 5) := by decide +kernel
theorem dX15_coverage_69 : decode cX15_coverage 69 = .ok (.checkcast 119, 3) := by decide +kernel
theorem dX15_coverage_72 : decode cX15_coverage 72 = .ok (.invokevirtual 194, 3) := by decide +kernel
theorem dX15_coverage_75 : decode cX15_coverage 75 = .ok (.istore 5, 2) := by decide +kernel
theorem dX15_coverage_77 : decode cX15_coverage 77 = .ok (.iload_n 3, 1) := by decide +kernel
theorem dX15_coverage_78 : decode cX15_coverage 78 = .ok (.aload_n 0, 1) := by decide +kernel
theorem dX15_coverage_79 : decode cX15_coverage 79 = .ok (.iload 5, 2) := by decide +kernel
theorem dX15_coverage_81 : decode cX15_coverage 81 = .ok (.iload_n 1, 1) := by decide +kernel
theorem dX15_coverage_82 : decode cX15_coverage 82 = .ok (.invokevirtual 345, 3) := by decide +kernel
theorem dX15_coverage_85 : decode cX15_coverage 85 = .ok (.lconst 0, 1) := by decide +kernel
theorem dX15_coverage_86 : decode cX15_coverage 86 = .ok (.lcmp, 1) := by decide +kernel
theorem dX15_coverage_87 : decode cX15_coverage 87 = .ok (.ifCond .eq 7, 3) := by decide +kernel
theorem dX15_coverage_90 : decode cX15_coverage 90 = .ok (.iconst 1, 1) := by decide +kernel
theorem dX15_coverage_91 : decode cX15_coverage 91 = .ok (.goto 4, 3) := by decide +kernel
theorem dX15_coverage_94 : decode cX15_coverage 94 = .ok (.iconst 0, 1) := by decide +kernel
theorem dX15_coverage_95 : decode cX15_coverage 95 = .ok (.iadd, 1) := by decide +kernel
theorem dX15_coverage_96 : decode cX15_coverage 96 = .ok (.istore_n 3, 1) := by decide +kernel
theorem dX15_coverage_97 : decode cX15_coverage 97 = .ok (.goto (-45), 3) := by decide +kernel
theorem dX15_coverage_100 : decode cX15_coverage 100 = .ok (.iload_n 3, 1) := by decide +kernel
theorem dX15_coverage_101 : decode cX15_coverage 101 = .ok (.i2f, 1) := by decide +kernel
theorem dX15_coverage_102 : decode cX15_coverage 102 = .ok (.aload_n 2, 1) := by decide +kernel
theorem dX15_coverage_103 : decode cX15_coverage 103 = .ok (.invokeinterface 92 1, 5) := by decide +kernel
theorem dX15_coverage_108 : decode cX15_coverage 108 = .ok (.i2f, 1) := by decide +kernel
theorem dX15_coverage_109 : decode cX15_coverage 109 = .ok (.fdiv, 1) := by decide +kernel
theorem dX15_coverage_110 : decode cX15_coverage 110 = .ok (.freturn, 1) := by decide +kernel
theorem dX15_cycles_0 : decode cX15_cycles 0 = .ok (.aload_n 0, 1) := by decide +kernel
theorem dX15_cycles_1 : decode cX15_cycles 1 = .ok (.iconst 0, 1) := by decide +kernel
theorem dX15_cycles_2 : decode cX15_cycles 2 = .ok (.putfield 1, 3) := by decide +kernel
theorem dX15_cycles_5 : decode cX15_cycles 5 = .ok (.aload_n 0, 1) := by decide +kernel
theorem dX15_cycles_6 : decode cX15_cycles 6 = .ok (.getfield 23, 3) := by decide +kernel
theorem dX15_cycles_9 : decode cX15_cycles 9 = .ok (.invokeinterface 92 1, 5) := by decide +kernel
theorem dX15_cycles_14 : decode cX15_cycles 14 = .ok (.iconst 1, 1) := by decide +kernel
theorem dX15_cycles_15 : decode cX15_cycles 15 = .ok (.iadd, 1) := by decide +kernel
theorem dX15_cycles_16 : decode cX15_cycles 16 = .ok (.aload_n 0, 1) := by decide +kernel
theorem dX15_cycles_17 : decode cX15_cycles 17 = .ok (.getfield 32, 3) := by decide +kernel
theorem dX15_cycles_20 : decode cX15_cycles 20 = .ok (.invokeinterface 92 1, 5) := by decide +kernel
theorem dX15_cycles_25 : decode cX15_cycles 25 = .ok (.imul, 1) := by decide +kernel
theorem dX15_cycles_26 : decode cX15_cycles 26 = .ok (.aload_n 0, 1) := by decide +kernel
theorem dX15_cycles_27 : decode cX15_cycles 27 = .ok (.getfield 23, 3) := by decide +kernel
theorem dX15_cycles_30 : decode cX15_cycles 30 = .ok (.invokeinterface 92 1, 5) := by decide +kernel
theorem dX15_cycles_35 : decode cX15_cycles 35 = .ok (.iadd, 1) := by decide +kernel
theorem dX15_cycles_36 : decode cX15_cycles 36 = .ok (.ireturn, 1) := by decide +kernel
theorem dX15_data_0 : decode cX15_data 0 = .ok (.aload_n 0, 1) := by decide +kernel
theorem dX15_data_1 : decode cX15_data 1 = .ok (.aload_n 0, 1) := by decide +kernel
theorem dX15_data_2 : decode cX15_data 2 = .ok (.iload_n 1, 1) := by decide +kernel
theorem dX15_data_3 : decode cX15_data 3 = .ok (.invokevirtual 140, 3) := by decide +kernel
theorem dX15_data_6 : decode cX15_data 6 = .ok (.ifCond .eq 11, 3) := by decide +kernel
theorem dX15_data_9 : decode cX15_data 9 = .ok (.aload_n 0, 1) := by decide +kernel
theorem dX15_data_10 : decode cX15_data 10 = .ok (.iload_n 2, 1) := by decide +kernel
theorem dX15_data_11 : decode cX15_data 11 = .ok (.invokevirtual 140, 3) := by decide +kernel
theorem dX15_data_14 : decode cX15_data 14 = .ok (.ifCond .ne 7, 3) := by decide +kernel
theorem dX15_data_17 : decode cX15_data 17 = .ok (.iconst 1, 1) := by decide +kernel
theorem dX15_data_18 : decode cX15_data 18 = .ok (.goto 36, 3) := by decide +kernel
theorem dX15_data_21 : decode cX15_data 21 = .ok (.aload_n 0, 1) := by decide +kernel
theorem dX15_data_22 : decode cX15_data 22 = .ok (.getfield 102, 3) := by decide +kernel
theorem dX15_data_25 : decode cX15_data 25 = .ok (.ifCond .ne 24, 3) := by decide +kernel
theorem dX15_data_28 : decode cX15_data 28 = .ok (.aload_n 0, 1) := by decide +kernel
theorem dX15_data_29 : decode cX15_data 29 = .ok (.getfield 16, 3) := by decide +kernel
theorem dX15_data_32 : decode cX15_data 32 = .ok (.iload_n 1, 1) := by decide +kernel
theorem dX15_data_33 : decode cX15_data 33 = .ok (.invokeinterface 143 2, 5) := by decide +kernel
theorem dX15_data_38 : decode cX15_data 38 = .ok (.checkcast 110, 3) := by decide +kernel
theorem dX15_data_41 : decode cX15_data 41 = .ok (.getfield 147, 3) := by decide +kernel
theorem dX15_data_44 : decode cX15_data 44 = .ok (.bipush 102, 2) := by decide +kernel
theorem dX15_data_46 : decode cX15_data 46 = .ok (.if_icmp .eq 7, 3) := by decide +kernel
theorem dX15_data_49 : decode cX15_data 49 = .ok (.iconst 2, 1) := by decide +kernel
theorem dX15_data_50 : decode cX15_data 50 = .ok (.goto 4, 3) := by decide +kernel
theorem dX15_data_53 : decode cX15_data 53 = .ok (.iconst 0, 1) := by decide +kernel
theorem dX15_data_54 : decode cX15_data 54 = .ok (.invokevirtual 106, 3) := by decide +kernel
theorem dX15_data_57 : decode cX15_data 57 = .ok (.ifCond .eq 5, 3) := by decide +kernel
theorem dX15_data_60 : decode cX15_data 60 = .ok (.iconst 0, 1) := by decide +kernel
theorem dX15_data_61 : decode cX15_data 61 = .ok (.ireturn, 1) := by decide +kernel
theorem dX15_data_62 : decode cX15_data 62 = .ok (.aload_n 0, 1) := by decide +kernel
theorem dX15_data_63 : decode cX15_data 63 = .ok (.getfield 16, 3) := by decide +kernel
theorem dX15_data_66 : decode cX15_data 66 = .ok (.iload_n 1, 1) := by decide +kernel
theorem dX15_data_67 : decode cX15_data 67 = .ok (.invokeinterface 143 2, 5) := by decide +kernel
theorem dX15_data_72 : decode cX15_data 72 = .ok (.checkcast 110, 3) := by decide +kernel
theorem dX15_data_75 : decode cX15_data 75 = .ok (.getfield 150, 3) := by decide +kernel
theorem dX15_data_78 : decode cX15_data 78 = .ok (.istore_n 3, 1) := by decide +kernel
theorem dX15_data_79 : decode cX15_data 79 = .ok (.aload_n 0, 1) := by decide +kernel
theorem dX15_data_80 : decode cX15_data 80 = .ok (.getfield 16, 3) := by decide +kernel
theorem dX15_data_83 : decode cX15_data 83 = .ok (.iload_n 1, 1) := by decide +kernel
theorem dX15_data_84 : decode cX15_data 84 = .ok (.invokeinterface 143 2, 5) := by decide +kernel
theorem dX15_data_89 : decode cX15_data 89 = .ok (.checkcast 110, 3) := by decide +kernel
theorem dX15_data_92 : decode cX15_data 92 = .ok (.iload_n 2, 1) := by decide +kernel
theorem dX15_data_93 : decode cX15_data 93 = .ok (.putfield 150, 3) := by decide +kernel
theorem dX15_data_96 : decode cX15_data 96 = .ok (.iload_n 3, 1) := by decide +kernel
theorem dX15_data_97 : decode cX15_data 97 = .ok (.ireturn, 1) := by decide +kernel
theorem dX15_eraseMarch_0 : decode cX15_eraseMarch 0 = .ok (.aload_n 0, 1) := by decide +kernel
theorem dX15_eraseMarch_1 : decode cX15_eraseMarch 1 = .ok (.iconst 0, 1) := by decide +kernel
theorem dX15_eraseMarch_2 : decode cX15_eraseMarch 2 = .ok (.putfield 1, 3) := by decide +kernel
theorem dX15_eraseMarch_5 : decode cX15_eraseMarch 5 = .ok (.aload_n 0, 1) := by decide +kernel
theorem dX15_eraseMarch_6 : decode cX15_eraseMarch 6 = .ok (.getfield 64, 3) := by decide +kernel
theorem dX15_eraseMarch_9 : decode cX15_eraseMarch 9 = .ok (.invokevirtual 450, 3) := by decide +kernel
theorem dX15_eraseMarch_12 : decode cX15_eraseMarch 12 = .ok (.istore_n 1, 1) := by decide +kernel
theorem dX15_eraseMarch_13 : decode cX15_eraseMarch 13 = .ok (.aload_n 0, 1) := by decide +kernel
theorem dX15_eraseMarch_14 : decode cX15_eraseMarch 14 = .ok (.ldc 62, 2) := by decide +kernel
theorem dX15_eraseMarch_16 : decode cX15_eraseMarch 16 = .ok (.putfield 64, 3) := by decide +kernel
theorem dX15_eraseMarch_19 : decode cX15_eraseMarch 19 = .ok (.iload_n 1, 1) := by decide +kernel
theorem dX15_eraseMarch_20 : decode cX15_eraseMarch 20 = .ok (.ireturn, 1) := by decide +kernel
theorem dX15_escapes_0 : decode cX15_escapes 0 = .ok (.aload_n 0, 1) := by decide +kernel
theorem dX15_escapes_1 : decode cX15_escapes 1 = .ok (.iload_n 1, 1) := by decide +kernel
theorem dX15_escapes_2 : decode cX15_escapes 2 = .ok (.iconst 0, 1) := by decide +kernel
theorem dX15_escapes_3 : decode cX15_escapes 3 = .ok (.aload_n 0, 1) := by decide +kernel
theorem dX15_escapes_4 : decode cX15_escapes 4 = .ok (.getfield 32, 3) := by decide +kernel
theorem dX15_escapes_7 : decode cX15_escapes 7 = .ok (.invokeinterface 92 1, 5) := by decide +kernel
theorem dX15_escapes_12 : decode cX15_escapes 12 = .ok (.invokestatic 98, 3) := by decide +kernel
theorem dX15_escapes_15 : decode cX15_escapes 15 = .ok (.ifCond .eq 7, 3) := by decide +kernel
theorem dX15_escapes_18 : decode cX15_escapes 18 = .ok (.iconst 0, 1) := by decide +kernel
theorem dX15_escapes_19 : decode cX15_escapes 19 = .ok (.goto 4, 3) := by decide +kernel
theorem dX15_escapes_22 : decode cX15_escapes 22 = .ok (.iconst 1, 1) := by decide +kernel
theorem dX15_escapes_23 : decode cX15_escapes 23 = .ok (.invokevirtual 106, 3) := by decide +kernel
theorem dX15_escapes_26 : decode cX15_escapes 26 = .ok (.ifCond .eq 5, 3) := by decide +kernel
theorem dX15_escapes_29 : decode cX15_escapes 29 = .ok (.iconst 0, 1) := by decide +kernel
theorem dX15_escapes_30 : decode cX15_escapes 30 = .ok (.ireturn, 1) := by decide +kernel
theorem dX15_escapes_31 : decode cX15_escapes 31 = .ok (.lconst 0, 1) := by decide +kernel
theorem dX15_escapes_32 : decode cX15_escapes 32 = .ok (.lstore_n 2, 1) := by decide +kernel
theorem dX15_escapes_33 : decode cX15_escapes 33 = .ok (.aload_n 0, 1) := by decide +kernel
theorem dX15_escapes_34 : decode cX15_escapes 34 = .ok (.invokevirtual 445, 3) := by decide +kernel
theorem dX15_escapes_37 : decode cX15_escapes 37 = .ok (.astore 4, 2) := by decide +kernel
theorem dX15_escapes_39 : decode cX15_escapes 39 = .ok (.iconst 0, 1) := by decide +kernel
theorem dX15_escapes_40 : decode cX15_escapes 40 = .ok (.istore 5, 2) := by decide +kernel
theorem dX15_escapes_42 : decode cX15_escapes 42 = .ok (.iload 5, 2) := by decide +kernel
theorem dX15_escapes_44 : decode cX15_escapes 44 = .ok (.iload_n 1, 1) := by decide +kernel
theorem dX15_escapes_45 : decode cX15_escapes 45 = .ok (.if_icmp .ge 29, 3) := by decide +kernel
theorem dX15_escapes_48 : decode cX15_escapes 48 = .ok (.lload_n 2, 1) := by decide +kernel
theorem dX15_escapes_49 : decode cX15_escapes 49 = .ok (.lconst 1, 1) := by decide +kernel
theorem dX15_escapes_50 : decode cX15_escapes 50 = .ok (.aload 4, 2) := by decide +kernel
theorem dX15_escapes_52 : decode cX15_escapes 52 = .ok (.iload 5, 2) := by decide +kernel
theorem dX15_escapes_54 : decode cX15_escapes 54 = .ok (.invokeinterface 143 2, 5) := by decide +kernel
theorem dX15_escapes_59 : decode cX15_escapes 59 = .ok (.checkcast 119, 3) := by decide +kernel
theorem dX15_escapes_62 : decode cX15_escapes 62 = .ok (.invokevirtual 194, 3) := by decide +kernel
theorem dX15_escapes_65 : decode cX15_escapes 65 = .ok (.lshl, 1) := by decide +kernel
theorem dX15_escapes_66 : decode cX15_escapes 66 = .ok (.lor, 1) := by decide +kernel
theorem dX15_escapes_67 : decode cX15_escapes 67 = .ok (.lstore_n 2, 1) := by decide +kernel
theorem dX15_escapes_68 : decode cX15_escapes 68 = .ok (.iinc 5 1, 3) := by decide +kernel
theorem dX15_escapes_71 : decode cX15_escapes 71 = .ok (.goto (-29), 3) := by decide +kernel
theorem dX15_escapes_74 : decode cX15_escapes 74 = .ok (.iconst 0, 1) := by decide +kernel
theorem dX15_escapes_75 : decode cX15_escapes 75 = .ok (.istore 5, 2) := by decide +kernel
theorem dX15_escapes_77 : decode cX15_escapes 77 = .ok (.aload_n 0, 1) := by decide +kernel
theorem dX15_escapes_78 : decode cX15_escapes 78 = .ok (.invokevirtual 314, 3) := by decide +kernel
theorem dX15_escapes_81 : decode cX15_escapes 81 = .ok (.astore 6, 2) := by decide +kernel
theorem dX15_escapes_83 : decode cX15_escapes 83 = .ok (.aload_n 0, 1) := by decide +kernel
theorem dX15_escapes_84 : decode cX15_escapes 84 = .ok (.invokevirtual 318, 3) := by decide +kernel
theorem dX15_escapes_87 : decode cX15_escapes 87 = .ok (.invokeinterface 156 1, 5) := by decide +kernel
theorem dX15_escapes_92 : decode cX15_escapes 92 = .ok (.astore 7, 2) := by decide +kernel
theorem dX15_escapes_94 : decode cX15_escapes 94 = .ok (.aload 7, 2) := by decide +kernel
theorem dX15_escapes_96 : decode cX15_escapes 96 = .ok (.invokeinterface 160 1, 5) := by decide +kernel
theorem dX15_escapes_101 : decode cX15_escapes 101 = .ok (.ifCond .eq 53, 3) := by decide +kernel
theorem dX15_escapes_104 : decode cX15_escapes 104 = .ok (.aload 7, 2) := by decide +kernel
theorem dX15_escapes_106 : decode cX15_escapes 106 = .ok (.invokeinterface 166 1, 5) := by decide +kernel
theorem dX15_escapes_111 : decode cX15_escapes 111 = .ok (.checkcast 119, 3) := by decide +kernel
theorem dX15_escapes_114 : decode cX15_escapes 114 = .ok (.invokevirtual 194, 3) := by decide +kernel
theorem dX15_escapes_117 : decode cX15_escapes 117 = .ok (.istore 8, 2) := by decide +kernel
theorem dX15_escapes_119 : decode cX15_escapes 119 = .ok (.iload 5, 2) := by decide +kernel
theorem dX15_escapes_121 : decode cX15_escapes 121 = .ok (.aload_n 0, 1) := by decide +kernel
theorem dX15_escapes_122 : decode cX15_escapes 122 = .ok (.iload 8, 2) := by decide +kernel
theorem dX15_escapes_124 : decode cX15_escapes 124 = .ok (.bipush 115, 2) := by decide +kernel
theorem dX15_escapes_126 : decode cX15_escapes 126 = .ok (.invokevirtual 345, 3) := by decide +kernel
theorem dX15_escapes_129 : decode cX15_escapes 129 = .ok (.lload_n 2, 1) := by decide +kernel
theorem dX15_escapes_130 : decode cX15_escapes 130 = .ok (.land, 1) := by decide +kernel
theorem dX15_escapes_131 : decode cX15_escapes 131 = .ok (.lconst 0, 1) := by decide +kernel
theorem dX15_escapes_132 : decode cX15_escapes 132 = .ok (.lcmp, 1) := by decide +kernel
theorem dX15_escapes_133 : decode cX15_escapes 133 = .ok (.ifCond .ne 14, 3) := by decide +kernel
theorem dX15_escapes_136 : decode cX15_escapes 136 = .ok (.aload_n 0, 1) := by decide +kernel
theorem dX15_escapes_137 : decode cX15_escapes 137 = .ok (.iload 8, 2) := by decide +kernel
theorem dX15_escapes_139 : decode cX15_escapes 139 = .ok (.aload 6, 2) := by decide +kernel
theorem dX15_escapes_141 : decode cX15_escapes 141 = .ok (.invokevirtual 424, 3) := by decide +kernel
theorem dX15_escapes_144 : decode cX15_escapes 144 = .ok (.goto 4, 3) := by decide +kernel
theorem dX15_escapes_147 : decode cX15_escapes 147 = .ok (.iconst 0, 1) := by decide +kernel
theorem dX15_escapes_148 : decode cX15_escapes 148 = .ok (.iadd, 1) := by decide +kernel
theorem dX15_escapes_149 : decode cX15_escapes 149 = .ok (.istore 5, 2) := by decide +kernel
theorem dX15_escapes_151 : decode cX15_escapes 151 = .ok (.goto (-57), 3) := by decide +kernel
theorem dX15_escapes_154 : decode cX15_escapes 154 = .ok (.iload 5, 2) := by decide +kernel
theorem dX15_escapes_156 : decode cX15_escapes 156 = .ok (.ireturn, 1) := by decide +kernel
theorem dX15_fails_0 : decode cX15_fails 0 = .ok (.aload_n 0, 1) := by decide +kernel
theorem dX15_fails_1 : decode cX15_fails 1 = .ok (.aload_n 0, 1) := by decide +kernel
theorem dX15_fails_2 : decode cX15_fails 2 = .ok (.iload_n 1, 1) := by decide +kernel
theorem dX15_fails_3 : decode cX15_fails 3 = .ok (.invokevirtual 283, 3) := by decide +kernel
theorem dX15_fails_6 : decode cX15_fails 6 = .ok (.ifCond .eq 7, 3) := by decide +kernel
theorem dX15_fails_9 : decode cX15_fails 9 = .ok (.iconst 0, 1) := by decide +kernel
theorem dX15_fails_10 : decode cX15_fails 10 = .ok (.goto 4, 3) := by decide +kernel
theorem dX15_fails_13 : decode cX15_fails 13 = .ok (.iconst 1, 1) := by decide +kernel
theorem dX15_fails_14 : decode cX15_fails 14 = .ok (.invokevirtual 106, 3) := by decide +kernel
theorem dX15_fails_17 : decode cX15_fails 17 = .ok (.ifCond .eq 7, 3) := by decide +kernel
theorem dX15_fails_20 : decode cX15_fails 20 = .ok (.lconst 0, 1) := by decide +kernel
theorem dX15_fails_21 : decode cX15_fails 21 = .ok (.goto 8, 3) := by decide +kernel
theorem dX15_fails_24 : decode cX15_fails 24 = .ok (.aload_n 0, 1) := by decide +kernel
theorem dX15_fails_25 : decode cX15_fails 25 = .ok (.iload_n 1, 1) := by decide +kernel
theorem dX15_fails_26 : decode cX15_fails 26 = .ok (.invokevirtual 403, 3) := by decide +kernel
theorem dX15_fails_29 : decode cX15_fails 29 = .ok (.lreturn, 1) := by decide +kernel
theorem dX15_faults_0 : decode cX15_faults 0 = .ok (.aload_n 0, 1) := by decide +kernel
theorem dX15_faults_1 : decode cX15_faults 1 = .ok (.iconst 0, 1) := by decide +kernel
theorem dX15_faults_2 : decode cX15_faults 2 = .ok (.putfield 1, 3) := by decide +kernel
theorem dX15_faults_5 : decode cX15_faults 5 = .ok (.aload_n 0, 1) := by decide +kernel
theorem dX15_faults_6 : decode cX15_faults 6 = .ok (.getfield 26, 3) := by decide +kernel
theorem dX15_faults_9 : decode cX15_faults 9 = .ok (.invokeinterface 92 1, 5) := by decide +kernel
theorem dX15_faults_14 : decode cX15_faults 14 = .ok (.ireturn, 1) := by decide +kernel
theorem dX15_faulty_0 : decode cX15_faulty 0 = .ok (.aload_n 0, 1) := by decide +kernel
theorem dX15_faulty_1 : decode cX15_faulty 1 = .ok (.aload_n 0, 1) := by decide +kernel
theorem dX15_faulty_2 : decode cX15_faulty 2 = .ok (.iload_n 1, 1) := by decide +kernel
theorem dX15_faulty_3 : decode cX15_faulty 3 = .ok (.invokevirtual 283, 3) := by decide +kernel
theorem dX15_faulty_6 : decode cX15_faulty 6 = .ok (.ifCond .eq 23, 3) := by decide +kernel
theorem dX15_faulty_9 : decode cX15_faulty 9 = .ok (.aload_n 0, 1) := by decide +kernel
theorem dX15_faulty_10 : decode cX15_faulty 10 = .ok (.iload_n 2, 1) := by decide +kernel
theorem dX15_faulty_11 : decode cX15_faulty 11 = .ok (.invokevirtual 140, 3) := by decide +kernel
theorem dX15_faulty_14 : decode cX15_faulty 14 = .ok (.ifCond .eq 15, 3) := by decide +kernel
theorem dX15_faulty_17 : decode cX15_faulty 17 = .ok (.aload_n 0, 1) := by decide +kernel
theorem dX15_faulty_18 : decode cX15_faulty 18 = .ok (.iload_n 3, 1) := by decide +kernel
theorem dX15_faulty_19 : decode cX15_faulty 19 = .ok (.invokevirtual 286, 3) := by decide +kernel
theorem dX15_faulty_22 : decode cX15_faulty 22 = .ok (.ifCond .eq 7, 3) := by decide +kernel
theorem dX15_faulty_25 : decode cX15_faulty 25 = .ok (.iconst 0, 1) := by decide +kernel
theorem dX15_faulty_26 : decode cX15_faulty 26 = .ok (.goto 4, 3) := by decide +kernel
theorem dX15_faulty_29 : decode cX15_faulty 29 = .ok (.iconst 1, 1) := by decide +kernel
theorem dX15_faulty_30 : decode cX15_faulty 30 = .ok (.invokevirtual 106, 3) := by decide +kernel
theorem dX15_faulty_33 : decode cX15_faulty 33 = .ok (.ifCond .eq 5, 3) := by decide +kernel
theorem dX15_faulty_36 : decode cX15_faulty 36 = .ok (.iconst 0, 1) := by decide +kernel
theorem dX15_faulty_37 : decode cX15_faulty 37 = .ok (.ireturn, 1) := by decide +kernel
theorem dX15_faulty_38 : decode cX15_faulty 38 = .ok (.aload_n 0, 1) := by decide +kernel
theorem dX15_faulty_39 : decode cX15_faulty 39 = .ok (.getfield 26, 3) := by decide +kernel
theorem dX15_faulty_42 : decode cX15_faulty 42 = .ok (.iload_n 3, 1) := by decide +kernel
theorem dX15_faulty_43 : decode cX15_faulty 43 = .ok (.invokeinterface 143 2, 5) := by decide +kernel
theorem dX15_faulty_48 : decode cX15_faulty 48 = .ok (.checkcast 170, 3) := by decide +kernel
theorem dX15_faulty_51 : decode cX15_faulty 51 = .ok (.astore 4, 2) := by decide +kernel
theorem dX15_faulty_53 : decode cX15_faulty 53 = .ok (.aload_n 0, 1) := by decide +kernel
theorem dX15_faulty_54 : decode cX15_faulty 54 = .ok (.getfield 32, 3) := by decide +kernel
theorem dX15_faulty_57 : decode cX15_faulty 57 = .ok (.iload_n 1, 1) := by decide +kernel
theorem dX15_faulty_58 : decode cX15_faulty 58 = .ok (.invokeinterface 143 2, 5) := by decide +kernel
theorem dX15_faulty_63 : decode cX15_faulty 63 = .ok (.checkcast 200, 3) := by decide +kernel
theorem dX15_faulty_66 : decode cX15_faulty 66 = .ok (.getfield 256, 3) := by decide +kernel
theorem dX15_faulty_69 : decode cX15_faulty 69 = .ok (.astore 5, 2) := by decide +kernel
theorem dX15_faulty_71 : decode cX15_faulty 71 = .ok (.aload 4, 2) := by decide +kernel
theorem dX15_faulty_73 : decode cX15_faulty 73 = .ok (.invokevirtual 241, 3) := by decide +kernel
theorem dX15_faulty_76 : decode cX15_faulty 76 = .ok (.ifCond .eq 20, 3) := by decide +kernel
theorem dX15_faulty_79 : decode cX15_faulty 79 = .ok (.aload_n 0, 1) := by decide +kernel
theorem dX15_faulty_80 : decode cX15_faulty 80 = .ok (.aload 4, 2) := by decide +kernel
theorem dX15_faulty_82 : decode cX15_faulty 82 = .ok (.iload_n 1, 1) := by decide +kernel
theorem dX15_faulty_83 : decode cX15_faulty 83 = .ok (.invokevirtual 279, 3) := by decide +kernel
theorem dX15_faulty_86 : decode cX15_faulty 86 = .ok (.ifCond .ne 10, 3) := by decide +kernel
theorem dX15_faulty_89 : decode cX15_faulty 89 = .ok (.aload_n 0, 1) := by decide +kernel
theorem dX15_faulty_90 : decode cX15_faulty 90 = .ok (.iload_n 1, 1) := by decide +kernel
theorem dX15_faulty_91 : decode cX15_faulty 91 = .ok (.iload_n 2, 1) := by decide +kernel
theorem dX15_faulty_92 : decode cX15_faulty 92 = .ok (.invokevirtual 289, 3) := by decide +kernel
theorem dX15_faulty_95 : decode cX15_faulty 95 = .ok (.ireturn, 1) := by decide +kernel
theorem dX15_faulty_96 : decode cX15_faulty 96 = .ok (.aload_n 0, 1) := by decide +kernel
theorem dX15_faulty_97 : decode cX15_faulty 97 = .ok (.aload 5, 2) := by decide +kernel
theorem dX15_faulty_99 : decode cX15_faulty 99 = .ok (.aload 4, 2) := by decide +kernel
theorem dX15_faulty_101 : decode cX15_faulty 101 = .ok (.invokevirtual 241, 3) := by decide +kernel
theorem dX15_faulty_104 : decode cX15_faulty 104 = .ok (.ifCond .eq 27, 3) := by decide +kernel
theorem dX15_faulty_107 : decode cX15_faulty 107 = .ok (.new 170, 3) := by decide +kernel
theorem dX15_faulty_110 : decode cX15_faulty 110 = .ok (.dup, 1) := by decide +kernel
theorem dX15_faulty_111 : decode cX15_faulty 111 = .ok (.bipush 115, 2) := by decide +kernel
theorem dX15_faulty_113 : decode cX15_faulty 113 = .ok (.aload 4, 2) := by decide +kernel
theorem dX15_faulty_115 : decode cX15_faulty 115 = .ok (.getfield 232, 3) := by decide +kernel
theorem dX15_faulty_118 : decode cX15_faulty 118 = .ok (.iconst (-1), 1) := by decide +kernel
theorem dX15_faulty_119 : decode cX15_faulty 119 = .ok (.aload_n 0, 1) := by decide +kernel
theorem dX15_faulty_120 : decode cX15_faulty 120 = .ok (.aload 4, 2) := by decide +kernel
theorem dX15_faulty_122 : decode cX15_faulty 122 = .ok (.invokevirtual 258, 3) := by decide +kernel
theorem dX15_faulty_125 : decode cX15_faulty 125 = .ok (.invokespecial 172, 3) := by decide +kernel
theorem dX15_faulty_128 : decode cX15_faulty 128 = .ok (.goto 5, 3) := by decide +kernel
theorem dX15_faulty_131 : decode cX15_faulty 131 = .ok (.aload 4, 2) := by decide +kernel
theorem dX15_faulty_133 : decode cX15_faulty 133 = .ok (.invokevirtual 275, 3) := by decide +kernel
theorem dX15_faulty_136 : decode cX15_faulty 136 = .ok (.pop, 1) := by decide +kernel
theorem dX15_faulty_137 : decode cX15_faulty 137 = .ok (.aload_n 0, 1) := by decide +kernel
theorem dX15_faulty_138 : decode cX15_faulty 138 = .ok (.getfield 42, 3) := by decide +kernel
theorem dX15_faulty_141 : decode cX15_faulty 141 = .ok (.iload_n 2, 1) := by decide +kernel
theorem dX15_faulty_142 : decode cX15_faulty 142 = .ok (.iaload, 1) := by decide +kernel
theorem dX15_faulty_143 : decode cX15_faulty 143 = .ok (.ireturn, 1) := by decide +kernel
theorem dX15_fill_0 : decode cX15_fill 0 = .ok (.aload_n 0, 1) := by decide +kernel
theorem dX15_fill_1 : decode cX15_fill 1 = .ok (.aload_n 0, 1) := by decide +kernel
theorem dX15_fill_2 : decode cX15_fill 2 = .ok (.iload_n 1, 1) := by decide +kernel
theorem dX15_fill_3 : decode cX15_fill 3 = .ok (.invokevirtual 283, 3) := by decide +kernel
theorem dX15_fill_6 : decode cX15_fill 6 = .ok (.ifCond .ne 7, 3) := by decide +kernel
theorem dX15_fill_9 : decode cX15_fill 9 = .ok (.iconst 1, 1) := by decide +kernel
theorem dX15_fill_10 : decode cX15_fill 10 = .ok (.goto 18, 3) := by decide +kernel
theorem dX15_fill_13 : decode cX15_fill 13 = .ok (.ldc_w 377, 3) := by decide +kernel
theorem dX15_fill_16 : decode cX15_fill 16 = .ok (.iload_n 2, 1) := by decide +kernel
theorem dX15_fill_17 : decode cX15_fill 17 = .ok (.invokevirtual 134, 3) := by decide +kernel
theorem dX15_fill_20 : decode cX15_fill 20 = .ok (.ifCond .ge 7, 3) := by decide +kernel
theorem dX15_fill_23 : decode cX15_fill 23 = .ok (.iconst 2, 1) := by decide +kernel
theorem dX15_fill_24 : decode cX15_fill 24 = .ok (.goto 4, 3) := by decide +kernel
theorem dX15_fill_27 : decode cX15_fill 27 = .ok (.iconst 0, 1) := by decide +kernel
theorem dX15_fill_28 : decode cX15_fill 28 = .ok (.invokevirtual 106, 3) := by decide +kernel
theorem dX15_fill_31 : decode cX15_fill 31 = .ok (.ifCond .eq 5, 3) := by decide +kernel
theorem dX15_fill_34 : decode cX15_fill 34 = .ok (.iconst 0, 1) := by decide +kernel
theorem dX15_fill_35 : decode cX15_fill 35 = .ok (.ireturn, 1) := by decide +kernel
theorem dX15_fill_36 : decode cX15_fill 36 = .ok (.aload_n 0, 1) := by decide +kernel
theorem dX15_fill_37 : decode cX15_fill 37 = .ok (.getfield 32, 3) := by decide +kernel
theorem dX15_fill_40 : decode cX15_fill 40 = .ok (.iload_n 1, 1) := by decide +kernel
theorem dX15_fill_41 : decode cX15_fill 41 = .ok (.invokeinterface 143 2, 5) := by decide +kernel
theorem dX15_fill_46 : decode cX15_fill 46 = .ok (.checkcast 200, 3) := by decide +kernel
theorem dX15_fill_49 : decode cX15_fill 49 = .ok (.getfield 256, 3) := by decide +kernel
theorem dX15_fill_52 : decode cX15_fill 52 = .ok (.astore_n 3, 1) := by decide +kernel
theorem dX15_fill_53 : decode cX15_fill 53 = .ok (.iconst 0, 1) := by decide +kernel
theorem dX15_fill_54 : decode cX15_fill 54 = .ok (.istore 4, 2) := by decide +kernel
theorem dX15_fill_56 : decode cX15_fill 56 = .ok (.iconst 0, 1) := by decide +kernel
theorem dX15_fill_57 : decode cX15_fill 57 = .ok (.istore 5, 2) := by decide +kernel
theorem dX15_fill_59 : decode cX15_fill 59 = .ok (.iconst 0, 1) := by decide +kernel
theorem dX15_fill_60 : decode cX15_fill 60 = .ok (.istore 6, 2) := by decide +kernel
theorem dX15_fill_62 : decode cX15_fill 62 = .ok (.iload 6, 2) := by decide +kernel
theorem dX15_fill_64 : decode cX15_fill 64 = .ok (.aload_n 3, 1) := by decide +kernel
theorem dX15_fill_65 : decode cX15_fill 65 = .ok (.arraylength, 1) := by decide +kernel
theorem dX15_fill_66 : decode cX15_fill 66 = .ok (.if_icmp .ge 52, 3) := by decide +kernel
theorem dX15_fill_69 : decode cX15_fill 69 = .ok (.aload_n 3, 1) := by decide +kernel
theorem dX15_fill_70 : decode cX15_fill 70 = .ok (.iload 6, 2) := by decide +kernel
theorem dX15_fill_72 : decode cX15_fill 72 = .ok (.iaload, 1) := by decide +kernel
theorem dX15_fill_73 : decode cX15_fill 73 = .ok (.iconst 2, 1) := by decide +kernel
theorem dX15_fill_74 : decode cX15_fill 74 = .ok (.if_icmp .ne 32, 3) := by decide +kernel
theorem dX15_fill_77 : decode cX15_fill 77 = .ok (.aload_n 3, 1) := by decide +kernel
theorem dX15_fill_78 : decode cX15_fill 78 = .ok (.iload 6, 2) := by decide +kernel
theorem dX15_fill_80 : decode cX15_fill 80 = .ok (.iload_n 2, 1) := by decide +kernel
theorem dX15_fill_81 : decode cX15_fill 81 = .ok (.bipush 122, 2) := by decide +kernel
theorem dX15_fill_83 : decode cX15_fill 83 = .ok (.if_icmp .ne 7, 3) := by decide +kernel
theorem dX15_fill_86 : decode cX15_fill 86 = .ok (.iconst 0, 1) := by decide +kernel
theorem dX15_fill_87 : decode cX15_fill 87 = .ok (.goto 15, 3) := by decide +kernel
theorem dX15_fill_90 : decode cX15_fill 90 = .ok (.iload_n 2, 1) := by decide +kernel
theorem dX15_fill_91 : decode cX15_fill 91 = .ok (.bipush 111, 2) := by decide +kernel
theorem dX15_fill_93 : decode cX15_fill 93 = .ok (.if_icmp .ne 7, 3) := by decide +kernel
theorem dX15_fill_96 : decode cX15_fill 96 = .ok (.iconst 1, 1) := by decide +kernel
theorem dX15_fill_97 : decode cX15_fill 97 = .ok (.goto 5, 3) := by decide +kernel
theorem dX15_fill_100 : decode cX15_fill 100 = .ok (.iload 5, 2) := by decide +kernel
theorem dX15_fill_102 : decode cX15_fill 102 = .ok (.iastore, 1) := by decide +kernel
theorem dX15_fill_103 : decode cX15_fill 103 = .ok (.iinc 4 1, 3) := by decide +kernel
theorem dX15_fill_106 : decode cX15_fill 106 = .ok (.aload_n 3, 1) := by decide +kernel
theorem dX15_fill_107 : decode cX15_fill 107 = .ok (.iload 6, 2) := by decide +kernel
theorem dX15_fill_109 : decode cX15_fill 109 = .ok (.iaload, 1) := by decide +kernel
theorem dX15_fill_110 : decode cX15_fill 110 = .ok (.istore 5, 2) := by decide +kernel
theorem dX15_fill_112 : decode cX15_fill 112 = .ok (.iinc 6 1, 3) := by decide +kernel
theorem dX15_fill_115 : decode cX15_fill 115 = .ok (.goto (-53), 3) := by decide +kernel
theorem dX15_fill_118 : decode cX15_fill 118 = .ok (.iload 4, 2) := by decide +kernel
theorem dX15_fill_120 : decode cX15_fill 120 = .ok (.ireturn, 1) := by decide +kernel
theorem dX15_finds_0 : decode cX15_finds 0 = .ok (.aload_n 0, 1) := by decide +kernel
theorem dX15_finds_1 : decode cX15_finds 1 = .ok (.aload_n 0, 1) := by decide +kernel
theorem dX15_finds_2 : decode cX15_finds 2 = .ok (.iload_n 1, 1) := by decide +kernel
theorem dX15_finds_3 : decode cX15_finds 3 = .ok (.invokevirtual 286, 3) := by decide +kernel
theorem dX15_finds_6 : decode cX15_finds 6 = .ok (.ifCond .eq 11, 3) := by decide +kernel
theorem dX15_finds_9 : decode cX15_finds 9 = .ok (.aload_n 0, 1) := by decide +kernel
theorem dX15_finds_10 : decode cX15_finds 10 = .ok (.iload_n 2, 1) := by decide +kernel
theorem dX15_finds_11 : decode cX15_finds 11 = .ok (.invokevirtual 283, 3) := by decide +kernel
theorem dX15_finds_14 : decode cX15_finds 14 = .ok (.ifCond .ne 7, 3) := by decide +kernel
theorem dX15_finds_17 : decode cX15_finds 17 = .ok (.iconst 1, 1) := by decide +kernel
theorem dX15_finds_18 : decode cX15_finds 18 = .ok (.goto 18, 3) := by decide +kernel
theorem dX15_finds_21 : decode cX15_finds 21 = .ok (.ldc_w 339, 3) := by decide +kernel
theorem dX15_finds_24 : decode cX15_finds 24 = .ok (.iload_n 3, 1) := by decide +kernel
theorem dX15_finds_25 : decode cX15_finds 25 = .ok (.invokevirtual 134, 3) := by decide +kernel
theorem dX15_finds_28 : decode cX15_finds 28 = .ok (.ifCond .ge 7, 3) := by decide +kernel
theorem dX15_finds_31 : decode cX15_finds 31 = .ok (.iconst 2, 1) := by decide +kernel
theorem dX15_finds_32 : decode cX15_finds 32 = .ok (.goto 4, 3) := by decide +kernel
theorem dX15_finds_35 : decode cX15_finds 35 = .ok (.iconst 0, 1) := by decide +kernel
theorem dX15_finds_36 : decode cX15_finds 36 = .ok (.invokevirtual 106, 3) := by decide +kernel
theorem dX15_finds_39 : decode cX15_finds 39 = .ok (.ifCond .eq 5, 3) := by decide +kernel
theorem dX15_finds_42 : decode cX15_finds 42 = .ok (.iconst 0, 1) := by decide +kernel
theorem dX15_finds_43 : decode cX15_finds 43 = .ok (.ireturn, 1) := by decide +kernel
theorem dX15_finds_44 : decode cX15_finds 44 = .ok (.aload_n 0, 1) := by decide +kernel
theorem dX15_finds_45 : decode cX15_finds 45 = .ok (.iload_n 1, 1) := by decide +kernel
theorem dX15_finds_46 : decode cX15_finds 46 = .ok (.iload_n 2, 1) := by decide +kernel
theorem dX15_finds_47 : decode cX15_finds 47 = .ok (.iload_n 3, 1) := by decide +kernel
theorem dX15_finds_48 : decode cX15_finds 48 = .ok (.invokevirtual 341, 3) := by decide +kernel
theorem dX15_finds_51 : decode cX15_finds 51 = .ok (.ireturn, 1) := by decide +kernel
theorem dX15_firsts_0 : decode cX15_firsts 0 = .ok (.aload_n 0, 1) := by decide +kernel
theorem dX15_firsts_1 : decode cX15_firsts 1 = .ok (.getfield 188, 3) := by decide +kernel
theorem dX15_firsts_4 : decode cX15_firsts 4 = .ok (.newarray .int, 2) := by decide +kernel
theorem dX15_firsts_6 : decode cX15_firsts 6 = .ok (.astore_n 1, 1) := by decide +kernel
theorem dX15_firsts_7 : decode cX15_firsts 7 = .ok (.iconst 0, 1) := by decide +kernel
theorem dX15_firsts_8 : decode cX15_firsts 8 = .ok (.istore_n 2, 1) := by decide +kernel
theorem dX15_firsts_9 : decode cX15_firsts 9 = .ok (.iload_n 2, 1) := by decide +kernel
theorem dX15_firsts_10 : decode cX15_firsts 10 = .ok (.aload_n 0, 1) := by decide +kernel
theorem dX15_firsts_11 : decode cX15_firsts 11 = .ok (.getfield 188, 3) := by decide +kernel
theorem dX15_firsts_14 : decode cX15_firsts 14 = .ok (.if_icmp .ge 13, 3) := by decide +kernel
theorem dX15_firsts_17 : decode cX15_firsts 17 = .ok (.aload_n 1, 1) := by decide +kernel
theorem dX15_firsts_18 : decode cX15_firsts 18 = .ok (.iload_n 2, 1) := by decide +kernel
theorem dX15_firsts_19 : decode cX15_firsts 19 = .ok (.iload_n 2, 1) := by decide +kernel
theorem dX15_firsts_20 : decode cX15_firsts 20 = .ok (.iastore, 1) := by decide +kernel
theorem dX15_firsts_21 : decode cX15_firsts 21 = .ok (.iinc 2 1, 3) := by decide +kernel
theorem dX15_firsts_24 : decode cX15_firsts 24 = .ok (.goto (-15), 3) := by decide +kernel
theorem dX15_firsts_27 : decode cX15_firsts 27 = .ok (.iconst 0, 1) := by decide +kernel
theorem dX15_firsts_28 : decode cX15_firsts 28 = .ok (.istore_n 2, 1) := by decide +kernel
theorem dX15_firsts_29 : decode cX15_firsts 29 = .ok (.iload_n 2, 1) := by decide +kernel
theorem dX15_firsts_30 : decode cX15_firsts 30 = .ok (.aload_n 0, 1) := by decide +kernel
theorem dX15_firsts_31 : decode cX15_firsts 31 = .ok (.getfield 16, 3) := by decide +kernel
theorem dX15_firsts_34 : decode cX15_firsts 34 = .ok (.invokeinterface 92 1, 5) := by decide +kernel
theorem dX15_firsts_39 : decode cX15_firsts 39 = .ok (.if_icmp .ge 190, 3) := by decide +kernel
theorem dX15_firsts_42 : decode cX15_firsts 42 = .ok (.aload_n 0, 1) := by decide +kernel
theorem dX15_firsts_43 : decode cX15_firsts 43 = .ok (.getfield 16, 3) := by decide +kernel
theorem dX15_firsts_46 : decode cX15_firsts 46 = .ok (.iload_n 2, 1) := by decide +kernel
theorem dX15_firsts_47 : decode cX15_firsts 47 = .ok (.invokeinterface 143 2, 5) := by decide +kernel
theorem dX15_firsts_52 : decode cX15_firsts 52 = .ok (.checkcast 110, 3) := by decide +kernel
theorem dX15_firsts_55 : decode cX15_firsts 55 = .ok (.astore_n 3, 1) := by decide +kernel
theorem dX15_firsts_56 : decode cX15_firsts 56 = .ok (.iconst 0, 1) := by decide +kernel
theorem dX15_firsts_57 : decode cX15_firsts 57 = .ok (.istore 4, 2) := by decide +kernel
theorem dX15_firsts_59 : decode cX15_firsts 59 = .ok (.iload 4, 2) := by decide +kernel
theorem dX15_firsts_61 : decode cX15_firsts 61 = .ok (.aload_n 3, 1) := by decide +kernel
theorem dX15_firsts_62 : decode cX15_firsts 62 = .ok (.getfield 178, 3) := by decide +kernel
theorem dX15_firsts_65 : decode cX15_firsts 65 = .ok (.arraylength, 1) := by decide +kernel
theorem dX15_firsts_66 : decode cX15_firsts 66 = .ok (.if_icmp .ge 157, 3) := by decide +kernel
theorem dX15_firsts_69 : decode cX15_firsts 69 = .ok (.aload_n 3, 1) := by decide +kernel
theorem dX15_firsts_70 : decode cX15_firsts 70 = .ok (.getfield 147, 3) := by decide +kernel
theorem dX15_firsts_73 : decode cX15_firsts 73 = .ok (.bipush 120, 2) := by decide +kernel
theorem dX15_firsts_75 : decode cX15_firsts 75 = .ok (.if_icmp .eq 148, 3) := by decide +kernel
theorem dX15_firsts_78 : decode cX15_firsts 78 = .ok (.aload_n 3, 1) := by decide +kernel
theorem dX15_firsts_79 : decode cX15_firsts 79 = .ok (.getfield 226, 3) := by decide +kernel
theorem dX15_firsts_82 : decode cX15_firsts 82 = .ok (.iconst (-1), 1) := by decide +kernel
theorem dX15_firsts_83 : decode cX15_firsts 83 = .ok (.if_icmp .ne 140, 3) := by decide +kernel
theorem dX15_firsts_86 : decode cX15_firsts 86 = .ok (.aload_n 3, 1) := by decide +kernel
theorem dX15_firsts_87 : decode cX15_firsts 87 = .ok (.getfield 147, 3) := by decide +kernel
theorem dX15_firsts_90 : decode cX15_firsts 90 = .ok (.bipush 110, 2) := by decide +kernel
theorem dX15_firsts_92 : decode cX15_firsts 92 = .ok (.if_icmp .eq 21, 3) := by decide +kernel
theorem dX15_firsts_95 : decode cX15_firsts 95 = .ok (.aload_n 3, 1) := by decide +kernel
theorem dX15_firsts_96 : decode cX15_firsts 96 = .ok (.getfield 147, 3) := by decide +kernel
theorem dX15_firsts_99 : decode cX15_firsts 99 = .ok (.bipush 114, 2) := by decide +kernel
theorem dX15_firsts_101 : decode cX15_firsts 101 = .ok (.if_icmp .eq 12, 3) := by decide +kernel
theorem dX15_firsts_104 : decode cX15_firsts 104 = .ok (.aload_n 3, 1) := by decide +kernel
theorem dX15_firsts_105 : decode cX15_firsts 105 = .ok (.getfield 147, 3) := by decide +kernel
theorem dX15_firsts_108 : decode cX15_firsts 108 = .ok (.bipush 118, 2) := by decide +kernel
theorem dX15_firsts_110 : decode cX15_firsts 110 = .ok (.if_icmp .ne 7, 3) := by decide +kernel
theorem dX15_firsts_113 : decode cX15_firsts 113 = .ok (.iconst 1, 1) := by decide +kernel
theorem dX15_firsts_114 : decode cX15_firsts 114 = .ok (.goto 4, 3) := by decide +kernel
theorem dX15_firsts_117 : decode cX15_firsts 117 = .ok (.iconst 0, 1) := by decide +kernel
theorem dX15_firsts_118 : decode cX15_firsts 118 = .ok (.istore 5, 2) := by decide +kernel
theorem dX15_firsts_120 : decode cX15_firsts 120 = .ok (.iconst 0, 1) := by decide +kernel
theorem dX15_firsts_121 : decode cX15_firsts 121 = .ok (.istore 6, 2) := by decide +kernel
theorem dX15_firsts_123 : decode cX15_firsts 123 = .ok (.iload 6, 2) := by decide +kernel
theorem dX15_firsts_125 : decode cX15_firsts 125 = .ok (.iconst 2, 1) := by decide +kernel
theorem dX15_firsts_126 : decode cX15_firsts 126 = .ok (.if_icmp .ge 91, 3) := by decide +kernel
theorem dX15_firsts_129 : decode cX15_firsts 129 = .ok (.aload_n 3, 1) := by decide +kernel
theorem dX15_firsts_130 : decode cX15_firsts 130 = .ok (.getfield 178, 3) := by decide +kernel
theorem dX15_firsts_133 : decode cX15_firsts 133 = .ok (.arraylength, 1) := by decide +kernel
theorem dX15_firsts_134 : decode cX15_firsts 134 = .ok (.iconst 1, 1) := by decide +kernel
theorem dX15_firsts_135 : decode cX15_firsts 135 = .ok (.if_icmp .eq 31, 3) := by decide +kernel
theorem dX15_firsts_138 : decode cX15_firsts 138 = .ok (.iload 6, 2) := by decide +kernel
theorem dX15_firsts_140 : decode cX15_firsts 140 = .ok (.aload_n 3, 1) := by decide +kernel
theorem dX15_firsts_141 : decode cX15_firsts 141 = .ok (.getfield 147, 3) := by decide +kernel
theorem dX15_firsts_144 : decode cX15_firsts 144 = .ok (.bipush 97, 2) := by decide +kernel
theorem dX15_firsts_146 : decode cX15_firsts 146 = .ok (.if_icmp .eq 12, 3) := by decide +kernel
theorem dX15_firsts_149 : decode cX15_firsts 149 = .ok (.aload_n 3, 1) := by decide +kernel
theorem dX15_firsts_150 : decode cX15_firsts 150 = .ok (.getfield 147, 3) := by decide +kernel
theorem dX15_firsts_153 : decode cX15_firsts 153 = .ok (.bipush 110, 2) := by decide +kernel
theorem dX15_firsts_155 : decode cX15_firsts 155 = .ok (.if_icmp .ne 7, 3) := by decide +kernel
theorem dX15_firsts_158 : decode cX15_firsts 158 = .ok (.iconst 0, 1) := by decide +kernel
theorem dX15_firsts_159 : decode cX15_firsts 159 = .ok (.goto 4, 3) := by decide +kernel
theorem dX15_firsts_162 : decode cX15_firsts 162 = .ok (.iconst 1, 1) := by decide +kernel
theorem dX15_firsts_163 : decode cX15_firsts 163 = .ok (.if_icmp .ne 7, 3) := by decide +kernel
theorem dX15_firsts_166 : decode cX15_firsts 166 = .ok (.iconst 1, 1) := by decide +kernel
theorem dX15_firsts_167 : decode cX15_firsts 167 = .ok (.goto 4, 3) := by decide +kernel
theorem dX15_firsts_170 : decode cX15_firsts 170 = .ok (.iconst 0, 1) := by decide +kernel
theorem dX15_firsts_171 : decode cX15_firsts 171 = .ok (.istore 7, 2) := by decide +kernel
theorem dX15_firsts_173 : decode cX15_firsts 173 = .ok (.iload 7, 2) := by decide +kernel
theorem dX15_firsts_175 : decode cX15_firsts 175 = .ok (.ifCond .eq 36, 3) := by decide +kernel
theorem dX15_firsts_178 : decode cX15_firsts 178 = .ok (.aload_n 1, 1) := by decide +kernel
theorem dX15_firsts_179 : decode cX15_firsts 179 = .ok (.aload_n 0, 1) := by decide +kernel
theorem dX15_firsts_180 : decode cX15_firsts 180 = .ok (.iload_n 2, 1) := by decide +kernel
theorem dX15_firsts_181 : decode cX15_firsts 181 = .ok (.iload 4, 2) := by decide +kernel
theorem dX15_firsts_183 : decode cX15_firsts 183 = .ok (.iload 6, 2) := by decide +kernel
theorem dX15_firsts_185 : decode cX15_firsts 185 = .ok (.invokevirtual 307, 3) := by decide +kernel
theorem dX15_firsts_188 : decode cX15_firsts 188 = .ok (.aload_n 0, 1) := by decide +kernel
theorem dX15_firsts_189 : decode cX15_firsts 189 = .ok (.iload_n 2, 1) := by decide +kernel
theorem dX15_firsts_190 : decode cX15_firsts 190 = .ok (.iconst (-1), 1) := by decide +kernel
theorem dX15_firsts_191 : decode cX15_firsts 191 = .ok (.iload 5, 2) := by decide +kernel
theorem dX15_firsts_193 : decode cX15_firsts 193 = .ok (.ifCond .eq 10, 3) := by decide +kernel
theorem dX15_firsts_196 : decode cX15_firsts 196 = .ok (.iconst 1, 1) := by decide +kernel
theorem dX15_firsts_197 : decode cX15_firsts 197 = .ok (.iload 6, 2) := by decide +kernel
theorem dX15_firsts_199 : decode cX15_firsts 199 = .ok (.isub, 1) := by decide +kernel
theorem dX15_firsts_200 : decode cX15_firsts 200 = .ok (.goto 5, 3) := by decide +kernel
theorem dX15_firsts_203 : decode cX15_firsts 203 = .ok (.iload 6, 2) := by decide +kernel
theorem dX15_firsts_205 : decode cX15_firsts 205 = .ok (.invokevirtual 291, 3) := by decide +kernel
theorem dX15_firsts_208 : decode cX15_firsts 208 = .ok (.invokestatic 310, 3) := by decide +kernel
theorem dX15_firsts_211 : decode cX15_firsts 211 = .ok (.iinc 6 1, 3) := by decide +kernel
theorem dX15_firsts_214 : decode cX15_firsts 214 = .ok (.goto (-91), 3) := by decide +kernel
theorem dX15_firsts_217 : decode cX15_firsts 217 = .ok (.iinc 4 1, 3) := by decide +kernel
theorem dX15_firsts_220 : decode cX15_firsts 220 = .ok (.goto (-161), 3) := by decide +kernel
theorem dX15_firsts_223 : decode cX15_firsts 223 = .ok (.iinc 2 1, 3) := by decide +kernel
theorem dX15_firsts_226 : decode cX15_firsts 226 = .ok (.goto (-197), 3) := by decide +kernel
theorem dX15_firsts_229 : decode cX15_firsts 229 = .ok (.iconst 0, 1) := by decide +kernel
theorem dX15_firsts_230 : decode cX15_firsts 230 = .ok (.istore_n 2, 1) := by decide +kernel
theorem dX15_firsts_231 : decode cX15_firsts 231 = .ok (.iload_n 2, 1) := by decide +kernel
theorem dX15_firsts_232 : decode cX15_firsts 232 = .ok (.aload_n 0, 1) := by decide +kernel
theorem dX15_firsts_233 : decode cX15_firsts 233 = .ok (.getfield 188, 3) := by decide +kernel
theorem dX15_firsts_236 : decode cX15_firsts 236 = .ok (.if_icmp .ge 17, 3) := by decide +kernel
theorem dX15_firsts_239 : decode cX15_firsts 239 = .ok (.aload_n 1, 1) := by decide +kernel
theorem dX15_firsts_240 : decode cX15_firsts 240 = .ok (.iload_n 2, 1) := by decide +kernel
theorem dX15_firsts_241 : decode cX15_firsts 241 = .ok (.aload_n 1, 1) := by decide +kernel
theorem dX15_firsts_242 : decode cX15_firsts 242 = .ok (.iload_n 2, 1) := by decide +kernel
theorem dX15_firsts_243 : decode cX15_firsts 243 = .ok (.invokestatic 295, 3) := by decide +kernel
theorem dX15_firsts_246 : decode cX15_firsts 246 = .ok (.iastore, 1) := by decide +kernel
theorem dX15_firsts_247 : decode cX15_firsts 247 = .ok (.iinc 2 1, 3) := by decide +kernel
theorem dX15_firsts_250 : decode cX15_firsts 250 = .ok (.goto (-19), 3) := by decide +kernel
theorem dX15_firsts_253 : decode cX15_firsts 253 = .ok (.aload_n 1, 1) := by decide +kernel
theorem dX15_firsts_254 : decode cX15_firsts 254 = .ok (.areturn, 1) := by decide +kernel
theorem dX15_foundBy_0 : decode cX15_foundBy 0 = .ok (.aload_n 0, 1) := by decide +kernel
theorem dX15_foundBy_1 : decode cX15_foundBy 1 = .ok (.aload_n 0, 1) := by decide +kernel
theorem dX15_foundBy_2 : decode cX15_foundBy 2 = .ok (.iload_n 1, 1) := by decide +kernel
theorem dX15_foundBy_3 : decode cX15_foundBy 3 = .ok (.invokevirtual 286, 3) := by decide +kernel
theorem dX15_foundBy_6 : decode cX15_foundBy 6 = .ok (.ifCond .eq 7, 3) := by decide +kernel
theorem dX15_foundBy_9 : decode cX15_foundBy 9 = .ok (.iconst 0, 1) := by decide +kernel
theorem dX15_foundBy_10 : decode cX15_foundBy 10 = .ok (.goto 4, 3) := by decide +kernel
theorem dX15_foundBy_13 : decode cX15_foundBy 13 = .ok (.iconst 1, 1) := by decide +kernel
theorem dX15_foundBy_14 : decode cX15_foundBy 14 = .ok (.invokevirtual 106, 3) := by decide +kernel
theorem dX15_foundBy_17 : decode cX15_foundBy 17 = .ok (.ifCond .eq 7, 3) := by decide +kernel
theorem dX15_foundBy_20 : decode cX15_foundBy 20 = .ok (.lconst 0, 1) := by decide +kernel
theorem dX15_foundBy_21 : decode cX15_foundBy 21 = .ok (.goto 10, 3) := by decide +kernel
theorem dX15_foundBy_24 : decode cX15_foundBy 24 = .ok (.aload_n 0, 1) := by decide +kernel
theorem dX15_foundBy_25 : decode cX15_foundBy 25 = .ok (.iload_n 1, 1) := by decide +kernel
theorem dX15_foundBy_26 : decode cX15_foundBy 26 = .ok (.bipush 115, 2) := by decide +kernel
theorem dX15_foundBy_28 : decode cX15_foundBy 28 = .ok (.invokevirtual 345, 3) := by decide +kernel
theorem dX15_foundBy_31 : decode cX15_foundBy 31 = .ok (.lreturn, 1) := by decide +kernel
theorem dX15_gate_0 : decode cX15_gate 0 = .ok (.iload_n 1, 1) := by decide +kernel
theorem dX15_gate_1 : decode cX15_gate 1 = .ok (.bipush 98, 2) := by decide +kernel
theorem dX15_gate_3 : decode cX15_gate 3 = .ok (.if_icmp .eq 9, 3) := by decide +kernel
theorem dX15_gate_6 : decode cX15_gate 6 = .ok (.iload_n 1, 1) := by decide +kernel
theorem dX15_gate_7 : decode cX15_gate 7 = .ok (.bipush 118, 2) := by decide +kernel
theorem dX15_gate_9 : decode cX15_gate 9 = .ok (.if_icmp .ne 7, 3) := by decide +kernel
theorem dX15_gate_12 : decode cX15_gate 12 = .ok (.iconst 1, 1) := by decide +kernel
theorem dX15_gate_13 : decode cX15_gate 13 = .ok (.goto 4, 3) := by decide +kernel
theorem dX15_gate_16 : decode cX15_gate 16 = .ok (.iconst 0, 1) := by decide +kernel
theorem dX15_gate_17 : decode cX15_gate 17 = .ok (.istore 4, 2) := by decide +kernel
theorem dX15_gate_19 : decode cX15_gate 19 = .ok (.iload 4, 2) := by decide +kernel
theorem dX15_gate_21 : decode cX15_gate 21 = .ok (.ifCond .ne 12, 3) := by decide +kernel
theorem dX15_gate_24 : decode cX15_gate 24 = .ok (.ldc 132, 2) := by decide +kernel
theorem dX15_gate_26 : decode cX15_gate 26 = .ok (.iload_n 1, 1) := by decide +kernel
theorem dX15_gate_27 : decode cX15_gate 27 = .ok (.invokevirtual 134, 3) := by decide +kernel
theorem dX15_gate_30 : decode cX15_gate 30 = .ok (.ifCond .lt 7, 3) := by decide +kernel
theorem dX15_gate_33 : decode cX15_gate 33 = .ok (.iconst 1, 1) := by decide +kernel
theorem dX15_gate_34 : decode cX15_gate 34 = .ok (.goto 4, 3) := by decide +kernel
theorem dX15_gate_37 : decode cX15_gate 37 = .ok (.iconst 0, 1) := by decide +kernel
theorem dX15_gate_38 : decode cX15_gate 38 = .ok (.istore 5, 2) := by decide +kernel
theorem dX15_gate_40 : decode cX15_gate 40 = .ok (.aload_n 0, 1) := by decide +kernel
theorem dX15_gate_41 : decode cX15_gate 41 = .ok (.iload 5, 2) := by decide +kernel
theorem dX15_gate_43 : decode cX15_gate 43 = .ok (.ifCond .ne 7, 3) := by decide +kernel
theorem dX15_gate_46 : decode cX15_gate 46 = .ok (.iconst 1, 1) := by decide +kernel
theorem dX15_gate_47 : decode cX15_gate 47 = .ok (.goto 58, 3) := by decide +kernel
theorem dX15_gate_50 : decode cX15_gate 50 = .ok (.aload_n 0, 1) := by decide +kernel
theorem dX15_gate_51 : decode cX15_gate 51 = .ok (.iload_n 2, 1) := by decide +kernel
theorem dX15_gate_52 : decode cX15_gate 52 = .ok (.invokevirtual 140, 3) := by decide +kernel
theorem dX15_gate_55 : decode cX15_gate 55 = .ok (.ifCond .eq 16, 3) := by decide +kernel
theorem dX15_gate_58 : decode cX15_gate 58 = .ok (.iload 4, 2) := by decide +kernel
theorem dX15_gate_60 : decode cX15_gate 60 = .ok (.ifCond .ne 15, 3) := by decide +kernel
theorem dX15_gate_63 : decode cX15_gate 63 = .ok (.aload_n 0, 1) := by decide +kernel
theorem dX15_gate_64 : decode cX15_gate 64 = .ok (.iload_n 3, 1) := by decide +kernel
theorem dX15_gate_65 : decode cX15_gate 65 = .ok (.invokevirtual 140, 3) := by decide +kernel
theorem dX15_gate_68 : decode cX15_gate 68 = .ok (.ifCond .ne 7, 3) := by decide +kernel
theorem dX15_gate_71 : decode cX15_gate 71 = .ok (.iconst 2, 1) := by decide +kernel
theorem dX15_gate_72 : decode cX15_gate 72 = .ok (.goto 33, 3) := by decide +kernel
theorem dX15_gate_75 : decode cX15_gate 75 = .ok (.aload_n 0, 1) := by decide +kernel
theorem dX15_gate_76 : decode cX15_gate 76 = .ok (.getfield 102, 3) := by decide +kernel
theorem dX15_gate_79 : decode cX15_gate 79 = .ok (.ifCond .eq 7, 3) := by decide +kernel
theorem dX15_gate_82 : decode cX15_gate 82 = .ok (.iconst 3, 1) := by decide +kernel
theorem dX15_gate_83 : decode cX15_gate 83 = .ok (.goto 22, 3) := by decide +kernel
theorem dX15_gate_86 : decode cX15_gate 86 = .ok (.aload_n 0, 1) := by decide +kernel
theorem dX15_gate_87 : decode cX15_gate 87 = .ok (.getfield 16, 3) := by decide +kernel
theorem dX15_gate_90 : decode cX15_gate 90 = .ok (.invokeinterface 92 1, 5) := by decide +kernel
theorem dX15_gate_95 : decode cX15_gate 95 = .ok (.bipush 40, 2) := by decide +kernel
theorem dX15_gate_97 : decode cX15_gate 97 = .ok (.if_icmp .ne 7, 3) := by decide +kernel
theorem dX15_gate_100 : decode cX15_gate 100 = .ok (.iconst 4, 1) := by decide +kernel
theorem dX15_gate_101 : decode cX15_gate 101 = .ok (.goto 4, 3) := by decide +kernel
theorem dX15_gate_104 : decode cX15_gate 104 = .ok (.iconst 0, 1) := by decide +kernel
theorem dX15_gate_105 : decode cX15_gate 105 = .ok (.invokevirtual 106, 3) := by decide +kernel
theorem dX15_gate_108 : decode cX15_gate 108 = .ok (.ifCond .eq 5, 3) := by decide +kernel
theorem dX15_gate_111 : decode cX15_gate 111 = .ok (.iconst 0, 1) := by decide +kernel
theorem dX15_gate_112 : decode cX15_gate 112 = .ok (.ireturn, 1) := by decide +kernel
theorem dX15_gate_113 : decode cX15_gate 113 = .ok (.aload_n 0, 1) := by decide +kernel
theorem dX15_gate_114 : decode cX15_gate 114 = .ok (.getfield 16, 3) := by decide +kernel
theorem dX15_gate_117 : decode cX15_gate 117 = .ok (.iload 4, 2) := by decide +kernel
theorem dX15_gate_119 : decode cX15_gate 119 = .ok (.ifCond .eq 21, 3) := by decide +kernel
theorem dX15_gate_122 : decode cX15_gate 122 = .ok (.new 110, 3) := by decide +kernel
theorem dX15_gate_125 : decode cX15_gate 125 = .ok (.dup, 1) := by decide +kernel
theorem dX15_gate_126 : decode cX15_gate 126 = .ok (.iload_n 1, 1) := by decide +kernel
theorem dX15_gate_127 : decode cX15_gate 127 = .ok (.iconst 1, 1) := by decide +kernel
theorem dX15_gate_128 : decode cX15_gate 128 = .ok (.newarray .int, 2) := by decide +kernel
theorem dX15_gate_130 : decode cX15_gate 130 = .ok (.dup, 1) := by decide +kernel
theorem dX15_gate_131 : decode cX15_gate 131 = .ok (.iconst 0, 1) := by decide +kernel
theorem dX15_gate_132 : decode cX15_gate 132 = .ok (.iload_n 2, 1) := by decide +kernel
theorem dX15_gate_133 : decode cX15_gate 133 = .ok (.iastore, 1) := by decide +kernel
theorem dX15_gate_134 : decode cX15_gate 134 = .ok (.invokespecial 112, 3) := by decide +kernel
theorem dX15_gate_137 : decode cX15_gate 137 = .ok (.goto 22, 3) := by decide +kernel
theorem dX15_gate_140 : decode cX15_gate 140 = .ok (.new 110, 3) := by decide +kernel
theorem dX15_gate_143 : decode cX15_gate 143 = .ok (.dup, 1) := by decide +kernel
theorem dX15_gate_144 : decode cX15_gate 144 = .ok (.iload_n 1, 1) := by decide +kernel
theorem dX15_gate_145 : decode cX15_gate 145 = .ok (.iconst 2, 1) := by decide +kernel
theorem dX15_gate_146 : decode cX15_gate 146 = .ok (.newarray .int, 2) := by decide +kernel
theorem dX15_gate_148 : decode cX15_gate 148 = .ok (.dup, 1) := by decide +kernel
theorem dX15_gate_149 : decode cX15_gate 149 = .ok (.iconst 0, 1) := by decide +kernel
theorem dX15_gate_150 : decode cX15_gate 150 = .ok (.iload_n 2, 1) := by decide +kernel
theorem dX15_gate_151 : decode cX15_gate 151 = .ok (.iastore, 1) := by decide +kernel
theorem dX15_gate_152 : decode cX15_gate 152 = .ok (.dup, 1) := by decide +kernel
theorem dX15_gate_153 : decode cX15_gate 153 = .ok (.iconst 1, 1) := by decide +kernel
theorem dX15_gate_154 : decode cX15_gate 154 = .ok (.iload_n 3, 1) := by decide +kernel
theorem dX15_gate_155 : decode cX15_gate 155 = .ok (.iastore, 1) := by decide +kernel
theorem dX15_gate_156 : decode cX15_gate 156 = .ok (.invokespecial 112, 3) := by decide +kernel
theorem dX15_gate_159 : decode cX15_gate 159 = .ok (.invokeinterface 124 2, 5) := by decide +kernel
theorem dX15_gate_164 : decode cX15_gate 164 = .ok (.pop, 1) := by decide +kernel
theorem dX15_gate_165 : decode cX15_gate 165 = .ok (.aload_n 0, 1) := by decide +kernel
theorem dX15_gate_166 : decode cX15_gate 166 = .ok (.getfield 16, 3) := by decide +kernel
theorem dX15_gate_169 : decode cX15_gate 169 = .ok (.invokeinterface 92 1, 5) := by decide +kernel
theorem dX15_gate_174 : decode cX15_gate 174 = .ok (.iconst 1, 1) := by decide +kernel
theorem dX15_gate_175 : decode cX15_gate 175 = .ok (.isub, 1) := by decide +kernel
theorem dX15_gate_176 : decode cX15_gate 176 = .ok (.ireturn, 1) := by decide +kernel
theorem dX15_got_0 : decode cX15_got 0 = .ok (.aload_n 0, 1) := by decide +kernel
theorem dX15_got_1 : decode cX15_got 1 = .ok (.iload_n 1, 1) := by decide +kernel
theorem dX15_got_2 : decode cX15_got 2 = .ok (.iload_n 2, 1) := by decide +kernel
theorem dX15_got_3 : decode cX15_got 3 = .ok (.invokevirtual 515, 3) := by decide +kernel
theorem dX15_got_6 : decode cX15_got 6 = .ok (.ifCond .eq 7, 3) := by decide +kernel
theorem dX15_got_9 : decode cX15_got 9 = .ok (.iconst 0, 1) := by decide +kernel
theorem dX15_got_10 : decode cX15_got 10 = .ok (.goto 9, 3) := by decide +kernel
theorem dX15_got_13 : decode cX15_got 13 = .ok (.aload_n 0, 1) := by decide +kernel
theorem dX15_got_14 : decode cX15_got 14 = .ok (.iload_n 1, 1) := by decide +kernel
theorem dX15_got_15 : decode cX15_got 15 = .ok (.iload_n 2, 1) := by decide +kernel
theorem dX15_got_16 : decode cX15_got 16 = .ok (.invokevirtual 519, 3) := by decide +kernel
theorem dX15_got_19 : decode cX15_got 19 = .ok (.ireturn, 1) := by decide +kernel
theorem dX15_hardest_0 : decode cX15_hardest 0 = .ok (.iconst (-1), 1) := by decide +kernel
theorem dX15_hardest_1 : decode cX15_hardest 1 = .ok (.istore_n 1, 1) := by decide +kernel
theorem dX15_hardest_2 : decode cX15_hardest 2 = .ok (.iconst 0, 1) := by decide +kernel
theorem dX15_hardest_3 : decode cX15_hardest 3 = .ok (.istore_n 2, 1) := by decide +kernel
theorem dX15_hardest_4 : decode cX15_hardest 4 = .ok (.aload_n 0, 1) := by decide +kernel
theorem dX15_hardest_5 : decode cX15_hardest 5 = .ok (.invokevirtual 318, 3) := by decide +kernel
theorem dX15_hardest_8 : decode cX15_hardest 8 = .ok (.invokeinterface 156 1, 5) := by decide +kernel
theorem dX15_hardest_13 : decode cX15_hardest 13 = .ok (.astore_n 3, 1) := by decide +kernel
theorem dX15_hardest_14 : decode cX15_hardest 14 = .ok (.aload_n 3, 1) := by decide +kernel
theorem dX15_hardest_15 : decode cX15_hardest 15 = .ok (.invokeinterface 160 1, 5) := by decide +kernel
theorem dX15_hardest_20 : decode cX15_hardest 20 = .ok (.ifCond .eq 65, 3) := by decide +kernel
theorem dX15_hardest_23 : decode cX15_hardest 23 = .ok (.aload_n 3, 1) := by decide +kernel
theorem dX15_hardest_24 : decode cX15_hardest 24 = .ok (.invokeinterface 166 1, 5) := by decide +kernel
theorem dX15_hardest_29 : decode cX15_hardest 29 = .ok (.checkcast 119, 3) := by decide +kernel
theorem dX15_hardest_32 : decode cX15_hardest 32 = .ok (.invokevirtual 194, 3) := by decide +kernel
theorem dX15_hardest_35 : decode cX15_hardest 35 = .ok (.istore 4, 2) := by decide +kernel
theorem dX15_hardest_37 : decode cX15_hardest 37 = .ok (.aload_n 0, 1) := by decide +kernel
theorem dX15_hardest_38 : decode cX15_hardest 38 = .ok (.aload_n 0, 1) := by decide +kernel
theorem dX15_hardest_39 : decode cX15_hardest 39 = .ok (.getfield 26, 3) := by decide +kernel
theorem dX15_hardest_42 : decode cX15_hardest 42 = .ok (.iload 4, 2) := by decide +kernel
theorem dX15_hardest_44 : decode cX15_hardest 44 = .ok (.invokeinterface 143 2, 5) := by decide +kernel
theorem dX15_hardest_49 : decode cX15_hardest 49 = .ok (.checkcast 170, 3) := by decide +kernel
theorem dX15_hardest_52 : decode cX15_hardest 52 = .ok (.invokevirtual 356, 3) := by decide +kernel
theorem dX15_hardest_55 : decode cX15_hardest 55 = .ok (.istore 5, 2) := by decide +kernel
theorem dX15_hardest_57 : decode cX15_hardest 57 = .ok (.iload 5, 2) := by decide +kernel
theorem dX15_hardest_59 : decode cX15_hardest 59 = .ok (.ifCond .eq (-45), 3) := by decide +kernel
theorem dX15_hardest_62 : decode cX15_hardest 62 = .ok (.iload_n 1, 1) := by decide +kernel
theorem dX15_hardest_63 : decode cX15_hardest 63 = .ok (.iconst (-1), 1) := by decide +kernel
theorem dX15_hardest_64 : decode cX15_hardest 64 = .ok (.if_icmp .eq 12, 3) := by decide +kernel
theorem dX15_hardest_67 : decode cX15_hardest 67 = .ok (.iload 5, 2) := by decide +kernel
theorem dX15_hardest_69 : decode cX15_hardest 69 = .ok (.iload_n 2, 1) := by decide +kernel
theorem dX15_hardest_70 : decode cX15_hardest 70 = .ok (.if_icmp .lt 6, 3) := by decide +kernel
theorem dX15_hardest_73 : decode cX15_hardest 73 = .ok (.goto (-59), 3) := by decide +kernel
theorem dX15_hardest_76 : decode cX15_hardest 76 = .ok (.iload 4, 2) := by decide +kernel
theorem dX15_hardest_78 : decode cX15_hardest 78 = .ok (.istore_n 1, 1) := by decide +kernel
theorem dX15_hardest_79 : decode cX15_hardest 79 = .ok (.iload 5, 2) := by decide +kernel
theorem dX15_hardest_81 : decode cX15_hardest 81 = .ok (.istore_n 2, 1) := by decide +kernel
theorem dX15_hardest_82 : decode cX15_hardest 82 = .ok (.goto (-68), 3) := by decide +kernel
theorem dX15_hardest_85 : decode cX15_hardest 85 = .ok (.aload_n 0, 1) := by decide +kernel
theorem dX15_hardest_86 : decode cX15_hardest 86 = .ok (.iload_n 1, 1) := by decide +kernel
theorem dX15_hardest_87 : decode cX15_hardest 87 = .ok (.iconst (-1), 1) := by decide +kernel
theorem dX15_hardest_88 : decode cX15_hardest 88 = .ok (.if_icmp .ne 7, 3) := by decide +kernel
theorem dX15_hardest_91 : decode cX15_hardest 91 = .ok (.iconst 1, 1) := by decide +kernel
theorem dX15_hardest_92 : decode cX15_hardest 92 = .ok (.goto 4, 3) := by decide +kernel
theorem dX15_hardest_95 : decode cX15_hardest 95 = .ok (.iconst 0, 1) := by decide +kernel
theorem dX15_hardest_96 : decode cX15_hardest 96 = .ok (.invokevirtual 106, 3) := by decide +kernel
theorem dX15_hardest_99 : decode cX15_hardest 99 = .ok (.ifCond .eq 7, 3) := by decide +kernel
theorem dX15_hardest_102 : decode cX15_hardest 102 = .ok (.iconst 0, 1) := by decide +kernel
theorem dX15_hardest_103 : decode cX15_hardest 103 = .ok (.goto 4, 3) := by decide +kernel
theorem dX15_hardest_106 : decode cX15_hardest 106 = .ok (.iload_n 1, 1) := by decide +kernel
theorem dX15_hardest_107 : decode cX15_hardest 107 = .ok (.ireturn, 1) := by decide +kernel
theorem dX15_input_0 : decode cX15_input 0 = .ok (.aload_n 0, 1) := by decide +kernel
theorem dX15_input_1 : decode cX15_input 1 = .ok (.bipush 105, 2) := by decide +kernel
theorem dX15_input_3 : decode cX15_input 3 = .ok (.invokevirtual 128, 3) := by decide +kernel
theorem dX15_input_6 : decode cX15_input 6 = .ok (.ireturn, 1) := by decide +kernel
theorem dX15_isBetween_0 : decode cX15_isBetween 0 = .ok (.iload_n 1, 1) := by decide +kernel
theorem dX15_isBetween_1 : decode cX15_isBetween 1 = .ok (.iload_n 0, 1) := by decide +kernel
theorem dX15_isBetween_2 : decode cX15_isBetween 2 = .ok (.if_icmp .gt 12, 3) := by decide +kernel
theorem dX15_isBetween_5 : decode cX15_isBetween 5 = .ok (.iload_n 0, 1) := by decide +kernel
theorem dX15_isBetween_6 : decode cX15_isBetween 6 = .ok (.iload_n 2, 1) := by decide +kernel
theorem dX15_isBetween_7 : decode cX15_isBetween 7 = .ok (.if_icmp .gt 7, 3) := by decide +kernel
theorem dX15_isBetween_10 : decode cX15_isBetween 10 = .ok (.iconst 1, 1) := by decide +kernel
theorem dX15_isBetween_11 : decode cX15_isBetween 11 = .ok (.goto 4, 3) := by decide +kernel
theorem dX15_isBetween_14 : decode cX15_isBetween 14 = .ok (.iconst 0, 1) := by decide +kernel
theorem dX15_isBetween_15 : decode cX15_isBetween 15 = .ok (.ireturn, 1) := by decide +kernel
theorem dX15_isFault_0 : decode cX15_isFault 0 = .ok (.iload_n 1, 1) := by decide +kernel
theorem dX15_isFault_1 : decode cX15_isFault 1 = .ok (.iconst 0, 1) := by decide +kernel
theorem dX15_isFault_2 : decode cX15_isFault 2 = .ok (.aload_n 0, 1) := by decide +kernel
theorem dX15_isFault_3 : decode cX15_isFault 3 = .ok (.getfield 26, 3) := by decide +kernel
theorem dX15_isFault_6 : decode cX15_isFault 6 = .ok (.invokeinterface 92 1, 5) := by decide +kernel
theorem dX15_isFault_11 : decode cX15_isFault 11 = .ok (.iconst 1, 1) := by decide +kernel
theorem dX15_isFault_12 : decode cX15_isFault 12 = .ok (.isub, 1) := by decide +kernel
theorem dX15_isFault_13 : decode cX15_isFault 13 = .ok (.invokestatic 98, 3) := by decide +kernel
theorem dX15_isFault_16 : decode cX15_isFault 16 = .ok (.ireturn, 1) := by decide +kernel
theorem dX15_isImpossible_0 : decode cX15_isImpossible 0 = .ok (.aload_n 0, 1) := by decide +kernel
theorem dX15_isImpossible_1 : decode cX15_isImpossible 1 = .ok (.aload_n 0, 1) := by decide +kernel
theorem dX15_isImpossible_2 : decode cX15_isImpossible 2 = .ok (.iload_n 1, 1) := by decide +kernel
theorem dX15_isImpossible_3 : decode cX15_isImpossible 3 = .ok (.invokevirtual 286, 3) := by decide +kernel
theorem dX15_isImpossible_6 : decode cX15_isImpossible 6 = .ok (.ifCond .ne 7, 3) := by decide +kernel
theorem dX15_isImpossible_9 : decode cX15_isImpossible 9 = .ok (.iconst 1, 1) := by decide +kernel
theorem dX15_isImpossible_10 : decode cX15_isImpossible 10 = .ok (.goto 27, 3) := by decide +kernel
theorem dX15_isImpossible_13 : decode cX15_isImpossible 13 = .ok (.aload_n 0, 1) := by decide +kernel
theorem dX15_isImpossible_14 : decode cX15_isImpossible 14 = .ok (.getfield 26, 3) := by decide +kernel
theorem dX15_isImpossible_17 : decode cX15_isImpossible 17 = .ok (.iload_n 1, 1) := by decide +kernel
theorem dX15_isImpossible_18 : decode cX15_isImpossible 18 = .ok (.invokeinterface 143 2, 5) := by decide +kernel
theorem dX15_isImpossible_23 : decode cX15_isImpossible 23 = .ok (.checkcast 170, 3) := by decide +kernel
theorem dX15_isImpossible_26 : decode cX15_isImpossible 26 = .ok (.invokevirtual 241, 3) := by decide +kernel
theorem dX15_isImpossible_29 : decode cX15_isImpossible 29 = .ok (.ifCond .eq 7, 3) := by decide +kernel
theorem dX15_isImpossible_32 : decode cX15_isImpossible 32 = .ok (.iconst 2, 1) := by decide +kernel
theorem dX15_isImpossible_33 : decode cX15_isImpossible 33 = .ok (.goto 4, 3) := by decide +kernel
theorem dX15_isImpossible_36 : decode cX15_isImpossible 36 = .ok (.iconst 0, 1) := by decide +kernel
theorem dX15_isImpossible_37 : decode cX15_isImpossible 37 = .ok (.invokevirtual 106, 3) := by decide +kernel
theorem dX15_isImpossible_40 : decode cX15_isImpossible 40 = .ok (.ifCond .ne 27, 3) := by decide +kernel
theorem dX15_isImpossible_43 : decode cX15_isImpossible 43 = .ok (.aload_n 0, 1) := by decide +kernel
theorem dX15_isImpossible_44 : decode cX15_isImpossible 44 = .ok (.aload_n 0, 1) := by decide +kernel
theorem dX15_isImpossible_45 : decode cX15_isImpossible 45 = .ok (.getfield 26, 3) := by decide +kernel
theorem dX15_isImpossible_48 : decode cX15_isImpossible 48 = .ok (.iload_n 1, 1) := by decide +kernel
theorem dX15_isImpossible_49 : decode cX15_isImpossible 49 = .ok (.invokeinterface 143 2, 5) := by decide +kernel
theorem dX15_isImpossible_54 : decode cX15_isImpossible 54 = .ok (.checkcast 170, 3) := by decide +kernel
theorem dX15_isImpossible_57 : decode cX15_isImpossible 57 = .ok (.invokevirtual 356, 3) := by decide +kernel
theorem dX15_isImpossible_60 : decode cX15_isImpossible 60 = .ok (.ifCond .ne 7, 3) := by decide +kernel
theorem dX15_isImpossible_63 : decode cX15_isImpossible 63 = .ok (.iconst 1, 1) := by decide +kernel
theorem dX15_isImpossible_64 : decode cX15_isImpossible 64 = .ok (.goto 4, 3) := by decide +kernel
theorem dX15_isImpossible_67 : decode cX15_isImpossible 67 = .ok (.iconst 0, 1) := by decide +kernel
theorem dX15_isImpossible_68 : decode cX15_isImpossible 68 = .ok (.ireturn, 1) := by decide +kernel
theorem dX15_isLine_0 : decode cX15_isLine 0 = .ok (.iload_n 1, 1) := by decide +kernel
theorem dX15_isLine_1 : decode cX15_isLine 1 = .ok (.iconst 0, 1) := by decide +kernel
theorem dX15_isLine_2 : decode cX15_isLine 2 = .ok (.aload_n 0, 1) := by decide +kernel
theorem dX15_isLine_3 : decode cX15_isLine 3 = .ok (.getfield 16, 3) := by decide +kernel
theorem dX15_isLine_6 : decode cX15_isLine 6 = .ok (.invokeinterface 92 1, 5) := by decide +kernel
theorem dX15_isLine_11 : decode cX15_isLine 11 = .ok (.iconst 1, 1) := by decide +kernel
theorem dX15_isLine_12 : decode cX15_isLine 12 = .ok (.isub, 1) := by decide +kernel
theorem dX15_isLine_13 : decode cX15_isLine 13 = .ok (.invokestatic 98, 3) := by decide +kernel
theorem dX15_isLine_16 : decode cX15_isLine 16 = .ok (.ireturn, 1) := by decide +kernel
theorem dX15_isNoStuck_0 : decode cX15_isNoStuck 0 = .ok (.aload_n 0, 1) := by decide +kernel
theorem dX15_isNoStuck_1 : decode cX15_isNoStuck 1 = .ok (.aload_n 0, 1) := by decide +kernel
theorem dX15_isNoStuck_2 : decode cX15_isNoStuck 2 = .ok (.iload_n 1, 1) := by decide +kernel
theorem dX15_isNoStuck_3 : decode cX15_isNoStuck 3 = .ok (.invokevirtual 286, 3) := by decide +kernel
theorem dX15_isNoStuck_6 : decode cX15_isNoStuck 6 = .ok (.ifCond .ne 7, 3) := by decide +kernel
theorem dX15_isNoStuck_9 : decode cX15_isNoStuck 9 = .ok (.iconst 1, 1) := by decide +kernel
theorem dX15_isNoStuck_10 : decode cX15_isNoStuck 10 = .ok (.goto 27, 3) := by decide +kernel
theorem dX15_isNoStuck_13 : decode cX15_isNoStuck 13 = .ok (.aload_n 0, 1) := by decide +kernel
theorem dX15_isNoStuck_14 : decode cX15_isNoStuck 14 = .ok (.getfield 26, 3) := by decide +kernel
theorem dX15_isNoStuck_17 : decode cX15_isNoStuck 17 = .ok (.iload_n 1, 1) := by decide +kernel
theorem dX15_isNoStuck_18 : decode cX15_isNoStuck 18 = .ok (.invokeinterface 143 2, 5) := by decide +kernel
theorem dX15_isNoStuck_23 : decode cX15_isNoStuck 23 = .ok (.checkcast 170, 3) := by decide +kernel
theorem dX15_isNoStuck_26 : decode cX15_isNoStuck 26 = .ok (.invokevirtual 238, 3) := by decide +kernel
theorem dX15_isNoStuck_29 : decode cX15_isNoStuck 29 = .ok (.ifCond .ne 7, 3) := by decide +kernel
theorem dX15_isNoStuck_32 : decode cX15_isNoStuck 32 = .ok (.iconst 2, 1) := by decide +kernel
theorem dX15_isNoStuck_33 : decode cX15_isNoStuck 33 = .ok (.goto 4, 3) := by decide +kernel
theorem dX15_isNoStuck_36 : decode cX15_isNoStuck 36 = .ok (.iconst 0, 1) := by decide +kernel
theorem dX15_isNoStuck_37 : decode cX15_isNoStuck 37 = .ok (.invokevirtual 106, 3) := by decide +kernel
theorem dX15_isNoStuck_40 : decode cX15_isNoStuck 40 = .ok (.ireturn, 1) := by decide +kernel
theorem dX15_isNoWire_0 : decode cX15_isNoWire 0 = .ok (.aload_n 0, 1) := by decide +kernel
theorem dX15_isNoWire_1 : decode cX15_isNoWire 1 = .ok (.aload_n 0, 1) := by decide +kernel
theorem dX15_isNoWire_2 : decode cX15_isNoWire 2 = .ok (.iload_n 1, 1) := by decide +kernel
theorem dX15_isNoWire_3 : decode cX15_isNoWire 3 = .ok (.invokevirtual 498, 3) := by decide +kernel
theorem dX15_isNoWire_6 : decode cX15_isNoWire 6 = .ok (.ifCond .ne 7, 3) := by decide +kernel
theorem dX15_isNoWire_9 : decode cX15_isNoWire 9 = .ok (.iconst 1, 1) := by decide +kernel
theorem dX15_isNoWire_10 : decode cX15_isNoWire 10 = .ok (.goto 20, 3) := by decide +kernel
theorem dX15_isNoWire_13 : decode cX15_isNoWire 13 = .ok (.iload_n 2, 1) := by decide +kernel
theorem dX15_isNoWire_14 : decode cX15_isNoWire 14 = .ok (.bipush 99, 2) := by decide +kernel
theorem dX15_isNoWire_16 : decode cX15_isNoWire 16 = .ok (.if_icmp .eq 13, 3) := by decide +kernel
theorem dX15_isNoWire_19 : decode cX15_isNoWire 19 = .ok (.iload_n 2, 1) := by decide +kernel
theorem dX15_isNoWire_20 : decode cX15_isNoWire 20 = .ok (.bipush 116, 2) := by decide +kernel
theorem dX15_isNoWire_22 : decode cX15_isNoWire 22 = .ok (.if_icmp .eq 7, 3) := by decide +kernel
theorem dX15_isNoWire_25 : decode cX15_isNoWire 25 = .ok (.iconst 2, 1) := by decide +kernel
theorem dX15_isNoWire_26 : decode cX15_isNoWire 26 = .ok (.goto 4, 3) := by decide +kernel
theorem dX15_isNoWire_29 : decode cX15_isNoWire 29 = .ok (.iconst 0, 1) := by decide +kernel
theorem dX15_isNoWire_30 : decode cX15_isNoWire 30 = .ok (.invokevirtual 106, 3) := by decide +kernel
theorem dX15_isNoWire_33 : decode cX15_isNoWire 33 = .ok (.ireturn, 1) := by decide +kernel
theorem dX15_isPattern_0 : decode cX15_isPattern 0 = .ok (.iload_n 1, 1) := by decide +kernel
theorem dX15_isPattern_1 : decode cX15_isPattern 1 = .ok (.iconst 0, 1) := by decide +kernel
theorem dX15_isPattern_2 : decode cX15_isPattern 2 = .ok (.aload_n 0, 1) := by decide +kernel
theorem dX15_isPattern_3 : decode cX15_isPattern 3 = .ok (.getfield 32, 3) := by decide +kernel
theorem dX15_isPattern_6 : decode cX15_isPattern 6 = .ok (.invokeinterface 92 1, 5) := by decide +kernel
theorem dX15_isPattern_11 : decode cX15_isPattern 11 = .ok (.iconst 1, 1) := by decide +kernel
theorem dX15_isPattern_12 : decode cX15_isPattern 12 = .ok (.isub, 1) := by decide +kernel
theorem dX15_isPattern_13 : decode cX15_isPattern 13 = .ok (.invokestatic 98, 3) := by decide +kernel
theorem dX15_isPattern_16 : decode cX15_isPattern 16 = .ok (.ireturn, 1) := by decide +kernel
theorem dX15_isRight_0 : decode cX15_isRight 0 = .ok (.aload_n 0, 1) := by decide +kernel
theorem dX15_isRight_1 : decode cX15_isRight 1 = .ok (.iconst 0, 1) := by decide +kernel
theorem dX15_isRight_2 : decode cX15_isRight 2 = .ok (.putfield 1, 3) := by decide +kernel
theorem dX15_isRight_5 : decode cX15_isRight 5 = .ok (.aload_n 0, 1) := by decide +kernel
theorem dX15_isRight_6 : decode cX15_isRight 6 = .ok (.invokevirtual 480, 3) := by decide +kernel
theorem dX15_isRight_9 : decode cX15_isRight 9 = .ok (.ireturn, 1) := by decide +kernel
theorem dX15_isRightNow_0 : decode cX15_isRightNow 0 = .ok (.aload_n 0, 1) := by decide +kernel
theorem dX15_isRightNow_1 : decode cX15_isRightNow 1 = .ok (.getfield 64, 3) := by decide +kernel
theorem dX15_isRightNow_4 : decode cX15_isRightNow 4 = .ok (.invokevirtual 475, 3) := by decide +kernel
theorem dX15_isRightNow_7 : decode cX15_isRightNow 7 = .ok (.ifCond .ne 33, 3) := by decide +kernel
theorem dX15_isRightNow_10 : decode cX15_isRightNow 10 = .ok (.aload_n 0, 1) := by decide +kernel
theorem dX15_isRightNow_11 : decode cX15_isRightNow 11 = .ok (.getfield 64, 3) := by decide +kernel
theorem dX15_isRightNow_14 : decode cX15_isRightNow 14 = .ok (.iconst 0, 1) := by decide +kernel
theorem dX15_isRightNow_15 : decode cX15_isRightNow 15 = .ok (.invokevirtual 467, 3) := by decide +kernel
theorem dX15_isRightNow_18 : decode cX15_isRightNow 18 = .ok (.bipush 94, 2) := by decide +kernel
theorem dX15_isRightNow_20 : decode cX15_isRightNow 20 = .ok (.if_icmp .eq 16, 3) := by decide +kernel
theorem dX15_isRightNow_23 : decode cX15_isRightNow 23 = .ok (.aload_n 0, 1) := by decide +kernel
theorem dX15_isRightNow_24 : decode cX15_isRightNow 24 = .ok (.getfield 64, 3) := by decide +kernel
theorem dX15_isRightNow_27 : decode cX15_isRightNow 27 = .ok (.iconst 0, 1) := by decide +kernel
theorem dX15_isRightNow_28 : decode cX15_isRightNow 28 = .ok (.invokevirtual 467, 3) := by decide +kernel
theorem dX15_isRightNow_31 : decode cX15_isRightNow 31 = .ok (.bipush 118, 2) := by decide +kernel
theorem dX15_isRightNow_33 : decode cX15_isRightNow 33 = .ok (.if_icmp .ne 7, 3) := by decide +kernel
theorem dX15_isRightNow_36 : decode cX15_isRightNow 36 = .ok (.iconst 1, 1) := by decide +kernel
theorem dX15_isRightNow_37 : decode cX15_isRightNow 37 = .ok (.goto 4, 3) := by decide +kernel
theorem dX15_isRightNow_40 : decode cX15_isRightNow 40 = .ok (.iconst 0, 1) := by decide +kernel
theorem dX15_isRightNow_41 : decode cX15_isRightNow 41 = .ok (.istore_n 1, 1) := by decide +kernel
theorem dX15_isRightNow_42 : decode cX15_isRightNow 42 = .ok (.iload_n 1, 1) := by decide +kernel
theorem dX15_isRightNow_43 : decode cX15_isRightNow 43 = .ok (.ifCond .eq 35, 3) := by decide +kernel
theorem dX15_isRightNow_46 : decode cX15_isRightNow 46 = .ok (.aload_n 0, 1) := by decide +kernel
theorem dX15_isRightNow_47 : decode cX15_isRightNow 47 = .ok (.iconst 0, 1) := by decide +kernel
theorem dX15_isRightNow_48 : decode cX15_isRightNow 48 = .ok (.bipush 45, 2) := by decide +kernel
theorem dX15_isRightNow_50 : decode cX15_isRightNow 50 = .ok (.iconst 0, 1) := by decide +kernel
theorem dX15_isRightNow_51 : decode cX15_isRightNow 51 = .ok (.iconst 0, 1) := by decide +kernel
theorem dX15_isRightNow_52 : decode cX15_isRightNow 52 = .ok (.iconst 0, 1) := by decide +kernel
theorem dX15_isRightNow_53 : decode cX15_isRightNow 53 = .ok (.iconst 0, 1) := by decide +kernel
theorem dX15_isRightNow_54 : decode cX15_isRightNow 54 = .ok (.invokevirtual 476, 3) := by decide +kernel
theorem dX15_isRightNow_57 : decode cX15_isRightNow 57 = .ok (.ifCond .ne 21, 3) := by decide +kernel
theorem dX15_isRightNow_60 : decode cX15_isRightNow 60 = .ok (.aload_n 0, 1) := by decide +kernel
theorem dX15_isRightNow_61 : decode cX15_isRightNow 61 = .ok (.iconst 1, 1) := by decide +kernel
theorem dX15_isRightNow_62 : decode cX15_isRightNow 62 = .ok (.bipush 45, 2) := by decide +kernel
theorem dX15_isRightNow_64 : decode cX15_isRightNow 64 = .ok (.iconst 0, 1) := by decide +kernel
theorem dX15_isRightNow_65 : decode cX15_isRightNow 65 = .ok (.iconst 0, 1) := by decide +kernel
theorem dX15_isRightNow_66 : decode cX15_isRightNow 66 = .ok (.iconst 0, 1) := by decide +kernel
theorem dX15_isRightNow_67 : decode cX15_isRightNow 67 = .ok (.iconst 0, 1) := by decide +kernel
theorem dX15_isRightNow_68 : decode cX15_isRightNow 68 = .ok (.invokevirtual 476, 3) := by decide +kernel
theorem dX15_isRightNow_71 : decode cX15_isRightNow 71 = .ok (.ifCond .ne 7, 3) := by decide +kernel
theorem dX15_isRightNow_74 : decode cX15_isRightNow 74 = .ok (.iconst 1, 1) := by decide +kernel
theorem dX15_isRightNow_75 : decode cX15_isRightNow 75 = .ok (.goto 4, 3) := by decide +kernel
theorem dX15_isRightNow_78 : decode cX15_isRightNow 78 = .ok (.iconst 0, 1) := by decide +kernel
theorem dX15_isRightNow_79 : decode cX15_isRightNow 79 = .ok (.ireturn, 1) := by decide +kernel
theorem dX15_isSound_0 : decode cX15_isSound 0 = .ok (.aload_n 0, 1) := by decide +kernel
theorem dX15_isSound_1 : decode cX15_isSound 1 = .ok (.iconst 0, 1) := by decide +kernel
theorem dX15_isSound_2 : decode cX15_isSound 2 = .ok (.putfield 1, 3) := by decide +kernel
theorem dX15_isSound_5 : decode cX15_isSound 5 = .ok (.iconst 1, 1) := by decide +kernel
theorem dX15_isSound_6 : decode cX15_isSound 6 = .ok (.ireturn, 1) := by decide +kernel
theorem dX15_isWire_0 : decode cX15_isWire 0 = .ok (.iload_n 1, 1) := by decide +kernel
theorem dX15_isWire_1 : decode cX15_isWire 1 = .ok (.iconst 0, 1) := by decide +kernel
theorem dX15_isWire_2 : decode cX15_isWire 2 = .ok (.aload_n 0, 1) := by decide +kernel
theorem dX15_isWire_3 : decode cX15_isWire 3 = .ok (.getfield 492, 3) := by decide +kernel
theorem dX15_isWire_6 : decode cX15_isWire 6 = .ok (.iconst 1, 1) := by decide +kernel
theorem dX15_isWire_7 : decode cX15_isWire 7 = .ok (.isub, 1) := by decide +kernel
theorem dX15_isWire_8 : decode cX15_isWire 8 = .ok (.invokestatic 98, 3) := by decide +kernel
theorem dX15_isWire_11 : decode cX15_isWire 11 = .ok (.ireturn, 1) := by decide +kernel
theorem dX15_isWrong_0 : decode cX15_isWrong 0 = .ok (.aload_n 0, 1) := by decide +kernel
theorem dX15_isWrong_1 : decode cX15_isWrong 1 = .ok (.iload_n 1, 1) := by decide +kernel
theorem dX15_isWrong_2 : decode cX15_isWrong 2 = .ok (.putfield 1, 3) := by decide +kernel
theorem dX15_isWrong_5 : decode cX15_isWrong 5 = .ok (.iload_n 1, 1) := by decide +kernel
theorem dX15_isWrong_6 : decode cX15_isWrong 6 = .ok (.ifCond .le 7, 3) := by decide +kernel
theorem dX15_isWrong_9 : decode cX15_isWrong 9 = .ok (.iconst 1, 1) := by decide +kernel
theorem dX15_isWrong_10 : decode cX15_isWrong 10 = .ok (.goto 4, 3) := by decide +kernel
theorem dX15_isWrong_13 : decode cX15_isWrong 13 = .ok (.iconst 0, 1) := by decide +kernel
theorem dX15_isWrong_14 : decode cX15_isWrong 14 = .ok (.ireturn, 1) := by decide +kernel
theorem dX15_known_0 : decode cX15_known 0 = .ok (.aload_n 0, 1) := by decide +kernel
theorem dX15_known_1 : decode cX15_known 1 = .ok (.aload_n 0, 1) := by decide +kernel
theorem dX15_known_2 : decode cX15_known 2 = .ok (.iload_n 1, 1) := by decide +kernel
theorem dX15_known_3 : decode cX15_known 3 = .ok (.invokevirtual 283, 3) := by decide +kernel
theorem dX15_known_6 : decode cX15_known 6 = .ok (.ifCond .eq 7, 3) := by decide +kernel
theorem dX15_known_9 : decode cX15_known 9 = .ok (.iconst 0, 1) := by decide +kernel
theorem dX15_known_10 : decode cX15_known 10 = .ok (.goto 4, 3) := by decide +kernel
theorem dX15_known_13 : decode cX15_known 13 = .ok (.iconst 1, 1) := by decide +kernel
theorem dX15_known_14 : decode cX15_known 14 = .ok (.invokevirtual 106, 3) := by decide +kernel
theorem dX15_known_17 : decode cX15_known 17 = .ok (.ifCond .eq 5, 3) := by decide +kernel
theorem dX15_known_20 : decode cX15_known 20 = .ok (.iconst 0, 1) := by decide +kernel
theorem dX15_known_21 : decode cX15_known 21 = .ok (.ireturn, 1) := by decide +kernel
theorem dX15_known_22 : decode cX15_known 22 = .ok (.aload_n 0, 1) := by decide +kernel
theorem dX15_known_23 : decode cX15_known 23 = .ok (.getfield 32, 3) := by decide +kernel
theorem dX15_known_26 : decode cX15_known 26 = .ok (.iload_n 1, 1) := by decide +kernel
theorem dX15_known_27 : decode cX15_known 27 = .ok (.invokeinterface 143 2, 5) := by decide +kernel
theorem dX15_known_32 : decode cX15_known 32 = .ok (.checkcast 200, 3) := by decide +kernel
theorem dX15_known_35 : decode cX15_known 35 = .ok (.getfield 256, 3) := by decide +kernel
theorem dX15_known_38 : decode cX15_known 38 = .ok (.astore_n 3, 1) := by decide +kernel
theorem dX15_known_39 : decode cX15_known 39 = .ok (.iconst 0, 1) := by decide +kernel
theorem dX15_known_40 : decode cX15_known 40 = .ok (.istore 4, 2) := by decide +kernel
theorem dX15_known_42 : decode cX15_known 42 = .ok (.iconst 0, 1) := by decide +kernel
theorem dX15_known_43 : decode cX15_known 43 = .ok (.istore 5, 2) := by decide +kernel
theorem dX15_known_45 : decode cX15_known 45 = .ok (.iload 5, 2) := by decide +kernel
theorem dX15_known_47 : decode cX15_known 47 = .ok (.aload_n 3, 1) := by decide +kernel
theorem dX15_known_48 : decode cX15_known 48 = .ok (.arraylength, 1) := by decide +kernel
theorem dX15_known_49 : decode cX15_known 49 = .ok (.if_icmp .ge 53, 3) := by decide +kernel
theorem dX15_known_52 : decode cX15_known 52 = .ok (.iload 4, 2) := by decide +kernel
theorem dX15_known_54 : decode cX15_known 54 = .ok (.iload_n 2, 1) := by decide +kernel
theorem dX15_known_55 : decode cX15_known 55 = .ok (.ifCond .eq 22, 3) := by decide +kernel
theorem dX15_known_58 : decode cX15_known 58 = .ok (.aload_n 3, 1) := by decide +kernel
theorem dX15_known_59 : decode cX15_known 59 = .ok (.iload 5, 2) := by decide +kernel
theorem dX15_known_61 : decode cX15_known 61 = .ok (.iaload, 1) := by decide +kernel
theorem dX15_known_62 : decode cX15_known 62 = .ok (.iconst 1, 1) := by decide +kernel
theorem dX15_known_63 : decode cX15_known 63 = .ok (.if_icmp .ne 10, 3) := by decide +kernel
theorem dX15_known_66 : decode cX15_known 66 = .ok (.iconst 1, 1) := by decide +kernel
theorem dX15_known_67 : decode cX15_known 67 = .ok (.iload 5, 2) := by decide +kernel
theorem dX15_known_69 : decode cX15_known 69 = .ok (.ishl, 1) := by decide +kernel
theorem dX15_known_70 : decode cX15_known 70 = .ok (.goto 23, 3) := by decide +kernel
theorem dX15_known_73 : decode cX15_known 73 = .ok (.iconst 0, 1) := by decide +kernel
theorem dX15_known_74 : decode cX15_known 74 = .ok (.goto 19, 3) := by decide +kernel
theorem dX15_known_77 : decode cX15_known 77 = .ok (.aload_n 3, 1) := by decide +kernel
theorem dX15_known_78 : decode cX15_known 78 = .ok (.iload 5, 2) := by decide +kernel
theorem dX15_known_80 : decode cX15_known 80 = .ok (.iaload, 1) := by decide +kernel
theorem dX15_known_81 : decode cX15_known 81 = .ok (.iconst 2, 1) := by decide +kernel
theorem dX15_known_82 : decode cX15_known 82 = .ok (.if_icmp .eq 10, 3) := by decide +kernel
theorem dX15_known_85 : decode cX15_known 85 = .ok (.iconst 1, 1) := by decide +kernel
theorem dX15_known_86 : decode cX15_known 86 = .ok (.iload 5, 2) := by decide +kernel
theorem dX15_known_88 : decode cX15_known 88 = .ok (.ishl, 1) := by decide +kernel
theorem dX15_known_89 : decode cX15_known 89 = .ok (.goto 4, 3) := by decide +kernel
theorem dX15_known_92 : decode cX15_known 92 = .ok (.iconst 0, 1) := by decide +kernel
theorem dX15_known_93 : decode cX15_known 93 = .ok (.ior, 1) := by decide +kernel
theorem dX15_known_94 : decode cX15_known 94 = .ok (.istore 4, 2) := by decide +kernel
theorem dX15_known_96 : decode cX15_known 96 = .ok (.iinc 5 1, 3) := by decide +kernel
theorem dX15_known_99 : decode cX15_known 99 = .ok (.goto (-54), 3) := by decide +kernel
theorem dX15_known_102 : decode cX15_known 102 = .ok (.iload 4, 2) := by decide +kernel
theorem dX15_known_104 : decode cX15_known 104 = .ok (.ireturn, 1) := by decide +kernel
theorem dX15_least_0 : decode cX15_least 0 = .ok (.aload_n 0, 1) := by decide +kernel
theorem dX15_least_1 : decode cX15_least 1 = .ok (.aload_n 0, 1) := by decide +kernel
theorem dX15_least_2 : decode cX15_least 2 = .ok (.getfield 83, 3) := by decide +kernel
theorem dX15_least_5 : decode cX15_least 5 = .ok (.invokeinterface 349 1, 5) := by decide +kernel
theorem dX15_least_10 : decode cX15_least 10 = .ok (.ifCond .ne 12, 3) := by decide +kernel
theorem dX15_least_13 : decode cX15_least 13 = .ok (.aload_n 0, 1) := by decide +kernel
theorem dX15_least_14 : decode cX15_least 14 = .ok (.iload_n 1, 1) := by decide +kernel
theorem dX15_least_15 : decode cX15_least 15 = .ok (.iload_n 2, 1) := by decide +kernel
theorem dX15_least_16 : decode cX15_least 16 = .ok (.invokevirtual 537, 3) := by decide +kernel
theorem dX15_least_19 : decode cX15_least 19 = .ok (.ifCond .ne 7, 3) := by decide +kernel
theorem dX15_least_22 : decode cX15_least 22 = .ok (.iconst 1, 1) := by decide +kernel
theorem dX15_least_23 : decode cX15_least 23 = .ok (.goto 4, 3) := by decide +kernel
theorem dX15_least_26 : decode cX15_least 26 = .ok (.iconst 0, 1) := by decide +kernel
theorem dX15_least_27 : decode cX15_least 27 = .ok (.invokevirtual 106, 3) := by decide +kernel
theorem dX15_least_30 : decode cX15_least 30 = .ok (.ifCond .eq 5, 3) := by decide +kernel
theorem dX15_least_33 : decode cX15_least 33 = .ok (.iconst 0, 1) := by decide +kernel
theorem dX15_least_34 : decode cX15_least 34 = .ok (.ireturn, 1) := by decide +kernel
theorem dX15_least_35 : decode cX15_least 35 = .ok (.aload_n 0, 1) := by decide +kernel
theorem dX15_least_36 : decode cX15_least 36 = .ok (.iload_n 1, 1) := by decide +kernel
theorem dX15_least_37 : decode cX15_least 37 = .ok (.iload_n 2, 1) := by decide +kernel
theorem dX15_least_38 : decode cX15_least 38 = .ok (.invokevirtual 540, 3) := by decide +kernel
theorem dX15_least_41 : decode cX15_least 41 = .ok (.aload_n 0, 1) := by decide +kernel
theorem dX15_least_42 : decode cX15_least 42 = .ok (.getfield 526, 3) := by decide +kernel
theorem dX15_least_45 : decode cX15_least 45 = .ok (.ireturn, 1) := by decide +kernel
theorem dX15_lineOf_0 : decode cX15_lineOf 0 = .ok (.aload_n 0, 1) := by decide +kernel
theorem dX15_lineOf_1 : decode cX15_lineOf 1 = .ok (.aload_n 0, 1) := by decide +kernel
theorem dX15_lineOf_2 : decode cX15_lineOf 2 = .ok (.iload_n 1, 1) := by decide +kernel
theorem dX15_lineOf_3 : decode cX15_lineOf 3 = .ok (.invokevirtual 286, 3) := by decide +kernel
theorem dX15_lineOf_6 : decode cX15_lineOf 6 = .ok (.ifCond .eq 7, 3) := by decide +kernel
theorem dX15_lineOf_9 : decode cX15_lineOf 9 = .ok (.iconst 0, 1) := by decide +kernel
theorem dX15_lineOf_10 : decode cX15_lineOf 10 = .ok (.goto 4, 3) := by decide +kernel
theorem dX15_lineOf_13 : decode cX15_lineOf 13 = .ok (.iconst 1, 1) := by decide +kernel
theorem dX15_lineOf_14 : decode cX15_lineOf 14 = .ok (.invokevirtual 106, 3) := by decide +kernel
theorem dX15_lineOf_17 : decode cX15_lineOf 17 = .ok (.ifCond .eq 7, 3) := by decide +kernel
theorem dX15_lineOf_20 : decode cX15_lineOf 20 = .ok (.iconst 0, 1) := by decide +kernel
theorem dX15_lineOf_21 : decode cX15_lineOf 21 = .ok (.goto 19, 3) := by decide +kernel
theorem dX15_lineOf_24 : decode cX15_lineOf 24 = .ok (.aload_n 0, 1) := by decide +kernel
theorem dX15_lineOf_25 : decode cX15_lineOf 25 = .ok (.getfield 26, 3) := by decide +kernel
theorem dX15_lineOf_28 : decode cX15_lineOf 28 = .ok (.iload_n 1, 1) := by decide +kernel
theorem dX15_lineOf_29 : decode cX15_lineOf 29 = .ok (.invokeinterface 143 2, 5) := by decide +kernel
theorem dX15_lineOf_34 : decode cX15_lineOf 34 = .ok (.checkcast 170, 3) := by decide +kernel
theorem dX15_lineOf_37 : decode cX15_lineOf 37 = .ok (.getfield 232, 3) := by decide +kernel
theorem dX15_lineOf_40 : decode cX15_lineOf 40 = .ok (.ireturn, 1) := by decide +kernel
theorem dX15_make_0 : decode cX15_make 0 = .ok (.aload_n 0, 1) := by decide +kernel
theorem dX15_make_1 : decode cX15_make 1 = .ok (.aload_n 0, 1) := by decide +kernel
theorem dX15_make_2 : decode cX15_make 2 = .ok (.iload_n 1, 1) := by decide +kernel
theorem dX15_make_3 : decode cX15_make 3 = .ok (.invokevirtual 286, 3) := by decide +kernel
theorem dX15_make_6 : decode cX15_make 6 = .ok (.ifCond .ne 7, 3) := by decide +kernel
theorem dX15_make_9 : decode cX15_make 9 = .ok (.iconst 1, 1) := by decide +kernel
theorem dX15_make_10 : decode cX15_make 10 = .ok (.goto 27, 3) := by decide +kernel
theorem dX15_make_13 : decode cX15_make 13 = .ok (.aload_n 0, 1) := by decide +kernel
theorem dX15_make_14 : decode cX15_make 14 = .ok (.getfield 26, 3) := by decide +kernel
theorem dX15_make_17 : decode cX15_make 17 = .ok (.iload_n 1, 1) := by decide +kernel
theorem dX15_make_18 : decode cX15_make 18 = .ok (.invokeinterface 143 2, 5) := by decide +kernel
theorem dX15_make_23 : decode cX15_make 23 = .ok (.checkcast 170, 3) := by decide +kernel
theorem dX15_make_26 : decode cX15_make 26 = .ok (.invokevirtual 241, 3) := by decide +kernel
theorem dX15_make_29 : decode cX15_make 29 = .ok (.ifCond .eq 7, 3) := by decide +kernel
theorem dX15_make_32 : decode cX15_make 32 = .ok (.iconst 2, 1) := by decide +kernel
theorem dX15_make_33 : decode cX15_make 33 = .ok (.goto 4, 3) := by decide +kernel
theorem dX15_make_36 : decode cX15_make 36 = .ok (.iconst 0, 1) := by decide +kernel
theorem dX15_make_37 : decode cX15_make 37 = .ok (.invokevirtual 106, 3) := by decide +kernel
theorem dX15_make_40 : decode cX15_make 40 = .ok (.ifCond .eq 5, 3) := by decide +kernel
theorem dX15_make_43 : decode cX15_make 43 = .ok (.iconst 0, 1) := by decide +kernel
theorem dX15_make_44 : decode cX15_make 44 = .ok (.ireturn, 1) := by decide +kernel
theorem dX15_make_45 : decode cX15_make 45 = .ok (.aload_n 0, 1) := by decide +kernel
theorem dX15_make_46 : decode cX15_make 46 = .ok (.getfield 20, 3) := by decide +kernel
theorem dX15_make_49 : decode cX15_make 49 = .ok (.invokeinterface 92 1, 5) := by decide +kernel
theorem dX15_make_54 : decode cX15_make 54 = .ok (.newarray .int, 2) := by decide +kernel
theorem dX15_make_56 : decode cX15_make 56 = .ok (.astore_n 2, 1) := by decide +kernel
theorem dX15_make_57 : decode cX15_make 57 = .ok (.aload_n 2, 1) := by decide +kernel
theorem dX15_make_58 : decode cX15_make 58 = .ok (.iconst 2, 1) := by decide +kernel
theorem dX15_make_59 : decode cX15_make 59 = .ok (.invokestatic 86, 3) := by decide +kernel
theorem dX15_make_62 : decode cX15_make 62 = .ok (.aload_n 0, 1) := by decide +kernel
theorem dX15_make_63 : decode cX15_make 63 = .ok (.aload_n 0, 1) := by decide +kernel
theorem dX15_make_64 : decode cX15_make 64 = .ok (.aload_n 0, 1) := by decide +kernel
theorem dX15_make_65 : decode cX15_make 65 = .ok (.getfield 26, 3) := by decide +kernel
theorem dX15_make_68 : decode cX15_make 68 = .ok (.iload_n 1, 1) := by decide +kernel
theorem dX15_make_69 : decode cX15_make 69 = .ok (.invokeinterface 143 2, 5) := by decide +kernel
theorem dX15_make_74 : decode cX15_make 74 = .ok (.checkcast 170, 3) := by decide +kernel
theorem dX15_make_77 : decode cX15_make 77 = .ok (.aload_n 2, 1) := by decide +kernel
theorem dX15_make_78 : decode cX15_make 78 = .ok (.iconst 0, 1) := by decide +kernel
theorem dX15_make_79 : decode cX15_make 79 = .ok (.invokevirtual 352, 3) := by decide +kernel
theorem dX15_make_82 : decode cX15_make 82 = .ok (.ifCond .ne 7, 3) := by decide +kernel
theorem dX15_make_85 : decode cX15_make 85 = .ok (.iconst 3, 1) := by decide +kernel
theorem dX15_make_86 : decode cX15_make 86 = .ok (.goto 22, 3) := by decide +kernel
theorem dX15_make_89 : decode cX15_make 89 = .ok (.aload_n 0, 1) := by decide +kernel
theorem dX15_make_90 : decode cX15_make 90 = .ok (.getfield 32, 3) := by decide +kernel
theorem dX15_make_93 : decode cX15_make 93 = .ok (.invokeinterface 92 1, 5) := by decide +kernel
theorem dX15_make_98 : decode cX15_make 98 = .ok (.bipush 32, 2) := by decide +kernel
theorem dX15_make_100 : decode cX15_make 100 = .ok (.if_icmp .ne 7, 3) := by decide +kernel
theorem dX15_make_103 : decode cX15_make 103 = .ok (.iconst 4, 1) := by decide +kernel
theorem dX15_make_104 : decode cX15_make 104 = .ok (.goto 4, 3) := by decide +kernel
theorem dX15_make_107 : decode cX15_make 107 = .ok (.iconst 0, 1) := by decide +kernel
theorem dX15_make_108 : decode cX15_make 108 = .ok (.invokevirtual 106, 3) := by decide +kernel
theorem dX15_make_111 : decode cX15_make 111 = .ok (.ifCond .eq 5, 3) := by decide +kernel
theorem dX15_make_114 : decode cX15_make 114 = .ok (.iconst 0, 1) := by decide +kernel
theorem dX15_make_115 : decode cX15_make 115 = .ok (.ireturn, 1) := by decide +kernel
theorem dX15_make_116 : decode cX15_make 116 = .ok (.aload_n 0, 1) := by decide +kernel
theorem dX15_make_117 : decode cX15_make 117 = .ok (.getfield 32, 3) := by decide +kernel
theorem dX15_make_120 : decode cX15_make 120 = .ok (.new 200, 3) := by decide +kernel
theorem dX15_make_123 : decode cX15_make 123 = .ok (.dup, 1) := by decide +kernel
theorem dX15_make_124 : decode cX15_make 124 = .ok (.aload_n 2, 1) := by decide +kernel
theorem dX15_make_125 : decode cX15_make 125 = .ok (.invokespecial 202, 3) := by decide +kernel
theorem dX15_make_128 : decode cX15_make 128 = .ok (.invokeinterface 124 2, 5) := by decide +kernel
theorem dX15_make_133 : decode cX15_make 133 = .ok (.pop, 1) := by decide +kernel
theorem dX15_make_134 : decode cX15_make 134 = .ok (.aload_n 0, 1) := by decide +kernel
theorem dX15_make_135 : decode cX15_make 135 = .ok (.getfield 32, 3) := by decide +kernel
theorem dX15_make_138 : decode cX15_make 138 = .ok (.invokeinterface 92 1, 5) := by decide +kernel
theorem dX15_make_143 : decode cX15_make 143 = .ok (.iconst 1, 1) := by decide +kernel
theorem dX15_make_144 : decode cX15_make 144 = .ok (.isub, 1) := by decide +kernel
theorem dX15_make_145 : decode cX15_make 145 = .ok (.ireturn, 1) := by decide +kernel
theorem dX15_marchCount_0 : decode cX15_marchCount 0 = .ok (.aload_n 0, 1) := by decide +kernel
theorem dX15_marchCount_1 : decode cX15_marchCount 1 = .ok (.ldc_w 483, 3) := by decide +kernel
theorem dX15_marchCount_4 : decode cX15_marchCount 4 = .ok (.iload_n 1, 1) := by decide +kernel
theorem dX15_marchCount_5 : decode cX15_marchCount 5 = .ok (.invokevirtual 134, 3) := by decide +kernel
theorem dX15_marchCount_8 : decode cX15_marchCount 8 = .ok (.ifCond .ge 7, 3) := by decide +kernel
theorem dX15_marchCount_11 : decode cX15_marchCount 11 = .ok (.iconst 1, 1) := by decide +kernel
theorem dX15_marchCount_12 : decode cX15_marchCount 12 = .ok (.goto 15, 3) := by decide +kernel
theorem dX15_marchCount_15 : decode cX15_marchCount 15 = .ok (.aload_n 0, 1) := by decide +kernel
theorem dX15_marchCount_16 : decode cX15_marchCount 16 = .ok (.invokevirtual 480, 3) := by decide +kernel
theorem dX15_marchCount_19 : decode cX15_marchCount 19 = .ok (.ifCond .ne 7, 3) := by decide +kernel
theorem dX15_marchCount_22 : decode cX15_marchCount 22 = .ok (.iconst 2, 1) := by decide +kernel
theorem dX15_marchCount_23 : decode cX15_marchCount 23 = .ok (.goto 4, 3) := by decide +kernel
theorem dX15_marchCount_26 : decode cX15_marchCount 26 = .ok (.iconst 0, 1) := by decide +kernel
theorem dX15_marchCount_27 : decode cX15_marchCount 27 = .ok (.invokevirtual 106, 3) := by decide +kernel
theorem dX15_marchCount_30 : decode cX15_marchCount 30 = .ok (.ifCond .eq 5, 3) := by decide +kernel
theorem dX15_marchCount_33 : decode cX15_marchCount 33 = .ok (.iconst 0, 1) := by decide +kernel
theorem dX15_marchCount_34 : decode cX15_marchCount 34 = .ok (.ireturn, 1) := by decide +kernel
theorem dX15_marchCount_35 : decode cX15_marchCount 35 = .ok (.iload_n 1, 1) := by decide +kernel
theorem dX15_marchCount_36 : decode cX15_marchCount 36 = .ok (.bipush 99, 2) := by decide +kernel
theorem dX15_marchCount_38 : decode cX15_marchCount 38 = .ok (.if_icmp .eq 15, 3) := by decide +kernel
theorem dX15_marchCount_41 : decode cX15_marchCount 41 = .ok (.iload_n 1, 1) := by decide +kernel
theorem dX15_marchCount_42 : decode cX15_marchCount 42 = .ok (.bipush 105, 2) := by decide +kernel
theorem dX15_marchCount_44 : decode cX15_marchCount 44 = .ok (.if_icmp .eq 9, 3) := by decide +kernel
theorem dX15_marchCount_47 : decode cX15_marchCount 47 = .ok (.iload_n 1, 1) := by decide +kernel
theorem dX15_marchCount_48 : decode cX15_marchCount 48 = .ok (.bipush 97, 2) := by decide +kernel
theorem dX15_marchCount_50 : decode cX15_marchCount 50 = .ok (.if_icmp .ne 7, 3) := by decide +kernel
theorem dX15_marchCount_53 : decode cX15_marchCount 53 = .ok (.iconst 1, 1) := by decide +kernel
theorem dX15_marchCount_54 : decode cX15_marchCount 54 = .ok (.goto 4, 3) := by decide +kernel
theorem dX15_marchCount_57 : decode cX15_marchCount 57 = .ok (.iconst 0, 1) := by decide +kernel
theorem dX15_marchCount_58 : decode cX15_marchCount 58 = .ok (.istore_n 2, 1) := by decide +kernel
theorem dX15_marchCount_59 : decode cX15_marchCount 59 = .ok (.iconst 0, 1) := by decide +kernel
theorem dX15_marchCount_60 : decode cX15_marchCount 60 = .ok (.istore_n 3, 1) := by decide +kernel
theorem dX15_marchCount_61 : decode cX15_marchCount 61 = .ok (.iconst 0, 1) := by decide +kernel
theorem dX15_marchCount_62 : decode cX15_marchCount 62 = .ok (.istore 4, 2) := by decide +kernel
theorem dX15_marchCount_64 : decode cX15_marchCount 64 = .ok (.iload 4, 2) := by decide +kernel
theorem dX15_marchCount_66 : decode cX15_marchCount 66 = .ok (.sipush 256, 3) := by decide +kernel
theorem dX15_marchCount_69 : decode cX15_marchCount 69 = .ok (.if_icmp .ge 116, 3) := by decide +kernel
theorem dX15_marchCount_72 : decode cX15_marchCount 72 = .ok (.iload 4, 2) := by decide +kernel
theorem dX15_marchCount_74 : decode cX15_marchCount 74 = .ok (.bipush 32, 2) := by decide +kernel
theorem dX15_marchCount_76 : decode cX15_marchCount 76 = .ok (.idiv, 1) := by decide +kernel
theorem dX15_marchCount_77 : decode cX15_marchCount 77 = .ok (.istore 5, 2) := by decide +kernel
theorem dX15_marchCount_79 : decode cX15_marchCount 79 = .ok (.iload 4, 2) := by decide +kernel
theorem dX15_marchCount_81 : decode cX15_marchCount 81 = .ok (.iconst 4, 1) := by decide +kernel
theorem dX15_marchCount_82 : decode cX15_marchCount 82 = .ok (.idiv, 1) := by decide +kernel
theorem dX15_marchCount_83 : decode cX15_marchCount 83 = .ok (.bipush 8, 2) := by decide +kernel
theorem dX15_marchCount_85 : decode cX15_marchCount 85 = .ok (.irem, 1) := by decide +kernel
theorem dX15_marchCount_86 : decode cX15_marchCount 86 = .ok (.istore 6, 2) := by decide +kernel
theorem dX15_marchCount_88 : decode cX15_marchCount 88 = .ok (.iload 4, 2) := by decide +kernel
theorem dX15_marchCount_90 : decode cX15_marchCount 90 = .ok (.iconst 2, 1) := by decide +kernel
theorem dX15_marchCount_91 : decode cX15_marchCount 91 = .ok (.idiv, 1) := by decide +kernel
theorem dX15_marchCount_92 : decode cX15_marchCount 92 = .ok (.iconst 2, 1) := by decide +kernel
theorem dX15_marchCount_93 : decode cX15_marchCount 93 = .ok (.irem, 1) := by decide +kernel
theorem dX15_marchCount_94 : decode cX15_marchCount 94 = .ok (.istore 7, 2) := by decide +kernel
theorem dX15_marchCount_96 : decode cX15_marchCount 96 = .ok (.iload 4, 2) := by decide +kernel
theorem dX15_marchCount_98 : decode cX15_marchCount 98 = .ok (.iconst 2, 1) := by decide +kernel
theorem dX15_marchCount_99 : decode cX15_marchCount 99 = .ok (.irem, 1) := by decide +kernel
theorem dX15_marchCount_100 : decode cX15_marchCount 100 = .ok (.istore 8, 2) := by decide +kernel
theorem dX15_marchCount_102 : decode cX15_marchCount 102 = .ok (.iload_n 2, 1) := by decide +kernel
theorem dX15_marchCount_103 : decode cX15_marchCount 103 = .ok (.ifCond .eq 13, 3) := by decide +kernel
theorem dX15_marchCount_106 : decode cX15_marchCount 106 = .ok (.iload 5, 2) := by decide +kernel
theorem dX15_marchCount_108 : decode cX15_marchCount 108 = .ok (.iload 6, 2) := by decide +kernel
theorem dX15_marchCount_110 : decode cX15_marchCount 110 = .ok (.if_icmp .eq 37, 3) := by decide +kernel
theorem dX15_marchCount_113 : decode cX15_marchCount 113 = .ok (.goto 8, 3) := by decide +kernel
theorem dX15_marchCount_116 : decode cX15_marchCount 116 = .ok (.iload 6, 2) := by decide +kernel
theorem dX15_marchCount_118 : decode cX15_marchCount 118 = .ok (.ifCond .ne 29, 3) := by decide +kernel
theorem dX15_marchCount_121 : decode cX15_marchCount 121 = .ok (.iload_n 1, 1) := by decide +kernel
theorem dX15_marchCount_122 : decode cX15_marchCount 122 = .ok (.bipush 99, 2) := by decide +kernel
theorem dX15_marchCount_124 : decode cX15_marchCount 124 = .ok (.if_icmp .eq 8, 3) := by decide +kernel
theorem dX15_marchCount_127 : decode cX15_marchCount 127 = .ok (.iload 8, 2) := by decide +kernel
theorem dX15_marchCount_129 : decode cX15_marchCount 129 = .ok (.ifCond .ne 18, 3) := by decide +kernel
theorem dX15_marchCount_132 : decode cX15_marchCount 132 = .ok (.iload_n 1, 1) := by decide +kernel
theorem dX15_marchCount_133 : decode cX15_marchCount 133 = .ok (.bipush 97, 2) := by decide +kernel
theorem dX15_marchCount_135 : decode cX15_marchCount 135 = .ok (.if_icmp .ne 8, 3) := by decide +kernel
theorem dX15_marchCount_138 : decode cX15_marchCount 138 = .ok (.iload 7, 2) := by decide +kernel
theorem dX15_marchCount_140 : decode cX15_marchCount 140 = .ok (.ifCond .ne 7, 3) := by decide +kernel
theorem dX15_marchCount_143 : decode cX15_marchCount 143 = .ok (.iconst 1, 1) := by decide +kernel
theorem dX15_marchCount_144 : decode cX15_marchCount 144 = .ok (.goto 4, 3) := by decide +kernel
theorem dX15_marchCount_147 : decode cX15_marchCount 147 = .ok (.iconst 0, 1) := by decide +kernel
theorem dX15_marchCount_148 : decode cX15_marchCount 148 = .ok (.istore 9, 2) := by decide +kernel
theorem dX15_marchCount_150 : decode cX15_marchCount 150 = .ok (.iload_n 3, 1) := by decide +kernel
theorem dX15_marchCount_151 : decode cX15_marchCount 151 = .ok (.iload 9, 2) := by decide +kernel
theorem dX15_marchCount_153 : decode cX15_marchCount 153 = .ok (.ifCond .eq 23, 3) := by decide +kernel
theorem dX15_marchCount_156 : decode cX15_marchCount 156 = .ok (.aload_n 0, 1) := by decide +kernel
theorem dX15_marchCount_157 : decode cX15_marchCount 157 = .ok (.iload_n 1, 1) := by decide +kernel
theorem dX15_marchCount_158 : decode cX15_marchCount 158 = .ok (.iload 5, 2) := by decide +kernel
theorem dX15_marchCount_160 : decode cX15_marchCount 160 = .ok (.iload 6, 2) := by decide +kernel
theorem dX15_marchCount_162 : decode cX15_marchCount 162 = .ok (.iload 7, 2) := by decide +kernel
theorem dX15_marchCount_164 : decode cX15_marchCount 164 = .ok (.iload 8, 2) := by decide +kernel
theorem dX15_marchCount_166 : decode cX15_marchCount 166 = .ok (.invokevirtual 485, 3) := by decide +kernel
theorem dX15_marchCount_169 : decode cX15_marchCount 169 = .ok (.ifCond .eq 7, 3) := by decide +kernel
theorem dX15_marchCount_172 : decode cX15_marchCount 172 = .ok (.iconst 1, 1) := by decide +kernel
theorem dX15_marchCount_173 : decode cX15_marchCount 173 = .ok (.goto 4, 3) := by decide +kernel
theorem dX15_marchCount_176 : decode cX15_marchCount 176 = .ok (.iconst 0, 1) := by decide +kernel
theorem dX15_marchCount_177 : decode cX15_marchCount 177 = .ok (.iadd, 1) := by decide +kernel
theorem dX15_marchCount_178 : decode cX15_marchCount 178 = .ok (.istore_n 3, 1) := by decide +kernel
theorem dX15_marchCount_179 : decode cX15_marchCount 179 = .ok (.iinc 4 1, 3) := by decide +kernel
theorem dX15_marchCount_182 : decode cX15_marchCount 182 = .ok (.goto (-118), 3) := by decide +kernel
theorem dX15_marchCount_185 : decode cX15_marchCount 185 = .ok (.iload_n 3, 1) := by decide +kernel
theorem dX15_marchCount_186 : decode cX15_marchCount 186 = .ok (.ireturn, 1) := by decide +kernel
theorem dX15_marchFinds_0 : decode cX15_marchFinds 0 = .ok (.ldc_w 483, 3) := by decide +kernel
theorem dX15_marchFinds_3 : decode cX15_marchFinds 3 = .ok (.iload_n 1, 1) := by decide +kernel
theorem dX15_marchFinds_4 : decode cX15_marchFinds 4 = .ok (.invokevirtual 134, 3) := by decide +kernel
theorem dX15_marchFinds_7 : decode cX15_marchFinds 7 = .ok (.ifCond .lt 7, 3) := by decide +kernel
theorem dX15_marchFinds_10 : decode cX15_marchFinds 10 = .ok (.iconst 1, 1) := by decide +kernel
theorem dX15_marchFinds_11 : decode cX15_marchFinds 11 = .ok (.goto 4, 3) := by decide +kernel
theorem dX15_marchFinds_14 : decode cX15_marchFinds 14 = .ok (.iconst 0, 1) := by decide +kernel
theorem dX15_marchFinds_15 : decode cX15_marchFinds 15 = .ok (.istore 6, 2) := by decide +kernel
theorem dX15_marchFinds_17 : decode cX15_marchFinds 17 = .ok (.iload_n 1, 1) := by decide +kernel
theorem dX15_marchFinds_18 : decode cX15_marchFinds 18 = .ok (.bipush 99, 2) := by decide +kernel
theorem dX15_marchFinds_20 : decode cX15_marchFinds 20 = .ok (.if_icmp .eq 15, 3) := by decide +kernel
theorem dX15_marchFinds_23 : decode cX15_marchFinds 23 = .ok (.iload_n 1, 1) := by decide +kernel
theorem dX15_marchFinds_24 : decode cX15_marchFinds 24 = .ok (.bipush 105, 2) := by decide +kernel
theorem dX15_marchFinds_26 : decode cX15_marchFinds 26 = .ok (.if_icmp .eq 9, 3) := by decide +kernel
theorem dX15_marchFinds_29 : decode cX15_marchFinds 29 = .ok (.iload_n 1, 1) := by decide +kernel
theorem dX15_marchFinds_30 : decode cX15_marchFinds 30 = .ok (.bipush 97, 2) := by decide +kernel
theorem dX15_marchFinds_32 : decode cX15_marchFinds 32 = .ok (.if_icmp .ne 7, 3) := by decide +kernel
theorem dX15_marchFinds_35 : decode cX15_marchFinds 35 = .ok (.iconst 1, 1) := by decide +kernel
theorem dX15_marchFinds_36 : decode cX15_marchFinds 36 = .ok (.goto 4, 3) := by decide +kernel
theorem dX15_marchFinds_39 : decode cX15_marchFinds 39 = .ok (.iconst 0, 1) := by decide +kernel
theorem dX15_marchFinds_40 : decode cX15_marchFinds 40 = .ok (.istore 7, 2) := by decide +kernel
theorem dX15_marchFinds_42 : decode cX15_marchFinds 42 = .ok (.iload 6, 2) := by decide +kernel
theorem dX15_marchFinds_44 : decode cX15_marchFinds 44 = .ok (.ifCond .eq 69, 3) := by decide +kernel
theorem dX15_marchFinds_47 : decode cX15_marchFinds 47 = .ok (.iload_n 2, 1) := by decide +kernel
theorem dX15_marchFinds_48 : decode cX15_marchFinds 48 = .ok (.iconst 0, 1) := by decide +kernel
theorem dX15_marchFinds_49 : decode cX15_marchFinds 49 = .ok (.bipush 7, 2) := by decide +kernel
theorem dX15_marchFinds_51 : decode cX15_marchFinds 51 = .ok (.invokestatic 98, 3) := by decide +kernel
theorem dX15_marchFinds_54 : decode cX15_marchFinds 54 = .ok (.ifCond .eq 59, 3) := by decide +kernel
theorem dX15_marchFinds_57 : decode cX15_marchFinds 57 = .ok (.iload 7, 2) := by decide +kernel
theorem dX15_marchFinds_59 : decode cX15_marchFinds 59 = .ok (.ifCond .eq 18, 3) := by decide +kernel
theorem dX15_marchFinds_62 : decode cX15_marchFinds 62 = .ok (.iload_n 3, 1) := by decide +kernel
theorem dX15_marchFinds_63 : decode cX15_marchFinds 63 = .ok (.iconst 0, 1) := by decide +kernel
theorem dX15_marchFinds_64 : decode cX15_marchFinds 64 = .ok (.bipush 7, 2) := by decide +kernel
theorem dX15_marchFinds_66 : decode cX15_marchFinds 66 = .ok (.invokestatic 98, 3) := by decide +kernel
theorem dX15_marchFinds_69 : decode cX15_marchFinds 69 = .ok (.ifCond .eq 44, 3) := by decide +kernel
theorem dX15_marchFinds_72 : decode cX15_marchFinds 72 = .ok (.iload_n 2, 1) := by decide +kernel
theorem dX15_marchFinds_73 : decode cX15_marchFinds 73 = .ok (.iload_n 3, 1) := by decide +kernel
theorem dX15_marchFinds_74 : decode cX15_marchFinds 74 = .ok (.if_icmp .eq 39, 3) := by decide +kernel
theorem dX15_marchFinds_77 : decode cX15_marchFinds 77 = .ok (.iload_n 1, 1) := by decide +kernel
theorem dX15_marchFinds_78 : decode cX15_marchFinds 78 = .ok (.bipush 97, 2) := by decide +kernel
theorem dX15_marchFinds_80 : decode cX15_marchFinds 80 = .ok (.if_icmp .eq 13, 3) := by decide +kernel
theorem dX15_marchFinds_83 : decode cX15_marchFinds 83 = .ok (.iload 4, 2) := by decide +kernel
theorem dX15_marchFinds_85 : decode cX15_marchFinds 85 = .ok (.iconst 0, 1) := by decide +kernel
theorem dX15_marchFinds_86 : decode cX15_marchFinds 86 = .ok (.iconst 1, 1) := by decide +kernel
theorem dX15_marchFinds_87 : decode cX15_marchFinds 87 = .ok (.invokestatic 98, 3) := by decide +kernel
theorem dX15_marchFinds_90 : decode cX15_marchFinds 90 = .ok (.ifCond .eq 23, 3) := by decide +kernel
theorem dX15_marchFinds_93 : decode cX15_marchFinds 93 = .ok (.iload_n 1, 1) := by decide +kernel
theorem dX15_marchFinds_94 : decode cX15_marchFinds 94 = .ok (.bipush 99, 2) := by decide +kernel
theorem dX15_marchFinds_96 : decode cX15_marchFinds 96 = .ok (.if_icmp .ne 13, 3) := by decide +kernel
theorem dX15_marchFinds_99 : decode cX15_marchFinds 99 = .ok (.iload 5, 2) := by decide +kernel
theorem dX15_marchFinds_101 : decode cX15_marchFinds 101 = .ok (.iconst 0, 1) := by decide +kernel
theorem dX15_marchFinds_102 : decode cX15_marchFinds 102 = .ok (.iconst 1, 1) := by decide +kernel
theorem dX15_marchFinds_103 : decode cX15_marchFinds 103 = .ok (.invokestatic 98, 3) := by decide +kernel
theorem dX15_marchFinds_106 : decode cX15_marchFinds 106 = .ok (.ifCond .eq 7, 3) := by decide +kernel
theorem dX15_marchFinds_109 : decode cX15_marchFinds 109 = .ok (.iconst 1, 1) := by decide +kernel
theorem dX15_marchFinds_110 : decode cX15_marchFinds 110 = .ok (.goto 4, 3) := by decide +kernel
theorem dX15_marchFinds_113 : decode cX15_marchFinds 113 = .ok (.iconst 0, 1) := by decide +kernel
theorem dX15_marchFinds_114 : decode cX15_marchFinds 114 = .ok (.istore 8, 2) := by decide +kernel
theorem dX15_marchFinds_116 : decode cX15_marchFinds 116 = .ok (.aload_n 0, 1) := by decide +kernel
theorem dX15_marchFinds_117 : decode cX15_marchFinds 117 = .ok (.iload 8, 2) := by decide +kernel
theorem dX15_marchFinds_119 : decode cX15_marchFinds 119 = .ok (.ifCond .ne 7, 3) := by decide +kernel
theorem dX15_marchFinds_122 : decode cX15_marchFinds 122 = .ok (.iconst 1, 1) := by decide +kernel
theorem dX15_marchFinds_123 : decode cX15_marchFinds 123 = .ok (.goto 15, 3) := by decide +kernel
theorem dX15_marchFinds_126 : decode cX15_marchFinds 126 = .ok (.aload_n 0, 1) := by decide +kernel
theorem dX15_marchFinds_127 : decode cX15_marchFinds 127 = .ok (.invokevirtual 480, 3) := by decide +kernel
theorem dX15_marchFinds_130 : decode cX15_marchFinds 130 = .ok (.ifCond .ne 7, 3) := by decide +kernel
theorem dX15_marchFinds_133 : decode cX15_marchFinds 133 = .ok (.iconst 2, 1) := by decide +kernel
theorem dX15_marchFinds_134 : decode cX15_marchFinds 134 = .ok (.goto 4, 3) := by decide +kernel
theorem dX15_marchFinds_137 : decode cX15_marchFinds 137 = .ok (.iconst 0, 1) := by decide +kernel
theorem dX15_marchFinds_138 : decode cX15_marchFinds 138 = .ok (.invokevirtual 106, 3) := by decide +kernel
theorem dX15_marchFinds_141 : decode cX15_marchFinds 141 = .ok (.ifCond .eq 5, 3) := by decide +kernel
theorem dX15_marchFinds_144 : decode cX15_marchFinds 144 = .ok (.iconst 0, 1) := by decide +kernel
theorem dX15_marchFinds_145 : decode cX15_marchFinds 145 = .ok (.ireturn, 1) := by decide +kernel
theorem dX15_marchFinds_146 : decode cX15_marchFinds 146 = .ok (.aload_n 0, 1) := by decide +kernel
theorem dX15_marchFinds_147 : decode cX15_marchFinds 147 = .ok (.iload_n 1, 1) := by decide +kernel
theorem dX15_marchFinds_148 : decode cX15_marchFinds 148 = .ok (.iload_n 2, 1) := by decide +kernel
theorem dX15_marchFinds_149 : decode cX15_marchFinds 149 = .ok (.iload_n 3, 1) := by decide +kernel
theorem dX15_marchFinds_150 : decode cX15_marchFinds 150 = .ok (.iload 4, 2) := by decide +kernel
theorem dX15_marchFinds_152 : decode cX15_marchFinds 152 = .ok (.iload 5, 2) := by decide +kernel
theorem dX15_marchFinds_154 : decode cX15_marchFinds 154 = .ok (.invokevirtual 485, 3) := by decide +kernel
theorem dX15_marchFinds_157 : decode cX15_marchFinds 157 = .ok (.ireturn, 1) := by decide +kernel
theorem dX15_meanFound_0 : decode cX15_meanFound 0 = .ok (.aload_n 0, 1) := by decide +kernel
theorem dX15_meanFound_1 : decode cX15_meanFound 1 = .ok (.invokevirtual 318, 3) := by decide +kernel
theorem dX15_meanFound_4 : decode cX15_meanFound 4 = .ok (.astore_n 1, 1) := by decide +kernel
theorem dX15_meanFound_5 : decode cX15_meanFound 5 = .ok (.iconst 0, 1) := by decide +kernel
theorem dX15_meanFound_6 : decode cX15_meanFound 6 = .ok (.istore_n 2, 1) := by decide +kernel
theorem dX15_meanFound_7 : decode cX15_meanFound 7 = .ok (.aload_n 1, 1) := by decide +kernel
theorem dX15_meanFound_8 : decode cX15_meanFound 8 = .ok (.invokeinterface 156 1, 5) := by decide +kernel
theorem dX15_meanFound_13 : decode cX15_meanFound 13 = .ok (.astore_n 3, 1) := by decide +kernel
theorem dX15_meanFound_14 : decode cX15_meanFound 14 = .ok (.aload_n 3, 1) := by decide +kernel
theorem dX15_meanFound_15 : decode cX15_meanFound 15 = .ok (.invokeinterface 160 1, 5) := by decide +kernel
theorem dX15_meanFound_20 : decode cX15_meanFound 20 = .ok (.ifCond .eq 34, 3) := by decide +kernel
theorem dX15_meanFound_23 : decode cX15_meanFound 23 = .ok (.aload_n 3, 1) := by decide +kernel
theorem dX15_meanFound_24 : decode cX15_meanFound 24 = .ok (.invokeinterface 166 1, 5) := by decide +kernel
theorem dX15_meanFound_29 : decode cX15_meanFound 29 = .ok (.checkcast 119, 3) := by decide +kernel
theorem dX15_meanFound_32 : decode cX15_meanFound 32 = .ok (.invokevirtual 194, 3) := by decide +kernel
theorem dX15_meanFound_35 : decode cX15_meanFound 35 = .ok (.istore 4, 2) := by decide +kernel
theorem dX15_meanFound_37 : decode cX15_meanFound 37 = .ok (.iload_n 2, 1) := by decide +kernel
theorem dX15_meanFound_38 : decode cX15_meanFound 38 = .ok (.aload_n 0, 1) := by decide +kernel
theorem dX15_meanFound_39 : decode cX15_meanFound 39 = .ok (.iload 4, 2) := by decide +kernel
theorem dX15_meanFound_41 : decode cX15_meanFound 41 = .ok (.bipush 115, 2) := by decide +kernel
theorem dX15_meanFound_43 : decode cX15_meanFound 43 = .ok (.invokevirtual 345, 3) := by decide +kernel
theorem dX15_meanFound_46 : decode cX15_meanFound 46 = .ok (.invokestatic 407, 3) := by decide +kernel
theorem dX15_meanFound_49 : decode cX15_meanFound 49 = .ok (.iadd, 1) := by decide +kernel
theorem dX15_meanFound_50 : decode cX15_meanFound 50 = .ok (.istore_n 2, 1) := by decide +kernel
theorem dX15_meanFound_51 : decode cX15_meanFound 51 = .ok (.goto (-37), 3) := by decide +kernel
theorem dX15_meanFound_54 : decode cX15_meanFound 54 = .ok (.aload_n 0, 1) := by decide +kernel
theorem dX15_meanFound_55 : decode cX15_meanFound 55 = .ok (.aload_n 1, 1) := by decide +kernel
theorem dX15_meanFound_56 : decode cX15_meanFound 56 = .ok (.invokeinterface 349 1, 5) := by decide +kernel
theorem dX15_meanFound_61 : decode cX15_meanFound 61 = .ok (.ifCond .eq 7, 3) := by decide +kernel
theorem dX15_meanFound_64 : decode cX15_meanFound 64 = .ok (.iconst 1, 1) := by decide +kernel
theorem dX15_meanFound_65 : decode cX15_meanFound 65 = .ok (.goto 4, 3) := by decide +kernel
theorem dX15_meanFound_68 : decode cX15_meanFound 68 = .ok (.iconst 0, 1) := by decide +kernel
theorem dX15_meanFound_69 : decode cX15_meanFound 69 = .ok (.invokevirtual 106, 3) := by decide +kernel
theorem dX15_meanFound_72 : decode cX15_meanFound 72 = .ok (.ifCond .eq 7, 3) := by decide +kernel
theorem dX15_meanFound_75 : decode cX15_meanFound 75 = .ok (.dconst 0, 1) := by decide +kernel
theorem dX15_meanFound_76 : decode cX15_meanFound 76 = .ok (.goto 13, 3) := by decide +kernel
theorem dX15_meanFound_79 : decode cX15_meanFound 79 = .ok (.iload_n 2, 1) := by decide +kernel
theorem dX15_meanFound_80 : decode cX15_meanFound 80 = .ok (.i2d, 1) := by decide +kernel
theorem dX15_meanFound_81 : decode cX15_meanFound 81 = .ok (.aload_n 1, 1) := by decide +kernel
theorem dX15_meanFound_82 : decode cX15_meanFound 82 = .ok (.invokeinterface 92 1, 5) := by decide +kernel
theorem dX15_meanFound_87 : decode cX15_meanFound 87 = .ok (.i2d, 1) := by decide +kernel
theorem dX15_meanFound_88 : decode cX15_meanFound 88 = .ok (.ddiv, 1) := by decide +kernel
theorem dX15_meanFound_89 : decode cX15_meanFound 89 = .ok (.dreturn, 1) := by decide +kernel
theorem dX15_mend_0 : decode cX15_mend 0 = .ok (.aload_n 0, 1) := by decide +kernel
theorem dX15_mend_1 : decode cX15_mend 1 = .ok (.iconst 0, 1) := by decide +kernel
theorem dX15_mend_2 : decode cX15_mend 2 = .ok (.putfield 1, 3) := by decide +kernel
theorem dX15_mend_5 : decode cX15_mend 5 = .ok (.aload_n 0, 1) := by decide +kernel
theorem dX15_mend_6 : decode cX15_mend 6 = .ok (.getfield 29, 3) := by decide +kernel
theorem dX15_mend_9 : decode cX15_mend 9 = .ok (.invokeinterface 92 1, 5) := by decide +kernel
theorem dX15_mend_14 : decode cX15_mend 14 = .ok (.istore_n 1, 1) := by decide +kernel
theorem dX15_mend_15 : decode cX15_mend 15 = .ok (.aload_n 0, 1) := by decide +kernel
theorem dX15_mend_16 : decode cX15_mend 16 = .ok (.getfield 29, 3) := by decide +kernel
theorem dX15_mend_19 : decode cX15_mend 19 = .ok (.invokeinterface 370 1, 5) := by decide +kernel
theorem dX15_mend_24 : decode cX15_mend 24 = .ok (.iload_n 1, 1) := by decide +kernel
theorem dX15_mend_25 : decode cX15_mend 25 = .ok (.ireturn, 1) := by decide +kernel
theorem dX15_merge_0 : decode cX15_merge 0 = .ok (.aload_n 0, 1) := by decide +kernel
theorem dX15_merge_1 : decode cX15_merge 1 = .ok (.aload_n 0, 1) := by decide +kernel
theorem dX15_merge_2 : decode cX15_merge 2 = .ok (.iload_n 1, 1) := by decide +kernel
theorem dX15_merge_3 : decode cX15_merge 3 = .ok (.invokevirtual 283, 3) := by decide +kernel
theorem dX15_merge_6 : decode cX15_merge 6 = .ok (.ifCond .eq 11, 3) := by decide +kernel
theorem dX15_merge_9 : decode cX15_merge 9 = .ok (.aload_n 0, 1) := by decide +kernel
theorem dX15_merge_10 : decode cX15_merge 10 = .ok (.iload_n 2, 1) := by decide +kernel
theorem dX15_merge_11 : decode cX15_merge 11 = .ok (.invokevirtual 283, 3) := by decide +kernel
theorem dX15_merge_14 : decode cX15_merge 14 = .ok (.ifCond .ne 7, 3) := by decide +kernel
theorem dX15_merge_17 : decode cX15_merge 17 = .ok (.iconst 1, 1) := by decide +kernel
theorem dX15_merge_18 : decode cX15_merge 18 = .ok (.goto 45, 3) := by decide +kernel
theorem dX15_merge_21 : decode cX15_merge 21 = .ok (.iload_n 1, 1) := by decide +kernel
theorem dX15_merge_22 : decode cX15_merge 22 = .ok (.iload_n 2, 1) := by decide +kernel
theorem dX15_merge_23 : decode cX15_merge 23 = .ok (.if_icmp .eq 35, 3) := by decide +kernel
theorem dX15_merge_26 : decode cX15_merge 26 = .ok (.aload_n 0, 1) := by decide +kernel
theorem dX15_merge_27 : decode cX15_merge 27 = .ok (.getfield 32, 3) := by decide +kernel
theorem dX15_merge_30 : decode cX15_merge 30 = .ok (.iload_n 1, 1) := by decide +kernel
theorem dX15_merge_31 : decode cX15_merge 31 = .ok (.invokeinterface 143 2, 5) := by decide +kernel
theorem dX15_merge_36 : decode cX15_merge 36 = .ok (.checkcast 200, 3) := by decide +kernel
theorem dX15_merge_39 : decode cX15_merge 39 = .ok (.aload_n 0, 1) := by decide +kernel
theorem dX15_merge_40 : decode cX15_merge 40 = .ok (.getfield 32, 3) := by decide +kernel
theorem dX15_merge_43 : decode cX15_merge 43 = .ok (.iload_n 2, 1) := by decide +kernel
theorem dX15_merge_44 : decode cX15_merge 44 = .ok (.invokeinterface 143 2, 5) := by decide +kernel
theorem dX15_merge_49 : decode cX15_merge 49 = .ok (.checkcast 200, 3) := by decide +kernel
theorem dX15_merge_52 : decode cX15_merge 52 = .ok (.invokestatic 359, 3) := by decide +kernel
theorem dX15_merge_55 : decode cX15_merge 55 = .ok (.ifCond .ne 7, 3) := by decide +kernel
theorem dX15_merge_58 : decode cX15_merge 58 = .ok (.iconst 2, 1) := by decide +kernel
theorem dX15_merge_59 : decode cX15_merge 59 = .ok (.goto 4, 3) := by decide +kernel
theorem dX15_merge_62 : decode cX15_merge 62 = .ok (.iconst 0, 1) := by decide +kernel
theorem dX15_merge_63 : decode cX15_merge 63 = .ok (.invokevirtual 106, 3) := by decide +kernel
theorem dX15_merge_66 : decode cX15_merge 66 = .ok (.ifCond .eq 5, 3) := by decide +kernel
theorem dX15_merge_69 : decode cX15_merge 69 = .ok (.iconst 0, 1) := by decide +kernel
theorem dX15_merge_70 : decode cX15_merge 70 = .ok (.ireturn, 1) := by decide +kernel
theorem dX15_merge_71 : decode cX15_merge 71 = .ok (.aload_n 0, 1) := by decide +kernel
theorem dX15_merge_72 : decode cX15_merge 72 = .ok (.getfield 32, 3) := by decide +kernel
theorem dX15_merge_75 : decode cX15_merge 75 = .ok (.iload_n 1, 1) := by decide +kernel
theorem dX15_merge_76 : decode cX15_merge 76 = .ok (.invokeinterface 143 2, 5) := by decide +kernel
theorem dX15_merge_81 : decode cX15_merge 81 = .ok (.checkcast 200, 3) := by decide +kernel
theorem dX15_merge_84 : decode cX15_merge 84 = .ok (.aload_n 0, 1) := by decide +kernel
theorem dX15_merge_85 : decode cX15_merge 85 = .ok (.getfield 32, 3) := by decide +kernel
theorem dX15_merge_88 : decode cX15_merge 88 = .ok (.iload_n 2, 1) := by decide +kernel
theorem dX15_merge_89 : decode cX15_merge 89 = .ok (.invokeinterface 143 2, 5) := by decide +kernel
theorem dX15_merge_94 : decode cX15_merge 94 = .ok (.checkcast 200, 3) := by decide +kernel
theorem dX15_merge_97 : decode cX15_merge 97 = .ok (.invokestatic 363, 3) := by decide +kernel
theorem dX15_merge_100 : decode cX15_merge 100 = .ok (.aload_n 0, 1) := by decide +kernel
theorem dX15_merge_101 : decode cX15_merge 101 = .ok (.getfield 32, 3) := by decide +kernel
theorem dX15_merge_104 : decode cX15_merge 104 = .ok (.iload_n 2, 1) := by decide +kernel
theorem dX15_merge_105 : decode cX15_merge 105 = .ok (.invokeinterface 367 2, 5) := by decide +kernel
theorem dX15_merge_110 : decode cX15_merge 110 = .ok (.pop, 1) := by decide +kernel
theorem dX15_merge_111 : decode cX15_merge 111 = .ok (.aload_n 0, 1) := by decide +kernel
theorem dX15_merge_112 : decode cX15_merge 112 = .ok (.getfield 32, 3) := by decide +kernel
theorem dX15_merge_115 : decode cX15_merge 115 = .ok (.invokeinterface 92 1, 5) := by decide +kernel
theorem dX15_merge_120 : decode cX15_merge 120 = .ok (.ireturn, 1) := by decide +kernel
theorem dX15_openWire_0 : decode cX15_openWire 0 = .ok (.aload_n 0, 1) := by decide +kernel
theorem dX15_openWire_1 : decode cX15_openWire 1 = .ok (.aload_n 0, 1) := by decide +kernel
theorem dX15_openWire_2 : decode cX15_openWire 2 = .ok (.iload_n 1, 1) := by decide +kernel
theorem dX15_openWire_3 : decode cX15_openWire 3 = .ok (.invokevirtual 498, 3) := by decide +kernel
theorem dX15_openWire_6 : decode cX15_openWire 6 = .ok (.ifCond .ne 7, 3) := by decide +kernel
theorem dX15_openWire_9 : decode cX15_openWire 9 = .ok (.iconst 1, 1) := by decide +kernel
theorem dX15_openWire_10 : decode cX15_openWire 10 = .ok (.goto 17, 3) := by decide +kernel
theorem dX15_openWire_13 : decode cX15_openWire 13 = .ok (.iload_n 2, 1) := by decide +kernel
theorem dX15_openWire_14 : decode cX15_openWire 14 = .ok (.iconst 0, 1) := by decide +kernel
theorem dX15_openWire_15 : decode cX15_openWire 15 = .ok (.iconst 1, 1) := by decide +kernel
theorem dX15_openWire_16 : decode cX15_openWire 16 = .ok (.invokestatic 98, 3) := by decide +kernel
theorem dX15_openWire_19 : decode cX15_openWire 19 = .ok (.ifCond .ne 7, 3) := by decide +kernel
theorem dX15_openWire_22 : decode cX15_openWire 22 = .ok (.iconst 2, 1) := by decide +kernel
theorem dX15_openWire_23 : decode cX15_openWire 23 = .ok (.goto 4, 3) := by decide +kernel
theorem dX15_openWire_26 : decode cX15_openWire 26 = .ok (.iconst 0, 1) := by decide +kernel
theorem dX15_openWire_27 : decode cX15_openWire 27 = .ok (.invokevirtual 106, 3) := by decide +kernel
theorem dX15_openWire_30 : decode cX15_openWire 30 = .ok (.ifCond .eq 5, 3) := by decide +kernel
theorem dX15_openWire_33 : decode cX15_openWire 33 = .ok (.iconst 0, 1) := by decide +kernel
theorem dX15_openWire_34 : decode cX15_openWire 34 = .ok (.ireturn, 1) := by decide +kernel
theorem dX15_openWire_35 : decode cX15_openWire 35 = .ok (.aload_n 0, 1) := by decide +kernel
theorem dX15_openWire_36 : decode cX15_openWire 36 = .ok (.getfield 77, 3) := by decide +kernel
theorem dX15_openWire_39 : decode cX15_openWire 39 = .ok (.iload_n 1, 1) := by decide +kernel
theorem dX15_openWire_40 : decode cX15_openWire 40 = .ok (.iaload, 1) := by decide +kernel
theorem dX15_openWire_41 : decode cX15_openWire 41 = .ok (.iconst (-1), 1) := by decide +kernel
theorem dX15_openWire_42 : decode cX15_openWire 42 = .ok (.if_icmp .ne 7, 3) := by decide +kernel
theorem dX15_openWire_45 : decode cX15_openWire 45 = .ok (.iconst 1, 1) := by decide +kernel
theorem dX15_openWire_46 : decode cX15_openWire 46 = .ok (.goto 4, 3) := by decide +kernel
theorem dX15_openWire_49 : decode cX15_openWire 49 = .ok (.iconst 0, 1) := by decide +kernel
theorem dX15_openWire_50 : decode cX15_openWire 50 = .ok (.istore_n 3, 1) := by decide +kernel
theorem dX15_openWire_51 : decode cX15_openWire 51 = .ok (.aload_n 0, 1) := by decide +kernel
theorem dX15_openWire_52 : decode cX15_openWire 52 = .ok (.getfield 77, 3) := by decide +kernel
theorem dX15_openWire_55 : decode cX15_openWire 55 = .ok (.iload_n 1, 1) := by decide +kernel
theorem dX15_openWire_56 : decode cX15_openWire 56 = .ok (.iload_n 2, 1) := by decide +kernel
theorem dX15_openWire_57 : decode cX15_openWire 57 = .ok (.iastore, 1) := by decide +kernel
theorem dX15_openWire_58 : decode cX15_openWire 58 = .ok (.iload_n 3, 1) := by decide +kernel
theorem dX15_openWire_59 : decode cX15_openWire 59 = .ok (.ireturn, 1) := by decide +kernel
theorem dX15_order_0 : decode cX15_order 0 = .ok (.aload_n 0, 1) := by decide +kernel
theorem dX15_order_1 : decode cX15_order 1 = .ok (.invokevirtual 318, 3) := by decide +kernel
theorem dX15_order_4 : decode cX15_order 4 = .ok (.astore_n 1, 1) := by decide +kernel
theorem dX15_order_5 : decode cX15_order 5 = .ok (.aload_n 1, 1) := by decide +kernel
theorem dX15_order_6 : decode cX15_order 6 = .ok (.invokeinterface 92 1, 5) := by decide +kernel
theorem dX15_order_11 : decode cX15_order 11 = .ok (.newarray .long, 2) := by decide +kernel
theorem dX15_order_13 : decode cX15_order 13 = .ok (.astore_n 2, 1) := by decide +kernel
theorem dX15_order_14 : decode cX15_order 14 = .ok (.aload_n 0, 1) := by decide +kernel
theorem dX15_order_15 : decode cX15_order 15 = .ok (.invokevirtual 314, 3) := by decide +kernel
theorem dX15_order_18 : decode cX15_order 18 = .ok (.astore_n 3, 1) := by decide +kernel
theorem dX15_order_19 : decode cX15_order 19 = .ok (.aload_n 2, 1) := by decide +kernel
theorem dX15_order_20 : decode cX15_order 20 = .ok (.arraylength, 1) := by decide +kernel
theorem dX15_order_21 : decode cX15_order 21 = .ok (.newarray .long, 2) := by decide +kernel
theorem dX15_order_23 : decode cX15_order 23 = .ok (.astore 4, 2) := by decide +kernel
theorem dX15_order_25 : decode cX15_order 25 = .ok (.iconst 0, 1) := by decide +kernel
theorem dX15_order_26 : decode cX15_order 26 = .ok (.istore 5, 2) := by decide +kernel
theorem dX15_order_28 : decode cX15_order 28 = .ok (.iload 5, 2) := by decide +kernel
theorem dX15_order_30 : decode cX15_order 30 = .ok (.aload_n 2, 1) := by decide +kernel
theorem dX15_order_31 : decode cX15_order 31 = .ok (.arraylength, 1) := by decide +kernel
theorem dX15_order_32 : decode cX15_order 32 = .ok (.if_icmp .ge 60, 3) := by decide +kernel
theorem dX15_order_35 : decode cX15_order 35 = .ok (.aload_n 2, 1) := by decide +kernel
theorem dX15_order_36 : decode cX15_order 36 = .ok (.iload 5, 2) := by decide +kernel
theorem dX15_order_38 : decode cX15_order 38 = .ok (.aload_n 0, 1) := by decide +kernel
theorem dX15_order_39 : decode cX15_order 39 = .ok (.aload_n 1, 1) := by decide +kernel
theorem dX15_order_40 : decode cX15_order 40 = .ok (.iload 5, 2) := by decide +kernel
theorem dX15_order_42 : decode cX15_order 42 = .ok (.invokeinterface 143 2, 5) := by decide +kernel
theorem dX15_order_47 : decode cX15_order 47 = .ok (.checkcast 119, 3) := by decide +kernel
theorem dX15_order_50 : decode cX15_order 50 = .ok (.invokevirtual 194, 3) := by decide +kernel
theorem dX15_order_53 : decode cX15_order 53 = .ok (.bipush 115, 2) := by decide +kernel
theorem dX15_order_55 : decode cX15_order 55 = .ok (.invokevirtual 345, 3) := by decide +kernel
theorem dX15_order_58 : decode cX15_order 58 = .ok (.lastore, 1) := by decide +kernel
theorem dX15_order_59 : decode cX15_order 59 = .ok (.aload 4, 2) := by decide +kernel
theorem dX15_order_61 : decode cX15_order 61 = .ok (.iload 5, 2) := by decide +kernel
theorem dX15_order_63 : decode cX15_order 63 = .ok (.aload_n 0, 1) := by decide +kernel
theorem dX15_order_64 : decode cX15_order 64 = .ok (.aload_n 1, 1) := by decide +kernel
theorem dX15_order_65 : decode cX15_order 65 = .ok (.iload 5, 2) := by decide +kernel
theorem dX15_order_67 : decode cX15_order 67 = .ok (.invokeinterface 143 2, 5) := by decide +kernel
theorem dX15_order_72 : decode cX15_order 72 = .ok (.checkcast 119, 3) := by decide +kernel
theorem dX15_order_75 : decode cX15_order 75 = .ok (.invokevirtual 194, 3) := by decide +kernel
theorem dX15_order_78 : decode cX15_order 78 = .ok (.aload_n 3, 1) := by decide +kernel
theorem dX15_order_79 : decode cX15_order 79 = .ok (.invokevirtual 424, 3) := by decide +kernel
theorem dX15_order_82 : decode cX15_order 82 = .ok (.i2l, 1) := by decide +kernel
theorem dX15_order_83 : decode cX15_order 83 = .ok (.lconst 1, 1) := by decide +kernel
theorem dX15_order_84 : decode cX15_order 84 = .ok (.ladd, 1) := by decide +kernel
theorem dX15_order_85 : decode cX15_order 85 = .ok (.lastore, 1) := by decide +kernel
theorem dX15_order_86 : decode cX15_order 86 = .ok (.iinc 5 1, 3) := by decide +kernel
theorem dX15_order_89 : decode cX15_order 89 = .ok (.goto (-61), 3) := by decide +kernel
theorem dX15_order_92 : decode cX15_order 92 = .ok (.new 13, 3) := by decide +kernel
theorem dX15_order_95 : decode cX15_order 95 = .ok (.dup, 1) := by decide +kernel
theorem dX15_order_96 : decode cX15_order 96 = .ok (.invokespecial 15, 3) := by decide +kernel
theorem dX15_order_99 : decode cX15_order 99 = .ok (.astore 5, 2) := by decide +kernel
theorem dX15_order_101 : decode cX15_order 101 = .ok (.lconst 0, 1) := by decide +kernel
theorem dX15_order_102 : decode cX15_order 102 = .ok (.lstore 6, 2) := by decide +kernel
theorem dX15_order_104 : decode cX15_order 104 = .ok (.aload 5, 2) := by decide +kernel
theorem dX15_order_106 : decode cX15_order 106 = .ok (.invokeinterface 92 1, 5) := by decide +kernel
theorem dX15_order_111 : decode cX15_order 111 = .ok (.aload_n 0, 1) := by decide +kernel
theorem dX15_order_112 : decode cX15_order 112 = .ok (.getfield 32, 3) := by decide +kernel
theorem dX15_order_115 : decode cX15_order 115 = .ok (.invokeinterface 92 1, 5) := by decide +kernel
theorem dX15_order_120 : decode cX15_order 120 = .ok (.if_icmp .ge 194, 3) := by decide +kernel
theorem dX15_order_123 : decode cX15_order 123 = .ok (.iconst (-1), 1) := by decide +kernel
theorem dX15_order_124 : decode cX15_order 124 = .ok (.istore 8, 2) := by decide +kernel
theorem dX15_order_126 : decode cX15_order 126 = .ok (.lconst 0, 1) := by decide +kernel
theorem dX15_order_127 : decode cX15_order 127 = .ok (.lstore 9, 2) := by decide +kernel
theorem dX15_order_129 : decode cX15_order 129 = .ok (.iconst 0, 1) := by decide +kernel
theorem dX15_order_130 : decode cX15_order 130 = .ok (.istore 11, 2) := by decide +kernel
theorem dX15_order_132 : decode cX15_order 132 = .ok (.iload 11, 2) := by decide +kernel
theorem dX15_order_134 : decode cX15_order 134 = .ok (.aload_n 0, 1) := by decide +kernel
theorem dX15_order_135 : decode cX15_order 135 = .ok (.getfield 32, 3) := by decide +kernel
theorem dX15_order_138 : decode cX15_order 138 = .ok (.invokeinterface 92 1, 5) := by decide +kernel
theorem dX15_order_143 : decode cX15_order 143 = .ok (.if_icmp .ge 146, 3) := by decide +kernel
theorem dX15_order_146 : decode cX15_order 146 = .ok (.lload 6, 2) := by decide +kernel
theorem dX15_order_148 : decode cX15_order 148 = .ok (.iload 11, 2) := by decide +kernel
theorem dX15_order_150 : decode cX15_order 150 = .ok (.lshr, 1) := by decide +kernel
theorem dX15_order_151 : decode cX15_order 151 = .ok (.lconst 1, 1) := by decide +kernel
theorem dX15_order_152 : decode cX15_order 152 = .ok (.land, 1) := by decide +kernel
theorem dX15_order_153 : decode cX15_order 153 = .ok (.lconst 1, 1) := by decide +kernel
theorem dX15_order_154 : decode cX15_order 154 = .ok (.lcmp, 1) := by decide +kernel
theorem dX15_order_155 : decode cX15_order 155 = .ok (.ifCond .ne 6, 3) := by decide +kernel
theorem dX15_order_158 : decode cX15_order 158 = .ok (.goto 125, 3) := by decide +kernel
theorem dX15_order_161 : decode cX15_order 161 = .ok (.lconst 0, 1) := by decide +kernel
theorem dX15_order_162 : decode cX15_order 162 = .ok (.lstore 12, 2) := by decide +kernel
theorem dX15_order_164 : decode cX15_order 164 = .ok (.iconst 0, 1) := by decide +kernel
theorem dX15_order_165 : decode cX15_order 165 = .ok (.istore 14, 2) := by decide +kernel
theorem dX15_order_167 : decode cX15_order 167 = .ok (.iload 14, 2) := by decide +kernel
theorem dX15_order_169 : decode cX15_order 169 = .ok (.aload_n 2, 1) := by decide +kernel
theorem dX15_order_170 : decode cX15_order 170 = .ok (.arraylength, 1) := by decide +kernel
theorem dX15_order_171 : decode cX15_order 171 = .ok (.if_icmp .ge 49, 3) := by decide +kernel
theorem dX15_order_174 : decode cX15_order 174 = .ok (.lload 12, 2) := by decide +kernel
theorem dX15_order_176 : decode cX15_order 176 = .ok (.aload_n 2, 1) := by decide +kernel
theorem dX15_order_177 : decode cX15_order 177 = .ok (.iload 14, 2) := by decide +kernel
theorem dX15_order_179 : decode cX15_order 179 = .ok (.laload, 1) := by decide +kernel
theorem dX15_order_180 : decode cX15_order 180 = .ok (.iload 11, 2) := by decide +kernel
theorem dX15_order_182 : decode cX15_order 182 = .ok (.lshr, 1) := by decide +kernel
theorem dX15_order_183 : decode cX15_order 183 = .ok (.lconst 1, 1) := by decide +kernel
theorem dX15_order_184 : decode cX15_order 184 = .ok (.land, 1) := by decide +kernel
theorem dX15_order_185 : decode cX15_order 185 = .ok (.lconst 1, 1) := by decide +kernel
theorem dX15_order_186 : decode cX15_order 186 = .ok (.lcmp, 1) := by decide +kernel
theorem dX15_order_187 : decode cX15_order 187 = .ok (.ifCond .ne 23, 3) := by decide +kernel
theorem dX15_order_190 : decode cX15_order 190 = .ok (.aload_n 2, 1) := by decide +kernel
theorem dX15_order_191 : decode cX15_order 191 = .ok (.iload 14, 2) := by decide +kernel
theorem dX15_order_193 : decode cX15_order 193 = .ok (.laload, 1) := by decide +kernel
theorem dX15_order_194 : decode cX15_order 194 = .ok (.lload 6, 2) := by decide +kernel
theorem dX15_order_196 : decode cX15_order 196 = .ok (.land, 1) := by decide +kernel
theorem dX15_order_197 : decode cX15_order 197 = .ok (.lconst 0, 1) := by decide +kernel
theorem dX15_order_198 : decode cX15_order 198 = .ok (.lcmp, 1) := by decide +kernel
theorem dX15_order_199 : decode cX15_order 199 = .ok (.ifCond .ne 11, 3) := by decide +kernel
theorem dX15_order_202 : decode cX15_order 202 = .ok (.aload 4, 2) := by decide +kernel
theorem dX15_order_204 : decode cX15_order 204 = .ok (.iload 14, 2) := by decide +kernel
theorem dX15_order_206 : decode cX15_order 206 = .ok (.laload, 1) := by decide +kernel
theorem dX15_order_207 : decode cX15_order 207 = .ok (.goto 4, 3) := by decide +kernel
theorem dX15_order_210 : decode cX15_order 210 = .ok (.lconst 0, 1) := by decide +kernel
theorem dX15_order_211 : decode cX15_order 211 = .ok (.ladd, 1) := by decide +kernel
theorem dX15_order_212 : decode cX15_order 212 = .ok (.lstore 12, 2) := by decide +kernel
theorem dX15_order_214 : decode cX15_order 214 = .ok (.iinc 14 1, 3) := by decide +kernel
theorem dX15_order_217 : decode cX15_order 217 = .ok (.goto (-50), 3) := by decide +kernel
theorem dX15_order_220 : decode cX15_order 220 = .ok (.iload 8, 2) := by decide +kernel
theorem dX15_order_222 : decode cX15_order 222 = .ok (.iconst (-1), 1) := by decide +kernel
theorem dX15_order_223 : decode cX15_order 223 = .ok (.if_icmp .eq 52, 3) := by decide +kernel
theorem dX15_order_226 : decode cX15_order 226 = .ok (.lload 12, 2) := by decide +kernel
theorem dX15_order_228 : decode cX15_order 228 = .ok (.aload_n 0, 1) := by decide +kernel
theorem dX15_order_229 : decode cX15_order 229 = .ok (.getfield 32, 3) := by decide +kernel
theorem dX15_order_232 : decode cX15_order 232 = .ok (.iload 8, 2) := by decide +kernel
theorem dX15_order_234 : decode cX15_order 234 = .ok (.invokeinterface 143 2, 5) := by decide +kernel
theorem dX15_order_239 : decode cX15_order 239 = .ok (.checkcast 200, 3) := by decide +kernel
theorem dX15_order_242 : decode cX15_order 242 = .ok (.getfield 442, 3) := by decide +kernel
theorem dX15_order_245 : decode cX15_order 245 = .ok (.i2l, 1) := by decide +kernel
theorem dX15_order_246 : decode cX15_order 246 = .ok (.lmul, 1) := by decide +kernel
theorem dX15_order_247 : decode cX15_order 247 = .ok (.lload 9, 2) := by decide +kernel
theorem dX15_order_249 : decode cX15_order 249 = .ok (.aload_n 0, 1) := by decide +kernel
theorem dX15_order_250 : decode cX15_order 250 = .ok (.getfield 32, 3) := by decide +kernel
theorem dX15_order_253 : decode cX15_order 253 = .ok (.iload 11, 2) := by decide +kernel
theorem dX15_order_255 : decode cX15_order 255 = .ok (.invokeinterface 143 2, 5) := by decide +kernel
theorem dX15_order_260 : decode cX15_order 260 = .ok (.checkcast 200, 3) := by decide +kernel
theorem dX15_order_263 : decode cX15_order 263 = .ok (.getfield 442, 3) := by decide +kernel
theorem dX15_order_266 : decode cX15_order 266 = .ok (.i2l, 1) := by decide +kernel
theorem dX15_order_267 : decode cX15_order 267 = .ok (.lmul, 1) := by decide +kernel
theorem dX15_order_268 : decode cX15_order 268 = .ok (.lcmp, 1) := by decide +kernel
theorem dX15_order_269 : decode cX15_order 269 = .ok (.ifCond .gt 6, 3) := by decide +kernel
theorem dX15_order_272 : decode cX15_order 272 = .ok (.goto 11, 3) := by decide +kernel
theorem dX15_order_275 : decode cX15_order 275 = .ok (.iload 11, 2) := by decide +kernel
theorem dX15_order_277 : decode cX15_order 277 = .ok (.istore 8, 2) := by decide +kernel
theorem dX15_order_279 : decode cX15_order 279 = .ok (.lload 12, 2) := by decide +kernel
theorem dX15_order_281 : decode cX15_order 281 = .ok (.lstore 9, 2) := by decide +kernel
theorem dX15_order_283 : decode cX15_order 283 = .ok (.iinc 11 1, 3) := by decide +kernel
theorem dX15_order_286 : decode cX15_order 286 = .ok (.goto (-154), 3) := by decide +kernel
theorem dX15_order_289 : decode cX15_order 289 = .ok (.aload 5, 2) := by decide +kernel
theorem dX15_order_291 : decode cX15_order 291 = .ok (.iload 8, 2) := by decide +kernel
theorem dX15_order_293 : decode cX15_order 293 = .ok (.invokestatic 118, 3) := by decide +kernel
theorem dX15_order_296 : decode cX15_order 296 = .ok (.invokeinterface 124 2, 5) := by decide +kernel
theorem dX15_order_301 : decode cX15_order 301 = .ok (.pop, 1) := by decide +kernel
theorem dX15_order_302 : decode cX15_order 302 = .ok (.lload 6, 2) := by decide +kernel
theorem dX15_order_304 : decode cX15_order 304 = .ok (.lconst 1, 1) := by decide +kernel
theorem dX15_order_305 : decode cX15_order 305 = .ok (.iload 8, 2) := by decide +kernel
theorem dX15_order_307 : decode cX15_order 307 = .ok (.lshl, 1) := by decide +kernel
theorem dX15_order_308 : decode cX15_order 308 = .ok (.lor, 1) := by decide +kernel
theorem dX15_order_309 : decode cX15_order 309 = .ok (.lstore 6, 2) := by decide +kernel
theorem dX15_order_311 : decode cX15_order 311 = .ok (.goto (-207), 3) := by decide +kernel
theorem dX15_order_314 : decode cX15_order 314 = .ok (.aload 5, 2) := by decide +kernel
theorem dX15_order_316 : decode cX15_order 316 = .ok (.areturn, 1) := by decide +kernel
theorem dX15_orderAt_0 : decode cX15_orderAt 0 = .ok (.aload_n 0, 1) := by decide +kernel
theorem dX15_orderAt_1 : decode cX15_orderAt 1 = .ok (.iload_n 1, 1) := by decide +kernel
theorem dX15_orderAt_2 : decode cX15_orderAt 2 = .ok (.iconst 0, 1) := by decide +kernel
theorem dX15_orderAt_3 : decode cX15_orderAt 3 = .ok (.aload_n 0, 1) := by decide +kernel
theorem dX15_orderAt_4 : decode cX15_orderAt 4 = .ok (.getfield 32, 3) := by decide +kernel
theorem dX15_orderAt_7 : decode cX15_orderAt 7 = .ok (.invokeinterface 92 1, 5) := by decide +kernel
theorem dX15_orderAt_12 : decode cX15_orderAt 12 = .ok (.iconst 1, 1) := by decide +kernel
theorem dX15_orderAt_13 : decode cX15_orderAt 13 = .ok (.isub, 1) := by decide +kernel
theorem dX15_orderAt_14 : decode cX15_orderAt 14 = .ok (.invokestatic 98, 3) := by decide +kernel
theorem dX15_orderAt_17 : decode cX15_orderAt 17 = .ok (.ifCond .eq 7, 3) := by decide +kernel
theorem dX15_orderAt_20 : decode cX15_orderAt 20 = .ok (.iconst 0, 1) := by decide +kernel
theorem dX15_orderAt_21 : decode cX15_orderAt 21 = .ok (.goto 4, 3) := by decide +kernel
theorem dX15_orderAt_24 : decode cX15_orderAt 24 = .ok (.iconst 1, 1) := by decide +kernel
theorem dX15_orderAt_25 : decode cX15_orderAt 25 = .ok (.invokevirtual 106, 3) := by decide +kernel
theorem dX15_orderAt_28 : decode cX15_orderAt 28 = .ok (.ifCond .eq 7, 3) := by decide +kernel
theorem dX15_orderAt_31 : decode cX15_orderAt 31 = .ok (.iconst 0, 1) := by decide +kernel
theorem dX15_orderAt_32 : decode cX15_orderAt 32 = .ok (.goto 19, 3) := by decide +kernel
theorem dX15_orderAt_35 : decode cX15_orderAt 35 = .ok (.aload_n 0, 1) := by decide +kernel
theorem dX15_orderAt_36 : decode cX15_orderAt 36 = .ok (.invokevirtual 445, 3) := by decide +kernel
theorem dX15_orderAt_39 : decode cX15_orderAt 39 = .ok (.iload_n 1, 1) := by decide +kernel
theorem dX15_orderAt_40 : decode cX15_orderAt 40 = .ok (.invokeinterface 143 2, 5) := by decide +kernel
theorem dX15_orderAt_45 : decode cX15_orderAt 45 = .ok (.checkcast 119, 3) := by decide +kernel
theorem dX15_orderAt_48 : decode cX15_orderAt 48 = .ok (.invokevirtual 194, 3) := by decide +kernel
theorem dX15_orderAt_51 : decode cX15_orderAt 51 = .ok (.ireturn, 1) := by decide +kernel
theorem dX15_output_0 : decode cX15_output 0 = .ok (.aload_n 0, 1) := by decide +kernel
theorem dX15_output_1 : decode cX15_output 1 = .ok (.aload_n 0, 1) := by decide +kernel
theorem dX15_output_2 : decode cX15_output 2 = .ok (.iload_n 1, 1) := by decide +kernel
theorem dX15_output_3 : decode cX15_output 3 = .ok (.invokevirtual 140, 3) := by decide +kernel
theorem dX15_output_6 : decode cX15_output 6 = .ok (.ifCond .ne 7, 3) := by decide +kernel
theorem dX15_output_9 : decode cX15_output 9 = .ok (.iconst 1, 1) := by decide +kernel
theorem dX15_output_10 : decode cX15_output 10 = .ok (.goto 15, 3) := by decide +kernel
theorem dX15_output_13 : decode cX15_output 13 = .ok (.aload_n 0, 1) := by decide +kernel
theorem dX15_output_14 : decode cX15_output 14 = .ok (.getfield 102, 3) := by decide +kernel
theorem dX15_output_17 : decode cX15_output 17 = .ok (.ifCond .eq 7, 3) := by decide +kernel
theorem dX15_output_20 : decode cX15_output 20 = .ok (.iconst 2, 1) := by decide +kernel
theorem dX15_output_21 : decode cX15_output 21 = .ok (.goto 4, 3) := by decide +kernel
theorem dX15_output_24 : decode cX15_output 24 = .ok (.iconst 0, 1) := by decide +kernel
theorem dX15_output_25 : decode cX15_output 25 = .ok (.invokevirtual 106, 3) := by decide +kernel
theorem dX15_output_28 : decode cX15_output 28 = .ok (.ifCond .eq 5, 3) := by decide +kernel
theorem dX15_output_31 : decode cX15_output 31 = .ok (.iconst 0, 1) := by decide +kernel
theorem dX15_output_32 : decode cX15_output 32 = .ok (.ireturn, 1) := by decide +kernel
theorem dX15_output_33 : decode cX15_output 33 = .ok (.aload_n 0, 1) := by decide +kernel
theorem dX15_output_34 : decode cX15_output 34 = .ok (.getfield 16, 3) := by decide +kernel
theorem dX15_output_37 : decode cX15_output 37 = .ok (.iload_n 1, 1) := by decide +kernel
theorem dX15_output_38 : decode cX15_output 38 = .ok (.invokeinterface 143 2, 5) := by decide +kernel
theorem dX15_output_43 : decode cX15_output 43 = .ok (.checkcast 110, 3) := by decide +kernel
theorem dX15_output_46 : decode cX15_output 46 = .ok (.getfield 153, 3) := by decide +kernel
theorem dX15_output_49 : decode cX15_output 49 = .ok (.ifCond .ne 7, 3) := by decide +kernel
theorem dX15_output_52 : decode cX15_output 52 = .ok (.iconst 1, 1) := by decide +kernel
theorem dX15_output_53 : decode cX15_output 53 = .ok (.goto 4, 3) := by decide +kernel
theorem dX15_output_56 : decode cX15_output 56 = .ok (.iconst 0, 1) := by decide +kernel
theorem dX15_output_57 : decode cX15_output 57 = .ok (.istore_n 2, 1) := by decide +kernel
theorem dX15_output_58 : decode cX15_output 58 = .ok (.aload_n 0, 1) := by decide +kernel
theorem dX15_output_59 : decode cX15_output 59 = .ok (.getfield 16, 3) := by decide +kernel
theorem dX15_output_62 : decode cX15_output 62 = .ok (.iload_n 1, 1) := by decide +kernel
theorem dX15_output_63 : decode cX15_output 63 = .ok (.invokeinterface 143 2, 5) := by decide +kernel
theorem dX15_output_68 : decode cX15_output 68 = .ok (.checkcast 110, 3) := by decide +kernel
theorem dX15_output_71 : decode cX15_output 71 = .ok (.iconst 1, 1) := by decide +kernel
theorem dX15_output_72 : decode cX15_output 72 = .ok (.putfield 153, 3) := by decide +kernel
theorem dX15_output_75 : decode cX15_output 75 = .ok (.iload_n 2, 1) := by decide +kernel
theorem dX15_output_76 : decode cX15_output 76 = .ok (.ireturn, 1) := by decide +kernel
theorem dX15_pattern_0 : decode cX15_pattern 0 = .ok (.iconst 1, 1) := by decide +kernel
theorem dX15_pattern_1 : decode cX15_pattern 1 = .ok (.aload_n 0, 1) := by decide +kernel
theorem dX15_pattern_2 : decode cX15_pattern 2 = .ok (.getfield 20, 3) := by decide +kernel
theorem dX15_pattern_5 : decode cX15_pattern 5 = .ok (.invokeinterface 92 1, 5) := by decide +kernel
theorem dX15_pattern_10 : decode cX15_pattern 10 = .ok (.ishl, 1) := by decide +kernel
theorem dX15_pattern_11 : decode cX15_pattern 11 = .ok (.iconst 1, 1) := by decide +kernel
theorem dX15_pattern_12 : decode cX15_pattern 12 = .ok (.isub, 1) := by decide +kernel
theorem dX15_pattern_13 : decode cX15_pattern 13 = .ok (.istore_n 3, 1) := by decide +kernel
theorem dX15_pattern_14 : decode cX15_pattern 14 = .ok (.iload_n 1, 1) := by decide +kernel
theorem dX15_pattern_15 : decode cX15_pattern 15 = .ok (.iconst 0, 1) := by decide +kernel
theorem dX15_pattern_16 : decode cX15_pattern 16 = .ok (.iload_n 3, 1) := by decide +kernel
theorem dX15_pattern_17 : decode cX15_pattern 17 = .ok (.invokestatic 98, 3) := by decide +kernel
theorem dX15_pattern_20 : decode cX15_pattern 20 = .ok (.ifCond .eq 24, 3) := by decide +kernel
theorem dX15_pattern_23 : decode cX15_pattern 23 = .ok (.iload_n 2, 1) := by decide +kernel
theorem dX15_pattern_24 : decode cX15_pattern 24 = .ok (.iconst 0, 1) := by decide +kernel
theorem dX15_pattern_25 : decode cX15_pattern 25 = .ok (.iload_n 3, 1) := by decide +kernel
theorem dX15_pattern_26 : decode cX15_pattern 26 = .ok (.invokestatic 98, 3) := by decide +kernel
theorem dX15_pattern_29 : decode cX15_pattern 29 = .ok (.ifCond .eq 15, 3) := by decide +kernel
theorem dX15_pattern_32 : decode cX15_pattern 32 = .ok (.iload_n 2, 1) := by decide +kernel
theorem dX15_pattern_33 : decode cX15_pattern 33 = .ok (.iload_n 1, 1) := by decide +kernel
theorem dX15_pattern_34 : decode cX15_pattern 34 = .ok (.iconst (-1), 1) := by decide +kernel
theorem dX15_pattern_35 : decode cX15_pattern 35 = .ok (.ixor, 1) := by decide +kernel
theorem dX15_pattern_36 : decode cX15_pattern 36 = .ok (.iand, 1) := by decide +kernel
theorem dX15_pattern_37 : decode cX15_pattern 37 = .ok (.ifCond .ne 7, 3) := by decide +kernel
theorem dX15_pattern_40 : decode cX15_pattern 40 = .ok (.iconst 1, 1) := by decide +kernel
theorem dX15_pattern_41 : decode cX15_pattern 41 = .ok (.goto 4, 3) := by decide +kernel
theorem dX15_pattern_44 : decode cX15_pattern 44 = .ok (.iconst 0, 1) := by decide +kernel
theorem dX15_pattern_45 : decode cX15_pattern 45 = .ok (.istore 4, 2) := by decide +kernel
theorem dX15_pattern_47 : decode cX15_pattern 47 = .ok (.aload_n 0, 1) := by decide +kernel
theorem dX15_pattern_48 : decode cX15_pattern 48 = .ok (.iload 4, 2) := by decide +kernel
theorem dX15_pattern_50 : decode cX15_pattern 50 = .ok (.ifCond .ne 7, 3) := by decide +kernel
theorem dX15_pattern_53 : decode cX15_pattern 53 = .ok (.iconst 1, 1) := by decide +kernel
theorem dX15_pattern_54 : decode cX15_pattern 54 = .ok (.goto 33, 3) := by decide +kernel
theorem dX15_pattern_57 : decode cX15_pattern 57 = .ok (.aload_n 0, 1) := by decide +kernel
theorem dX15_pattern_58 : decode cX15_pattern 58 = .ok (.getfield 102, 3) := by decide +kernel
theorem dX15_pattern_61 : decode cX15_pattern 61 = .ok (.ifCond .ne 7, 3) := by decide +kernel
theorem dX15_pattern_64 : decode cX15_pattern 64 = .ok (.iconst 2, 1) := by decide +kernel
theorem dX15_pattern_65 : decode cX15_pattern 65 = .ok (.goto 22, 3) := by decide +kernel
theorem dX15_pattern_68 : decode cX15_pattern 68 = .ok (.aload_n 0, 1) := by decide +kernel
theorem dX15_pattern_69 : decode cX15_pattern 69 = .ok (.getfield 32, 3) := by decide +kernel
theorem dX15_pattern_72 : decode cX15_pattern 72 = .ok (.invokeinterface 92 1, 5) := by decide +kernel
theorem dX15_pattern_77 : decode cX15_pattern 77 = .ok (.bipush 32, 2) := by decide +kernel
theorem dX15_pattern_79 : decode cX15_pattern 79 = .ok (.if_icmp .ne 7, 3) := by decide +kernel
theorem dX15_pattern_82 : decode cX15_pattern 82 = .ok (.iconst 3, 1) := by decide +kernel
theorem dX15_pattern_83 : decode cX15_pattern 83 = .ok (.goto 4, 3) := by decide +kernel
theorem dX15_pattern_86 : decode cX15_pattern 86 = .ok (.iconst 0, 1) := by decide +kernel
theorem dX15_pattern_87 : decode cX15_pattern 87 = .ok (.invokevirtual 106, 3) := by decide +kernel
theorem dX15_pattern_90 : decode cX15_pattern 90 = .ok (.ifCond .eq 5, 3) := by decide +kernel
theorem dX15_pattern_93 : decode cX15_pattern 93 = .ok (.iconst 0, 1) := by decide +kernel
theorem dX15_pattern_94 : decode cX15_pattern 94 = .ok (.ireturn, 1) := by decide +kernel
theorem dX15_pattern_95 : decode cX15_pattern 95 = .ok (.aload_n 0, 1) := by decide +kernel
theorem dX15_pattern_96 : decode cX15_pattern 96 = .ok (.getfield 20, 3) := by decide +kernel
theorem dX15_pattern_99 : decode cX15_pattern 99 = .ok (.invokeinterface 92 1, 5) := by decide +kernel
theorem dX15_pattern_104 : decode cX15_pattern 104 = .ok (.newarray .int, 2) := by decide +kernel
theorem dX15_pattern_106 : decode cX15_pattern 106 = .ok (.astore 5, 2) := by decide +kernel
theorem dX15_pattern_108 : decode cX15_pattern 108 = .ok (.iconst 0, 1) := by decide +kernel
theorem dX15_pattern_109 : decode cX15_pattern 109 = .ok (.istore 6, 2) := by decide +kernel
theorem dX15_pattern_111 : decode cX15_pattern 111 = .ok (.iload 6, 2) := by decide +kernel
theorem dX15_pattern_113 : decode cX15_pattern 113 = .ok (.aload 5, 2) := by decide +kernel
theorem dX15_pattern_115 : decode cX15_pattern 115 = .ok (.arraylength, 1) := by decide +kernel
theorem dX15_pattern_116 : decode cX15_pattern 116 = .ok (.if_icmp .ge 33, 3) := by decide +kernel
theorem dX15_pattern_119 : decode cX15_pattern 119 = .ok (.aload 5, 2) := by decide +kernel
theorem dX15_pattern_121 : decode cX15_pattern 121 = .ok (.iload 6, 2) := by decide +kernel
theorem dX15_pattern_123 : decode cX15_pattern 123 = .ok (.iload_n 1, 1) := by decide +kernel
theorem dX15_pattern_124 : decode cX15_pattern 124 = .ok (.iload 6, 2) := by decide +kernel
theorem dX15_pattern_126 : decode cX15_pattern 126 = .ok (.ishr, 1) := by decide +kernel
theorem dX15_pattern_127 : decode cX15_pattern 127 = .ok (.iconst 1, 1) := by decide +kernel
theorem dX15_pattern_128 : decode cX15_pattern 128 = .ok (.iand, 1) := by decide +kernel
theorem dX15_pattern_129 : decode cX15_pattern 129 = .ok (.ifCond .ne 7, 3) := by decide +kernel
theorem dX15_pattern_132 : decode cX15_pattern 132 = .ok (.iconst 2, 1) := by decide +kernel
theorem dX15_pattern_133 : decode cX15_pattern 133 = .ok (.goto 9, 3) := by decide +kernel
theorem dX15_pattern_136 : decode cX15_pattern 136 = .ok (.iload_n 2, 1) := by decide +kernel
theorem dX15_pattern_137 : decode cX15_pattern 137 = .ok (.iload 6, 2) := by decide +kernel
theorem dX15_pattern_139 : decode cX15_pattern 139 = .ok (.ishr, 1) := by decide +kernel
theorem dX15_pattern_140 : decode cX15_pattern 140 = .ok (.iconst 1, 1) := by decide +kernel
theorem dX15_pattern_141 : decode cX15_pattern 141 = .ok (.iand, 1) := by decide +kernel
theorem dX15_pattern_142 : decode cX15_pattern 142 = .ok (.iastore, 1) := by decide +kernel
theorem dX15_pattern_143 : decode cX15_pattern 143 = .ok (.iinc 6 1, 3) := by decide +kernel
theorem dX15_pattern_146 : decode cX15_pattern 146 = .ok (.goto (-35), 3) := by decide +kernel
theorem dX15_pattern_149 : decode cX15_pattern 149 = .ok (.aload_n 0, 1) := by decide +kernel
theorem dX15_pattern_150 : decode cX15_pattern 150 = .ok (.getfield 32, 3) := by decide +kernel
theorem dX15_pattern_153 : decode cX15_pattern 153 = .ok (.new 200, 3) := by decide +kernel
theorem dX15_pattern_156 : decode cX15_pattern 156 = .ok (.dup, 1) := by decide +kernel
theorem dX15_pattern_157 : decode cX15_pattern 157 = .ok (.aload 5, 2) := by decide +kernel
theorem dX15_pattern_159 : decode cX15_pattern 159 = .ok (.invokespecial 202, 3) := by decide +kernel
theorem dX15_pattern_162 : decode cX15_pattern 162 = .ok (.invokeinterface 124 2, 5) := by decide +kernel
theorem dX15_pattern_167 : decode cX15_pattern 167 = .ok (.pop, 1) := by decide +kernel
theorem dX15_pattern_168 : decode cX15_pattern 168 = .ok (.aload_n 0, 1) := by decide +kernel
theorem dX15_pattern_169 : decode cX15_pattern 169 = .ok (.getfield 32, 3) := by decide +kernel
theorem dX15_pattern_172 : decode cX15_pattern 172 = .ok (.invokeinterface 92 1, 5) := by decide +kernel
theorem dX15_pattern_177 : decode cX15_pattern 177 = .ok (.iconst 1, 1) := by decide +kernel
theorem dX15_pattern_178 : decode cX15_pattern 178 = .ok (.isub, 1) := by decide +kernel
theorem dX15_pattern_179 : decode cX15_pattern 179 = .ok (.ireturn, 1) := by decide +kernel
theorem dX15_patterns_0 : decode cX15_patterns 0 = .ok (.aload_n 0, 1) := by decide +kernel
theorem dX15_patterns_1 : decode cX15_patterns 1 = .ok (.iconst 0, 1) := by decide +kernel
theorem dX15_patterns_2 : decode cX15_patterns 2 = .ok (.putfield 1, 3) := by decide +kernel
theorem dX15_patterns_5 : decode cX15_patterns 5 = .ok (.aload_n 0, 1) := by decide +kernel
theorem dX15_patterns_6 : decode cX15_patterns 6 = .ok (.getfield 32, 3) := by decide +kernel
theorem dX15_patterns_9 : decode cX15_patterns 9 = .ok (.invokeinterface 92 1, 5) := by decide +kernel
theorem dX15_patterns_14 : decode cX15_patterns 14 = .ok (.ireturn, 1) := by decide +kernel
theorem dX15_pinOf_0 : decode cX15_pinOf 0 = .ok (.aload_n 0, 1) := by decide +kernel
theorem dX15_pinOf_1 : decode cX15_pinOf 1 = .ok (.aload_n 0, 1) := by decide +kernel
theorem dX15_pinOf_2 : decode cX15_pinOf 2 = .ok (.iload_n 1, 1) := by decide +kernel
theorem dX15_pinOf_3 : decode cX15_pinOf 3 = .ok (.invokevirtual 286, 3) := by decide +kernel
theorem dX15_pinOf_6 : decode cX15_pinOf 6 = .ok (.ifCond .eq 7, 3) := by decide +kernel
theorem dX15_pinOf_9 : decode cX15_pinOf 9 = .ok (.iconst 0, 1) := by decide +kernel
theorem dX15_pinOf_10 : decode cX15_pinOf 10 = .ok (.goto 4, 3) := by decide +kernel
theorem dX15_pinOf_13 : decode cX15_pinOf 13 = .ok (.iconst 1, 1) := by decide +kernel
theorem dX15_pinOf_14 : decode cX15_pinOf 14 = .ok (.invokevirtual 106, 3) := by decide +kernel
theorem dX15_pinOf_17 : decode cX15_pinOf 17 = .ok (.ifCond .eq 7, 3) := by decide +kernel
theorem dX15_pinOf_20 : decode cX15_pinOf 20 = .ok (.iconst 0, 1) := by decide +kernel
theorem dX15_pinOf_21 : decode cX15_pinOf 21 = .ok (.goto 42, 3) := by decide +kernel
theorem dX15_pinOf_24 : decode cX15_pinOf 24 = .ok (.aload_n 0, 1) := by decide +kernel
theorem dX15_pinOf_25 : decode cX15_pinOf 25 = .ok (.getfield 26, 3) := by decide +kernel
theorem dX15_pinOf_28 : decode cX15_pinOf 28 = .ok (.iload_n 1, 1) := by decide +kernel
theorem dX15_pinOf_29 : decode cX15_pinOf 29 = .ok (.invokeinterface 143 2, 5) := by decide +kernel
theorem dX15_pinOf_34 : decode cX15_pinOf 34 = .ok (.checkcast 170, 3) := by decide +kernel
theorem dX15_pinOf_37 : decode cX15_pinOf 37 = .ok (.invokevirtual 238, 3) := by decide +kernel
theorem dX15_pinOf_40 : decode cX15_pinOf 40 = .ok (.ifCond .eq 22, 3) := by decide +kernel
theorem dX15_pinOf_43 : decode cX15_pinOf 43 = .ok (.aload_n 0, 1) := by decide +kernel
theorem dX15_pinOf_44 : decode cX15_pinOf 44 = .ok (.getfield 26, 3) := by decide +kernel
theorem dX15_pinOf_47 : decode cX15_pinOf 47 = .ok (.iload_n 1, 1) := by decide +kernel
theorem dX15_pinOf_48 : decode cX15_pinOf 48 = .ok (.invokeinterface 143 2, 5) := by decide +kernel
theorem dX15_pinOf_53 : decode cX15_pinOf 53 = .ok (.checkcast 170, 3) := by decide +kernel
theorem dX15_pinOf_56 : decode cX15_pinOf 56 = .ok (.getfield 229, 3) := by decide +kernel
theorem dX15_pinOf_59 : decode cX15_pinOf 59 = .ok (.goto 4, 3) := by decide +kernel
theorem dX15_pinOf_62 : decode cX15_pinOf 62 = .ok (.iconst (-1), 1) := by decide +kernel
theorem dX15_pinOf_63 : decode cX15_pinOf 63 = .ok (.ireturn, 1) := by decide +kernel
theorem dX15_power_0 : decode cX15_power 0 = .ok (.aload_n 0, 1) := by decide +kernel
theorem dX15_power_1 : decode cX15_power 1 = .ok (.aload_n 0, 1) := by decide +kernel
theorem dX15_power_2 : decode cX15_power 2 = .ok (.iload_n 1, 1) := by decide +kernel
theorem dX15_power_3 : decode cX15_power 3 = .ok (.invokevirtual 283, 3) := by decide +kernel
theorem dX15_power_6 : decode cX15_power 6 = .ok (.ifCond .eq 7, 3) := by decide +kernel
theorem dX15_power_9 : decode cX15_power 9 = .ok (.iconst 0, 1) := by decide +kernel
theorem dX15_power_10 : decode cX15_power 10 = .ok (.goto 4, 3) := by decide +kernel
theorem dX15_power_13 : decode cX15_power 13 = .ok (.iconst 1, 1) := by decide +kernel
theorem dX15_power_14 : decode cX15_power 14 = .ok (.invokevirtual 106, 3) := by decide +kernel
theorem dX15_power_17 : decode cX15_power 17 = .ok (.ifCond .eq 5, 3) := by decide +kernel
theorem dX15_power_20 : decode cX15_power 20 = .ok (.iconst 0, 1) := by decide +kernel
theorem dX15_power_21 : decode cX15_power 21 = .ok (.ireturn, 1) := by decide +kernel
theorem dX15_power_22 : decode cX15_power 22 = .ok (.aload_n 0, 1) := by decide +kernel
theorem dX15_power_23 : decode cX15_power 23 = .ok (.getfield 32, 3) := by decide +kernel
theorem dX15_power_26 : decode cX15_power 26 = .ok (.iload_n 1, 1) := by decide +kernel
theorem dX15_power_27 : decode cX15_power 27 = .ok (.invokeinterface 143 2, 5) := by decide +kernel
theorem dX15_power_32 : decode cX15_power 32 = .ok (.checkcast 200, 3) := by decide +kernel
theorem dX15_power_35 : decode cX15_power 35 = .ok (.getfield 256, 3) := by decide +kernel
theorem dX15_power_38 : decode cX15_power 38 = .ok (.astore_n 2, 1) := by decide +kernel
theorem dX15_power_39 : decode cX15_power 39 = .ok (.iconst 0, 1) := by decide +kernel
theorem dX15_power_40 : decode cX15_power 40 = .ok (.istore_n 3, 1) := by decide +kernel
theorem dX15_power_41 : decode cX15_power 41 = .ok (.iconst 1, 1) := by decide +kernel
theorem dX15_power_42 : decode cX15_power 42 = .ok (.istore 4, 2) := by decide +kernel
theorem dX15_power_44 : decode cX15_power 44 = .ok (.iload 4, 2) := by decide +kernel
theorem dX15_power_46 : decode cX15_power 46 = .ok (.aload_n 2, 1) := by decide +kernel
theorem dX15_power_47 : decode cX15_power 47 = .ok (.arraylength, 1) := by decide +kernel
theorem dX15_power_48 : decode cX15_power 48 = .ok (.if_icmp .ge 51, 3) := by decide +kernel
theorem dX15_power_51 : decode cX15_power 51 = .ok (.iload_n 3, 1) := by decide +kernel
theorem dX15_power_52 : decode cX15_power 52 = .ok (.aload_n 2, 1) := by decide +kernel
theorem dX15_power_53 : decode cX15_power 53 = .ok (.iload 4, 2) := by decide +kernel
theorem dX15_power_55 : decode cX15_power 55 = .ok (.iaload, 1) := by decide +kernel
theorem dX15_power_56 : decode cX15_power 56 = .ok (.aload_n 2, 1) := by decide +kernel
theorem dX15_power_57 : decode cX15_power 57 = .ok (.iload 4, 2) := by decide +kernel
theorem dX15_power_59 : decode cX15_power 59 = .ok (.iconst 1, 1) := by decide +kernel
theorem dX15_power_60 : decode cX15_power 60 = .ok (.isub, 1) := by decide +kernel
theorem dX15_power_61 : decode cX15_power 61 = .ok (.iaload, 1) := by decide +kernel
theorem dX15_power_62 : decode cX15_power 62 = .ok (.iadd, 1) := by decide +kernel
theorem dX15_power_63 : decode cX15_power 63 = .ok (.iconst 1, 1) := by decide +kernel
theorem dX15_power_64 : decode cX15_power 64 = .ok (.if_icmp .ne 26, 3) := by decide +kernel
theorem dX15_power_67 : decode cX15_power 67 = .ok (.aload_n 2, 1) := by decide +kernel
theorem dX15_power_68 : decode cX15_power 68 = .ok (.iload 4, 2) := by decide +kernel
theorem dX15_power_70 : decode cX15_power 70 = .ok (.iaload, 1) := by decide +kernel
theorem dX15_power_71 : decode cX15_power 71 = .ok (.iconst 2, 1) := by decide +kernel
theorem dX15_power_72 : decode cX15_power 72 = .ok (.if_icmp .eq 18, 3) := by decide +kernel
theorem dX15_power_75 : decode cX15_power 75 = .ok (.aload_n 2, 1) := by decide +kernel
theorem dX15_power_76 : decode cX15_power 76 = .ok (.iload 4, 2) := by decide +kernel
theorem dX15_power_78 : decode cX15_power 78 = .ok (.iconst 1, 1) := by decide +kernel
theorem dX15_power_79 : decode cX15_power 79 = .ok (.isub, 1) := by decide +kernel
theorem dX15_power_80 : decode cX15_power 80 = .ok (.iaload, 1) := by decide +kernel
theorem dX15_power_81 : decode cX15_power 81 = .ok (.iconst 2, 1) := by decide +kernel
theorem dX15_power_82 : decode cX15_power 82 = .ok (.if_icmp .eq 8, 3) := by decide +kernel
theorem dX15_power_85 : decode cX15_power 85 = .ok (.iload 4, 2) := by decide +kernel
theorem dX15_power_87 : decode cX15_power 87 = .ok (.goto 4, 3) := by decide +kernel
theorem dX15_power_90 : decode cX15_power 90 = .ok (.iconst 0, 1) := by decide +kernel
theorem dX15_power_91 : decode cX15_power 91 = .ok (.iadd, 1) := by decide +kernel
theorem dX15_power_92 : decode cX15_power 92 = .ok (.istore_n 3, 1) := by decide +kernel
theorem dX15_power_93 : decode cX15_power 93 = .ok (.iinc 4 1, 3) := by decide +kernel
theorem dX15_power_96 : decode cX15_power 96 = .ok (.goto (-52), 3) := by decide +kernel
theorem dX15_power_99 : decode cX15_power 99 = .ok (.iload_n 3, 1) := by decide +kernel
theorem dX15_power_100 : decode cX15_power 100 = .ok (.ireturn, 1) := by decide +kernel
theorem dX15_record_0 : decode cX15_record 0 = .ok (.aload_n 0, 1) := by decide +kernel
theorem dX15_record_1 : decode cX15_record 1 = .ok (.invokevirtual 421, 3) := by decide +kernel
theorem dX15_record_4 : decode cX15_record 4 = .ok (.astore_n 1, 1) := by decide +kernel
theorem dX15_record_5 : decode cX15_record 5 = .ok (.aload_n 0, 1) := by decide +kernel
theorem dX15_record_6 : decode cX15_record 6 = .ok (.aload_n 1, 1) := by decide +kernel
theorem dX15_record_7 : decode cX15_record 7 = .ok (.invokeinterface 349 1, 5) := by decide +kernel
theorem dX15_record_12 : decode cX15_record 12 = .ok (.ifCond .eq 7, 3) := by decide +kernel
theorem dX15_record_15 : decode cX15_record 15 = .ok (.iconst 1, 1) := by decide +kernel
theorem dX15_record_16 : decode cX15_record 16 = .ok (.goto 4, 3) := by decide +kernel
theorem dX15_record_19 : decode cX15_record 19 = .ok (.iconst 0, 1) := by decide +kernel
theorem dX15_record_20 : decode cX15_record 20 = .ok (.invokevirtual 106, 3) := by decide +kernel
theorem dX15_record_23 : decode cX15_record 23 = .ok (.ifCond .eq 5, 3) := by decide +kernel
theorem dX15_record_26 : decode cX15_record 26 = .ok (.iconst 0, 1) := by decide +kernel
theorem dX15_record_27 : decode cX15_record 27 = .ok (.ireturn, 1) := by decide +kernel
theorem dX15_record_28 : decode cX15_record 28 = .ok (.aload_n 0, 1) := by decide +kernel
theorem dX15_record_29 : decode cX15_record 29 = .ok (.getfield 45, 3) := by decide +kernel
theorem dX15_record_32 : decode cX15_record 32 = .ok (.aload_n 1, 1) := by decide +kernel
theorem dX15_record_33 : decode cX15_record 33 = .ok (.iconst 0, 1) := by decide +kernel
theorem dX15_record_34 : decode cX15_record 34 = .ok (.invokeinterface 143 2, 5) := by decide +kernel
theorem dX15_record_39 : decode cX15_record 39 = .ok (.checkcast 119, 3) := by decide +kernel
theorem dX15_record_42 : decode cX15_record 42 = .ok (.invokevirtual 194, 3) := by decide +kernel
theorem dX15_record_45 : decode cX15_record 45 = .ok (.dup2, 1) := by decide +kernel
theorem dX15_record_46 : decode cX15_record 46 = .ok (.iaload, 1) := by decide +kernel
theorem dX15_record_47 : decode cX15_record 47 = .ok (.iconst 1, 1) := by decide +kernel
theorem dX15_record_48 : decode cX15_record 48 = .ok (.iadd, 1) := by decide +kernel
theorem dX15_record_49 : decode cX15_record 49 = .ok (.iastore, 1) := by decide +kernel
theorem dX15_record_50 : decode cX15_record 50 = .ok (.aload_n 0, 1) := by decide +kernel
theorem dX15_record_51 : decode cX15_record 51 = .ok (.aload_n 1, 1) := by decide +kernel
theorem dX15_record_52 : decode cX15_record 52 = .ok (.iconst 0, 1) := by decide +kernel
theorem dX15_record_53 : decode cX15_record 53 = .ok (.invokeinterface 143 2, 5) := by decide +kernel
theorem dX15_record_58 : decode cX15_record 58 = .ok (.checkcast 119, 3) := by decide +kernel
theorem dX15_record_61 : decode cX15_record 61 = .ok (.invokevirtual 194, 3) := by decide +kernel
theorem dX15_record_64 : decode cX15_record 64 = .ok (.aload_n 0, 1) := by decide +kernel
theorem dX15_record_65 : decode cX15_record 65 = .ok (.invokevirtual 314, 3) := by decide +kernel
theorem dX15_record_68 : decode cX15_record 68 = .ok (.invokevirtual 424, 3) := by decide +kernel
theorem dX15_record_71 : decode cX15_record 71 = .ok (.ireturn, 1) := by decide +kernel
theorem dX15_sameAs_0 : decode cX15_sameAs 0 = .ok (.aload_n 0, 1) := by decide +kernel
theorem dX15_sameAs_1 : decode cX15_sameAs 1 = .ok (.iload_n 1, 1) := by decide +kernel
theorem dX15_sameAs_2 : decode cX15_sameAs 2 = .ok (.iload_n 2, 1) := by decide +kernel
theorem dX15_sameAs_3 : decode cX15_sameAs 3 = .ok (.invokevirtual 515, 3) := by decide +kernel
theorem dX15_sameAs_6 : decode cX15_sameAs 6 = .ok (.ifCond .eq 5, 3) := by decide +kernel
theorem dX15_sameAs_9 : decode cX15_sameAs 9 = .ok (.iconst 0, 1) := by decide +kernel
theorem dX15_sameAs_10 : decode cX15_sameAs 10 = .ok (.ireturn, 1) := by decide +kernel
theorem dX15_sameAs_11 : decode cX15_sameAs 11 = .ok (.iconst 0, 1) := by decide +kernel
theorem dX15_sameAs_12 : decode cX15_sameAs 12 = .ok (.istore_n 3, 1) := by decide +kernel
theorem dX15_sameAs_13 : decode cX15_sameAs 13 = .ok (.iconst 0, 1) := by decide +kernel
theorem dX15_sameAs_14 : decode cX15_sameAs 14 = .ok (.istore 4, 2) := by decide +kernel
theorem dX15_sameAs_16 : decode cX15_sameAs 16 = .ok (.iload 4, 2) := by decide +kernel
theorem dX15_sameAs_18 : decode cX15_sameAs 18 = .ok (.aload_n 0, 1) := by decide +kernel
theorem dX15_sameAs_19 : decode cX15_sameAs 19 = .ok (.getfield 492, 3) := by decide +kernel
theorem dX15_sameAs_22 : decode cX15_sameAs 22 = .ok (.if_icmp .ge 33, 3) := by decide +kernel
theorem dX15_sameAs_25 : decode cX15_sameAs 25 = .ok (.iload_n 3, 1) := by decide +kernel
theorem dX15_sameAs_26 : decode cX15_sameAs 26 = .ok (.aload_n 0, 1) := by decide +kernel
theorem dX15_sameAs_27 : decode cX15_sameAs 27 = .ok (.iload 4, 2) := by decide +kernel
theorem dX15_sameAs_29 : decode cX15_sameAs 29 = .ok (.iload_n 2, 1) := by decide +kernel
theorem dX15_sameAs_30 : decode cX15_sameAs 30 = .ok (.invokevirtual 519, 3) := by decide +kernel
theorem dX15_sameAs_33 : decode cX15_sameAs 33 = .ok (.aload_n 0, 1) := by decide +kernel
theorem dX15_sameAs_34 : decode cX15_sameAs 34 = .ok (.iload_n 1, 1) := by decide +kernel
theorem dX15_sameAs_35 : decode cX15_sameAs 35 = .ok (.iload_n 2, 1) := by decide +kernel
theorem dX15_sameAs_36 : decode cX15_sameAs 36 = .ok (.invokevirtual 519, 3) := by decide +kernel
theorem dX15_sameAs_39 : decode cX15_sameAs 39 = .ok (.if_icmp .ne 7, 3) := by decide +kernel
theorem dX15_sameAs_42 : decode cX15_sameAs 42 = .ok (.iconst 1, 1) := by decide +kernel
theorem dX15_sameAs_43 : decode cX15_sameAs 43 = .ok (.goto 4, 3) := by decide +kernel
theorem dX15_sameAs_46 : decode cX15_sameAs 46 = .ok (.iconst 0, 1) := by decide +kernel
theorem dX15_sameAs_47 : decode cX15_sameAs 47 = .ok (.iadd, 1) := by decide +kernel
theorem dX15_sameAs_48 : decode cX15_sameAs 48 = .ok (.istore_n 3, 1) := by decide +kernel
theorem dX15_sameAs_49 : decode cX15_sameAs 49 = .ok (.iinc 4 1, 3) := by decide +kernel
theorem dX15_sameAs_52 : decode cX15_sameAs 52 = .ok (.goto (-36), 3) := by decide +kernel
theorem dX15_sameAs_55 : decode cX15_sameAs 55 = .ok (.iload_n 3, 1) := by decide +kernel
theorem dX15_sameAs_56 : decode cX15_sameAs 56 = .ok (.ireturn, 1) := by decide +kernel
theorem dX15_seedFor_0 : decode cX15_seedFor 0 = .ok (.aload_n 0, 1) := by decide +kernel
theorem dX15_seedFor_1 : decode cX15_seedFor 1 = .ok (.aload_n 0, 1) := by decide +kernel
theorem dX15_seedFor_2 : decode cX15_seedFor 2 = .ok (.iload_n 1, 1) := by decide +kernel
theorem dX15_seedFor_3 : decode cX15_seedFor 3 = .ok (.invokevirtual 283, 3) := by decide +kernel
theorem dX15_seedFor_6 : decode cX15_seedFor 6 = .ok (.ifCond .eq 7, 3) := by decide +kernel
theorem dX15_seedFor_9 : decode cX15_seedFor 9 = .ok (.iconst 0, 1) := by decide +kernel
theorem dX15_seedFor_10 : decode cX15_seedFor 10 = .ok (.goto 4, 3) := by decide +kernel
theorem dX15_seedFor_13 : decode cX15_seedFor 13 = .ok (.iconst 1, 1) := by decide +kernel
theorem dX15_seedFor_14 : decode cX15_seedFor 14 = .ok (.invokevirtual 106, 3) := by decide +kernel
theorem dX15_seedFor_17 : decode cX15_seedFor 17 = .ok (.ifCond .eq 5, 3) := by decide +kernel
theorem dX15_seedFor_20 : decode cX15_seedFor 20 = .ok (.iconst 0, 1) := by decide +kernel
theorem dX15_seedFor_21 : decode cX15_seedFor 21 = .ok (.ireturn, 1) := by decide +kernel
theorem dX15_seedFor_22 : decode cX15_seedFor 22 = .ok (.aload_n 0, 1) := by decide +kernel
theorem dX15_seedFor_23 : decode cX15_seedFor 23 = .ok (.getfield 32, 3) := by decide +kernel
theorem dX15_seedFor_26 : decode cX15_seedFor 26 = .ok (.iload_n 1, 1) := by decide +kernel
theorem dX15_seedFor_27 : decode cX15_seedFor 27 = .ok (.invokeinterface 143 2, 5) := by decide +kernel
theorem dX15_seedFor_32 : decode cX15_seedFor 32 = .ok (.checkcast 200, 3) := by decide +kernel
theorem dX15_seedFor_35 : decode cX15_seedFor 35 = .ok (.getfield 256, 3) := by decide +kernel
theorem dX15_seedFor_38 : decode cX15_seedFor 38 = .ok (.astore_n 2, 1) := by decide +kernel
theorem dX15_seedFor_39 : decode cX15_seedFor 39 = .ok (.aload_n 2, 1) := by decide +kernel
theorem dX15_seedFor_40 : decode cX15_seedFor 40 = .ok (.arraylength, 1) := by decide +kernel
theorem dX15_seedFor_41 : decode cX15_seedFor 41 = .ok (.newarray .int, 2) := by decide +kernel
theorem dX15_seedFor_43 : decode cX15_seedFor 43 = .ok (.astore_n 3, 1) := by decide +kernel
theorem dX15_seedFor_44 : decode cX15_seedFor 44 = .ok (.iconst 0, 1) := by decide +kernel
theorem dX15_seedFor_45 : decode cX15_seedFor 45 = .ok (.istore 4, 2) := by decide +kernel
theorem dX15_seedFor_47 : decode cX15_seedFor 47 = .ok (.iload 4, 2) := by decide +kernel
theorem dX15_seedFor_49 : decode cX15_seedFor 49 = .ok (.iconst 1, 1) := by decide +kernel
theorem dX15_seedFor_50 : decode cX15_seedFor 50 = .ok (.aload_n 0, 1) := by decide +kernel
theorem dX15_seedFor_51 : decode cX15_seedFor 51 = .ok (.getfield 53, 3) := by decide +kernel
theorem dX15_seedFor_54 : decode cX15_seedFor 54 = .ok (.ishl, 1) := by decide +kernel
theorem dX15_seedFor_55 : decode cX15_seedFor 55 = .ok (.if_icmp .ge 73, 3) := by decide +kernel
theorem dX15_seedFor_58 : decode cX15_seedFor 58 = .ok (.aload_n 0, 1) := by decide +kernel
theorem dX15_seedFor_59 : decode cX15_seedFor 59 = .ok (.iload 4, 2) := by decide +kernel
theorem dX15_seedFor_61 : decode cX15_seedFor 61 = .ok (.aload_n 3, 1) := by decide +kernel
theorem dX15_seedFor_62 : decode cX15_seedFor 62 = .ok (.invokevirtual 385, 3) := by decide +kernel
theorem dX15_seedFor_65 : decode cX15_seedFor 65 = .ok (.pop, 1) := by decide +kernel
theorem dX15_seedFor_66 : decode cX15_seedFor 66 = .ok (.iconst 1, 1) := by decide +kernel
theorem dX15_seedFor_67 : decode cX15_seedFor 67 = .ok (.istore 5, 2) := by decide +kernel
theorem dX15_seedFor_69 : decode cX15_seedFor 69 = .ok (.iconst 0, 1) := by decide +kernel
theorem dX15_seedFor_70 : decode cX15_seedFor 70 = .ok (.istore 6, 2) := by decide +kernel
theorem dX15_seedFor_72 : decode cX15_seedFor 72 = .ok (.iload 6, 2) := by decide +kernel
theorem dX15_seedFor_74 : decode cX15_seedFor 74 = .ok (.aload_n 3, 1) := by decide +kernel
theorem dX15_seedFor_75 : decode cX15_seedFor 75 = .ok (.arraylength, 1) := by decide +kernel
theorem dX15_seedFor_76 : decode cX15_seedFor 76 = .ok (.if_icmp .ge 38, 3) := by decide +kernel
theorem dX15_seedFor_79 : decode cX15_seedFor 79 = .ok (.iload 5, 2) := by decide +kernel
theorem dX15_seedFor_81 : decode cX15_seedFor 81 = .ok (.aload_n 2, 1) := by decide +kernel
theorem dX15_seedFor_82 : decode cX15_seedFor 82 = .ok (.iload 6, 2) := by decide +kernel
theorem dX15_seedFor_84 : decode cX15_seedFor 84 = .ok (.iaload, 1) := by decide +kernel
theorem dX15_seedFor_85 : decode cX15_seedFor 85 = .ok (.iconst 2, 1) := by decide +kernel
theorem dX15_seedFor_86 : decode cX15_seedFor 86 = .ok (.if_icmp .eq 14, 3) := by decide +kernel
theorem dX15_seedFor_89 : decode cX15_seedFor 89 = .ok (.aload_n 2, 1) := by decide +kernel
theorem dX15_seedFor_90 : decode cX15_seedFor 90 = .ok (.iload 6, 2) := by decide +kernel
theorem dX15_seedFor_92 : decode cX15_seedFor 92 = .ok (.iaload, 1) := by decide +kernel
theorem dX15_seedFor_93 : decode cX15_seedFor 93 = .ok (.aload_n 3, 1) := by decide +kernel
theorem dX15_seedFor_94 : decode cX15_seedFor 94 = .ok (.iload 6, 2) := by decide +kernel
theorem dX15_seedFor_96 : decode cX15_seedFor 96 = .ok (.iaload, 1) := by decide +kernel
theorem dX15_seedFor_97 : decode cX15_seedFor 97 = .ok (.if_icmp .ne 7, 3) := by decide +kernel
theorem dX15_seedFor_100 : decode cX15_seedFor 100 = .ok (.iconst 1, 1) := by decide +kernel
theorem dX15_seedFor_101 : decode cX15_seedFor 101 = .ok (.goto 4, 3) := by decide +kernel
theorem dX15_seedFor_104 : decode cX15_seedFor 104 = .ok (.iconst 0, 1) := by decide +kernel
theorem dX15_seedFor_105 : decode cX15_seedFor 105 = .ok (.iand, 1) := by decide +kernel
theorem dX15_seedFor_106 : decode cX15_seedFor 106 = .ok (.istore 5, 2) := by decide +kernel
theorem dX15_seedFor_108 : decode cX15_seedFor 108 = .ok (.iinc 6 1, 3) := by decide +kernel
theorem dX15_seedFor_111 : decode cX15_seedFor 111 = .ok (.goto (-39), 3) := by decide +kernel
theorem dX15_seedFor_114 : decode cX15_seedFor 114 = .ok (.iload 5, 2) := by decide +kernel
theorem dX15_seedFor_116 : decode cX15_seedFor 116 = .ok (.ifCond .eq 6, 3) := by decide +kernel
theorem dX15_seedFor_119 : decode cX15_seedFor 119 = .ok (.iload 4, 2) := by decide +kernel
theorem dX15_seedFor_121 : decode cX15_seedFor 121 = .ok (.ireturn, 1) := by decide +kernel
theorem dX15_seedFor_122 : decode cX15_seedFor 122 = .ok (.iinc 4 1, 3) := by decide +kernel
theorem dX15_seedFor_125 : decode cX15_seedFor 125 = .ok (.goto (-78), 3) := by decide +kernel
theorem dX15_seedFor_128 : decode cX15_seedFor 128 = .ok (.aload_n 0, 1) := by decide +kernel
theorem dX15_seedFor_129 : decode cX15_seedFor 129 = .ok (.iconst 2, 1) := by decide +kernel
theorem dX15_seedFor_130 : decode cX15_seedFor 130 = .ok (.putfield 1, 3) := by decide +kernel
theorem dX15_seedFor_133 : decode cX15_seedFor 133 = .ok (.iconst 0, 1) := by decide +kernel
theorem dX15_seedFor_134 : decode cX15_seedFor 134 = .ok (.ireturn, 1) := by decide +kernel
theorem dX15_seen_0 : decode cX15_seen 0 = .ok (.aload_n 0, 1) := by decide +kernel
theorem dX15_seen_1 : decode cX15_seen 1 = .ok (.aload_n 0, 1) := by decide +kernel
theorem dX15_seen_2 : decode cX15_seen 2 = .ok (.iload_n 1, 1) := by decide +kernel
theorem dX15_seen_3 : decode cX15_seen 3 = .ok (.invokevirtual 283, 3) := by decide +kernel
theorem dX15_seen_6 : decode cX15_seen 6 = .ok (.ifCond .eq 26, 3) := by decide +kernel
theorem dX15_seen_9 : decode cX15_seen 9 = .ok (.iload_n 2, 1) := by decide +kernel
theorem dX15_seen_10 : decode cX15_seen 10 = .ok (.iconst 0, 1) := by decide +kernel
theorem dX15_seen_11 : decode cX15_seen 11 = .ok (.aload_n 0, 1) := by decide +kernel
theorem dX15_seen_12 : decode cX15_seen 12 = .ok (.getfield 23, 3) := by decide +kernel
theorem dX15_seen_15 : decode cX15_seen 15 = .ok (.invokeinterface 92 1, 5) := by decide +kernel
theorem dX15_seen_20 : decode cX15_seen 20 = .ok (.iconst 1, 1) := by decide +kernel
theorem dX15_seen_21 : decode cX15_seen 21 = .ok (.isub, 1) := by decide +kernel
theorem dX15_seen_22 : decode cX15_seen 22 = .ok (.invokestatic 98, 3) := by decide +kernel
theorem dX15_seen_25 : decode cX15_seen 25 = .ok (.ifCond .eq 7, 3) := by decide +kernel
theorem dX15_seen_28 : decode cX15_seen 28 = .ok (.iconst 0, 1) := by decide +kernel
theorem dX15_seen_29 : decode cX15_seen 29 = .ok (.goto 4, 3) := by decide +kernel
theorem dX15_seen_32 : decode cX15_seen 32 = .ok (.iconst 1, 1) := by decide +kernel
theorem dX15_seen_33 : decode cX15_seen 33 = .ok (.invokevirtual 106, 3) := by decide +kernel
theorem dX15_seen_36 : decode cX15_seen 36 = .ok (.ifCond .eq 7, 3) := by decide +kernel
theorem dX15_seen_39 : decode cX15_seen 39 = .ok (.iconst 0, 1) := by decide +kernel
theorem dX15_seen_40 : decode cX15_seen 40 = .ok (.goto 14, 3) := by decide +kernel
theorem dX15_seen_43 : decode cX15_seen 43 = .ok (.aload_n 0, 1) := by decide +kernel
theorem dX15_seen_44 : decode cX15_seen 44 = .ok (.iload_n 1, 1) := by decide +kernel
theorem dX15_seen_45 : decode cX15_seen 45 = .ok (.aload_n 0, 1) := by decide +kernel
theorem dX15_seen_46 : decode cX15_seen 46 = .ok (.getfield 59, 3) := by decide +kernel
theorem dX15_seen_49 : decode cX15_seen 49 = .ok (.invokevirtual 434, 3) := by decide +kernel
theorem dX15_seen_52 : decode cX15_seen 52 = .ok (.iload_n 2, 1) := by decide +kernel
theorem dX15_seen_53 : decode cX15_seen 53 = .ok (.iaload, 1) := by decide +kernel
theorem dX15_seen_54 : decode cX15_seen 54 = .ok (.ireturn, 1) := by decide +kernel
theorem dX15_setTime_0 : decode cX15_setTime 0 = .ok (.aload_n 0, 1) := by decide +kernel
theorem dX15_setTime_1 : decode cX15_setTime 1 = .ok (.aload_n 0, 1) := by decide +kernel
theorem dX15_setTime_2 : decode cX15_setTime 2 = .ok (.iload_n 1, 1) := by decide +kernel
theorem dX15_setTime_3 : decode cX15_setTime 3 = .ok (.invokevirtual 283, 3) := by decide +kernel
theorem dX15_setTime_6 : decode cX15_setTime 6 = .ok (.ifCond .ne 7, 3) := by decide +kernel
theorem dX15_setTime_9 : decode cX15_setTime 9 = .ok (.iconst 1, 1) := by decide +kernel
theorem dX15_setTime_10 : decode cX15_setTime 10 = .ok (.goto 18, 3) := by decide +kernel
theorem dX15_setTime_13 : decode cX15_setTime 13 = .ok (.iload_n 2, 1) := by decide +kernel
theorem dX15_setTime_14 : decode cX15_setTime 14 = .ok (.iconst 1, 1) := by decide +kernel
theorem dX15_setTime_15 : decode cX15_setTime 15 = .ok (.bipush 99, 2) := by decide +kernel
theorem dX15_setTime_17 : decode cX15_setTime 17 = .ok (.invokestatic 98, 3) := by decide +kernel
theorem dX15_setTime_20 : decode cX15_setTime 20 = .ok (.ifCond .ne 7, 3) := by decide +kernel
theorem dX15_setTime_23 : decode cX15_setTime 23 = .ok (.iconst 2, 1) := by decide +kernel
theorem dX15_setTime_24 : decode cX15_setTime 24 = .ok (.goto 4, 3) := by decide +kernel
theorem dX15_setTime_27 : decode cX15_setTime 27 = .ok (.iconst 0, 1) := by decide +kernel
theorem dX15_setTime_28 : decode cX15_setTime 28 = .ok (.invokevirtual 106, 3) := by decide +kernel
theorem dX15_setTime_31 : decode cX15_setTime 31 = .ok (.ifCond .eq 5, 3) := by decide +kernel
theorem dX15_setTime_34 : decode cX15_setTime 34 = .ok (.iconst 0, 1) := by decide +kernel
theorem dX15_setTime_35 : decode cX15_setTime 35 = .ok (.ireturn, 1) := by decide +kernel
theorem dX15_setTime_36 : decode cX15_setTime 36 = .ok (.aload_n 0, 1) := by decide +kernel
theorem dX15_setTime_37 : decode cX15_setTime 37 = .ok (.getfield 32, 3) := by decide +kernel
theorem dX15_setTime_40 : decode cX15_setTime 40 = .ok (.iload_n 1, 1) := by decide +kernel
theorem dX15_setTime_41 : decode cX15_setTime 41 = .ok (.invokeinterface 143 2, 5) := by decide +kernel
theorem dX15_setTime_46 : decode cX15_setTime 46 = .ok (.checkcast 200, 3) := by decide +kernel
theorem dX15_setTime_49 : decode cX15_setTime 49 = .ok (.getfield 442, 3) := by decide +kernel
theorem dX15_setTime_52 : decode cX15_setTime 52 = .ok (.istore_n 3, 1) := by decide +kernel
theorem dX15_setTime_53 : decode cX15_setTime 53 = .ok (.aload_n 0, 1) := by decide +kernel
theorem dX15_setTime_54 : decode cX15_setTime 54 = .ok (.getfield 32, 3) := by decide +kernel
theorem dX15_setTime_57 : decode cX15_setTime 57 = .ok (.iload_n 1, 1) := by decide +kernel
theorem dX15_setTime_58 : decode cX15_setTime 58 = .ok (.invokeinterface 143 2, 5) := by decide +kernel
theorem dX15_setTime_63 : decode cX15_setTime 63 = .ok (.checkcast 200, 3) := by decide +kernel
theorem dX15_setTime_66 : decode cX15_setTime 66 = .ok (.iload_n 2, 1) := by decide +kernel
theorem dX15_setTime_67 : decode cX15_setTime 67 = .ok (.putfield 442, 3) := by decide +kernel
theorem dX15_setTime_70 : decode cX15_setTime 70 = .ok (.iload_n 3, 1) := by decide +kernel
theorem dX15_setTime_71 : decode cX15_setTime 71 = .ok (.ireturn, 1) := by decide +kernel
theorem dX15_shortWires_0 : decode cX15_shortWires 0 = .ok (.aload_n 0, 1) := by decide +kernel
theorem dX15_shortWires_1 : decode cX15_shortWires 1 = .ok (.aload_n 0, 1) := by decide +kernel
theorem dX15_shortWires_2 : decode cX15_shortWires 2 = .ok (.iload_n 1, 1) := by decide +kernel
theorem dX15_shortWires_3 : decode cX15_shortWires 3 = .ok (.invokevirtual 498, 3) := by decide +kernel
theorem dX15_shortWires_6 : decode cX15_shortWires 6 = .ok (.ifCond .eq 11, 3) := by decide +kernel
theorem dX15_shortWires_9 : decode cX15_shortWires 9 = .ok (.aload_n 0, 1) := by decide +kernel
theorem dX15_shortWires_10 : decode cX15_shortWires 10 = .ok (.iload_n 2, 1) := by decide +kernel
theorem dX15_shortWires_11 : decode cX15_shortWires 11 = .ok (.invokevirtual 498, 3) := by decide +kernel
theorem dX15_shortWires_14 : decode cX15_shortWires 14 = .ok (.ifCond .ne 7, 3) := by decide +kernel
theorem dX15_shortWires_17 : decode cX15_shortWires 17 = .ok (.iconst 1, 1) := by decide +kernel
theorem dX15_shortWires_18 : decode cX15_shortWires 18 = .ok (.goto 13, 3) := by decide +kernel
theorem dX15_shortWires_21 : decode cX15_shortWires 21 = .ok (.iload_n 1, 1) := by decide +kernel
theorem dX15_shortWires_22 : decode cX15_shortWires 22 = .ok (.iload_n 2, 1) := by decide +kernel
theorem dX15_shortWires_23 : decode cX15_shortWires 23 = .ok (.if_icmp .ne 7, 3) := by decide +kernel
theorem dX15_shortWires_26 : decode cX15_shortWires 26 = .ok (.iconst 2, 1) := by decide +kernel
theorem dX15_shortWires_27 : decode cX15_shortWires 27 = .ok (.goto 4, 3) := by decide +kernel
theorem dX15_shortWires_30 : decode cX15_shortWires 30 = .ok (.iconst 0, 1) := by decide +kernel
theorem dX15_shortWires_31 : decode cX15_shortWires 31 = .ok (.invokevirtual 106, 3) := by decide +kernel
theorem dX15_shortWires_34 : decode cX15_shortWires 34 = .ok (.ifCond .eq 5, 3) := by decide +kernel
theorem dX15_shortWires_37 : decode cX15_shortWires 37 = .ok (.iconst 0, 1) := by decide +kernel
theorem dX15_shortWires_38 : decode cX15_shortWires 38 = .ok (.ireturn, 1) := by decide +kernel
theorem dX15_shortWires_39 : decode cX15_shortWires 39 = .ok (.aload_n 0, 1) := by decide +kernel
theorem dX15_shortWires_40 : decode cX15_shortWires 40 = .ok (.getfield 80, 3) := by decide +kernel
theorem dX15_shortWires_43 : decode cX15_shortWires 43 = .ok (.iload_n 1, 1) := by decide +kernel
theorem dX15_shortWires_44 : decode cX15_shortWires 44 = .ok (.aaload, 1) := by decide +kernel
theorem dX15_shortWires_45 : decode cX15_shortWires 45 = .ok (.iload_n 2, 1) := by decide +kernel
theorem dX15_shortWires_46 : decode cX15_shortWires 46 = .ok (.iconst 1, 1) := by decide +kernel
theorem dX15_shortWires_47 : decode cX15_shortWires 47 = .ok (.bastore, 1) := by decide +kernel
theorem dX15_shortWires_48 : decode cX15_shortWires 48 = .ok (.aload_n 0, 1) := by decide +kernel
theorem dX15_shortWires_49 : decode cX15_shortWires 49 = .ok (.iload_n 1, 1) := by decide +kernel
theorem dX15_shortWires_50 : decode cX15_shortWires 50 = .ok (.iconst 1, 1) := by decide +kernel
theorem dX15_shortWires_51 : decode cX15_shortWires 51 = .ok (.invokevirtual 501, 3) := by decide +kernel
theorem dX15_shortWires_54 : decode cX15_shortWires 54 = .ok (.invokestatic 379, 3) := by decide +kernel
theorem dX15_shortWires_57 : decode cX15_shortWires 57 = .ok (.ireturn, 1) := by decide +kernel
theorem dX15_signature_0 : decode cX15_signature 0 = .ok (.aload_n 0, 1) := by decide +kernel
theorem dX15_signature_1 : decode cX15_signature 1 = .ok (.iload_n 1, 1) := by decide +kernel
theorem dX15_signature_2 : decode cX15_signature 2 = .ok (.iconst (-1), 1) := by decide +kernel
theorem dX15_signature_3 : decode cX15_signature 3 = .ok (.if_icmp .eq 15, 3) := by decide +kernel
theorem dX15_signature_6 : decode cX15_signature 6 = .ok (.aload_n 0, 1) := by decide +kernel
theorem dX15_signature_7 : decode cX15_signature 7 = .ok (.iload_n 1, 1) := by decide +kernel
theorem dX15_signature_8 : decode cX15_signature 8 = .ok (.invokevirtual 286, 3) := by decide +kernel
theorem dX15_signature_11 : decode cX15_signature 11 = .ok (.ifCond .ne 7, 3) := by decide +kernel
theorem dX15_signature_14 : decode cX15_signature 14 = .ok (.iconst 1, 1) := by decide +kernel
theorem dX15_signature_15 : decode cX15_signature 15 = .ok (.goto 32, 3) := by decide +kernel
theorem dX15_signature_18 : decode cX15_signature 18 = .ok (.iload_n 1, 1) := by decide +kernel
theorem dX15_signature_19 : decode cX15_signature 19 = .ok (.iconst (-1), 1) := by decide +kernel
theorem dX15_signature_20 : decode cX15_signature 20 = .ok (.if_icmp .eq 26, 3) := by decide +kernel
theorem dX15_signature_23 : decode cX15_signature 23 = .ok (.aload_n 0, 1) := by decide +kernel
theorem dX15_signature_24 : decode cX15_signature 24 = .ok (.getfield 26, 3) := by decide +kernel
theorem dX15_signature_27 : decode cX15_signature 27 = .ok (.iload_n 1, 1) := by decide +kernel
theorem dX15_signature_28 : decode cX15_signature 28 = .ok (.invokeinterface 143 2, 5) := by decide +kernel
theorem dX15_signature_33 : decode cX15_signature 33 = .ok (.checkcast 170, 3) := by decide +kernel
theorem dX15_signature_36 : decode cX15_signature 36 = .ok (.invokevirtual 238, 3) := by decide +kernel
theorem dX15_signature_39 : decode cX15_signature 39 = .ok (.ifCond .ne 7, 3) := by decide +kernel
theorem dX15_signature_42 : decode cX15_signature 42 = .ok (.iconst 2, 1) := by decide +kernel
theorem dX15_signature_43 : decode cX15_signature 43 = .ok (.goto 4, 3) := by decide +kernel
theorem dX15_signature_46 : decode cX15_signature 46 = .ok (.iconst 0, 1) := by decide +kernel
theorem dX15_signature_47 : decode cX15_signature 47 = .ok (.invokevirtual 106, 3) := by decide +kernel
theorem dX15_signature_50 : decode cX15_signature 50 = .ok (.ifCond .eq 5, 3) := by decide +kernel
theorem dX15_signature_53 : decode cX15_signature 53 = .ok (.iconst 0, 1) := by decide +kernel
theorem dX15_signature_54 : decode cX15_signature 54 = .ok (.ireturn, 1) := by decide +kernel
theorem dX15_signature_55 : decode cX15_signature 55 = .ok (.aload_n 0, 1) := by decide +kernel
theorem dX15_signature_56 : decode cX15_signature 56 = .ok (.iload_n 1, 1) := by decide +kernel
theorem dX15_signature_57 : decode cX15_signature 57 = .ok (.iconst (-1), 1) := by decide +kernel
theorem dX15_signature_58 : decode cX15_signature 58 = .ok (.if_icmp .ne 7, 3) := by decide +kernel
theorem dX15_signature_61 : decode cX15_signature 61 = .ok (.aconst_null, 1) := by decide +kernel
theorem dX15_signature_62 : decode cX15_signature 62 = .ok (.goto 16, 3) := by decide +kernel
theorem dX15_signature_65 : decode cX15_signature 65 = .ok (.aload_n 0, 1) := by decide +kernel
theorem dX15_signature_66 : decode cX15_signature 66 = .ok (.getfield 26, 3) := by decide +kernel
theorem dX15_signature_69 : decode cX15_signature 69 = .ok (.iload_n 1, 1) := by decide +kernel
theorem dX15_signature_70 : decode cX15_signature 70 = .ok (.invokeinterface 143 2, 5) := by decide +kernel
theorem dX15_signature_75 : decode cX15_signature 75 = .ok (.checkcast 170, 3) := by decide +kernel
theorem dX15_signature_78 : decode cX15_signature 78 = .ok (.invokevirtual 389, 3) := by decide +kernel
theorem dX15_signature_81 : decode cX15_signature 81 = .ok (.ireturn, 1) := by decide +kernel
theorem dX15_signed_0 : decode cX15_signed 0 = .ok (.iconst 0, 1) := by decide +kernel
theorem dX15_signed_1 : decode cX15_signed 1 = .ok (.istore_n 2, 1) := by decide +kernel
theorem dX15_signed_2 : decode cX15_signed 2 = .ok (.aload_n 0, 1) := by decide +kernel
theorem dX15_signed_3 : decode cX15_signed 3 = .ok (.getfield 32, 3) := by decide +kernel
theorem dX15_signed_6 : decode cX15_signed 6 = .ok (.invokeinterface 156 1, 5) := by decide +kernel
theorem dX15_signed_11 : decode cX15_signed 11 = .ok (.astore_n 3, 1) := by decide +kernel
theorem dX15_signed_12 : decode cX15_signed 12 = .ok (.aload_n 3, 1) := by decide +kernel
theorem dX15_signed_13 : decode cX15_signed 13 = .ok (.invokeinterface 160 1, 5) := by decide +kernel
theorem dX15_signed_18 : decode cX15_signed 18 = .ok (.ifCond .eq 121, 3) := by decide +kernel
theorem dX15_signed_21 : decode cX15_signed 21 = .ok (.aload_n 3, 1) := by decide +kernel
theorem dX15_signed_22 : decode cX15_signed 22 = .ok (.invokeinterface 166 1, 5) := by decide +kernel
theorem dX15_signed_27 : decode cX15_signed 27 = .ok (.checkcast 200, 3) := by decide +kernel
theorem dX15_signed_30 : decode cX15_signed 30 = .ok (.astore 4, 2) := by decide +kernel
theorem dX15_signed_32 : decode cX15_signed 32 = .ok (.aload_n 1, 1) := by decide +kernel
theorem dX15_signed_33 : decode cX15_signed 33 = .ok (.ifnonnull 19, 3) := by decide +kernel
theorem dX15_signed_36 : decode cX15_signed 36 = .ok (.aload_n 0, 1) := by decide +kernel
theorem dX15_signed_37 : decode cX15_signed 37 = .ok (.aload 4, 2) := by decide +kernel
theorem dX15_signed_39 : decode cX15_signed 39 = .ok (.getfield 256, 3) := by decide +kernel
theorem dX15_signed_42 : decode cX15_signed 42 = .ok (.aload_n 0, 1) := by decide +kernel
theorem dX15_signed_43 : decode cX15_signed 43 = .ok (.getfield 42, 3) := by decide +kernel
theorem dX15_signed_46 : decode cX15_signed 46 = .ok (.invokevirtual 244, 3) := by decide +kernel
theorem dX15_signed_49 : decode cX15_signed 49 = .ok (.goto 13, 3) := by decide +kernel
theorem dX15_signed_52 : decode cX15_signed 52 = .ok (.aload_n 0, 1) := by decide +kernel
theorem dX15_signed_53 : decode cX15_signed 53 = .ok (.aload 4, 2) := by decide +kernel
theorem dX15_signed_55 : decode cX15_signed 55 = .ok (.getfield 256, 3) := by decide +kernel
theorem dX15_signed_58 : decode cX15_signed 58 = .ok (.aload_n 1, 1) := by decide +kernel
theorem dX15_signed_59 : decode cX15_signed 59 = .ok (.invokevirtual 265, 3) := by decide +kernel
theorem dX15_signed_62 : decode cX15_signed 62 = .ok (.aload_n 0, 1) := by decide +kernel
theorem dX15_signed_63 : decode cX15_signed 63 = .ok (.iload_n 2, 1) := by decide +kernel
theorem dX15_signed_64 : decode cX15_signed 64 = .ok (.invokevirtual 382, 3) := by decide +kernel
theorem dX15_signed_67 : decode cX15_signed 67 = .ok (.istore_n 2, 1) := by decide +kernel
theorem dX15_signed_68 : decode cX15_signed 68 = .ok (.iconst 0, 1) := by decide +kernel
theorem dX15_signed_69 : decode cX15_signed 69 = .ok (.istore 5, 2) := by decide +kernel
theorem dX15_signed_71 : decode cX15_signed 71 = .ok (.iconst 0, 1) := by decide +kernel
theorem dX15_signed_72 : decode cX15_signed 72 = .ok (.istore 6, 2) := by decide +kernel
theorem dX15_signed_74 : decode cX15_signed 74 = .ok (.iload 6, 2) := by decide +kernel
theorem dX15_signed_76 : decode cX15_signed 76 = .ok (.aload_n 0, 1) := by decide +kernel
theorem dX15_signed_77 : decode cX15_signed 77 = .ok (.getfield 16, 3) := by decide +kernel
theorem dX15_signed_80 : decode cX15_signed 80 = .ok (.invokeinterface 92 1, 5) := by decide +kernel
theorem dX15_signed_85 : decode cX15_signed 85 = .ok (.if_icmp .ge 51, 3) := by decide +kernel
theorem dX15_signed_88 : decode cX15_signed 88 = .ok (.aload_n 0, 1) := by decide +kernel
theorem dX15_signed_89 : decode cX15_signed 89 = .ok (.iload 6, 2) := by decide +kernel
theorem dX15_signed_91 : decode cX15_signed 91 = .ok (.invokevirtual 197, 3) := by decide +kernel
theorem dX15_signed_94 : decode cX15_signed 94 = .ok (.ifCond .ne 6, 3) := by decide +kernel
theorem dX15_signed_97 : decode cX15_signed 97 = .ok (.goto 33, 3) := by decide +kernel
theorem dX15_signed_100 : decode cX15_signed 100 = .ok (.iload_n 2, 1) := by decide +kernel
theorem dX15_signed_101 : decode cX15_signed 101 = .ok (.aload_n 0, 1) := by decide +kernel
theorem dX15_signed_102 : decode cX15_signed 102 = .ok (.getfield 42, 3) := by decide +kernel
theorem dX15_signed_105 : decode cX15_signed 105 = .ok (.iload 6, 2) := by decide +kernel
theorem dX15_signed_107 : decode cX15_signed 107 = .ok (.iaload, 1) := by decide +kernel
theorem dX15_signed_108 : decode cX15_signed 108 = .ok (.iconst 1, 1) := by decide +kernel
theorem dX15_signed_109 : decode cX15_signed 109 = .ok (.if_icmp .ne 15, 3) := by decide +kernel
theorem dX15_signed_112 : decode cX15_signed 112 = .ok (.iconst 1, 1) := by decide +kernel
theorem dX15_signed_113 : decode cX15_signed 113 = .ok (.iload 5, 2) := by decide +kernel
theorem dX15_signed_115 : decode cX15_signed 115 = .ok (.aload_n 0, 1) := by decide +kernel
theorem dX15_signed_116 : decode cX15_signed 116 = .ok (.getfield 53, 3) := by decide +kernel
theorem dX15_signed_119 : decode cX15_signed 119 = .ok (.irem, 1) := by decide +kernel
theorem dX15_signed_120 : decode cX15_signed 120 = .ok (.ishl, 1) := by decide +kernel
theorem dX15_signed_121 : decode cX15_signed 121 = .ok (.goto 4, 3) := by decide +kernel
theorem dX15_signed_124 : decode cX15_signed 124 = .ok (.iconst 0, 1) := by decide +kernel
theorem dX15_signed_125 : decode cX15_signed 125 = .ok (.ixor, 1) := by decide +kernel
theorem dX15_signed_126 : decode cX15_signed 126 = .ok (.istore_n 2, 1) := by decide +kernel
theorem dX15_signed_127 : decode cX15_signed 127 = .ok (.iinc 5 1, 3) := by decide +kernel
theorem dX15_signed_130 : decode cX15_signed 130 = .ok (.iinc 6 1, 3) := by decide +kernel
theorem dX15_signed_133 : decode cX15_signed 133 = .ok (.goto (-59), 3) := by decide +kernel
theorem dX15_signed_136 : decode cX15_signed 136 = .ok (.goto (-124), 3) := by decide +kernel
theorem dX15_signed_139 : decode cX15_signed 139 = .ok (.iload_n 2, 1) := by decide +kernel
theorem dX15_signed_140 : decode cX15_signed 140 = .ok (.ireturn, 1) := by decide +kernel
theorem dX15_slow_0 : decode cX15_slow 0 = .ok (.aload_n 0, 1) := by decide +kernel
theorem dX15_slow_1 : decode cX15_slow 1 = .ok (.aload_n 0, 1) := by decide +kernel
theorem dX15_slow_2 : decode cX15_slow 2 = .ok (.iload_n 1, 1) := by decide +kernel
theorem dX15_slow_3 : decode cX15_slow 3 = .ok (.invokevirtual 140, 3) := by decide +kernel
theorem dX15_slow_6 : decode cX15_slow 6 = .ok (.ifCond .ne 7, 3) := by decide +kernel
theorem dX15_slow_9 : decode cX15_slow 9 = .ok (.iconst 1, 1) := by decide +kernel
theorem dX15_slow_10 : decode cX15_slow 10 = .ok (.goto 28, 3) := by decide +kernel
theorem dX15_slow_13 : decode cX15_slow 13 = .ok (.aload_n 0, 1) := by decide +kernel
theorem dX15_slow_14 : decode cX15_slow 14 = .ok (.getfield 102, 3) := by decide +kernel
theorem dX15_slow_17 : decode cX15_slow 17 = .ok (.ifCond .ne 7, 3) := by decide +kernel
theorem dX15_slow_20 : decode cX15_slow 20 = .ok (.iconst 2, 1) := by decide +kernel
theorem dX15_slow_21 : decode cX15_slow 21 = .ok (.goto 17, 3) := by decide +kernel
theorem dX15_slow_24 : decode cX15_slow 24 = .ok (.aload_n 0, 1) := by decide +kernel
theorem dX15_slow_25 : decode cX15_slow 25 = .ok (.getfield 331, 3) := by decide +kernel
theorem dX15_slow_28 : decode cX15_slow 28 = .ok (.bipush 8, 2) := by decide +kernel
theorem dX15_slow_30 : decode cX15_slow 30 = .ok (.if_icmp .ne 7, 3) := by decide +kernel
theorem dX15_slow_33 : decode cX15_slow 33 = .ok (.iconst 3, 1) := by decide +kernel
theorem dX15_slow_34 : decode cX15_slow 34 = .ok (.goto 4, 3) := by decide +kernel
theorem dX15_slow_37 : decode cX15_slow 37 = .ok (.iconst 0, 1) := by decide +kernel
theorem dX15_slow_38 : decode cX15_slow 38 = .ok (.invokevirtual 106, 3) := by decide +kernel
theorem dX15_slow_41 : decode cX15_slow 41 = .ok (.ifCond .eq 5, 3) := by decide +kernel
theorem dX15_slow_44 : decode cX15_slow 44 = .ok (.iconst 0, 1) := by decide +kernel
theorem dX15_slow_45 : decode cX15_slow 45 = .ok (.ireturn, 1) := by decide +kernel
theorem dX15_slow_46 : decode cX15_slow 46 = .ok (.aload_n 0, 1) := by decide +kernel
theorem dX15_slow_47 : decode cX15_slow 47 = .ok (.dup, 1) := by decide +kernel
theorem dX15_slow_48 : decode cX15_slow 48 = .ok (.getfield 331, 3) := by decide +kernel
theorem dX15_slow_51 : decode cX15_slow 51 = .ok (.iconst 1, 1) := by decide +kernel
theorem dX15_slow_52 : decode cX15_slow 52 = .ok (.iadd, 1) := by decide +kernel
theorem dX15_slow_53 : decode cX15_slow 53 = .ok (.putfield 331, 3) := by decide +kernel
theorem dX15_slow_56 : decode cX15_slow 56 = .ok (.aload_n 0, 1) := by decide +kernel
theorem dX15_slow_57 : decode cX15_slow 57 = .ok (.getfield 26, 3) := by decide +kernel
theorem dX15_slow_60 : decode cX15_slow 60 = .ok (.new 170, 3) := by decide +kernel
theorem dX15_slow_63 : decode cX15_slow 63 = .ok (.dup, 1) := by decide +kernel
theorem dX15_slow_64 : decode cX15_slow 64 = .ok (.iload_n 2, 1) := by decide +kernel
theorem dX15_slow_65 : decode cX15_slow 65 = .ok (.ifCond .eq 8, 3) := by decide +kernel
theorem dX15_slow_68 : decode cX15_slow 68 = .ok (.bipush 114, 2) := by decide +kernel
theorem dX15_slow_70 : decode cX15_slow 70 = .ok (.goto 5, 3) := by decide +kernel
theorem dX15_slow_73 : decode cX15_slow 73 = .ok (.bipush 108, 2) := by decide +kernel
theorem dX15_slow_75 : decode cX15_slow 75 = .ok (.iload_n 1, 1) := by decide +kernel
theorem dX15_slow_76 : decode cX15_slow 76 = .ok (.iconst (-1), 1) := by decide +kernel
theorem dX15_slow_77 : decode cX15_slow 77 = .ok (.iconst 0, 1) := by decide +kernel
theorem dX15_slow_78 : decode cX15_slow 78 = .ok (.invokespecial 172, 3) := by decide +kernel
theorem dX15_slow_81 : decode cX15_slow 81 = .ok (.invokeinterface 124 2, 5) := by decide +kernel
theorem dX15_slow_86 : decode cX15_slow 86 = .ok (.pop, 1) := by decide +kernel
theorem dX15_slow_87 : decode cX15_slow 87 = .ok (.aload_n 0, 1) := by decide +kernel
theorem dX15_slow_88 : decode cX15_slow 88 = .ok (.getfield 26, 3) := by decide +kernel
theorem dX15_slow_91 : decode cX15_slow 91 = .ok (.invokeinterface 92 1, 5) := by decide +kernel
theorem dX15_slow_96 : decode cX15_slow 96 = .ok (.iconst 1, 1) := by decide +kernel
theorem dX15_slow_97 : decode cX15_slow 97 = .ok (.isub, 1) := by decide +kernel
theorem dX15_slow_98 : decode cX15_slow 98 = .ok (.ireturn, 1) := by decide +kernel
theorem dX15_suspects_0 : decode cX15_suspects 0 = .ok (.aload_n 0, 1) := by decide +kernel
theorem dX15_suspects_1 : decode cX15_suspects 1 = .ok (.iconst 0, 1) := by decide +kernel
theorem dX15_suspects_2 : decode cX15_suspects 2 = .ok (.putfield 1, 3) := by decide +kernel
theorem dX15_suspects_5 : decode cX15_suspects 5 = .ok (.iconst 0, 1) := by decide +kernel
theorem dX15_suspects_6 : decode cX15_suspects 6 = .ok (.istore_n 1, 1) := by decide +kernel
theorem dX15_suspects_7 : decode cX15_suspects 7 = .ok (.iconst 0, 1) := by decide +kernel
theorem dX15_suspects_8 : decode cX15_suspects 8 = .ok (.istore_n 2, 1) := by decide +kernel
theorem dX15_suspects_9 : decode cX15_suspects 9 = .ok (.iload_n 2, 1) := by decide +kernel
theorem dX15_suspects_10 : decode cX15_suspects 10 = .ok (.aload_n 0, 1) := by decide +kernel
theorem dX15_suspects_11 : decode cX15_suspects 11 = .ok (.getfield 23, 3) := by decide +kernel
theorem dX15_suspects_14 : decode cX15_suspects 14 = .ok (.invokeinterface 92 1, 5) := by decide +kernel
theorem dX15_suspects_19 : decode cX15_suspects 19 = .ok (.if_icmp .ge 79, 3) := by decide +kernel
theorem dX15_suspects_22 : decode cX15_suspects 22 = .ok (.aload_n 0, 1) := by decide +kernel
theorem dX15_suspects_23 : decode cX15_suspects 23 = .ok (.getfield 59, 3) := by decide +kernel
theorem dX15_suspects_26 : decode cX15_suspects 26 = .ok (.iconst (-1), 1) := by decide +kernel
theorem dX15_suspects_27 : decode cX15_suspects 27 = .ok (.if_icmp .eq 71, 3) := by decide +kernel
theorem dX15_suspects_30 : decode cX15_suspects 30 = .ok (.iconst 1, 1) := by decide +kernel
theorem dX15_suspects_31 : decode cX15_suspects 31 = .ok (.istore_n 3, 1) := by decide +kernel
theorem dX15_suspects_32 : decode cX15_suspects 32 = .ok (.iconst 0, 1) := by decide +kernel
theorem dX15_suspects_33 : decode cX15_suspects 33 = .ok (.istore 4, 2) := by decide +kernel
theorem dX15_suspects_35 : decode cX15_suspects 35 = .ok (.iload 4, 2) := by decide +kernel
theorem dX15_suspects_37 : decode cX15_suspects 37 = .ok (.aload_n 0, 1) := by decide +kernel
theorem dX15_suspects_38 : decode cX15_suspects 38 = .ok (.getfield 32, 3) := by decide +kernel
theorem dX15_suspects_41 : decode cX15_suspects 41 = .ok (.invokeinterface 92 1, 5) := by decide +kernel
theorem dX15_suspects_46 : decode cX15_suspects 46 = .ok (.if_icmp .ge 32, 3) := by decide +kernel
theorem dX15_suspects_49 : decode cX15_suspects 49 = .ok (.iload_n 3, 1) := by decide +kernel
theorem dX15_suspects_50 : decode cX15_suspects 50 = .ok (.aload_n 0, 1) := by decide +kernel
theorem dX15_suspects_51 : decode cX15_suspects 51 = .ok (.iload 4, 2) := by decide +kernel
theorem dX15_suspects_53 : decode cX15_suspects 53 = .ok (.iload_n 2, 1) := by decide +kernel
theorem dX15_suspects_54 : decode cX15_suspects 54 = .ok (.invokevirtual 434, 3) := by decide +kernel
theorem dX15_suspects_57 : decode cX15_suspects 57 = .ok (.aload_n 0, 1) := by decide +kernel
theorem dX15_suspects_58 : decode cX15_suspects 58 = .ok (.iload 4, 2) := by decide +kernel
theorem dX15_suspects_60 : decode cX15_suspects 60 = .ok (.aload_n 0, 1) := by decide +kernel
theorem dX15_suspects_61 : decode cX15_suspects 61 = .ok (.getfield 59, 3) := by decide +kernel
theorem dX15_suspects_64 : decode cX15_suspects 64 = .ok (.invokevirtual 434, 3) := by decide +kernel
theorem dX15_suspects_67 : decode cX15_suspects 67 = .ok (.invokestatic 438, 3) := by decide +kernel
theorem dX15_suspects_70 : decode cX15_suspects 70 = .ok (.iand, 1) := by decide +kernel
theorem dX15_suspects_71 : decode cX15_suspects 71 = .ok (.istore_n 3, 1) := by decide +kernel
theorem dX15_suspects_72 : decode cX15_suspects 72 = .ok (.iinc 4 1, 3) := by decide +kernel
theorem dX15_suspects_75 : decode cX15_suspects 75 = .ok (.goto (-40), 3) := by decide +kernel
theorem dX15_suspects_78 : decode cX15_suspects 78 = .ok (.iload_n 1, 1) := by decide +kernel
theorem dX15_suspects_79 : decode cX15_suspects 79 = .ok (.iload_n 3, 1) := by decide +kernel
theorem dX15_suspects_80 : decode cX15_suspects 80 = .ok (.ifCond .eq 9, 3) := by decide +kernel
theorem dX15_suspects_83 : decode cX15_suspects 83 = .ok (.iconst 1, 1) := by decide +kernel
theorem dX15_suspects_84 : decode cX15_suspects 84 = .ok (.iload_n 2, 1) := by decide +kernel
theorem dX15_suspects_85 : decode cX15_suspects 85 = .ok (.ishl, 1) := by decide +kernel
theorem dX15_suspects_86 : decode cX15_suspects 86 = .ok (.goto 4, 3) := by decide +kernel
theorem dX15_suspects_89 : decode cX15_suspects 89 = .ok (.iconst 0, 1) := by decide +kernel
theorem dX15_suspects_90 : decode cX15_suspects 90 = .ok (.ior, 1) := by decide +kernel
theorem dX15_suspects_91 : decode cX15_suspects 91 = .ok (.istore_n 1, 1) := by decide +kernel
theorem dX15_suspects_92 : decode cX15_suspects 92 = .ok (.iinc 2 1, 3) := by decide +kernel
theorem dX15_suspects_95 : decode cX15_suspects 95 = .ok (.goto (-86), 3) := by decide +kernel
theorem dX15_suspects_98 : decode cX15_suspects 98 = .ok (.iload_n 1, 1) := by decide +kernel
theorem dX15_suspects_99 : decode cX15_suspects 99 = .ok (.ireturn, 1) := by decide +kernel
theorem dX15_tally_0 : decode cX15_tally 0 = .ok (.aload_n 0, 1) := by decide +kernel
theorem dX15_tally_1 : decode cX15_tally 1 = .ok (.iload_n 1, 1) := by decide +kernel
theorem dX15_tally_2 : decode cX15_tally 2 = .ok (.invokevirtual 393, 3) := by decide +kernel
theorem dX15_tally_5 : decode cX15_tally 5 = .ok (.ifCond .eq 5, 3) := by decide +kernel
theorem dX15_tally_8 : decode cX15_tally 8 = .ok (.iconst 0, 1) := by decide +kernel
theorem dX15_tally_9 : decode cX15_tally 9 = .ok (.ireturn, 1) := by decide +kernel
theorem dX15_tally_10 : decode cX15_tally 10 = .ok (.aload_n 0, 1) := by decide +kernel
theorem dX15_tally_11 : decode cX15_tally 11 = .ok (.invokevirtual 314, 3) := by decide +kernel
theorem dX15_tally_14 : decode cX15_tally 14 = .ok (.astore_n 2, 1) := by decide +kernel
theorem dX15_tally_15 : decode cX15_tally 15 = .ok (.aload_n 0, 1) := by decide +kernel
theorem dX15_tally_16 : decode cX15_tally 16 = .ok (.aload_n 2, 1) := by decide +kernel
theorem dX15_tally_17 : decode cX15_tally 17 = .ok (.iload_n 1, 1) := by decide +kernel
theorem dX15_tally_18 : decode cX15_tally 18 = .ok (.iaload, 1) := by decide +kernel
theorem dX15_tally_19 : decode cX15_tally 19 = .ok (.aload_n 2, 1) := by decide +kernel
theorem dX15_tally_20 : decode cX15_tally 20 = .ok (.invokevirtual 424, 3) := by decide +kernel
theorem dX15_tally_23 : decode cX15_tally 23 = .ok (.ireturn, 1) := by decide +kernel
theorem dX15_testPoint_0 : decode cX15_testPoint 0 = .ok (.aload_n 0, 1) := by decide +kernel
theorem dX15_testPoint_1 : decode cX15_testPoint 1 = .ok (.aload_n 0, 1) := by decide +kernel
theorem dX15_testPoint_2 : decode cX15_testPoint 2 = .ok (.iload_n 1, 1) := by decide +kernel
theorem dX15_testPoint_3 : decode cX15_testPoint 3 = .ok (.invokevirtual 140, 3) := by decide +kernel
theorem dX15_testPoint_6 : decode cX15_testPoint 6 = .ok (.ifCond .ne 7, 3) := by decide +kernel
theorem dX15_testPoint_9 : decode cX15_testPoint 9 = .ok (.iconst 1, 1) := by decide +kernel
theorem dX15_testPoint_10 : decode cX15_testPoint 10 = .ok (.goto 15, 3) := by decide +kernel
theorem dX15_testPoint_13 : decode cX15_testPoint 13 = .ok (.aload_n 0, 1) := by decide +kernel
theorem dX15_testPoint_14 : decode cX15_testPoint 14 = .ok (.getfield 102, 3) := by decide +kernel
theorem dX15_testPoint_17 : decode cX15_testPoint 17 = .ok (.ifCond .ne 7, 3) := by decide +kernel
theorem dX15_testPoint_20 : decode cX15_testPoint 20 = .ok (.iconst 2, 1) := by decide +kernel
theorem dX15_testPoint_21 : decode cX15_testPoint 21 = .ok (.goto 4, 3) := by decide +kernel
theorem dX15_testPoint_24 : decode cX15_testPoint 24 = .ok (.iconst 0, 1) := by decide +kernel
theorem dX15_testPoint_25 : decode cX15_testPoint 25 = .ok (.invokevirtual 106, 3) := by decide +kernel
theorem dX15_testPoint_28 : decode cX15_testPoint 28 = .ok (.ifCond .eq 5, 3) := by decide +kernel
theorem dX15_testPoint_31 : decode cX15_testPoint 31 = .ok (.iconst 0, 1) := by decide +kernel
theorem dX15_testPoint_32 : decode cX15_testPoint 32 = .ok (.ireturn, 1) := by decide +kernel
theorem dX15_testPoint_33 : decode cX15_testPoint 33 = .ok (.aload_n 0, 1) := by decide +kernel
theorem dX15_testPoint_34 : decode cX15_testPoint 34 = .ok (.getfield 16, 3) := by decide +kernel
theorem dX15_testPoint_37 : decode cX15_testPoint 37 = .ok (.iload_n 1, 1) := by decide +kernel
theorem dX15_testPoint_38 : decode cX15_testPoint 38 = .ok (.invokeinterface 143 2, 5) := by decide +kernel
theorem dX15_testPoint_43 : decode cX15_testPoint 43 = .ok (.checkcast 110, 3) := by decide +kernel
theorem dX15_testPoint_46 : decode cX15_testPoint 46 = .ok (.iconst 1, 1) := by decide +kernel
theorem dX15_testPoint_47 : decode cX15_testPoint 47 = .ok (.putfield 191, 3) := by decide +kernel
theorem dX15_testPoint_50 : decode cX15_testPoint 50 = .ok (.iconst 0, 1) := by decide +kernel
theorem dX15_testPoint_51 : decode cX15_testPoint 51 = .ok (.istore_n 2, 1) := by decide +kernel
theorem dX15_testPoint_52 : decode cX15_testPoint 52 = .ok (.iconst 0, 1) := by decide +kernel
theorem dX15_testPoint_53 : decode cX15_testPoint 53 = .ok (.istore_n 3, 1) := by decide +kernel
theorem dX15_testPoint_54 : decode cX15_testPoint 54 = .ok (.iload_n 3, 1) := by decide +kernel
theorem dX15_testPoint_55 : decode cX15_testPoint 55 = .ok (.aload_n 0, 1) := by decide +kernel
theorem dX15_testPoint_56 : decode cX15_testPoint 56 = .ok (.getfield 16, 3) := by decide +kernel
theorem dX15_testPoint_59 : decode cX15_testPoint 59 = .ok (.invokeinterface 92 1, 5) := by decide +kernel
theorem dX15_testPoint_64 : decode cX15_testPoint 64 = .ok (.if_icmp .ge 25, 3) := by decide +kernel
theorem dX15_testPoint_67 : decode cX15_testPoint 67 = .ok (.iload_n 2, 1) := by decide +kernel
theorem dX15_testPoint_68 : decode cX15_testPoint 68 = .ok (.aload_n 0, 1) := by decide +kernel
theorem dX15_testPoint_69 : decode cX15_testPoint 69 = .ok (.iload_n 3, 1) := by decide +kernel
theorem dX15_testPoint_70 : decode cX15_testPoint 70 = .ok (.invokevirtual 197, 3) := by decide +kernel
theorem dX15_testPoint_73 : decode cX15_testPoint 73 = .ok (.ifCond .eq 7, 3) := by decide +kernel
theorem dX15_testPoint_76 : decode cX15_testPoint 76 = .ok (.iconst 1, 1) := by decide +kernel
theorem dX15_testPoint_77 : decode cX15_testPoint 77 = .ok (.goto 4, 3) := by decide +kernel
theorem dX15_testPoint_80 : decode cX15_testPoint 80 = .ok (.iconst 0, 1) := by decide +kernel
theorem dX15_testPoint_81 : decode cX15_testPoint 81 = .ok (.iadd, 1) := by decide +kernel
theorem dX15_testPoint_82 : decode cX15_testPoint 82 = .ok (.istore_n 2, 1) := by decide +kernel
theorem dX15_testPoint_83 : decode cX15_testPoint 83 = .ok (.iinc 3 1, 3) := by decide +kernel
theorem dX15_testPoint_86 : decode cX15_testPoint 86 = .ok (.goto (-32), 3) := by decide +kernel
theorem dX15_testPoint_89 : decode cX15_testPoint 89 = .ok (.iload_n 2, 1) := by decide +kernel
theorem dX15_testPoint_90 : decode cX15_testPoint 90 = .ok (.ireturn, 1) := by decide +kernel
theorem dX15_thrown_0 : decode cX15_thrown 0 = .ok (.aload_n 0, 1) := by decide +kernel
theorem dX15_thrown_1 : decode cX15_thrown 1 = .ok (.getfield 1, 3) := by decide +kernel
theorem dX15_thrown_4 : decode cX15_thrown 4 = .ok (.ireturn, 1) := by decide +kernel
theorem dX15_tie_0 : decode cX15_tie 0 = .ok (.aload_n 0, 1) := by decide +kernel
theorem dX15_tie_1 : decode cX15_tie 1 = .ok (.aload_n 0, 1) := by decide +kernel
theorem dX15_tie_2 : decode cX15_tie 2 = .ok (.iload_n 1, 1) := by decide +kernel
theorem dX15_tie_3 : decode cX15_tie 3 = .ok (.invokevirtual 286, 3) := by decide +kernel
theorem dX15_tie_6 : decode cX15_tie 6 = .ok (.ifCond .ne 7, 3) := by decide +kernel
theorem dX15_tie_9 : decode cX15_tie 9 = .ok (.iconst 1, 1) := by decide +kernel
theorem dX15_tie_10 : decode cX15_tie 10 = .ok (.goto 47, 3) := by decide +kernel
theorem dX15_tie_13 : decode cX15_tie 13 = .ok (.aload_n 0, 1) := by decide +kernel
theorem dX15_tie_14 : decode cX15_tie 14 = .ok (.getfield 26, 3) := by decide +kernel
theorem dX15_tie_17 : decode cX15_tie 17 = .ok (.iload_n 1, 1) := by decide +kernel
theorem dX15_tie_18 : decode cX15_tie 18 = .ok (.invokeinterface 143 2, 5) := by decide +kernel
theorem dX15_tie_23 : decode cX15_tie 23 = .ok (.checkcast 170, 3) := by decide +kernel
theorem dX15_tie_26 : decode cX15_tie 26 = .ok (.invokevirtual 238, 3) := by decide +kernel
theorem dX15_tie_29 : decode cX15_tie 29 = .ok (.ifCond .eq 23, 3) := by decide +kernel
theorem dX15_tie_32 : decode cX15_tie 32 = .ok (.aload_n 0, 1) := by decide +kernel
theorem dX15_tie_33 : decode cX15_tie 33 = .ok (.getfield 26, 3) := by decide +kernel
theorem dX15_tie_36 : decode cX15_tie 36 = .ok (.iload_n 1, 1) := by decide +kernel
theorem dX15_tie_37 : decode cX15_tie 37 = .ok (.invokeinterface 143 2, 5) := by decide +kernel
theorem dX15_tie_42 : decode cX15_tie 42 = .ok (.checkcast 170, 3) := by decide +kernel
theorem dX15_tie_45 : decode cX15_tie 45 = .ok (.getfield 229, 3) := by decide +kernel
theorem dX15_tie_48 : decode cX15_tie 48 = .ok (.iconst (-1), 1) := by decide +kernel
theorem dX15_tie_49 : decode cX15_tie 49 = .ok (.if_icmp .eq 7, 3) := by decide +kernel
theorem dX15_tie_52 : decode cX15_tie 52 = .ok (.iconst 2, 1) := by decide +kernel
theorem dX15_tie_53 : decode cX15_tie 53 = .ok (.goto 4, 3) := by decide +kernel
theorem dX15_tie_56 : decode cX15_tie 56 = .ok (.iconst 0, 1) := by decide +kernel
theorem dX15_tie_57 : decode cX15_tie 57 = .ok (.invokevirtual 106, 3) := by decide +kernel
theorem dX15_tie_60 : decode cX15_tie 60 = .ok (.ifCond .eq 5, 3) := by decide +kernel
theorem dX15_tie_63 : decode cX15_tie 63 = .ok (.iconst 0, 1) := by decide +kernel
theorem dX15_tie_64 : decode cX15_tie 64 = .ok (.ireturn, 1) := by decide +kernel
theorem dX15_tie_65 : decode cX15_tie 65 = .ok (.aload_n 0, 1) := by decide +kernel
theorem dX15_tie_66 : decode cX15_tie 66 = .ok (.getfield 26, 3) := by decide +kernel
theorem dX15_tie_69 : decode cX15_tie 69 = .ok (.iload_n 1, 1) := by decide +kernel
theorem dX15_tie_70 : decode cX15_tie 70 = .ok (.invokeinterface 143 2, 5) := by decide +kernel
theorem dX15_tie_75 : decode cX15_tie 75 = .ok (.checkcast 170, 3) := by decide +kernel
theorem dX15_tie_78 : decode cX15_tie 78 = .ok (.astore_n 2, 1) := by decide +kernel
theorem dX15_tie_79 : decode cX15_tie 79 = .ok (.aload_n 0, 1) := by decide +kernel
theorem dX15_tie_80 : decode cX15_tie 80 = .ok (.aload_n 0, 1) := by decide +kernel
theorem dX15_tie_81 : decode cX15_tie 81 = .ok (.getfield 16, 3) := by decide +kernel
theorem dX15_tie_84 : decode cX15_tie 84 = .ok (.aload_n 2, 1) := by decide +kernel
theorem dX15_tie_85 : decode cX15_tie 85 = .ok (.getfield 232, 3) := by decide +kernel
theorem dX15_tie_88 : decode cX15_tie 88 = .ok (.invokeinterface 143 2, 5) := by decide +kernel
theorem dX15_tie_93 : decode cX15_tie 93 = .ok (.checkcast 110, 3) := by decide +kernel
theorem dX15_tie_96 : decode cX15_tie 96 = .ok (.getfield 226, 3) := by decide +kernel
theorem dX15_tie_99 : decode cX15_tie 99 = .ok (.iconst (-1), 1) := by decide +kernel
theorem dX15_tie_100 : decode cX15_tie 100 = .ok (.if_icmp .ne 11, 3) := by decide +kernel
theorem dX15_tie_103 : decode cX15_tie 103 = .ok (.aload_n 0, 1) := by decide +kernel
theorem dX15_tie_104 : decode cX15_tie 104 = .ok (.aload_n 2, 1) := by decide +kernel
theorem dX15_tie_105 : decode cX15_tie 105 = .ok (.invokevirtual 356, 3) := by decide +kernel
theorem dX15_tie_108 : decode cX15_tie 108 = .ok (.ifCond .le 7, 3) := by decide +kernel
theorem dX15_tie_111 : decode cX15_tie 111 = .ok (.iconst 3, 1) := by decide +kernel
theorem dX15_tie_112 : decode cX15_tie 112 = .ok (.goto 4, 3) := by decide +kernel
theorem dX15_tie_115 : decode cX15_tie 115 = .ok (.iconst 0, 1) := by decide +kernel
theorem dX15_tie_116 : decode cX15_tie 116 = .ok (.invokevirtual 106, 3) := by decide +kernel
theorem dX15_tie_119 : decode cX15_tie 119 = .ok (.ifCond .eq 5, 3) := by decide +kernel
theorem dX15_tie_122 : decode cX15_tie 122 = .ok (.iconst 0, 1) := by decide +kernel
theorem dX15_tie_123 : decode cX15_tie 123 = .ok (.ireturn, 1) := by decide +kernel
theorem dX15_tie_124 : decode cX15_tie 124 = .ok (.aload_n 0, 1) := by decide +kernel
theorem dX15_tie_125 : decode cX15_tie 125 = .ok (.getfield 16, 3) := by decide +kernel
theorem dX15_tie_128 : decode cX15_tie 128 = .ok (.aload_n 2, 1) := by decide +kernel
theorem dX15_tie_129 : decode cX15_tie 129 = .ok (.getfield 232, 3) := by decide +kernel
theorem dX15_tie_132 : decode cX15_tie 132 = .ok (.invokeinterface 143 2, 5) := by decide +kernel
theorem dX15_tie_137 : decode cX15_tie 137 = .ok (.checkcast 110, 3) := by decide +kernel
theorem dX15_tie_140 : decode cX15_tie 140 = .ok (.aload_n 2, 1) := by decide +kernel
theorem dX15_tie_141 : decode cX15_tie 141 = .ok (.getfield 235, 3) := by decide +kernel
theorem dX15_tie_144 : decode cX15_tie 144 = .ok (.putfield 226, 3) := by decide +kernel
theorem dX15_tie_147 : decode cX15_tie 147 = .ok (.iconst 0, 1) := by decide +kernel
theorem dX15_tie_148 : decode cX15_tie 148 = .ok (.istore_n 3, 1) := by decide +kernel
theorem dX15_tie_149 : decode cX15_tie 149 = .ok (.aload_n 0, 1) := by decide +kernel
theorem dX15_tie_150 : decode cX15_tie 150 = .ok (.getfield 16, 3) := by decide +kernel
theorem dX15_tie_153 : decode cX15_tie 153 = .ok (.invokeinterface 156 1, 5) := by decide +kernel
theorem dX15_tie_158 : decode cX15_tie 158 = .ok (.astore 4, 2) := by decide +kernel
theorem dX15_tie_160 : decode cX15_tie 160 = .ok (.aload 4, 2) := by decide +kernel
theorem dX15_tie_162 : decode cX15_tie 162 = .ok (.invokeinterface 160 1, 5) := by decide +kernel
theorem dX15_tie_167 : decode cX15_tie 167 = .ok (.ifCond .eq 35, 3) := by decide +kernel
theorem dX15_tie_170 : decode cX15_tie 170 = .ok (.aload 4, 2) := by decide +kernel
theorem dX15_tie_172 : decode cX15_tie 172 = .ok (.invokeinterface 166 1, 5) := by decide +kernel
theorem dX15_tie_177 : decode cX15_tie 177 = .ok (.checkcast 110, 3) := by decide +kernel
theorem dX15_tie_180 : decode cX15_tie 180 = .ok (.astore 5, 2) := by decide +kernel
theorem dX15_tie_182 : decode cX15_tie 182 = .ok (.iload_n 3, 1) := by decide +kernel
theorem dX15_tie_183 : decode cX15_tie 183 = .ok (.aload 5, 2) := by decide +kernel
theorem dX15_tie_185 : decode cX15_tie 185 = .ok (.getfield 226, 3) := by decide +kernel
theorem dX15_tie_188 : decode cX15_tie 188 = .ok (.iconst (-1), 1) := by decide +kernel
theorem dX15_tie_189 : decode cX15_tie 189 = .ok (.if_icmp .eq 7, 3) := by decide +kernel
theorem dX15_tie_192 : decode cX15_tie 192 = .ok (.iconst 1, 1) := by decide +kernel
theorem dX15_tie_193 : decode cX15_tie 193 = .ok (.goto 4, 3) := by decide +kernel
theorem dX15_tie_196 : decode cX15_tie 196 = .ok (.iconst 0, 1) := by decide +kernel
theorem dX15_tie_197 : decode cX15_tie 197 = .ok (.iadd, 1) := by decide +kernel
theorem dX15_tie_198 : decode cX15_tie 198 = .ok (.istore_n 3, 1) := by decide +kernel
theorem dX15_tie_199 : decode cX15_tie 199 = .ok (.goto (-39), 3) := by decide +kernel
theorem dX15_tie_202 : decode cX15_tie 202 = .ok (.iload_n 3, 1) := by decide +kernel
theorem dX15_tie_203 : decode cX15_tie 203 = .ok (.ireturn, 1) := by decide +kernel
theorem dX15_turnAbout_0 : decode cX15_turnAbout 0 = .ok (.aload_n 0, 1) := by decide +kernel
theorem dX15_turnAbout_1 : decode cX15_turnAbout 1 = .ok (.iconst 0, 1) := by decide +kernel
theorem dX15_turnAbout_2 : decode cX15_turnAbout 2 = .ok (.putfield 1, 3) := by decide +kernel
theorem dX15_turnAbout_5 : decode cX15_turnAbout 5 = .ok (.aload_n 0, 1) := by decide +kernel
theorem dX15_turnAbout_6 : decode cX15_turnAbout 6 = .ok (.invokevirtual 318, 3) := by decide +kernel
theorem dX15_turnAbout_9 : decode cX15_turnAbout 9 = .ok (.astore_n 1, 1) := by decide +kernel
theorem dX15_turnAbout_10 : decode cX15_turnAbout 10 = .ok (.lconst 0, 1) := by decide +kernel
theorem dX15_turnAbout_11 : decode cX15_turnAbout 11 = .ok (.lstore_n 2, 1) := by decide +kernel
theorem dX15_turnAbout_12 : decode cX15_turnAbout 12 = .ok (.aload_n 1, 1) := by decide +kernel
theorem dX15_turnAbout_13 : decode cX15_turnAbout 13 = .ok (.invokeinterface 92 1, 5) := by decide +kernel
theorem dX15_turnAbout_18 : decode cX15_turnAbout 18 = .ok (.newarray .long, 2) := by decide +kernel
theorem dX15_turnAbout_20 : decode cX15_turnAbout 20 = .ok (.astore 4, 2) := by decide +kernel
theorem dX15_turnAbout_22 : decode cX15_turnAbout 22 = .ok (.iconst 0, 1) := by decide +kernel
theorem dX15_turnAbout_23 : decode cX15_turnAbout 23 = .ok (.istore 5, 2) := by decide +kernel
theorem dX15_turnAbout_25 : decode cX15_turnAbout 25 = .ok (.iload 5, 2) := by decide +kernel
theorem dX15_turnAbout_27 : decode cX15_turnAbout 27 = .ok (.aload 4, 2) := by decide +kernel
theorem dX15_turnAbout_29 : decode cX15_turnAbout 29 = .ok (.arraylength, 1) := by decide +kernel
theorem dX15_turnAbout_30 : decode cX15_turnAbout 30 = .ok (.if_icmp .ge 34, 3) := by decide +kernel
theorem dX15_turnAbout_33 : decode cX15_turnAbout 33 = .ok (.aload 4, 2) := by decide +kernel
theorem dX15_turnAbout_35 : decode cX15_turnAbout 35 = .ok (.iload 5, 2) := by decide +kernel
theorem dX15_turnAbout_37 : decode cX15_turnAbout 37 = .ok (.aload_n 0, 1) := by decide +kernel
theorem dX15_turnAbout_38 : decode cX15_turnAbout 38 = .ok (.aload_n 1, 1) := by decide +kernel
theorem dX15_turnAbout_39 : decode cX15_turnAbout 39 = .ok (.iload 5, 2) := by decide +kernel
theorem dX15_turnAbout_41 : decode cX15_turnAbout 41 = .ok (.invokeinterface 143 2, 5) := by decide +kernel
theorem dX15_turnAbout_46 : decode cX15_turnAbout 46 = .ok (.checkcast 119, 3) := by decide +kernel
theorem dX15_turnAbout_49 : decode cX15_turnAbout 49 = .ok (.invokevirtual 194, 3) := by decide +kernel
theorem dX15_turnAbout_52 : decode cX15_turnAbout 52 = .ok (.bipush 115, 2) := by decide +kernel
theorem dX15_turnAbout_54 : decode cX15_turnAbout 54 = .ok (.invokevirtual 345, 3) := by decide +kernel
theorem dX15_turnAbout_57 : decode cX15_turnAbout 57 = .ok (.lastore, 1) := by decide +kernel
theorem dX15_turnAbout_58 : decode cX15_turnAbout 58 = .ok (.iinc 5 1, 3) := by decide +kernel
theorem dX15_turnAbout_61 : decode cX15_turnAbout 61 = .ok (.goto (-36), 3) := by decide +kernel
theorem dX15_turnAbout_64 : decode cX15_turnAbout 64 = .ok (.aload_n 0, 1) := by decide +kernel
theorem dX15_turnAbout_65 : decode cX15_turnAbout 65 = .ok (.getfield 32, 3) := by decide +kernel
theorem dX15_turnAbout_68 : decode cX15_turnAbout 68 = .ok (.invokeinterface 92 1, 5) := by decide +kernel
theorem dX15_turnAbout_73 : decode cX15_turnAbout 73 = .ok (.iconst 1, 1) := by decide +kernel
theorem dX15_turnAbout_74 : decode cX15_turnAbout 74 = .ok (.isub, 1) := by decide +kernel
theorem dX15_turnAbout_75 : decode cX15_turnAbout 75 = .ok (.istore 5, 2) := by decide +kernel
theorem dX15_turnAbout_77 : decode cX15_turnAbout 77 = .ok (.iload 5, 2) := by decide +kernel
theorem dX15_turnAbout_79 : decode cX15_turnAbout 79 = .ok (.ifCond .lt 91, 3) := by decide +kernel
theorem dX15_turnAbout_82 : decode cX15_turnAbout 82 = .ok (.iconst 0, 1) := by decide +kernel
theorem dX15_turnAbout_83 : decode cX15_turnAbout 83 = .ok (.istore 6, 2) := by decide +kernel
theorem dX15_turnAbout_85 : decode cX15_turnAbout 85 = .ok (.aload 4, 2) := by decide +kernel
theorem dX15_turnAbout_87 : decode cX15_turnAbout 87 = .ok (.astore 7, 2) := by decide +kernel
theorem dX15_turnAbout_89 : decode cX15_turnAbout 89 = .ok (.aload 7, 2) := by decide +kernel
theorem dX15_turnAbout_91 : decode cX15_turnAbout 91 = .ok (.arraylength, 1) := by decide +kernel
theorem dX15_turnAbout_92 : decode cX15_turnAbout 92 = .ok (.istore 8, 2) := by decide +kernel
theorem dX15_turnAbout_94 : decode cX15_turnAbout 94 = .ok (.iconst 0, 1) := by decide +kernel
theorem dX15_turnAbout_95 : decode cX15_turnAbout 95 = .ok (.istore 9, 2) := by decide +kernel
theorem dX15_turnAbout_97 : decode cX15_turnAbout 97 = .ok (.iload 9, 2) := by decide +kernel
theorem dX15_turnAbout_99 : decode cX15_turnAbout 99 = .ok (.iload 8, 2) := by decide +kernel
theorem dX15_turnAbout_101 : decode cX15_turnAbout 101 = .ok (.if_icmp .ge 47, 3) := by decide +kernel
theorem dX15_turnAbout_104 : decode cX15_turnAbout 104 = .ok (.aload 7, 2) := by decide +kernel
theorem dX15_turnAbout_106 : decode cX15_turnAbout 106 = .ok (.iload 9, 2) := by decide +kernel
theorem dX15_turnAbout_108 : decode cX15_turnAbout 108 = .ok (.laload, 1) := by decide +kernel
theorem dX15_turnAbout_109 : decode cX15_turnAbout 109 = .ok (.lstore 10, 2) := by decide +kernel
theorem dX15_turnAbout_111 : decode cX15_turnAbout 111 = .ok (.iload 6, 2) := by decide +kernel
theorem dX15_turnAbout_113 : decode cX15_turnAbout 113 = .ok (.lload 10, 2) := by decide +kernel
theorem dX15_turnAbout_115 : decode cX15_turnAbout 115 = .ok (.iload 5, 2) := by decide +kernel
theorem dX15_turnAbout_117 : decode cX15_turnAbout 117 = .ok (.lshr, 1) := by decide +kernel
theorem dX15_turnAbout_118 : decode cX15_turnAbout 118 = .ok (.lconst 1, 1) := by decide +kernel
theorem dX15_turnAbout_119 : decode cX15_turnAbout 119 = .ok (.land, 1) := by decide +kernel
theorem dX15_turnAbout_120 : decode cX15_turnAbout 120 = .ok (.lconst 1, 1) := by decide +kernel
theorem dX15_turnAbout_121 : decode cX15_turnAbout 121 = .ok (.lcmp, 1) := by decide +kernel
theorem dX15_turnAbout_122 : decode cX15_turnAbout 122 = .ok (.ifCond .ne 16, 3) := by decide +kernel
theorem dX15_turnAbout_125 : decode cX15_turnAbout 125 = .ok (.lload 10, 2) := by decide +kernel
theorem dX15_turnAbout_127 : decode cX15_turnAbout 127 = .ok (.lload_n 2, 1) := by decide +kernel
theorem dX15_turnAbout_128 : decode cX15_turnAbout 128 = .ok (.land, 1) := by decide +kernel
theorem dX15_turnAbout_129 : decode cX15_turnAbout 129 = .ok (.lconst 0, 1) := by decide +kernel
theorem dX15_turnAbout_130 : decode cX15_turnAbout 130 = .ok (.lcmp, 1) := by decide +kernel
theorem dX15_turnAbout_131 : decode cX15_turnAbout 131 = .ok (.ifCond .ne 7, 3) := by decide +kernel
theorem dX15_turnAbout_134 : decode cX15_turnAbout 134 = .ok (.iconst 1, 1) := by decide +kernel
theorem dX15_turnAbout_135 : decode cX15_turnAbout 135 = .ok (.goto 4, 3) := by decide +kernel
theorem dX15_turnAbout_138 : decode cX15_turnAbout 138 = .ok (.iconst 0, 1) := by decide +kernel
theorem dX15_turnAbout_139 : decode cX15_turnAbout 139 = .ok (.ior, 1) := by decide +kernel
theorem dX15_turnAbout_140 : decode cX15_turnAbout 140 = .ok (.istore 6, 2) := by decide +kernel
theorem dX15_turnAbout_142 : decode cX15_turnAbout 142 = .ok (.iinc 9 1, 3) := by decide +kernel
theorem dX15_turnAbout_145 : decode cX15_turnAbout 145 = .ok (.goto (-48), 3) := by decide +kernel
theorem dX15_turnAbout_148 : decode cX15_turnAbout 148 = .ok (.lload_n 2, 1) := by decide +kernel
theorem dX15_turnAbout_149 : decode cX15_turnAbout 149 = .ok (.iload 6, 2) := by decide +kernel
theorem dX15_turnAbout_151 : decode cX15_turnAbout 151 = .ok (.ifCond .eq 10, 3) := by decide +kernel
theorem dX15_turnAbout_154 : decode cX15_turnAbout 154 = .ok (.lconst 1, 1) := by decide +kernel
theorem dX15_turnAbout_155 : decode cX15_turnAbout 155 = .ok (.iload 5, 2) := by decide +kernel
theorem dX15_turnAbout_157 : decode cX15_turnAbout 157 = .ok (.lshl, 1) := by decide +kernel
theorem dX15_turnAbout_158 : decode cX15_turnAbout 158 = .ok (.goto 4, 3) := by decide +kernel
theorem dX15_turnAbout_161 : decode cX15_turnAbout 161 = .ok (.lconst 0, 1) := by decide +kernel
theorem dX15_turnAbout_162 : decode cX15_turnAbout 162 = .ok (.lor, 1) := by decide +kernel
theorem dX15_turnAbout_163 : decode cX15_turnAbout 163 = .ok (.lstore_n 2, 1) := by decide +kernel
theorem dX15_turnAbout_164 : decode cX15_turnAbout 164 = .ok (.iinc 5 (-1), 3) := by decide +kernel
theorem dX15_turnAbout_167 : decode cX15_turnAbout 167 = .ok (.goto (-90), 3) := by decide +kernel
theorem dX15_turnAbout_170 : decode cX15_turnAbout 170 = .ok (.aload_n 0, 1) := by decide +kernel
theorem dX15_turnAbout_171 : decode cX15_turnAbout 171 = .ok (.getfield 32, 3) := by decide +kernel
theorem dX15_turnAbout_174 : decode cX15_turnAbout 174 = .ok (.invokeinterface 92 1, 5) := by decide +kernel
theorem dX15_turnAbout_179 : decode cX15_turnAbout 179 = .ok (.iconst 1, 1) := by decide +kernel
theorem dX15_turnAbout_180 : decode cX15_turnAbout 180 = .ok (.isub, 1) := by decide +kernel
theorem dX15_turnAbout_181 : decode cX15_turnAbout 181 = .ok (.istore 5, 2) := by decide +kernel
theorem dX15_turnAbout_183 : decode cX15_turnAbout 183 = .ok (.iload 5, 2) := by decide +kernel
theorem dX15_turnAbout_185 : decode cX15_turnAbout 185 = .ok (.ifCond .lt 32, 3) := by decide +kernel
theorem dX15_turnAbout_188 : decode cX15_turnAbout 188 = .ok (.lload_n 2, 1) := by decide +kernel
theorem dX15_turnAbout_189 : decode cX15_turnAbout 189 = .ok (.iload 5, 2) := by decide +kernel
theorem dX15_turnAbout_191 : decode cX15_turnAbout 191 = .ok (.lshr, 1) := by decide +kernel
theorem dX15_turnAbout_192 : decode cX15_turnAbout 192 = .ok (.lconst 1, 1) := by decide +kernel
theorem dX15_turnAbout_193 : decode cX15_turnAbout 193 = .ok (.land, 1) := by decide +kernel
theorem dX15_turnAbout_194 : decode cX15_turnAbout 194 = .ok (.lconst 0, 1) := by decide +kernel
theorem dX15_turnAbout_195 : decode cX15_turnAbout 195 = .ok (.lcmp, 1) := by decide +kernel
theorem dX15_turnAbout_196 : decode cX15_turnAbout 196 = .ok (.ifCond .ne 15, 3) := by decide +kernel
theorem dX15_turnAbout_199 : decode cX15_turnAbout 199 = .ok (.aload_n 0, 1) := by decide +kernel
theorem dX15_turnAbout_200 : decode cX15_turnAbout 200 = .ok (.getfield 32, 3) := by decide +kernel
theorem dX15_turnAbout_203 : decode cX15_turnAbout 203 = .ok (.iload 5, 2) := by decide +kernel
theorem dX15_turnAbout_205 : decode cX15_turnAbout 205 = .ok (.invokeinterface 367 2, 5) := by decide +kernel
theorem dX15_turnAbout_210 : decode cX15_turnAbout 210 = .ok (.pop, 1) := by decide +kernel
theorem dX15_turnAbout_211 : decode cX15_turnAbout 211 = .ok (.iinc 5 (-1), 3) := by decide +kernel
theorem dX15_turnAbout_214 : decode cX15_turnAbout 214 = .ok (.goto (-31), 3) := by decide +kernel
theorem dX15_turnAbout_217 : decode cX15_turnAbout 217 = .ok (.aload_n 0, 1) := by decide +kernel
theorem dX15_turnAbout_218 : decode cX15_turnAbout 218 = .ok (.getfield 32, 3) := by decide +kernel
theorem dX15_turnAbout_221 : decode cX15_turnAbout 221 = .ok (.invokeinterface 92 1, 5) := by decide +kernel
theorem dX15_turnAbout_226 : decode cX15_turnAbout 226 = .ok (.ireturn, 1) := by decide +kernel
theorem dX15_value_0 : decode cX15_value 0 = .ok (.aload_n 0, 1) := by decide +kernel
theorem dX15_value_1 : decode cX15_value 1 = .ok (.aload_n 0, 1) := by decide +kernel
theorem dX15_value_2 : decode cX15_value 2 = .ok (.iload_n 1, 1) := by decide +kernel
theorem dX15_value_3 : decode cX15_value 3 = .ok (.invokevirtual 283, 3) := by decide +kernel
theorem dX15_value_6 : decode cX15_value 6 = .ok (.ifCond .eq 15, 3) := by decide +kernel
theorem dX15_value_9 : decode cX15_value 9 = .ok (.aload_n 0, 1) := by decide +kernel
theorem dX15_value_10 : decode cX15_value 10 = .ok (.iload_n 2, 1) := by decide +kernel
theorem dX15_value_11 : decode cX15_value 11 = .ok (.invokevirtual 140, 3) := by decide +kernel
theorem dX15_value_14 : decode cX15_value 14 = .ok (.ifCond .eq 7, 3) := by decide +kernel
theorem dX15_value_17 : decode cX15_value 17 = .ok (.iconst 0, 1) := by decide +kernel
theorem dX15_value_18 : decode cX15_value 18 = .ok (.goto 4, 3) := by decide +kernel
theorem dX15_value_21 : decode cX15_value 21 = .ok (.iconst 1, 1) := by decide +kernel
theorem dX15_value_22 : decode cX15_value 22 = .ok (.invokevirtual 106, 3) := by decide +kernel
theorem dX15_value_25 : decode cX15_value 25 = .ok (.ifCond .eq 5, 3) := by decide +kernel
theorem dX15_value_28 : decode cX15_value 28 = .ok (.iconst 0, 1) := by decide +kernel
theorem dX15_value_29 : decode cX15_value 29 = .ok (.ireturn, 1) := by decide +kernel
theorem dX15_value_30 : decode cX15_value 30 = .ok (.aload_n 0, 1) := by decide +kernel
theorem dX15_value_31 : decode cX15_value 31 = .ok (.aload_n 0, 1) := by decide +kernel
theorem dX15_value_32 : decode cX15_value 32 = .ok (.getfield 32, 3) := by decide +kernel
theorem dX15_value_35 : decode cX15_value 35 = .ok (.iload_n 1, 1) := by decide +kernel
theorem dX15_value_36 : decode cX15_value 36 = .ok (.invokeinterface 143 2, 5) := by decide +kernel
theorem dX15_value_41 : decode cX15_value 41 = .ok (.checkcast 200, 3) := by decide +kernel
theorem dX15_value_44 : decode cX15_value 44 = .ok (.getfield 256, 3) := by decide +kernel
theorem dX15_value_47 : decode cX15_value 47 = .ok (.invokevirtual 262, 3) := by decide +kernel
theorem dX15_value_50 : decode cX15_value 50 = .ok (.aload_n 0, 1) := by decide +kernel
theorem dX15_value_51 : decode cX15_value 51 = .ok (.getfield 39, 3) := by decide +kernel
theorem dX15_value_54 : decode cX15_value 54 = .ok (.iload_n 2, 1) := by decide +kernel
theorem dX15_value_55 : decode cX15_value 55 = .ok (.iaload, 1) := by decide +kernel
theorem dX15_value_56 : decode cX15_value 56 = .ok (.ireturn, 1) := by decide +kernel
theorem dX15_ways_0 : decode cX15_ways 0 = .ok (.aload_n 0, 1) := by decide +kernel
theorem dX15_ways_1 : decode cX15_ways 1 = .ok (.iload_n 1, 1) := by decide +kernel
theorem dX15_ways_2 : decode cX15_ways 2 = .ok (.invokevirtual 393, 3) := by decide +kernel
theorem dX15_ways_5 : decode cX15_ways 5 = .ok (.ifCond .eq 7, 3) := by decide +kernel
theorem dX15_ways_8 : decode cX15_ways 8 = .ok (.iconst 0, 1) := by decide +kernel
theorem dX15_ways_9 : decode cX15_ways 9 = .ok (.goto 20, 3) := by decide +kernel
theorem dX15_ways_12 : decode cX15_ways 12 = .ok (.aload_n 0, 1) := by decide +kernel
theorem dX15_ways_13 : decode cX15_ways 13 = .ok (.aload_n 0, 1) := by decide +kernel
theorem dX15_ways_14 : decode cX15_ways 14 = .ok (.getfield 26, 3) := by decide +kernel
theorem dX15_ways_17 : decode cX15_ways 17 = .ok (.iload_n 1, 1) := by decide +kernel
theorem dX15_ways_18 : decode cX15_ways 18 = .ok (.invokeinterface 143 2, 5) := by decide +kernel
theorem dX15_ways_23 : decode cX15_ways 23 = .ok (.checkcast 170, 3) := by decide +kernel
theorem dX15_ways_26 : decode cX15_ways 26 = .ok (.invokevirtual 356, 3) := by decide +kernel
theorem dX15_ways_29 : decode cX15_ways 29 = .ok (.ireturn, 1) := by decide +kernel
theorem dX15_weight_0 : decode cX15_weight 0 = .ok (.aload_n 0, 1) := by decide +kernel
theorem dX15_weight_1 : decode cX15_weight 1 = .ok (.aload_n 0, 1) := by decide +kernel
theorem dX15_weight_2 : decode cX15_weight 2 = .ok (.iload_n 1, 1) := by decide +kernel
theorem dX15_weight_3 : decode cX15_weight 3 = .ok (.invokevirtual 140, 3) := by decide +kernel
theorem dX15_weight_6 : decode cX15_weight 6 = .ok (.ifCond .ne 7, 3) := by decide +kernel
theorem dX15_weight_9 : decode cX15_weight 9 = .ok (.iconst 1, 1) := by decide +kernel
theorem dX15_weight_10 : decode cX15_weight 10 = .ok (.goto 15, 3) := by decide +kernel
theorem dX15_weight_13 : decode cX15_weight 13 = .ok (.aload_n 0, 1) := by decide +kernel
theorem dX15_weight_14 : decode cX15_weight 14 = .ok (.getfield 102, 3) := by decide +kernel
theorem dX15_weight_17 : decode cX15_weight 17 = .ok (.ifCond .ne 7, 3) := by decide +kernel
theorem dX15_weight_20 : decode cX15_weight 20 = .ok (.iconst 2, 1) := by decide +kernel
theorem dX15_weight_21 : decode cX15_weight 21 = .ok (.goto 4, 3) := by decide +kernel
theorem dX15_weight_24 : decode cX15_weight 24 = .ok (.iconst 0, 1) := by decide +kernel
theorem dX15_weight_25 : decode cX15_weight 25 = .ok (.invokevirtual 106, 3) := by decide +kernel
theorem dX15_weight_28 : decode cX15_weight 28 = .ok (.ifCond .eq 5, 3) := by decide +kernel
theorem dX15_weight_31 : decode cX15_weight 31 = .ok (.iconst 0, 1) := by decide +kernel
theorem dX15_weight_32 : decode cX15_weight 32 = .ok (.ireturn, 1) := by decide +kernel
theorem dX15_weight_33 : decode cX15_weight 33 = .ok (.aload_n 0, 1) := by decide +kernel
theorem dX15_weight_34 : decode cX15_weight 34 = .ok (.getfield 20, 3) := by decide +kernel
theorem dX15_weight_37 : decode cX15_weight 37 = .ok (.invokeinterface 92 1, 5) := by decide +kernel
theorem dX15_weight_42 : decode cX15_weight 42 = .ok (.newarray .int, 2) := by decide +kernel
theorem dX15_weight_44 : decode cX15_weight 44 = .ok (.astore_n 2, 1) := by decide +kernel
theorem dX15_weight_45 : decode cX15_weight 45 = .ok (.iconst 0, 1) := by decide +kernel
theorem dX15_weight_46 : decode cX15_weight 46 = .ok (.istore_n 3, 1) := by decide +kernel
theorem dX15_weight_47 : decode cX15_weight 47 = .ok (.iconst 0, 1) := by decide +kernel
theorem dX15_weight_48 : decode cX15_weight 48 = .ok (.istore 4, 2) := by decide +kernel
theorem dX15_weight_50 : decode cX15_weight 50 = .ok (.iload 4, 2) := by decide +kernel
theorem dX15_weight_52 : decode cX15_weight 52 = .ok (.iconst 1, 1) := by decide +kernel
theorem dX15_weight_53 : decode cX15_weight 53 = .ok (.aload_n 2, 1) := by decide +kernel
theorem dX15_weight_54 : decode cX15_weight 54 = .ok (.arraylength, 1) := by decide +kernel
theorem dX15_weight_55 : decode cX15_weight 55 = .ok (.ishl, 1) := by decide +kernel
theorem dX15_weight_56 : decode cX15_weight 56 = .ok (.if_icmp .ge 59, 3) := by decide +kernel
theorem dX15_weight_59 : decode cX15_weight 59 = .ok (.iconst 0, 1) := by decide +kernel
theorem dX15_weight_60 : decode cX15_weight 60 = .ok (.istore 5, 2) := by decide +kernel
theorem dX15_weight_62 : decode cX15_weight 62 = .ok (.iload 5, 2) := by decide +kernel
theorem dX15_weight_64 : decode cX15_weight 64 = .ok (.aload_n 2, 1) := by decide +kernel
theorem dX15_weight_65 : decode cX15_weight 65 = .ok (.arraylength, 1) := by decide +kernel
theorem dX15_weight_66 : decode cX15_weight 66 = .ok (.if_icmp .ge 20, 3) := by decide +kernel
theorem dX15_weight_69 : decode cX15_weight 69 = .ok (.aload_n 2, 1) := by decide +kernel
theorem dX15_weight_70 : decode cX15_weight 70 = .ok (.iload 5, 2) := by decide +kernel
theorem dX15_weight_72 : decode cX15_weight 72 = .ok (.iload 4, 2) := by decide +kernel
theorem dX15_weight_74 : decode cX15_weight 74 = .ok (.iload 5, 2) := by decide +kernel
theorem dX15_weight_76 : decode cX15_weight 76 = .ok (.ishr, 1) := by decide +kernel
theorem dX15_weight_77 : decode cX15_weight 77 = .ok (.iconst 1, 1) := by decide +kernel
theorem dX15_weight_78 : decode cX15_weight 78 = .ok (.iand, 1) := by decide +kernel
theorem dX15_weight_79 : decode cX15_weight 79 = .ok (.iastore, 1) := by decide +kernel
theorem dX15_weight_80 : decode cX15_weight 80 = .ok (.iinc 5 1, 3) := by decide +kernel
theorem dX15_weight_83 : decode cX15_weight 83 = .ok (.goto (-21), 3) := by decide +kernel
theorem dX15_weight_86 : decode cX15_weight 86 = .ok (.aload_n 0, 1) := by decide +kernel
theorem dX15_weight_87 : decode cX15_weight 87 = .ok (.aload_n 2, 1) := by decide +kernel
theorem dX15_weight_88 : decode cX15_weight 88 = .ok (.invokevirtual 262, 3) := by decide +kernel
theorem dX15_weight_91 : decode cX15_weight 91 = .ok (.iload_n 3, 1) := by decide +kernel
theorem dX15_weight_92 : decode cX15_weight 92 = .ok (.aload_n 0, 1) := by decide +kernel
theorem dX15_weight_93 : decode cX15_weight 93 = .ok (.getfield 39, 3) := by decide +kernel
theorem dX15_weight_96 : decode cX15_weight 96 = .ok (.iload_n 1, 1) := by decide +kernel
theorem dX15_weight_97 : decode cX15_weight 97 = .ok (.iaload, 1) := by decide +kernel
theorem dX15_weight_98 : decode cX15_weight 98 = .ok (.iconst 1, 1) := by decide +kernel
theorem dX15_weight_99 : decode cX15_weight 99 = .ok (.if_icmp .ne 7, 3) := by decide +kernel
theorem dX15_weight_102 : decode cX15_weight 102 = .ok (.iconst 1, 1) := by decide +kernel
theorem dX15_weight_103 : decode cX15_weight 103 = .ok (.goto 4, 3) := by decide +kernel
theorem dX15_weight_106 : decode cX15_weight 106 = .ok (.iconst 0, 1) := by decide +kernel
theorem dX15_weight_107 : decode cX15_weight 107 = .ok (.iadd, 1) := by decide +kernel
theorem dX15_weight_108 : decode cX15_weight 108 = .ok (.istore_n 3, 1) := by decide +kernel
theorem dX15_weight_109 : decode cX15_weight 109 = .ok (.iinc 4 1, 3) := by decide +kernel
theorem dX15_weight_112 : decode cX15_weight 112 = .ok (.goto (-62), 3) := by decide +kernel
theorem dX15_weight_115 : decode cX15_weight 115 = .ok (.iload_n 3, 1) := by decide +kernel
theorem dX15_weight_116 : decode cX15_weight 116 = .ok (.ireturn, 1) := by decide +kernel
theorem dX15_wrong_0 : decode cX15_wrong 0 = .ok (.aload_n 0, 1) := by decide +kernel
theorem dX15_wrong_1 : decode cX15_wrong 1 = .ok (.iload_n 1, 1) := by decide +kernel
theorem dX15_wrong_2 : decode cX15_wrong 2 = .ok (.invokevirtual 393, 3) := by decide +kernel
theorem dX15_wrong_5 : decode cX15_wrong 5 = .ok (.ifCond .eq 7, 3) := by decide +kernel
theorem dX15_wrong_8 : decode cX15_wrong 8 = .ok (.iconst 0, 1) := by decide +kernel
theorem dX15_wrong_9 : decode cX15_wrong 9 = .ok (.goto 13, 3) := by decide +kernel
theorem dX15_wrong_12 : decode cX15_wrong 12 = .ok (.aload_n 0, 1) := by decide +kernel
theorem dX15_wrong_13 : decode cX15_wrong 13 = .ok (.aload_n 0, 1) := by decide +kernel
theorem dX15_wrong_14 : decode cX15_wrong 14 = .ok (.invokevirtual 314, 3) := by decide +kernel
theorem dX15_wrong_17 : decode cX15_wrong 17 = .ok (.iload_n 1, 1) := by decide +kernel
theorem dX15_wrong_18 : decode cX15_wrong 18 = .ok (.iaload, 1) := by decide +kernel
theorem dX15_wrong_19 : decode cX15_wrong 19 = .ok (.invokevirtual 415, 3) := by decide +kernel
theorem dX15_wrong_22 : decode cX15_wrong 22 = .ok (.ireturn, 1) := by decide +kernel
theorem dX1_candidateAt_0 : decode cX1_candidateAt 0 = .ok (.iconst 0, 1) := by decide +kernel
theorem dX1_candidateAt_1 : decode cX1_candidateAt 1 = .ok (.istore_n 2, 1) := by decide +kernel
theorem dX1_candidateAt_2 : decode cX1_candidateAt 2 = .ok (.iload_n 2, 1) := by decide +kernel
theorem dX1_candidateAt_3 : decode cX1_candidateAt 3 = .ok (.aload_n 0, 1) := by decide +kernel
theorem dX1_candidateAt_4 : decode cX1_candidateAt 4 = .ok (.getfield 39, 3) := by decide +kernel
theorem dX1_candidateAt_7 : decode cX1_candidateAt 7 = .ok (.getfield 82, 3) := by decide +kernel
theorem dX1_candidateAt_10 : decode cX1_candidateAt 10 = .ok (.if_icmp .ge 29, 3) := by decide +kernel
theorem dX1_candidateAt_13 : decode cX1_candidateAt 13 = .ok (.aload_n 0, 1) := by decide +kernel
theorem dX1_candidateAt_14 : decode cX1_candidateAt 14 = .ok (.getfield 19, 3) := by decide +kernel
theorem dX1_candidateAt_17 : decode cX1_candidateAt 17 = .ok (.iload_n 2, 1) := by decide +kernel
theorem dX1_candidateAt_18 : decode cX1_candidateAt 18 = .ok (.iaload, 1) := by decide +kernel
theorem dX1_candidateAt_19 : decode cX1_candidateAt 19 = .ok (.ifCond .le 14, 3) := by decide +kernel
theorem dX1_candidateAt_22 : decode cX1_candidateAt 22 = .ok (.aload_n 0, 1) := by decide +kernel
theorem dX1_candidateAt_23 : decode cX1_candidateAt 23 = .ok (.iload_n 2, 1) := by decide +kernel
theorem dX1_candidateAt_24 : decode cX1_candidateAt 24 = .ok (.invokevirtual 104, 3) := by decide +kernel
theorem dX1_candidateAt_27 : decode cX1_candidateAt 27 = .ok (.iload_n 1, 1) := by decide +kernel
theorem dX1_candidateAt_28 : decode cX1_candidateAt 28 = .ok (.if_icmp .ne 5, 3) := by decide +kernel
theorem dX1_candidateAt_31 : decode cX1_candidateAt 31 = .ok (.iload_n 2, 1) := by decide +kernel
theorem dX1_candidateAt_32 : decode cX1_candidateAt 32 = .ok (.ireturn, 1) := by decide +kernel
theorem dX1_candidateAt_33 : decode cX1_candidateAt 33 = .ok (.iinc 2 1, 3) := by decide +kernel
theorem dX1_candidateAt_36 : decode cX1_candidateAt 36 = .ok (.goto (-34), 3) := by decide +kernel
theorem dX1_candidateAt_39 : decode cX1_candidateAt 39 = .ok (.iconst (-1), 1) := by decide +kernel
theorem dX1_candidateAt_40 : decode cX1_candidateAt 40 = .ok (.ireturn, 1) := by decide +kernel
theorem dX1_compareAll_0 : decode cX1_compareAll 0 = .ok (.aload_n 0, 1) := by decide +kernel
theorem dX1_compareAll_1 : decode cX1_compareAll 1 = .ok (.invokevirtual 79, 3) := by decide +kernel
theorem dX1_compareAll_4 : decode cX1_compareAll 4 = .ok (.iconst 0, 1) := by decide +kernel
theorem dX1_compareAll_5 : decode cX1_compareAll 5 = .ok (.istore_n 1, 1) := by decide +kernel
theorem dX1_compareAll_6 : decode cX1_compareAll 6 = .ok (.iload_n 1, 1) := by decide +kernel
theorem dX1_compareAll_7 : decode cX1_compareAll 7 = .ok (.aload_n 0, 1) := by decide +kernel
theorem dX1_compareAll_8 : decode cX1_compareAll 8 = .ok (.getfield 39, 3) := by decide +kernel
theorem dX1_compareAll_11 : decode cX1_compareAll 11 = .ok (.getfield 82, 3) := by decide +kernel
theorem dX1_compareAll_14 : decode cX1_compareAll 14 = .ok (.if_icmp .ge 39, 3) := by decide +kernel
theorem dX1_compareAll_17 : decode cX1_compareAll 17 = .ok (.aload_n 0, 1) := by decide +kernel
theorem dX1_compareAll_18 : decode cX1_compareAll 18 = .ok (.getfield 19, 3) := by decide +kernel
theorem dX1_compareAll_21 : decode cX1_compareAll 21 = .ok (.iload_n 1, 1) := by decide +kernel
theorem dX1_compareAll_22 : decode cX1_compareAll 22 = .ok (.iconst 0, 1) := by decide +kernel
theorem dX1_compareAll_23 : decode cX1_compareAll 23 = .ok (.iastore, 1) := by decide +kernel
theorem dX1_compareAll_24 : decode cX1_compareAll 24 = .ok (.aload_n 0, 1) := by decide +kernel
theorem dX1_compareAll_25 : decode cX1_compareAll 25 = .ok (.getfield 22, 3) := by decide +kernel
theorem dX1_compareAll_28 : decode cX1_compareAll 28 = .ok (.iload_n 1, 1) := by decide +kernel
theorem dX1_compareAll_29 : decode cX1_compareAll 29 = .ok (.iconst 0, 1) := by decide +kernel
theorem dX1_compareAll_30 : decode cX1_compareAll 30 = .ok (.iastore, 1) := by decide +kernel
theorem dX1_compareAll_31 : decode cX1_compareAll 31 = .ok (.aload_n 0, 1) := by decide +kernel
theorem dX1_compareAll_32 : decode cX1_compareAll 32 = .ok (.getfield 39, 3) := by decide +kernel
theorem dX1_compareAll_35 : decode cX1_compareAll 35 = .ok (.iload_n 1, 1) := by decide +kernel
theorem dX1_compareAll_36 : decode cX1_compareAll 36 = .ok (.invokevirtual 87, 3) := by decide +kernel
theorem dX1_compareAll_39 : decode cX1_compareAll 39 = .ok (.ifCond .eq 8, 3) := by decide +kernel
theorem dX1_compareAll_42 : decode cX1_compareAll 42 = .ok (.aload_n 0, 1) := by decide +kernel
theorem dX1_compareAll_43 : decode cX1_compareAll 43 = .ok (.iload_n 1, 1) := by decide +kernel
theorem dX1_compareAll_44 : decode cX1_compareAll 44 = .ok (.invokevirtual 91, 3) := by decide +kernel
theorem dX1_compareAll_47 : decode cX1_compareAll 47 = .ok (.iinc 1 1, 3) := by decide +kernel
theorem dX1_compareAll_50 : decode cX1_compareAll 50 = .ok (.goto (-44), 3) := by decide +kernel
theorem dX1_compareAll_53 : decode cX1_compareAll 53 = .ok (.return_, 1) := by decide +kernel
theorem dX1_runChip_0 : decode cX1_runChip 0 = .ok (.aload_n 0, 1) := by decide +kernel
theorem dX1_runChip_1 : decode cX1_runChip 1 = .ok (.getfield 47, 3) := by decide +kernel
theorem dX1_runChip_4 : decode cX1_runChip 4 = .ok (.aload_n 0, 1) := by decide +kernel
theorem dX1_runChip_5 : decode cX1_runChip 5 = .ok (.getfield 43, 3) := by decide +kernel
theorem dX1_runChip_8 : decode cX1_runChip 8 = .ok (.invokevirtual 54, 3) := by decide +kernel
theorem dX1_runChip_11 : decode cX1_runChip 11 = .ok (.aload_n 0, 1) := by decide +kernel
theorem dX1_runChip_12 : decode cX1_runChip 12 = .ok (.getfield 47, 3) := by decide +kernel
theorem dX1_runChip_15 : decode cX1_runChip 15 = .ok (.invokevirtual 60, 3) := by decide +kernel
theorem dX1_runChip_18 : decode cX1_runChip 18 = .ok (.aload_n 0, 1) := by decide +kernel
theorem dX1_runChip_19 : decode cX1_runChip 19 = .ok (.getfield 47, 3) := by decide +kernel
theorem dX1_runChip_22 : decode cX1_runChip 22 = .ok (.aload_n 0, 1) := by decide +kernel
theorem dX1_runChip_23 : decode cX1_runChip 23 = .ok (.getfield 11, 3) := by decide +kernel
theorem dX1_runChip_26 : decode cX1_runChip 26 = .ok (.aload_n 0, 1) := by decide +kernel
theorem dX1_runChip_27 : decode cX1_runChip 27 = .ok (.getfield 51, 3) := by decide +kernel
theorem dX1_runChip_30 : decode cX1_runChip 30 = .ok (.invokevirtual 63, 3) := by decide +kernel
theorem dX1_runChip_33 : decode cX1_runChip 33 = .ok (.iconst 0, 1) := by decide +kernel
theorem dX1_runChip_34 : decode cX1_runChip 34 = .ok (.istore_n 1, 1) := by decide +kernel
theorem dX1_runChip_35 : decode cX1_runChip 35 = .ok (.iload_n 1, 1) := by decide +kernel
theorem dX1_runChip_36 : decode cX1_runChip 36 = .ok (.aload_n 0, 1) := by decide +kernel
theorem dX1_runChip_37 : decode cX1_runChip 37 = .ok (.getfield 35, 3) := by decide +kernel
theorem dX1_runChip_40 : decode cX1_runChip 40 = .ok (.getfield 67, 3) := by decide +kernel
theorem dX1_runChip_43 : decode cX1_runChip 43 = .ok (.if_icmp .ge 31, 3) := by decide +kernel
theorem dX1_runChip_46 : decode cX1_runChip 46 = .ok (.aload_n 0, 1) := by decide +kernel
theorem dX1_runChip_47 : decode cX1_runChip 47 = .ok (.getfield 15, 3) := by decide +kernel
theorem dX1_runChip_50 : decode cX1_runChip 50 = .ok (.iload_n 1, 1) := by decide +kernel
theorem dX1_runChip_51 : decode cX1_runChip 51 = .ok (.aload_n 0, 1) := by decide +kernel
theorem dX1_runChip_52 : decode cX1_runChip 52 = .ok (.getfield 47, 3) := by decide +kernel
theorem dX1_runChip_55 : decode cX1_runChip 55 = .ok (.aload_n 0, 1) := by decide +kernel
theorem dX1_runChip_56 : decode cX1_runChip 56 = .ok (.getfield 35, 3) := by decide +kernel
theorem dX1_runChip_59 : decode cX1_runChip 59 = .ok (.getfield 72, 3) := by decide +kernel
theorem dX1_runChip_62 : decode cX1_runChip 62 = .ok (.iload_n 1, 1) := by decide +kernel
theorem dX1_runChip_63 : decode cX1_runChip 63 = .ok (.iaload, 1) := by decide +kernel
theorem dX1_runChip_64 : decode cX1_runChip 64 = .ok (.invokevirtual 75, 3) := by decide +kernel
theorem dX1_runChip_67 : decode cX1_runChip 67 = .ok (.lastore, 1) := by decide +kernel
theorem dX1_runChip_68 : decode cX1_runChip 68 = .ok (.iinc 1 1, 3) := by decide +kernel
theorem dX1_runChip_71 : decode cX1_runChip 71 = .ok (.goto (-36), 3) := by decide +kernel
theorem dX1_runChip_74 : decode cX1_runChip 74 = .ok (.return_, 1) := by decide +kernel
theorem dX1_suspectedPlaces_0 : decode cX1_suspectedPlaces 0 = .ok (.aload_n 0, 1) := by decide +kernel
theorem dX1_suspectedPlaces_1 : decode cX1_suspectedPlaces 1 = .ok (.getfield 31, 3) := by decide +kernel
theorem dX1_suspectedPlaces_4 : decode cX1_suspectedPlaces 4 = .ok (.ifCond .ge 5, 3) := by decide +kernel
theorem dX1_suspectedPlaces_7 : decode cX1_suspectedPlaces 7 = .ok (.iconst 0, 1) := by decide +kernel
theorem dX1_suspectedPlaces_8 : decode cX1_suspectedPlaces 8 = .ok (.ireturn, 1) := by decide +kernel
theorem dX1_suspectedPlaces_9 : decode cX1_suspectedPlaces 9 = .ok (.aload_n 0, 1) := by decide +kernel
theorem dX1_suspectedPlaces_10 : decode cX1_suspectedPlaces 10 = .ok (.aload_n 0, 1) := by decide +kernel
theorem dX1_suspectedPlaces_11 : decode cX1_suspectedPlaces 11 = .ok (.getfield 31, 3) := by decide +kernel
theorem dX1_suspectedPlaces_14 : decode cX1_suspectedPlaces 14 = .ok (.aload_n 0, 1) := by decide +kernel
theorem dX1_suspectedPlaces_15 : decode cX1_suspectedPlaces 15 = .ok (.getfield 134, 3) := by decide +kernel
theorem dX1_suspectedPlaces_18 : decode cX1_suspectedPlaces 18 = .ok (.invokevirtual 137, 3) := by decide +kernel
theorem dX1_suspectedPlaces_21 : decode cX1_suspectedPlaces 21 = .ok (.iconst 0, 1) := by decide +kernel
theorem dX1_suspectedPlaces_22 : decode cX1_suspectedPlaces 22 = .ok (.istore_n 1, 1) := by decide +kernel
theorem dX1_suspectedPlaces_23 : decode cX1_suspectedPlaces 23 = .ok (.iload_n 1, 1) := by decide +kernel
theorem dX1_suspectedPlaces_24 : decode cX1_suspectedPlaces 24 = .ok (.aload_n 0, 1) := by decide +kernel
theorem dX1_suspectedPlaces_25 : decode cX1_suspectedPlaces 25 = .ok (.getfield 35, 3) := by decide +kernel
theorem dX1_suspectedPlaces_28 : decode cX1_suspectedPlaces 28 = .ok (.getfield 108, 3) := by decide +kernel
theorem dX1_suspectedPlaces_31 : decode cX1_suspectedPlaces 31 = .ok (.if_icmp .ge 49, 3) := by decide +kernel
theorem dX1_suspectedPlaces_34 : decode cX1_suspectedPlaces 34 = .ok (.aload_n 0, 1) := by decide +kernel
theorem dX1_suspectedPlaces_35 : decode cX1_suspectedPlaces 35 = .ok (.getfield 25, 3) := by decide +kernel
theorem dX1_suspectedPlaces_38 : decode cX1_suspectedPlaces 38 = .ok (.iload_n 1, 1) := by decide +kernel
theorem dX1_suspectedPlaces_39 : decode cX1_suspectedPlaces 39 = .ok (.aload_n 0, 1) := by decide +kernel
theorem dX1_suspectedPlaces_40 : decode cX1_suspectedPlaces 40 = .ok (.iload_n 1, 1) := by decide +kernel
theorem dX1_suspectedPlaces_41 : decode cX1_suspectedPlaces 41 = .ok (.aload_n 0, 1) := by decide +kernel
theorem dX1_suspectedPlaces_42 : decode cX1_suspectedPlaces 42 = .ok (.getfield 31, 3) := by decide +kernel
theorem dX1_suspectedPlaces_45 : decode cX1_suspectedPlaces 45 = .ok (.aload_n 0, 1) := by decide +kernel
theorem dX1_suspectedPlaces_46 : decode cX1_suspectedPlaces 46 = .ok (.getfield 134, 3) := by decide +kernel
theorem dX1_suspectedPlaces_49 : decode cX1_suspectedPlaces 49 = .ok (.iconst 0, 1) := by decide +kernel
theorem dX1_suspectedPlaces_50 : decode cX1_suspectedPlaces 50 = .ok (.invokevirtual 140, 3) := by decide +kernel
theorem dX1_suspectedPlaces_53 : decode cX1_suspectedPlaces 53 = .ok (.lastore, 1) := by decide +kernel
theorem dX1_suspectedPlaces_54 : decode cX1_suspectedPlaces 54 = .ok (.aload_n 0, 1) := by decide +kernel
theorem dX1_suspectedPlaces_55 : decode cX1_suspectedPlaces 55 = .ok (.getfield 28, 3) := by decide +kernel
theorem dX1_suspectedPlaces_58 : decode cX1_suspectedPlaces 58 = .ok (.iload_n 1, 1) := by decide +kernel
theorem dX1_suspectedPlaces_59 : decode cX1_suspectedPlaces 59 = .ok (.aload_n 0, 1) := by decide +kernel
theorem dX1_suspectedPlaces_60 : decode cX1_suspectedPlaces 60 = .ok (.iload_n 1, 1) := by decide +kernel
theorem dX1_suspectedPlaces_61 : decode cX1_suspectedPlaces 61 = .ok (.aload_n 0, 1) := by decide +kernel
theorem dX1_suspectedPlaces_62 : decode cX1_suspectedPlaces 62 = .ok (.getfield 31, 3) := by decide +kernel
theorem dX1_suspectedPlaces_65 : decode cX1_suspectedPlaces 65 = .ok (.aload_n 0, 1) := by decide +kernel
theorem dX1_suspectedPlaces_66 : decode cX1_suspectedPlaces 66 = .ok (.getfield 134, 3) := by decide +kernel
theorem dX1_suspectedPlaces_69 : decode cX1_suspectedPlaces 69 = .ok (.iconst 1, 1) := by decide +kernel
theorem dX1_suspectedPlaces_70 : decode cX1_suspectedPlaces 70 = .ok (.invokevirtual 140, 3) := by decide +kernel
theorem dX1_suspectedPlaces_73 : decode cX1_suspectedPlaces 73 = .ok (.lastore, 1) := by decide +kernel
theorem dX1_suspectedPlaces_74 : decode cX1_suspectedPlaces 74 = .ok (.iinc 1 1, 3) := by decide +kernel
theorem dX1_suspectedPlaces_77 : decode cX1_suspectedPlaces 77 = .ok (.goto (-54), 3) := by decide +kernel
theorem dX1_suspectedPlaces_80 : decode cX1_suspectedPlaces 80 = .ok (.iconst 0, 1) := by decide +kernel
theorem dX1_suspectedPlaces_81 : decode cX1_suspectedPlaces 81 = .ok (.istore_n 1, 1) := by decide +kernel
theorem dX1_suspectedPlaces_82 : decode cX1_suspectedPlaces 82 = .ok (.iconst 0, 1) := by decide +kernel
theorem dX1_suspectedPlaces_83 : decode cX1_suspectedPlaces 83 = .ok (.istore_n 2, 1) := by decide +kernel
theorem dX1_suspectedPlaces_84 : decode cX1_suspectedPlaces 84 = .ok (.iload_n 2, 1) := by decide +kernel
theorem dX1_suspectedPlaces_85 : decode cX1_suspectedPlaces 85 = .ok (.aload_n 0, 1) := by decide +kernel
theorem dX1_suspectedPlaces_86 : decode cX1_suspectedPlaces 86 = .ok (.getfield 35, 3) := by decide +kernel
theorem dX1_suspectedPlaces_89 : decode cX1_suspectedPlaces 89 = .ok (.getfield 108, 3) := by decide +kernel
theorem dX1_suspectedPlaces_92 : decode cX1_suspectedPlaces 92 = .ok (.if_icmp .ge 23, 3) := by decide +kernel
theorem dX1_suspectedPlaces_95 : decode cX1_suspectedPlaces 95 = .ok (.aload_n 0, 1) := by decide +kernel
theorem dX1_suspectedPlaces_96 : decode cX1_suspectedPlaces 96 = .ok (.iload_n 2, 1) := by decide +kernel
theorem dX1_suspectedPlaces_97 : decode cX1_suspectedPlaces 97 = .ok (.invokevirtual 144, 3) := by decide +kernel
theorem dX1_suspectedPlaces_100 : decode cX1_suspectedPlaces 100 = .ok (.ifCond .eq 9, 3) := by decide +kernel
theorem dX1_suspectedPlaces_103 : decode cX1_suspectedPlaces 103 = .ok (.iload_n 1, 1) := by decide +kernel
theorem dX1_suspectedPlaces_104 : decode cX1_suspectedPlaces 104 = .ok (.iconst 1, 1) := by decide +kernel
theorem dX1_suspectedPlaces_105 : decode cX1_suspectedPlaces 105 = .ok (.iload_n 2, 1) := by decide +kernel
theorem dX1_suspectedPlaces_106 : decode cX1_suspectedPlaces 106 = .ok (.ishl, 1) := by decide +kernel
theorem dX1_suspectedPlaces_107 : decode cX1_suspectedPlaces 107 = .ok (.ior, 1) := by decide +kernel
theorem dX1_suspectedPlaces_108 : decode cX1_suspectedPlaces 108 = .ok (.istore_n 1, 1) := by decide +kernel
theorem dX1_suspectedPlaces_109 : decode cX1_suspectedPlaces 109 = .ok (.iinc 2 1, 3) := by decide +kernel
theorem dX1_suspectedPlaces_112 : decode cX1_suspectedPlaces 112 = .ok (.goto (-28), 3) := by decide +kernel
theorem dX1_suspectedPlaces_115 : decode cX1_suspectedPlaces 115 = .ok (.iload_n 1, 1) := by decide +kernel
theorem dX1_suspectedPlaces_116 : decode cX1_suspectedPlaces 116 = .ok (.ireturn, 1) := by decide +kernel
theorem dX2_add_0 : decode cX2_add 0 = .ok (.aload_n 0, 1) := by decide +kernel
theorem dX2_add_1 : decode cX2_add 1 = .ok (.getfield 11, 3) := by decide +kernel
theorem dX2_add_4 : decode cX2_add 4 = .ok (.aload_n 0, 1) := by decide +kernel
theorem dX2_add_5 : decode cX2_add 5 = .ok (.getfield 30, 3) := by decide +kernel
theorem dX2_add_8 : decode cX2_add 8 = .ok (.iload_n 1, 1) := by decide +kernel
theorem dX2_add_9 : decode cX2_add 9 = .ok (.iastore, 1) := by decide +kernel
theorem dX2_add_10 : decode cX2_add 10 = .ok (.aload_n 0, 1) := by decide +kernel
theorem dX2_add_11 : decode cX2_add 11 = .ok (.getfield 15, 3) := by decide +kernel
theorem dX2_add_14 : decode cX2_add 14 = .ok (.aload_n 0, 1) := by decide +kernel
theorem dX2_add_15 : decode cX2_add 15 = .ok (.getfield 30, 3) := by decide +kernel
theorem dX2_add_18 : decode cX2_add 18 = .ok (.iload_n 2, 1) := by decide +kernel
theorem dX2_add_19 : decode cX2_add 19 = .ok (.iastore, 1) := by decide +kernel
theorem dX2_add_20 : decode cX2_add 20 = .ok (.aload_n 0, 1) := by decide +kernel
theorem dX2_add_21 : decode cX2_add 21 = .ok (.getfield 18, 3) := by decide +kernel
theorem dX2_add_24 : decode cX2_add 24 = .ok (.aload_n 0, 1) := by decide +kernel
theorem dX2_add_25 : decode cX2_add 25 = .ok (.getfield 30, 3) := by decide +kernel
theorem dX2_add_28 : decode cX2_add 28 = .ok (.iload_n 3, 1) := by decide +kernel
theorem dX2_add_29 : decode cX2_add 29 = .ok (.iastore, 1) := by decide +kernel
theorem dX2_add_30 : decode cX2_add 30 = .ok (.aload_n 0, 1) := by decide +kernel
theorem dX2_add_31 : decode cX2_add 31 = .ok (.dup, 1) := by decide +kernel
theorem dX2_add_32 : decode cX2_add 32 = .ok (.getfield 30, 3) := by decide +kernel
theorem dX2_add_35 : decode cX2_add 35 = .ok (.iconst 1, 1) := by decide +kernel
theorem dX2_add_36 : decode cX2_add 36 = .ok (.iadd, 1) := by decide +kernel
theorem dX2_add_37 : decode cX2_add 37 = .ok (.putfield 30, 3) := by decide +kernel
theorem dX2_add_40 : decode cX2_add 40 = .ok (.aload_n 0, 1) := by decide +kernel
theorem dX2_add_41 : decode cX2_add 41 = .ok (.getfield 30, 3) := by decide +kernel
theorem dX2_add_44 : decode cX2_add 44 = .ok (.iconst 1, 1) := by decide +kernel
theorem dX2_add_45 : decode cX2_add 45 = .ok (.isub, 1) := by decide +kernel
theorem dX2_add_46 : decode cX2_add 46 = .ok (.ireturn, 1) := by decide +kernel
theorem dX3_countClasses_0 : decode cX3_countClasses 0 = .ok (.iconst 0, 1) := by decide +kernel
theorem dX3_countClasses_1 : decode cX3_countClasses 1 = .ok (.istore_n 1, 1) := by decide +kernel
theorem dX3_countClasses_2 : decode cX3_countClasses 2 = .ok (.iconst 0, 1) := by decide +kernel
theorem dX3_countClasses_3 : decode cX3_countClasses 3 = .ok (.istore_n 2, 1) := by decide +kernel
theorem dX3_countClasses_4 : decode cX3_countClasses 4 = .ok (.iload_n 2, 1) := by decide +kernel
theorem dX3_countClasses_5 : decode cX3_countClasses 5 = .ok (.aload_n 0, 1) := by decide +kernel
theorem dX3_countClasses_6 : decode cX3_countClasses 6 = .ok (.getfield 73, 3) := by decide +kernel
theorem dX3_countClasses_9 : decode cX3_countClasses 9 = .ok (.if_icmp .ge 20, 3) := by decide +kernel
theorem dX3_countClasses_12 : decode cX3_countClasses 12 = .ok (.aload_n 0, 1) := by decide +kernel
theorem dX3_countClasses_13 : decode cX3_countClasses 13 = .ok (.iload_n 2, 1) := by decide +kernel
theorem dX3_countClasses_14 : decode cX3_countClasses 14 = .ok (.invokevirtual 89, 3) := by decide +kernel
theorem dX3_countClasses_17 : decode cX3_countClasses 17 = .ok (.ifCond .eq 6, 3) := by decide +kernel
theorem dX3_countClasses_20 : decode cX3_countClasses 20 = .ok (.iinc 1 1, 3) := by decide +kernel
theorem dX3_countClasses_23 : decode cX3_countClasses 23 = .ok (.iinc 2 1, 3) := by decide +kernel
theorem dX3_countClasses_26 : decode cX3_countClasses 26 = .ok (.goto (-22), 3) := by decide +kernel
theorem dX3_countClasses_29 : decode cX3_countClasses 29 = .ok (.iload_n 1, 1) := by decide +kernel
theorem dX3_countClasses_30 : decode cX3_countClasses 30 = .ok (.ireturn, 1) := by decide +kernel
theorem dX5_columnsLeft_0 : decode cX5_columnsLeft 0 = .ok (.iconst 0, 1) := by decide +kernel
theorem dX5_columnsLeft_1 : decode cX5_columnsLeft 1 = .ok (.istore_n 2, 1) := by decide +kernel
theorem dX5_columnsLeft_2 : decode cX5_columnsLeft 2 = .ok (.iconst 0, 1) := by decide +kernel
theorem dX5_columnsLeft_3 : decode cX5_columnsLeft 3 = .ok (.istore_n 3, 1) := by decide +kernel
theorem dX5_columnsLeft_4 : decode cX5_columnsLeft 4 = .ok (.iload_n 3, 1) := by decide +kernel
theorem dX5_columnsLeft_5 : decode cX5_columnsLeft 5 = .ok (.bipush 8, 2) := by decide +kernel
theorem dX5_columnsLeft_7 : decode cX5_columnsLeft 7 = .ok (.if_icmp .ge 26, 3) := by decide +kernel
theorem dX5_columnsLeft_10 : decode cX5_columnsLeft 10 = .ok (.iload_n 1, 1) := by decide +kernel
theorem dX5_columnsLeft_11 : decode cX5_columnsLeft 11 = .ok (.iload_n 3, 1) := by decide +kernel
theorem dX5_columnsLeft_12 : decode cX5_columnsLeft 12 = .ok (.ishr, 1) := by decide +kernel
theorem dX5_columnsLeft_13 : decode cX5_columnsLeft 13 = .ok (.iconst 1, 1) := by decide +kernel
theorem dX5_columnsLeft_14 : decode cX5_columnsLeft 14 = .ok (.iand, 1) := by decide +kernel
theorem dX5_columnsLeft_15 : decode cX5_columnsLeft 15 = .ok (.ifCond .ne 12, 3) := by decide +kernel
theorem dX5_columnsLeft_18 : decode cX5_columnsLeft 18 = .ok (.iload_n 2, 1) := by decide +kernel
theorem dX5_columnsLeft_19 : decode cX5_columnsLeft 19 = .ok (.aload_n 0, 1) := by decide +kernel
theorem dX5_columnsLeft_20 : decode cX5_columnsLeft 20 = .ok (.getfield 15, 3) := by decide +kernel
theorem dX5_columnsLeft_23 : decode cX5_columnsLeft 23 = .ok (.iload_n 3, 1) := by decide +kernel
theorem dX5_columnsLeft_24 : decode cX5_columnsLeft 24 = .ok (.iaload, 1) := by decide +kernel
theorem dX5_columnsLeft_25 : decode cX5_columnsLeft 25 = .ok (.ior, 1) := by decide +kernel
theorem dX5_columnsLeft_26 : decode cX5_columnsLeft 26 = .ok (.istore_n 2, 1) := by decide +kernel
theorem dX5_columnsLeft_27 : decode cX5_columnsLeft 27 = .ok (.iinc 3 1, 3) := by decide +kernel
theorem dX5_columnsLeft_30 : decode cX5_columnsLeft 30 = .ok (.goto (-26), 3) := by decide +kernel
theorem dX5_columnsLeft_33 : decode cX5_columnsLeft 33 = .ok (.iload_n 2, 1) := by decide +kernel
theorem dX5_columnsLeft_34 : decode cX5_columnsLeft 34 = .ok (.ireturn, 1) := by decide +kernel
theorem dX5_isElement_0 : decode cX5_isElement 0 = .ok (.iload_n 0, 1) := by decide +kernel
theorem dX5_isElement_1 : decode cX5_isElement 1 = .ok (.bipush 94, 2) := by decide +kernel
theorem dX5_isElement_3 : decode cX5_isElement 3 = .ok (.if_icmp .eq 9, 3) := by decide +kernel
theorem dX5_isElement_6 : decode cX5_isElement 6 = .ok (.iload_n 0, 1) := by decide +kernel
theorem dX5_isElement_7 : decode cX5_isElement 7 = .ok (.bipush 118, 2) := by decide +kernel
theorem dX5_isElement_9 : decode cX5_isElement 9 = .ok (.if_icmp .ne 7, 3) := by decide +kernel
theorem dX5_isElement_12 : decode cX5_isElement 12 = .ok (.iconst 1, 1) := by decide +kernel
theorem dX5_isElement_13 : decode cX5_isElement 13 = .ok (.goto 4, 3) := by decide +kernel
theorem dX5_isElement_16 : decode cX5_isElement 16 = .ok (.iconst 0, 1) := by decide +kernel
theorem dX5_isElement_17 : decode cX5_isElement 17 = .ok (.ireturn, 1) := by decide +kernel
theorem dX5_isFault_0 : decode cX5_isFault 0 = .ok (.iload_n 0, 1) := by decide +kernel
theorem dX5_isFault_1 : decode cX5_isFault 1 = .ok (.invokestatic 30, 3) := by decide +kernel
theorem dX5_isFault_4 : decode cX5_isFault 4 = .ok (.ifCond .eq 13, 3) := by decide +kernel
theorem dX5_isFault_7 : decode cX5_isFault 7 = .ok (.iload_n 1, 1) := by decide +kernel
theorem dX5_isFault_8 : decode cX5_isFault 8 = .ok (.ifCond .lt 9, 3) := by decide +kernel
theorem dX5_isFault_11 : decode cX5_isFault 11 = .ok (.iload_n 1, 1) := by decide +kernel
theorem dX5_isFault_12 : decode cX5_isFault 12 = .ok (.bipush 8, 2) := by decide +kernel
theorem dX5_isFault_14 : decode cX5_isFault 14 = .ok (.if_icmp .lt 5, 3) := by decide +kernel
theorem dX5_isFault_17 : decode cX5_isFault 17 = .ok (.iconst 0, 1) := by decide +kernel
theorem dX5_isFault_18 : decode cX5_isFault 18 = .ok (.ireturn, 1) := by decide +kernel
theorem dX5_isFault_19 : decode cX5_isFault 19 = .ok (.iload_n 0, 1) := by decide +kernel
theorem dX5_isFault_20 : decode cX5_isFault 20 = .ok (.invokestatic 33, 3) := by decide +kernel
theorem dX5_isFault_23 : decode cX5_isFault 23 = .ok (.ifCond .eq 20, 3) := by decide +kernel
theorem dX5_isFault_26 : decode cX5_isFault 26 = .ok (.iload_n 2, 1) := by decide +kernel
theorem dX5_isFault_27 : decode cX5_isFault 27 = .ok (.ifCond .lt 14, 3) := by decide +kernel
theorem dX5_isFault_30 : decode cX5_isFault 30 = .ok (.iload_n 2, 1) := by decide +kernel
theorem dX5_isFault_31 : decode cX5_isFault 31 = .ok (.bipush 8, 2) := by decide +kernel
theorem dX5_isFault_33 : decode cX5_isFault 33 = .ok (.if_icmp .ge 8, 3) := by decide +kernel
theorem dX5_isFault_36 : decode cX5_isFault 36 = .ok (.iload_n 1, 1) := by decide +kernel
theorem dX5_isFault_37 : decode cX5_isFault 37 = .ok (.iload_n 2, 1) := by decide +kernel
theorem dX5_isFault_38 : decode cX5_isFault 38 = .ok (.if_icmp .ne 5, 3) := by decide +kernel
theorem dX5_isFault_41 : decode cX5_isFault 41 = .ok (.iconst 0, 1) := by decide +kernel
theorem dX5_isFault_42 : decode cX5_isFault 42 = .ok (.ireturn, 1) := by decide +kernel
theorem dX5_isFault_43 : decode cX5_isFault 43 = .ok (.iload_n 0, 1) := by decide +kernel
theorem dX5_isFault_44 : decode cX5_isFault 44 = .ok (.bipush 97, 2) := by decide +kernel
theorem dX5_isFault_46 : decode cX5_isFault 46 = .ok (.if_icmp .eq 14, 3) := by decide +kernel
theorem dX5_isFault_49 : decode cX5_isFault 49 = .ok (.iload_n 3, 1) := by decide +kernel
theorem dX5_isFault_50 : decode cX5_isFault 50 = .ok (.ifCond .eq 10, 3) := by decide +kernel
theorem dX5_isFault_53 : decode cX5_isFault 53 = .ok (.iload_n 3, 1) := by decide +kernel
theorem dX5_isFault_54 : decode cX5_isFault 54 = .ok (.iconst 1, 1) := by decide +kernel
theorem dX5_isFault_55 : decode cX5_isFault 55 = .ok (.if_icmp .eq 5, 3) := by decide +kernel
theorem dX5_isFault_58 : decode cX5_isFault 58 = .ok (.iconst 0, 1) := by decide +kernel
theorem dX5_isFault_59 : decode cX5_isFault 59 = .ok (.ireturn, 1) := by decide +kernel
theorem dX5_isFault_60 : decode cX5_isFault 60 = .ok (.iload_n 0, 1) := by decide +kernel
theorem dX5_isFault_61 : decode cX5_isFault 61 = .ok (.bipush 99, 2) := by decide +kernel
theorem dX5_isFault_63 : decode cX5_isFault 63 = .ok (.if_icmp .ne 14, 3) := by decide +kernel
theorem dX5_isFault_66 : decode cX5_isFault 66 = .ok (.iload 4, 2) := by decide +kernel
theorem dX5_isFault_68 : decode cX5_isFault 68 = .ok (.ifCond .eq 9, 3) := by decide +kernel
theorem dX5_isFault_71 : decode cX5_isFault 71 = .ok (.iload 4, 2) := by decide +kernel
theorem dX5_isFault_73 : decode cX5_isFault 73 = .ok (.iconst 1, 1) := by decide +kernel
theorem dX5_isFault_74 : decode cX5_isFault 74 = .ok (.if_icmp .ne 7, 3) := by decide +kernel
theorem dX5_isFault_77 : decode cX5_isFault 77 = .ok (.iconst 1, 1) := by decide +kernel
theorem dX5_isFault_78 : decode cX5_isFault 78 = .ok (.goto 4, 3) := by decide +kernel
theorem dX5_isFault_81 : decode cX5_isFault 81 = .ok (.iconst 0, 1) := by decide +kernel
theorem dX5_isFault_82 : decode cX5_isFault 82 = .ok (.ireturn, 1) := by decide +kernel
theorem dX5_isKind_0 : decode cX5_isKind 0 = .ok (.iload_n 0, 1) := by decide +kernel
theorem dX5_isKind_1 : decode cX5_isKind 1 = .ok (.bipush 115, 2) := by decide +kernel
theorem dX5_isKind_3 : decode cX5_isKind 3 = .ok (.if_icmp .eq 27, 3) := by decide +kernel
theorem dX5_isKind_6 : decode cX5_isKind 6 = .ok (.iload_n 0, 1) := by decide +kernel
theorem dX5_isKind_7 : decode cX5_isKind 7 = .ok (.bipush 116, 2) := by decide +kernel
theorem dX5_isKind_9 : decode cX5_isKind 9 = .ok (.if_icmp .eq 21, 3) := by decide +kernel
theorem dX5_isKind_12 : decode cX5_isKind 12 = .ok (.iload_n 0, 1) := by decide +kernel
theorem dX5_isKind_13 : decode cX5_isKind 13 = .ok (.bipush 99, 2) := by decide +kernel
theorem dX5_isKind_15 : decode cX5_isKind 15 = .ok (.if_icmp .eq 15, 3) := by decide +kernel
theorem dX5_isKind_18 : decode cX5_isKind 18 = .ok (.iload_n 0, 1) := by decide +kernel
theorem dX5_isKind_19 : decode cX5_isKind 19 = .ok (.bipush 105, 2) := by decide +kernel
theorem dX5_isKind_21 : decode cX5_isKind 21 = .ok (.if_icmp .eq 9, 3) := by decide +kernel
theorem dX5_isKind_24 : decode cX5_isKind 24 = .ok (.iload_n 0, 1) := by decide +kernel
theorem dX5_isKind_25 : decode cX5_isKind 25 = .ok (.bipush 97, 2) := by decide +kernel
theorem dX5_isKind_27 : decode cX5_isKind 27 = .ok (.if_icmp .ne 7, 3) := by decide +kernel
theorem dX5_isKind_30 : decode cX5_isKind 30 = .ok (.iconst 1, 1) := by decide +kernel
theorem dX5_isKind_31 : decode cX5_isKind 31 = .ok (.goto 4, 3) := by decide +kernel
theorem dX5_isKind_34 : decode cX5_isKind 34 = .ok (.iconst 0, 1) := by decide +kernel
theorem dX5_isKind_35 : decode cX5_isKind 35 = .ok (.ireturn, 1) := by decide +kernel
theorem dX5_isMarchRight_0 : decode cX5_isMarchRight 0 = .ok (.aload_n 0, 1) := by decide +kernel
theorem dX5_isMarchRight_1 : decode cX5_isMarchRight 1 = .ok (.bipush 45, 2) := by decide +kernel
theorem dX5_isMarchRight_3 : decode cX5_isMarchRight 3 = .ok (.putfield 19, 3) := by decide +kernel
theorem dX5_isMarchRight_6 : decode cX5_isMarchRight 6 = .ok (.aload_n 0, 1) := by decide +kernel
theorem dX5_isMarchRight_7 : decode cX5_isMarchRight 7 = .ok (.getfield 36, 3) := by decide +kernel
theorem dX5_isMarchRight_10 : decode cX5_isMarchRight 10 = .ok (.ifCond .le 37, 3) := by decide +kernel
theorem dX5_isMarchRight_13 : decode cX5_isMarchRight 13 = .ok (.aload_n 0, 1) := by decide +kernel
theorem dX5_isMarchRight_14 : decode cX5_isMarchRight 14 = .ok (.getfield 11, 3) := by decide +kernel
theorem dX5_isMarchRight_17 : decode cX5_isMarchRight 17 = .ok (.iconst 0, 1) := by decide +kernel
theorem dX5_isMarchRight_18 : decode cX5_isMarchRight 18 = .ok (.caload, 1) := by decide +kernel
theorem dX5_isMarchRight_19 : decode cX5_isMarchRight 19 = .ok (.invokestatic 23, 3) := by decide +kernel
theorem dX5_isMarchRight_22 : decode cX5_isMarchRight 22 = .ok (.ifCond .eq 25, 3) := by decide +kernel
theorem dX5_isMarchRight_25 : decode cX5_isMarchRight 25 = .ok (.aload_n 0, 1) := by decide +kernel
theorem dX5_isMarchRight_26 : decode cX5_isMarchRight 26 = .ok (.iconst 0, 1) := by decide +kernel
theorem dX5_isMarchRight_27 : decode cX5_isMarchRight 27 = .ok (.invokevirtual 40, 3) := by decide +kernel
theorem dX5_isMarchRight_30 : decode cX5_isMarchRight 30 = .ok (.ifCond .eq 17, 3) := by decide +kernel
theorem dX5_isMarchRight_33 : decode cX5_isMarchRight 33 = .ok (.aload_n 0, 1) := by decide +kernel
theorem dX5_isMarchRight_34 : decode cX5_isMarchRight 34 = .ok (.sipush 255, 3) := by decide +kernel
theorem dX5_isMarchRight_37 : decode cX5_isMarchRight 37 = .ok (.invokevirtual 40, 3) := by decide +kernel
theorem dX5_isMarchRight_40 : decode cX5_isMarchRight 40 = .ok (.ifCond .eq 7, 3) := by decide +kernel
theorem dX5_isMarchRight_43 : decode cX5_isMarchRight 43 = .ok (.iconst 1, 1) := by decide +kernel
theorem dX5_isMarchRight_44 : decode cX5_isMarchRight 44 = .ok (.goto 4, 3) := by decide +kernel
theorem dX5_isMarchRight_47 : decode cX5_isMarchRight 47 = .ok (.iconst 0, 1) := by decide +kernel
theorem dX5_isMarchRight_48 : decode cX5_isMarchRight 48 = .ok (.ireturn, 1) := by decide +kernel
theorem dX5_isOfTwoCells_0 : decode cX5_isOfTwoCells 0 = .ok (.iload_n 0, 1) := by decide +kernel
theorem dX5_isOfTwoCells_1 : decode cX5_isOfTwoCells 1 = .ok (.bipush 99, 2) := by decide +kernel
theorem dX5_isOfTwoCells_3 : decode cX5_isOfTwoCells 3 = .ok (.if_icmp .eq 15, 3) := by decide +kernel
theorem dX5_isOfTwoCells_6 : decode cX5_isOfTwoCells 6 = .ok (.iload_n 0, 1) := by decide +kernel
theorem dX5_isOfTwoCells_7 : decode cX5_isOfTwoCells 7 = .ok (.bipush 105, 2) := by decide +kernel
theorem dX5_isOfTwoCells_9 : decode cX5_isOfTwoCells 9 = .ok (.if_icmp .eq 9, 3) := by decide +kernel
theorem dX5_isOfTwoCells_12 : decode cX5_isOfTwoCells 12 = .ok (.iload_n 0, 1) := by decide +kernel
theorem dX5_isOfTwoCells_13 : decode cX5_isOfTwoCells 13 = .ok (.bipush 97, 2) := by decide +kernel
theorem dX5_isOfTwoCells_15 : decode cX5_isOfTwoCells 15 = .ok (.if_icmp .ne 7, 3) := by decide +kernel
theorem dX5_isOfTwoCells_18 : decode cX5_isOfTwoCells 18 = .ok (.iconst 1, 1) := by decide +kernel
theorem dX5_isOfTwoCells_19 : decode cX5_isOfTwoCells 19 = .ok (.goto 4, 3) := by decide +kernel
theorem dX5_isOfTwoCells_22 : decode cX5_isOfTwoCells 22 = .ok (.iconst 0, 1) := by decide +kernel
theorem dX5_isOfTwoCells_23 : decode cX5_isOfTwoCells 23 = .ok (.ireturn, 1) := by decide +kernel
theorem dX5_isSign_0 : decode cX5_isSign 0 = .ok (.iload_n 0, 1) := by decide +kernel
theorem dX5_isSign_1 : decode cX5_isSign 1 = .ok (.invokestatic 23, 3) := by decide +kernel
theorem dX5_isSign_4 : decode cX5_isSign 4 = .ok (.ifCond .ne 22, 3) := by decide +kernel
theorem dX5_isSign_7 : decode cX5_isSign 7 = .ok (.iload_n 0, 1) := by decide +kernel
theorem dX5_isSign_8 : decode cX5_isSign 8 = .ok (.invokestatic 27, 3) := by decide +kernel
theorem dX5_isSign_11 : decode cX5_isSign 11 = .ok (.ifCond .ne 15, 3) := by decide +kernel
theorem dX5_isSign_14 : decode cX5_isSign 14 = .ok (.iload_n 0, 1) := by decide +kernel
theorem dX5_isSign_15 : decode cX5_isSign 15 = .ok (.bipush 122, 2) := by decide +kernel
theorem dX5_isSign_17 : decode cX5_isSign 17 = .ok (.if_icmp .eq 9, 3) := by decide +kernel
theorem dX5_isSign_20 : decode cX5_isSign 20 = .ok (.iload_n 0, 1) := by decide +kernel
theorem dX5_isSign_21 : decode cX5_isSign 21 = .ok (.bipush 111, 2) := by decide +kernel
theorem dX5_isSign_23 : decode cX5_isSign 23 = .ok (.if_icmp .ne 7, 3) := by decide +kernel
theorem dX5_isSign_26 : decode cX5_isSign 26 = .ok (.iconst 1, 1) := by decide +kernel
theorem dX5_isSign_27 : decode cX5_isSign 27 = .ok (.goto 4, 3) := by decide +kernel
theorem dX5_isSign_30 : decode cX5_isSign 30 = .ok (.iconst 0, 1) := by decide +kernel
theorem dX5_isSign_31 : decode cX5_isSign 31 = .ok (.ireturn, 1) := by decide +kernel
theorem dX5_isWrite_0 : decode cX5_isWrite 0 = .ok (.iload_n 0, 1) := by decide +kernel
theorem dX5_isWrite_1 : decode cX5_isWrite 1 = .ok (.bipush 48, 2) := by decide +kernel
theorem dX5_isWrite_3 : decode cX5_isWrite 3 = .ok (.if_icmp .eq 9, 3) := by decide +kernel
theorem dX5_isWrite_6 : decode cX5_isWrite 6 = .ok (.iload_n 0, 1) := by decide +kernel
theorem dX5_isWrite_7 : decode cX5_isWrite 7 = .ok (.bipush 49, 2) := by decide +kernel
theorem dX5_isWrite_9 : decode cX5_isWrite 9 = .ok (.if_icmp .ne 7, 3) := by decide +kernel
theorem dX5_isWrite_12 : decode cX5_isWrite 12 = .ok (.iconst 1, 1) := by decide +kernel
theorem dX5_isWrite_13 : decode cX5_isWrite 13 = .ok (.goto 4, 3) := by decide +kernel
theorem dX5_isWrite_16 : decode cX5_isWrite 16 = .ok (.iconst 0, 1) := by decide +kernel
theorem dX5_isWrite_17 : decode cX5_isWrite 17 = .ok (.ireturn, 1) := by decide +kernel
theorem dX5_rowsToSpare_0 : decode cX5_rowsToSpare 0 = .ok (.iconst (-1), 1) := by decide +kernel
theorem dX5_rowsToSpare_1 : decode cX5_rowsToSpare 1 = .ok (.istore_n 3, 1) := by decide +kernel
theorem dX5_rowsToSpare_2 : decode cX5_rowsToSpare 2 = .ok (.bipush 17, 2) := by decide +kernel
theorem dX5_rowsToSpare_4 : decode cX5_rowsToSpare 4 = .ok (.istore 4, 2) := by decide +kernel
theorem dX5_rowsToSpare_6 : decode cX5_rowsToSpare 6 = .ok (.iconst 0, 1) := by decide +kernel
theorem dX5_rowsToSpare_7 : decode cX5_rowsToSpare 7 = .ok (.istore 5, 2) := by decide +kernel
theorem dX5_rowsToSpare_9 : decode cX5_rowsToSpare 9 = .ok (.iload 5, 2) := by decide +kernel
theorem dX5_rowsToSpare_11 : decode cX5_rowsToSpare 11 = .ok (.sipush 256, 3) := by decide +kernel
theorem dX5_rowsToSpare_14 : decode cX5_rowsToSpare 14 = .ok (.if_icmp .ge 59, 3) := by decide +kernel
theorem dX5_rowsToSpare_17 : decode cX5_rowsToSpare 17 = .ok (.iload 5, 2) := by decide +kernel
theorem dX5_rowsToSpare_19 : decode cX5_rowsToSpare 19 = .ok (.invokestatic 84, 3) := by decide +kernel
theorem dX5_rowsToSpare_22 : decode cX5_rowsToSpare 22 = .ok (.istore 6, 2) := by decide +kernel
theorem dX5_rowsToSpare_24 : decode cX5_rowsToSpare 24 = .ok (.aload_n 0, 1) := by decide +kernel
theorem dX5_rowsToSpare_25 : decode cX5_rowsToSpare 25 = .ok (.iload 5, 2) := by decide +kernel
theorem dX5_rowsToSpare_27 : decode cX5_rowsToSpare 27 = .ok (.invokevirtual 89, 3) := by decide +kernel
theorem dX5_rowsToSpare_30 : decode cX5_rowsToSpare 30 = .ok (.invokestatic 84, 3) := by decide +kernel
theorem dX5_rowsToSpare_33 : decode cX5_rowsToSpare 33 = .ok (.istore 7, 2) := by decide +kernel
theorem dX5_rowsToSpare_35 : decode cX5_rowsToSpare 35 = .ok (.iload 6, 2) := by decide +kernel
theorem dX5_rowsToSpare_37 : decode cX5_rowsToSpare 37 = .ok (.iload_n 1, 1) := by decide +kernel
theorem dX5_rowsToSpare_38 : decode cX5_rowsToSpare 38 = .ok (.if_icmp .gt 29, 3) := by decide +kernel
theorem dX5_rowsToSpare_41 : decode cX5_rowsToSpare 41 = .ok (.iload 7, 2) := by decide +kernel
theorem dX5_rowsToSpare_43 : decode cX5_rowsToSpare 43 = .ok (.iload_n 2, 1) := by decide +kernel
theorem dX5_rowsToSpare_44 : decode cX5_rowsToSpare 44 = .ok (.if_icmp .gt 23, 3) := by decide +kernel
theorem dX5_rowsToSpare_47 : decode cX5_rowsToSpare 47 = .ok (.iload 6, 2) := by decide +kernel
theorem dX5_rowsToSpare_49 : decode cX5_rowsToSpare 49 = .ok (.iload 7, 2) := by decide +kernel
theorem dX5_rowsToSpare_51 : decode cX5_rowsToSpare 51 = .ok (.iadd, 1) := by decide +kernel
theorem dX5_rowsToSpare_52 : decode cX5_rowsToSpare 52 = .ok (.iload 4, 2) := by decide +kernel
theorem dX5_rowsToSpare_54 : decode cX5_rowsToSpare 54 = .ok (.if_icmp .ge 13, 3) := by decide +kernel
theorem dX5_rowsToSpare_57 : decode cX5_rowsToSpare 57 = .ok (.iload 5, 2) := by decide +kernel
theorem dX5_rowsToSpare_59 : decode cX5_rowsToSpare 59 = .ok (.istore_n 3, 1) := by decide +kernel
theorem dX5_rowsToSpare_60 : decode cX5_rowsToSpare 60 = .ok (.iload 6, 2) := by decide +kernel
theorem dX5_rowsToSpare_62 : decode cX5_rowsToSpare 62 = .ok (.iload 7, 2) := by decide +kernel
theorem dX5_rowsToSpare_64 : decode cX5_rowsToSpare 64 = .ok (.iadd, 1) := by decide +kernel
theorem dX5_rowsToSpare_65 : decode cX5_rowsToSpare 65 = .ok (.istore 4, 2) := by decide +kernel
theorem dX5_rowsToSpare_67 : decode cX5_rowsToSpare 67 = .ok (.iinc 5 1, 3) := by decide +kernel
theorem dX5_rowsToSpare_70 : decode cX5_rowsToSpare 70 = .ok (.goto (-61), 3) := by decide +kernel
theorem dX5_rowsToSpare_73 : decode cX5_rowsToSpare 73 = .ok (.iload_n 3, 1) := by decide +kernel
theorem dX5_rowsToSpare_74 : decode cX5_rowsToSpare 74 = .ok (.ireturn, 1) := by decide +kernel
theorem dX5_type_0 : decode cX5_type 0 = .ok (.aload_n 0, 1) := by decide +kernel
theorem dX5_type_1 : decode cX5_type 1 = .ok (.getfield 11, 3) := by decide +kernel
theorem dX5_type_4 : decode cX5_type 4 = .ok (.aload_n 0, 1) := by decide +kernel
theorem dX5_type_5 : decode cX5_type 5 = .ok (.getfield 36, 3) := by decide +kernel
theorem dX5_type_8 : decode cX5_type 8 = .ok (.iload_n 1, 1) := by decide +kernel
theorem dX5_type_9 : decode cX5_type 9 = .ok (.castore, 1) := by decide +kernel
theorem dX5_type_10 : decode cX5_type 10 = .ok (.aload_n 0, 1) := by decide +kernel
theorem dX5_type_11 : decode cX5_type 11 = .ok (.dup, 1) := by decide +kernel
theorem dX5_type_12 : decode cX5_type 12 = .ok (.getfield 36, 3) := by decide +kernel
theorem dX5_type_15 : decode cX5_type 15 = .ok (.iconst 1, 1) := by decide +kernel
theorem dX5_type_16 : decode cX5_type 16 = .ok (.iadd, 1) := by decide +kernel
theorem dX5_type_17 : decode cX5_type 17 = .ok (.putfield 36, 3) := by decide +kernel
theorem dX5_type_20 : decode cX5_type 20 = .ok (.aload_n 0, 1) := by decide +kernel
theorem dX5_type_21 : decode cX5_type 21 = .ok (.getfield 36, 3) := by decide +kernel
theorem dX5_type_24 : decode cX5_type 24 = .ok (.ireturn, 1) := by decide +kernel
theorem dX6_addSource_0 : decode cX6_addSource 0 = .ok (.aload_n 0, 1) := by decide +kernel
theorem dX6_addSource_1 : decode cX6_addSource 1 = .ok (.getfield 68, 3) := by decide +kernel
theorem dX6_addSource_4 : decode cX6_addSource 4 = .ok (.istore_n 2, 1) := by decide +kernel
theorem dX6_addSource_5 : decode cX6_addSource 5 = .ok (.aload_n 0, 1) := by decide +kernel
theorem dX6_addSource_6 : decode cX6_addSource 6 = .ok (.getfield 9, 3) := by decide +kernel
theorem dX6_addSource_9 : decode cX6_addSource 9 = .ok (.iload_n 2, 1) := by decide +kernel
theorem dX6_addSource_10 : decode cX6_addSource 10 = .ok (.iload_n 1, 1) := by decide +kernel
theorem dX6_addSource_11 : decode cX6_addSource 11 = .ok (.ifCond .eq 8, 3) := by decide +kernel
theorem dX6_addSource_14 : decode cX6_addSource 14 = .ok (.bipush 102, 2) := by decide +kernel
theorem dX6_addSource_16 : decode cX6_addSource 16 = .ok (.goto 5, 3) := by decide +kernel
theorem dX6_addSource_19 : decode cX6_addSource 19 = .ok (.bipush 105, 2) := by decide +kernel
theorem dX6_addSource_21 : decode cX6_addSource 21 = .ok (.castore, 1) := by decide +kernel
theorem dX6_addSource_22 : decode cX6_addSource 22 = .ok (.aload_n 0, 1) := by decide +kernel
theorem dX6_addSource_23 : decode cX6_addSource 23 = .ok (.getfield 34, 3) := by decide +kernel
theorem dX6_addSource_26 : decode cX6_addSource 26 = .ok (.iload_n 2, 1) := by decide +kernel
theorem dX6_addSource_27 : decode cX6_addSource 27 = .ok (.lconst 1, 1) := by decide +kernel
theorem dX6_addSource_28 : decode cX6_addSource 28 = .ok (.iload_n 2, 1) := by decide +kernel
theorem dX6_addSource_29 : decode cX6_addSource 29 = .ok (.lshl, 1) := by decide +kernel
theorem dX6_addSource_30 : decode cX6_addSource 30 = .ok (.lastore, 1) := by decide +kernel
theorem dX6_addSource_31 : decode cX6_addSource 31 = .ok (.aload_n 0, 1) := by decide +kernel
theorem dX6_addSource_32 : decode cX6_addSource 32 = .ok (.getfield 31, 3) := by decide +kernel
theorem dX6_addSource_35 : decode cX6_addSource 35 = .ok (.iload_n 2, 1) := by decide +kernel
theorem dX6_addSource_36 : decode cX6_addSource 36 = .ok (.aload_n 0, 1) := by decide +kernel
theorem dX6_addSource_37 : decode cX6_addSource 37 = .ok (.getfield 72, 3) := by decide +kernel
theorem dX6_addSource_40 : decode cX6_addSource 40 = .ok (.iastore, 1) := by decide +kernel
theorem dX6_addSource_41 : decode cX6_addSource 41 = .ok (.aload_n 0, 1) := by decide +kernel
theorem dX6_addSource_42 : decode cX6_addSource 42 = .ok (.dup, 1) := by decide +kernel
theorem dX6_addSource_43 : decode cX6_addSource 43 = .ok (.getfield 72, 3) := by decide +kernel
theorem dX6_addSource_46 : decode cX6_addSource 46 = .ok (.iconst 1, 1) := by decide +kernel
theorem dX6_addSource_47 : decode cX6_addSource 47 = .ok (.iadd, 1) := by decide +kernel
theorem dX6_addSource_48 : decode cX6_addSource 48 = .ok (.putfield 72, 3) := by decide +kernel
theorem dX6_addSource_51 : decode cX6_addSource 51 = .ok (.iload_n 1, 1) := by decide +kernel
theorem dX6_addSource_52 : decode cX6_addSource 52 = .ok (.ifCond .eq 23, 3) := by decide +kernel
theorem dX6_addSource_55 : decode cX6_addSource 55 = .ok (.aload_n 0, 1) := by decide +kernel
theorem dX6_addSource_56 : decode cX6_addSource 56 = .ok (.getfield 38, 3) := by decide +kernel
theorem dX6_addSource_59 : decode cX6_addSource 59 = .ok (.aload_n 0, 1) := by decide +kernel
theorem dX6_addSource_60 : decode cX6_addSource 60 = .ok (.getfield 75, 3) := by decide +kernel
theorem dX6_addSource_63 : decode cX6_addSource 63 = .ok (.iload_n 2, 1) := by decide +kernel
theorem dX6_addSource_64 : decode cX6_addSource 64 = .ok (.iastore, 1) := by decide +kernel
theorem dX6_addSource_65 : decode cX6_addSource 65 = .ok (.aload_n 0, 1) := by decide +kernel
theorem dX6_addSource_66 : decode cX6_addSource 66 = .ok (.dup, 1) := by decide +kernel
theorem dX6_addSource_67 : decode cX6_addSource 67 = .ok (.getfield 75, 3) := by decide +kernel
theorem dX6_addSource_70 : decode cX6_addSource 70 = .ok (.iconst 1, 1) := by decide +kernel
theorem dX6_addSource_71 : decode cX6_addSource 71 = .ok (.iadd, 1) := by decide +kernel
theorem dX6_addSource_72 : decode cX6_addSource 72 = .ok (.putfield 75, 3) := by decide +kernel
theorem dX6_addSource_75 : decode cX6_addSource 75 = .ok (.aload_n 0, 1) := by decide +kernel
theorem dX6_addSource_76 : decode cX6_addSource 76 = .ok (.dup, 1) := by decide +kernel
theorem dX6_addSource_77 : decode cX6_addSource 77 = .ok (.getfield 68, 3) := by decide +kernel
theorem dX6_addSource_80 : decode cX6_addSource 80 = .ok (.iconst 1, 1) := by decide +kernel
theorem dX6_addSource_81 : decode cX6_addSource 81 = .ok (.iadd, 1) := by decide +kernel
theorem dX6_addSource_82 : decode cX6_addSource 82 = .ok (.putfield 68, 3) := by decide +kernel
theorem dX6_addSource_85 : decode cX6_addSource 85 = .ok (.iload_n 2, 1) := by decide +kernel
theorem dX6_addSource_86 : decode cX6_addSource 86 = .ok (.ireturn, 1) := by decide +kernel
theorem dX6_allSources_0 : decode cX6_allSources 0 = .ok (.iconst 1, 1) := by decide +kernel
theorem dX6_allSources_1 : decode cX6_allSources 1 = .ok (.aload_n 0, 1) := by decide +kernel
theorem dX6_allSources_2 : decode cX6_allSources 2 = .ok (.getfield 72, 3) := by decide +kernel
theorem dX6_allSources_5 : decode cX6_allSources 5 = .ok (.ishl, 1) := by decide +kernel
theorem dX6_allSources_6 : decode cX6_allSources 6 = .ok (.iconst 1, 1) := by decide +kernel
theorem dX6_allSources_7 : decode cX6_allSources 7 = .ok (.isub, 1) := by decide +kernel
theorem dX6_allSources_8 : decode cX6_allSources 8 = .ok (.ireturn, 1) := by decide +kernel
theorem dX6_canClose_0 : decode cX6_canClose 0 = .ok (.aload_n 0, 1) := by decide +kernel
theorem dX6_canClose_1 : decode cX6_canClose 1 = .ok (.getfield 75, 3) := by decide +kernel
theorem dX6_canClose_4 : decode cX6_canClose 4 = .ok (.ifCond .le 7, 3) := by decide +kernel
theorem dX6_canClose_7 : decode cX6_canClose 7 = .ok (.iconst 1, 1) := by decide +kernel
theorem dX6_canClose_8 : decode cX6_canClose 8 = .ok (.goto 4, 3) := by decide +kernel
theorem dX6_canClose_11 : decode cX6_canClose 11 = .ok (.iconst 0, 1) := by decide +kernel
theorem dX6_canClose_12 : decode cX6_canClose 12 = .ok (.istore_n 1, 1) := by decide +kernel
theorem dX6_canClose_13 : decode cX6_canClose 13 = .ok (.iconst 0, 1) := by decide +kernel
theorem dX6_canClose_14 : decode cX6_canClose 14 = .ok (.istore_n 2, 1) := by decide +kernel
theorem dX6_canClose_15 : decode cX6_canClose 15 = .ok (.iload_n 2, 1) := by decide +kernel
theorem dX6_canClose_16 : decode cX6_canClose 16 = .ok (.aload_n 0, 1) := by decide +kernel
theorem dX6_canClose_17 : decode cX6_canClose 17 = .ok (.getfield 68, 3) := by decide +kernel
theorem dX6_canClose_20 : decode cX6_canClose 20 = .ok (.if_icmp .ge 40, 3) := by decide +kernel
theorem dX6_canClose_23 : decode cX6_canClose 23 = .ok (.aload_n 0, 1) := by decide +kernel
theorem dX6_canClose_24 : decode cX6_canClose 24 = .ok (.getfield 9, 3) := by decide +kernel
theorem dX6_canClose_27 : decode cX6_canClose 27 = .ok (.iload_n 2, 1) := by decide +kernel
theorem dX6_canClose_28 : decode cX6_canClose 28 = .ok (.caload, 1) := by decide +kernel
theorem dX6_canClose_29 : decode cX6_canClose 29 = .ok (.bipush 102, 2) := by decide +kernel
theorem dX6_canClose_31 : decode cX6_canClose 31 = .ok (.if_icmp .ne 14, 3) := by decide +kernel
theorem dX6_canClose_34 : decode cX6_canClose 34 = .ok (.aload_n 0, 1) := by decide +kernel
theorem dX6_canClose_35 : decode cX6_canClose 35 = .ok (.getfield 22, 3) := by decide +kernel
theorem dX6_canClose_38 : decode cX6_canClose 38 = .ok (.iload_n 2, 1) := by decide +kernel
theorem dX6_canClose_39 : decode cX6_canClose 39 = .ok (.iaload, 1) := by decide +kernel
theorem dX6_canClose_40 : decode cX6_canClose 40 = .ok (.ifCond .ge 5, 3) := by decide +kernel
theorem dX6_canClose_43 : decode cX6_canClose 43 = .ok (.iconst 0, 1) := by decide +kernel
theorem dX6_canClose_44 : decode cX6_canClose 44 = .ok (.ireturn, 1) := by decide +kernel
theorem dX6_canClose_45 : decode cX6_canClose 45 = .ok (.iload_n 1, 1) := by decide +kernel
theorem dX6_canClose_46 : decode cX6_canClose 46 = .ok (.aload_n 0, 1) := by decide +kernel
theorem dX6_canClose_47 : decode cX6_canClose 47 = .ok (.getfield 44, 3) := by decide +kernel
theorem dX6_canClose_50 : decode cX6_canClose 50 = .ok (.iload_n 2, 1) := by decide +kernel
theorem dX6_canClose_51 : decode cX6_canClose 51 = .ok (.baload, 1) := by decide +kernel
theorem dX6_canClose_52 : decode cX6_canClose 52 = .ok (.ior, 1) := by decide +kernel
theorem dX6_canClose_53 : decode cX6_canClose 53 = .ok (.istore_n 1, 1) := by decide +kernel
theorem dX6_canClose_54 : decode cX6_canClose 54 = .ok (.iinc 2 1, 3) := by decide +kernel
theorem dX6_canClose_57 : decode cX6_canClose 57 = .ok (.goto (-42), 3) := by decide +kernel
theorem dX6_canClose_60 : decode cX6_canClose 60 = .ok (.iload_n 1, 1) := by decide +kernel
theorem dX6_canClose_61 : decode cX6_canClose 61 = .ok (.ireturn, 1) := by decide +kernel
theorem dX6_pinsOfKind_0 : decode cX6_pinsOfKind 0 = .ok (.iload_n 0, 1) := by decide +kernel
theorem dX6_pinsOfKind_1 : decode cX6_pinsOfKind 1 = .ok (.tableswitch 115 97 120 #[111, 113, 115, 115, 115, 115, 115, 115, 115, 115, 115, 115, 115, 111, 111, 115, 115, 111, 115, 115, 115, 113, 115, 111], 111) := by decide +kernel
theorem dX6_pinsOfKind_112 : decode cX6_pinsOfKind 112 = .ok (.iconst 2, 1) := by decide +kernel
theorem dX6_pinsOfKind_113 : decode cX6_pinsOfKind 113 = .ok (.ireturn, 1) := by decide +kernel
theorem dX6_pinsOfKind_114 : decode cX6_pinsOfKind 114 = .ok (.iconst 1, 1) := by decide +kernel
theorem dX6_pinsOfKind_115 : decode cX6_pinsOfKind 115 = .ok (.ireturn, 1) := by decide +kernel
theorem dX6_pinsOfKind_116 : decode cX6_pinsOfKind 116 = .ok (.iconst 0, 1) := by decide +kernel
theorem dX6_pinsOfKind_117 : decode cX6_pinsOfKind 117 = .ok (.ireturn, 1) := by decide +kernel
theorem dX7_joinAll_0 : decode cX7_joinAll 0 = .ok (.iconst 0, 1) := by decide +kernel
theorem dX7_joinAll_1 : decode cX7_joinAll 1 = .ok (.istore_n 1, 1) := by decide +kernel
theorem dX7_joinAll_2 : decode cX7_joinAll 2 = .ok (.iconst 0, 1) := by decide +kernel
theorem dX7_joinAll_3 : decode cX7_joinAll 3 = .ok (.istore_n 2, 1) := by decide +kernel
theorem dX7_joinAll_4 : decode cX7_joinAll 4 = .ok (.iload_n 2, 1) := by decide +kernel
theorem dX7_joinAll_5 : decode cX7_joinAll 5 = .ok (.aload_n 0, 1) := by decide +kernel
theorem dX7_joinAll_6 : decode cX7_joinAll 6 = .ok (.getfield 27, 3) := by decide +kernel
theorem dX7_joinAll_9 : decode cX7_joinAll 9 = .ok (.if_icmp .ge 38, 3) := by decide +kernel
theorem dX7_joinAll_12 : decode cX7_joinAll 12 = .ok (.aload_n 0, 1) := by decide +kernel
theorem dX7_joinAll_13 : decode cX7_joinAll 13 = .ok (.iload_n 2, 1) := by decide +kernel
theorem dX7_joinAll_14 : decode cX7_joinAll 14 = .ok (.iload_n 1, 1) := by decide +kernel
theorem dX7_joinAll_15 : decode cX7_joinAll 15 = .ok (.invokevirtual 35, 3) := by decide +kernel
theorem dX7_joinAll_18 : decode cX7_joinAll 18 = .ok (.istore_n 3, 1) := by decide +kernel
theorem dX7_joinAll_19 : decode cX7_joinAll 19 = .ok (.iload_n 3, 1) := by decide +kernel
theorem dX7_joinAll_20 : decode cX7_joinAll 20 = .ok (.ifCond .lt 12, 3) := by decide +kernel
theorem dX7_joinAll_23 : decode cX7_joinAll 23 = .ok (.aload_n 0, 1) := by decide +kernel
theorem dX7_joinAll_24 : decode cX7_joinAll 24 = .ok (.iload_n 3, 1) := by decide +kernel
theorem dX7_joinAll_25 : decode cX7_joinAll 25 = .ok (.iload_n 2, 1) := by decide +kernel
theorem dX7_joinAll_26 : decode cX7_joinAll 26 = .ok (.invokevirtual 39, 3) := by decide +kernel
theorem dX7_joinAll_29 : decode cX7_joinAll 29 = .ok (.goto 12, 3) := by decide +kernel
theorem dX7_joinAll_32 : decode cX7_joinAll 32 = .ok (.aload_n 0, 1) := by decide +kernel
theorem dX7_joinAll_33 : decode cX7_joinAll 33 = .ok (.iload_n 2, 1) := by decide +kernel
theorem dX7_joinAll_34 : decode cX7_joinAll 34 = .ok (.iload_n 1, 1) := by decide +kernel
theorem dX7_joinAll_35 : decode cX7_joinAll 35 = .ok (.invokevirtual 31, 3) := by decide +kernel
theorem dX7_joinAll_38 : decode cX7_joinAll 38 = .ok (.iinc 1 1, 3) := by decide +kernel
theorem dX7_joinAll_41 : decode cX7_joinAll 41 = .ok (.iinc 2 1, 3) := by decide +kernel
theorem dX7_joinAll_44 : decode cX7_joinAll 44 = .ok (.goto (-40), 3) := by decide +kernel
theorem dX7_joinAll_47 : decode cX7_joinAll 47 = .ok (.aload_n 0, 1) := by decide +kernel
theorem dX7_joinAll_48 : decode cX7_joinAll 48 = .ok (.iload_n 1, 1) := by decide +kernel
theorem dX7_joinAll_49 : decode cX7_joinAll 49 = .ok (.putfield 27, 3) := by decide +kernel
theorem dX7_joinAll_52 : decode cX7_joinAll 52 = .ok (.return_, 1) := by decide +kernel
theorem dX7_keep_0 : decode cX7_keep 0 = .ok (.iconst 0, 1) := by decide +kernel
theorem dX7_keep_1 : decode cX7_keep 1 = .ok (.istore_n 3, 1) := by decide +kernel
theorem dX7_keep_2 : decode cX7_keep 2 = .ok (.iconst 0, 1) := by decide +kernel
theorem dX7_keep_3 : decode cX7_keep 3 = .ok (.istore 4, 2) := by decide +kernel
theorem dX7_keep_5 : decode cX7_keep 5 = .ok (.iload 4, 2) := by decide +kernel
theorem dX7_keep_7 : decode cX7_keep 7 = .ok (.aload_n 0, 1) := by decide +kernel
theorem dX7_keep_8 : decode cX7_keep 8 = .ok (.getfield 27, 3) := by decide +kernel
theorem dX7_keep_11 : decode cX7_keep 11 = .ok (.if_icmp .ge 30, 3) := by decide +kernel
theorem dX7_keep_14 : decode cX7_keep 14 = .ok (.lload_n 1, 1) := by decide +kernel
theorem dX7_keep_15 : decode cX7_keep 15 = .ok (.iload 4, 2) := by decide +kernel
theorem dX7_keep_17 : decode cX7_keep 17 = .ok (.lshr, 1) := by decide +kernel
theorem dX7_keep_18 : decode cX7_keep 18 = .ok (.lconst 1, 1) := by decide +kernel
theorem dX7_keep_19 : decode cX7_keep 19 = .ok (.land, 1) := by decide +kernel
theorem dX7_keep_20 : decode cX7_keep 20 = .ok (.lconst 0, 1) := by decide +kernel
theorem dX7_keep_21 : decode cX7_keep 21 = .ok (.lcmp, 1) := by decide +kernel
theorem dX7_keep_22 : decode cX7_keep 22 = .ok (.ifCond .eq 13, 3) := by decide +kernel
theorem dX7_keep_25 : decode cX7_keep 25 = .ok (.aload_n 0, 1) := by decide +kernel
theorem dX7_keep_26 : decode cX7_keep 26 = .ok (.iload 4, 2) := by decide +kernel
theorem dX7_keep_28 : decode cX7_keep 28 = .ok (.iload_n 3, 1) := by decide +kernel
theorem dX7_keep_29 : decode cX7_keep 29 = .ok (.invokevirtual 31, 3) := by decide +kernel
theorem dX7_keep_32 : decode cX7_keep 32 = .ok (.iinc 3 1, 3) := by decide +kernel
theorem dX7_keep_35 : decode cX7_keep 35 = .ok (.iinc 4 1, 3) := by decide +kernel
theorem dX7_keep_38 : decode cX7_keep 38 = .ok (.goto (-33), 3) := by decide +kernel
theorem dX7_keep_41 : decode cX7_keep 41 = .ok (.aload_n 0, 1) := by decide +kernel
theorem dX7_keep_42 : decode cX7_keep 42 = .ok (.iload_n 3, 1) := by decide +kernel
theorem dX7_keep_43 : decode cX7_keep 43 = .ok (.putfield 27, 3) := by decide +kernel
theorem dX7_keep_46 : decode cX7_keep 46 = .ok (.return_, 1) := by decide +kernel
theorem dX7_neededFromLast_0 : decode cX7_neededFromLast 0 = .ok (.lconst 0, 1) := by decide +kernel
theorem dX7_neededFromLast_1 : decode cX7_neededFromLast 1 = .ok (.lstore_n 3, 1) := by decide +kernel
theorem dX7_neededFromLast_2 : decode cX7_neededFromLast 2 = .ok (.aload_n 0, 1) := by decide +kernel
theorem dX7_neededFromLast_3 : decode cX7_neededFromLast 3 = .ok (.getfield 27, 3) := by decide +kernel
theorem dX7_neededFromLast_6 : decode cX7_neededFromLast 6 = .ok (.iconst 1, 1) := by decide +kernel
theorem dX7_neededFromLast_7 : decode cX7_neededFromLast 7 = .ok (.isub, 1) := by decide +kernel
theorem dX7_neededFromLast_8 : decode cX7_neededFromLast 8 = .ok (.istore 5, 2) := by decide +kernel
theorem dX7_neededFromLast_10 : decode cX7_neededFromLast 10 = .ok (.iload 5, 2) := by decide +kernel
theorem dX7_neededFromLast_12 : decode cX7_neededFromLast 12 = .ok (.ifCond .lt 29, 3) := by decide +kernel
theorem dX7_neededFromLast_15 : decode cX7_neededFromLast 15 = .ok (.aload_n 0, 1) := by decide +kernel
theorem dX7_neededFromLast_16 : decode cX7_neededFromLast 16 = .ok (.iload 5, 2) := by decide +kernel
theorem dX7_neededFromLast_18 : decode cX7_neededFromLast 18 = .ok (.lload_n 3, 1) := by decide +kernel
theorem dX7_neededFromLast_19 : decode cX7_neededFromLast 19 = .ok (.aload_n 1, 1) := by decide +kernel
theorem dX7_neededFromLast_20 : decode cX7_neededFromLast 20 = .ok (.aload_n 2, 1) := by decide +kernel
theorem dX7_neededFromLast_21 : decode cX7_neededFromLast 21 = .ok (.iconst 0, 1) := by decide +kernel
theorem dX7_neededFromLast_22 : decode cX7_neededFromLast 22 = .ok (.invokevirtual 46, 3) := by decide +kernel
theorem dX7_neededFromLast_25 : decode cX7_neededFromLast 25 = .ok (.ifCond .le 10, 3) := by decide +kernel
theorem dX7_neededFromLast_28 : decode cX7_neededFromLast 28 = .ok (.lload_n 3, 1) := by decide +kernel
theorem dX7_neededFromLast_29 : decode cX7_neededFromLast 29 = .ok (.lconst 1, 1) := by decide +kernel
theorem dX7_neededFromLast_30 : decode cX7_neededFromLast 30 = .ok (.iload 5, 2) := by decide +kernel
theorem dX7_neededFromLast_32 : decode cX7_neededFromLast 32 = .ok (.lshl, 1) := by decide +kernel
theorem dX7_neededFromLast_33 : decode cX7_neededFromLast 33 = .ok (.lor, 1) := by decide +kernel
theorem dX7_neededFromLast_34 : decode cX7_neededFromLast 34 = .ok (.lstore_n 3, 1) := by decide +kernel
theorem dX7_neededFromLast_35 : decode cX7_neededFromLast 35 = .ok (.iinc 5 (-1), 3) := by decide +kernel
theorem dX7_neededFromLast_38 : decode cX7_neededFromLast 38 = .ok (.goto (-28), 3) := by decide +kernel
theorem dX7_neededFromLast_41 : decode cX7_neededFromLast 41 = .ok (.lload_n 3, 1) := by decide +kernel
theorem dX7_neededFromLast_42 : decode cX7_neededFromLast 42 = .ok (.lreturn, 1) := by decide +kernel
theorem dX7_putInOrder_0 : decode cX7_putInOrder 0 = .ok (.iconst 0, 1) := by decide +kernel
theorem dX7_putInOrder_1 : decode cX7_putInOrder 1 = .ok (.istore_n 3, 1) := by decide +kernel
theorem dX7_putInOrder_2 : decode cX7_putInOrder 2 = .ok (.iload_n 3, 1) := by decide +kernel
theorem dX7_putInOrder_3 : decode cX7_putInOrder 3 = .ok (.aload_n 2, 1) := by decide +kernel
theorem dX7_putInOrder_4 : decode cX7_putInOrder 4 = .ok (.getfield 50, 3) := by decide +kernel
theorem dX7_putInOrder_7 : decode cX7_putInOrder 7 = .ok (.if_icmp .ge 34, 3) := by decide +kernel
theorem dX7_putInOrder_10 : decode cX7_putInOrder 10 = .ok (.aload_n 0, 1) := by decide +kernel
theorem dX7_putInOrder_11 : decode cX7_putInOrder 11 = .ok (.getfield 24, 3) := by decide +kernel
theorem dX7_putInOrder_14 : decode cX7_putInOrder 14 = .ok (.iload_n 3, 1) := by decide +kernel
theorem dX7_putInOrder_15 : decode cX7_putInOrder 15 = .ok (.aload_n 2, 1) := by decide +kernel
theorem dX7_putInOrder_16 : decode cX7_putInOrder 16 = .ok (.iload_n 3, 1) := by decide +kernel
theorem dX7_putInOrder_17 : decode cX7_putInOrder 17 = .ok (.invokevirtual 61, 3) := by decide +kernel
theorem dX7_putInOrder_20 : decode cX7_putInOrder 20 = .ok (.ifCond .eq 13, 3) := by decide +kernel
theorem dX7_putInOrder_23 : decode cX7_putInOrder 23 = .ok (.aload_n 2, 1) := by decide +kernel
theorem dX7_putInOrder_24 : decode cX7_putInOrder 24 = .ok (.iload_n 3, 1) := by decide +kernel
theorem dX7_putInOrder_25 : decode cX7_putInOrder 25 = .ok (.invokevirtual 65, 3) := by decide +kernel
theorem dX7_putInOrder_28 : decode cX7_putInOrder 28 = .ok (.iconst 1, 1) := by decide +kernel
theorem dX7_putInOrder_29 : decode cX7_putInOrder 29 = .ok (.iadd, 1) := by decide +kernel
theorem dX7_putInOrder_30 : decode cX7_putInOrder 30 = .ok (.goto 4, 3) := by decide +kernel
theorem dX7_putInOrder_33 : decode cX7_putInOrder 33 = .ok (.iconst 0, 1) := by decide +kernel
theorem dX7_putInOrder_34 : decode cX7_putInOrder 34 = .ok (.iastore, 1) := by decide +kernel
theorem dX7_putInOrder_35 : decode cX7_putInOrder 35 = .ok (.iinc 3 1, 3) := by decide +kernel
theorem dX7_putInOrder_38 : decode cX7_putInOrder 38 = .ok (.goto (-36), 3) := by decide +kernel
theorem dX7_putInOrder_41 : decode cX7_putInOrder 41 = .ok (.lconst 0, 1) := by decide +kernel
theorem dX7_putInOrder_42 : decode cX7_putInOrder 42 = .ok (.lstore_n 3, 1) := by decide +kernel
theorem dX7_putInOrder_43 : decode cX7_putInOrder 43 = .ok (.iconst 0, 1) := by decide +kernel
theorem dX7_putInOrder_44 : decode cX7_putInOrder 44 = .ok (.istore 5, 2) := by decide +kernel
theorem dX7_putInOrder_46 : decode cX7_putInOrder 46 = .ok (.iload 5, 2) := by decide +kernel
theorem dX7_putInOrder_48 : decode cX7_putInOrder 48 = .ok (.aload_n 0, 1) := by decide +kernel
theorem dX7_putInOrder_49 : decode cX7_putInOrder 49 = .ok (.getfield 27, 3) := by decide +kernel
theorem dX7_putInOrder_52 : decode cX7_putInOrder 52 = .ok (.if_icmp .ge 35, 3) := by decide +kernel
theorem dX7_putInOrder_55 : decode cX7_putInOrder 55 = .ok (.aload_n 0, 1) := by decide +kernel
theorem dX7_putInOrder_56 : decode cX7_putInOrder 56 = .ok (.getfield 21, 3) := by decide +kernel
theorem dX7_putInOrder_59 : decode cX7_putInOrder 59 = .ok (.iload 5, 2) := by decide +kernel
theorem dX7_putInOrder_61 : decode cX7_putInOrder 61 = .ok (.aload_n 0, 1) := by decide +kernel
theorem dX7_putInOrder_62 : decode cX7_putInOrder 62 = .ok (.lload_n 3, 1) := by decide +kernel
theorem dX7_putInOrder_63 : decode cX7_putInOrder 63 = .ok (.aload_n 1, 1) := by decide +kernel
theorem dX7_putInOrder_64 : decode cX7_putInOrder 64 = .ok (.aload_n 2, 1) := by decide +kernel
theorem dX7_putInOrder_65 : decode cX7_putInOrder 65 = .ok (.invokevirtual 69, 3) := by decide +kernel
theorem dX7_putInOrder_68 : decode cX7_putInOrder 68 = .ok (.iastore, 1) := by decide +kernel
theorem dX7_putInOrder_69 : decode cX7_putInOrder 69 = .ok (.lload_n 3, 1) := by decide +kernel
theorem dX7_putInOrder_70 : decode cX7_putInOrder 70 = .ok (.lconst 1, 1) := by decide +kernel
theorem dX7_putInOrder_71 : decode cX7_putInOrder 71 = .ok (.aload_n 0, 1) := by decide +kernel
theorem dX7_putInOrder_72 : decode cX7_putInOrder 72 = .ok (.getfield 21, 3) := by decide +kernel
theorem dX7_putInOrder_75 : decode cX7_putInOrder 75 = .ok (.iload 5, 2) := by decide +kernel
theorem dX7_putInOrder_77 : decode cX7_putInOrder 77 = .ok (.iaload, 1) := by decide +kernel
theorem dX7_putInOrder_78 : decode cX7_putInOrder 78 = .ok (.lshl, 1) := by decide +kernel
theorem dX7_putInOrder_79 : decode cX7_putInOrder 79 = .ok (.lor, 1) := by decide +kernel
theorem dX7_putInOrder_80 : decode cX7_putInOrder 80 = .ok (.lstore_n 3, 1) := by decide +kernel
theorem dX7_putInOrder_81 : decode cX7_putInOrder 81 = .ok (.iinc 5 1, 3) := by decide +kernel
theorem dX7_putInOrder_84 : decode cX7_putInOrder 84 = .ok (.goto (-38), 3) := by decide +kernel
theorem dX7_putInOrder_87 : decode cX7_putInOrder 87 = .ok (.return_, 1) := by decide +kernel
