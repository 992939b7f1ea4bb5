/-! what stands at each place of the code -/
theorem dJC_highSurrogate_0 : decode cJC_highSurrogate 0 = .ok (.iload_n 0, 1) := by decide +kernel
theorem dJC_highSurrogate_1 : decode cJC_highSurrogate 1 = .ok (.bipush 10, 2) := by decide +kernel
theorem dJC_highSurrogate_3 : decode cJC_highSurrogate 3 = .ok (.iushr, 1) := by decide +kernel
theorem dJC_highSurrogate_4 : decode cJC_highSurrogate 4 = .ok (.ldc 110, 2) := by decide +kernel
theorem dJC_highSurrogate_6 : decode cJC_highSurrogate 6 = .ok (.iadd, 1) := by decide +kernel
theorem dJC_highSurrogate_7 : decode cJC_highSurrogate 7 = .ok (.i2c, 1) := by decide +kernel
theorem dJC_highSurrogate_8 : decode cJC_highSurrogate 8 = .ok (.ireturn, 1) := by decide +kernel
theorem dJC_isValidCodePoint_0 : decode cJC_isValidCodePoint 0 = .ok (.iload_n 0, 1) := by decide +kernel
theorem dJC_isValidCodePoint_1 : decode cJC_isValidCodePoint 1 = .ok (.bipush 16, 2) := by decide +kernel
theorem dJC_isValidCodePoint_3 : decode cJC_isValidCodePoint 3 = .ok (.iushr, 1) := by decide +kernel
theorem dJC_isValidCodePoint_4 : decode cJC_isValidCodePoint 4 = .ok (.istore_n 1, 1) := by decide +kernel
theorem dJC_isValidCodePoint_5 : decode cJC_isValidCodePoint 5 = .ok (.iload_n 1, 1) := by decide +kernel
theorem dJC_isValidCodePoint_6 : decode cJC_isValidCodePoint 6 = .ok (.bipush 17, 2) := by decide +kernel
theorem dJC_isValidCodePoint_8 : decode cJC_isValidCodePoint 8 = .ok (.if_icmp .ge 7, 3) := by decide +kernel
theorem dJC_isValidCodePoint_11 : decode cJC_isValidCodePoint 11 = .ok (.iconst 1, 1) := by decide +kernel
theorem dJC_isValidCodePoint_12 : decode cJC_isValidCodePoint 12 = .ok (.goto 4, 3) := by decide +kernel
theorem dJC_isValidCodePoint_15 : decode cJC_isValidCodePoint 15 = .ok (.iconst 0, 1) := by decide +kernel
theorem dJC_isValidCodePoint_16 : decode cJC_isValidCodePoint 16 = .ok (.ireturn, 1) := by decide +kernel
theorem dJC_lowSurrogate_0 : decode cJC_lowSurrogate 0 = .ok (.iload_n 0, 1) := by decide +kernel
theorem dJC_lowSurrogate_1 : decode cJC_lowSurrogate 1 = .ok (.sipush 1023, 3) := by decide +kernel
theorem dJC_lowSurrogate_4 : decode cJC_lowSurrogate 4 = .ok (.iand, 1) := by decide +kernel
theorem dJC_lowSurrogate_5 : decode cJC_lowSurrogate 5 = .ok (.ldc 76, 2) := by decide +kernel
theorem dJC_lowSurrogate_7 : decode cJC_lowSurrogate 7 = .ok (.iadd, 1) := by decide +kernel
theorem dJC_lowSurrogate_8 : decode cJC_lowSurrogate 8 = .ok (.i2c, 1) := by decide +kernel
theorem dJC_lowSurrogate_9 : decode cJC_lowSurrogate 9 = .ok (.ireturn, 1) := by decide +kernel
theorem dJI_bitCount_0 : decode cJI_bitCount 0 = .ok (.iload_n 0, 1) := by decide +kernel
theorem dJI_bitCount_1 : decode cJI_bitCount 1 = .ok (.iload_n 0, 1) := by decide +kernel
theorem dJI_bitCount_2 : decode cJI_bitCount 2 = .ok (.iconst 1, 1) := by decide +kernel
theorem dJI_bitCount_3 : decode cJI_bitCount 3 = .ok (.iushr, 1) := by decide +kernel
theorem dJI_bitCount_4 : decode cJI_bitCount 4 = .ok (.ldc_w 265, 3) := by decide +kernel
theorem dJI_bitCount_7 : decode cJI_bitCount 7 = .ok (.iand, 1) := by decide +kernel
theorem dJI_bitCount_8 : decode cJI_bitCount 8 = .ok (.isub, 1) := by decide +kernel
theorem dJI_bitCount_9 : decode cJI_bitCount 9 = .ok (.istore_n 0, 1) := by decide +kernel
theorem dJI_bitCount_10 : decode cJI_bitCount 10 = .ok (.iload_n 0, 1) := by decide +kernel
theorem dJI_bitCount_11 : decode cJI_bitCount 11 = .ok (.ldc_w 266, 3) := by decide +kernel
theorem dJI_bitCount_14 : decode cJI_bitCount 14 = .ok (.iand, 1) := by decide +kernel
theorem dJI_bitCount_15 : decode cJI_bitCount 15 = .ok (.iload_n 0, 1) := by decide +kernel
theorem dJI_bitCount_16 : decode cJI_bitCount 16 = .ok (.iconst 2, 1) := by decide +kernel
theorem dJI_bitCount_17 : decode cJI_bitCount 17 = .ok (.iushr, 1) := by decide +kernel
theorem dJI_bitCount_18 : decode cJI_bitCount 18 = .ok (.ldc_w 266, 3) := by decide +kernel
theorem dJI_bitCount_21 : decode cJI_bitCount 21 = .ok (.iand, 1) := by decide +kernel
theorem dJI_bitCount_22 : decode cJI_bitCount 22 = .ok (.iadd, 1) := by decide +kernel
theorem dJI_bitCount_23 : decode cJI_bitCount 23 = .ok (.istore_n 0, 1) := by decide +kernel
theorem dJI_bitCount_24 : decode cJI_bitCount 24 = .ok (.iload_n 0, 1) := by decide +kernel
theorem dJI_bitCount_25 : decode cJI_bitCount 25 = .ok (.iload_n 0, 1) := by decide +kernel
theorem dJI_bitCount_26 : decode cJI_bitCount 26 = .ok (.iconst 4, 1) := by decide +kernel
theorem dJI_bitCount_27 : decode cJI_bitCount 27 = .ok (.iushr, 1) := by decide +kernel
theorem dJI_bitCount_28 : decode cJI_bitCount 28 = .ok (.iadd, 1) := by decide +kernel
theorem dJI_bitCount_29 : decode cJI_bitCount 29 = .ok (.ldc_w 267, 3) := by decide +kernel
theorem dJI_bitCount_32 : decode cJI_bitCount 32 = .ok (.iand, 1) := by decide +kernel
theorem dJI_bitCount_33 : decode cJI_bitCount 33 = .ok (.istore_n 0, 1) := by decide +kernel
theorem dJI_bitCount_34 : decode cJI_bitCount 34 = .ok (.iload_n 0, 1) := by decide +kernel
theorem dJI_bitCount_35 : decode cJI_bitCount 35 = .ok (.iload_n 0, 1) := by decide +kernel
theorem dJI_bitCount_36 : decode cJI_bitCount 36 = .ok (.bipush 8, 2) := by decide +kernel
theorem dJI_bitCount_38 : decode cJI_bitCount 38 = .ok (.iushr, 1) := by decide +kernel
theorem dJI_bitCount_39 : decode cJI_bitCount 39 = .ok (.iadd, 1) := by decide +kernel
theorem dJI_bitCount_40 : decode cJI_bitCount 40 = .ok (.istore_n 0, 1) := by decide +kernel
theorem dJI_bitCount_41 : decode cJI_bitCount 41 = .ok (.iload_n 0, 1) := by decide +kernel
theorem dJI_bitCount_42 : decode cJI_bitCount 42 = .ok (.iload_n 0, 1) := by decide +kernel
theorem dJI_bitCount_43 : decode cJI_bitCount 43 = .ok (.bipush 16, 2) := by decide +kernel
theorem dJI_bitCount_45 : decode cJI_bitCount 45 = .ok (.iushr, 1) := by decide +kernel
theorem dJI_bitCount_46 : decode cJI_bitCount 46 = .ok (.iadd, 1) := by decide +kernel
theorem dJI_bitCount_47 : decode cJI_bitCount 47 = .ok (.istore_n 0, 1) := by decide +kernel
theorem dJI_bitCount_48 : decode cJI_bitCount 48 = .ok (.iload_n 0, 1) := by decide +kernel
theorem dJI_bitCount_49 : decode cJI_bitCount 49 = .ok (.bipush 63, 2) := by decide +kernel
theorem dJI_bitCount_51 : decode cJI_bitCount 51 = .ok (.iand, 1) := by decide +kernel
theorem dJI_bitCount_52 : decode cJI_bitCount 52 = .ok (.ireturn, 1) := by decide +kernel
theorem dJM_max_0 : decode cJM_max 0 = .ok (.iload_n 0, 1) := by decide +kernel
theorem dJM_max_1 : decode cJM_max 1 = .ok (.iload_n 1, 1) := by decide +kernel
theorem dJM_max_2 : decode cJM_max 2 = .ok (.if_icmp .lt 7, 3) := by decide +kernel
theorem dJM_max_5 : decode cJM_max 5 = .ok (.iload_n 0, 1) := by decide +kernel
theorem dJM_max_6 : decode cJM_max 6 = .ok (.goto 4, 3) := by decide +kernel
theorem dJM_max_9 : decode cJM_max 9 = .ok (.iload_n 1, 1) := by decide +kernel
theorem dJM_max_10 : decode cJM_max 10 = .ok (.ireturn, 1) := by decide +kernel
theorem dJM_min_0 : decode cJM_min 0 = .ok (.iload_n 0, 1) := by decide +kernel
theorem dJM_min_1 : decode cJM_min 1 = .ok (.iload_n 1, 1) := by decide +kernel
theorem dJM_min_2 : decode cJM_min 2 = .ok (.if_icmp .gt 7, 3) := by decide +kernel
theorem dJM_min_5 : decode cJM_min 5 = .ok (.iload_n 0, 1) := by decide +kernel
theorem dJM_min_6 : decode cJM_min 6 = .ok (.goto 4, 3) := by decide +kernel
theorem dJM_min_9 : decode cJM_min 9 = .ok (.iload_n 1, 1) := by decide +kernel
theorem dJM_min_10 : decode cJM_min 10 = .ok (.ireturn, 1) := by decide +kernel
theorem dJS_charAt_0 : decode cJS_charAt 0 = .ok (.aload_n 0, 1) := by decide +kernel
theorem dJS_charAt_1 : decode cJS_charAt 1 = .ok (.invokevirtual 492, 3) := by decide +kernel
theorem dJS_charAt_4 : decode cJS_charAt 4 = .ok (.ifCond .eq 12, 3) := by decide +kernel
theorem dJS_charAt_7 : decode cJS_charAt 7 = .ok (.aload_n 0, 1) := by decide +kernel
theorem dJS_charAt_8 : decode cJS_charAt 8 = .ok (.getfield 9, 3) := by decide +kernel
theorem dJS_charAt_11 : decode cJS_charAt 11 = .ok (.iload_n 1, 1) := by decide +kernel
theorem dJS_charAt_12 : decode cJS_charAt 12 = .ok (.invokestatic 495, 3) := by decide +kernel
theorem dJS_charAt_15 : decode cJS_charAt 15 = .ok (.ireturn, 1) := by decide +kernel
theorem dJS_charAt_16 : decode cJS_charAt 16 = .ok (.aload_n 0, 1) := by decide +kernel
theorem dJS_charAt_17 : decode cJS_charAt 17 = .ok (.getfield 9, 3) := by decide +kernel
theorem dJS_charAt_20 : decode cJS_charAt 20 = .ok (.iload_n 1, 1) := by decide +kernel
theorem dJS_charAt_21 : decode cJS_charAt 21 = .ok (.invokestatic 498, 3) := by decide +kernel
theorem dJS_charAt_24 : decode cJS_charAt 24 = .ok (.ireturn, 1) := by decide +kernel
theorem dJS_checkBoundsBeginEnd_0 : decode cJS_checkBoundsBeginEnd 0 = .ok (.iload_n 0, 1) := by decide +kernel
theorem dJS_checkBoundsBeginEnd_1 : decode cJS_checkBoundsBeginEnd 1 = .ok (.iload_n 1, 1) := by decide +kernel
theorem dJS_checkBoundsBeginEnd_2 : decode cJS_checkBoundsBeginEnd 2 = .ok (.iload_n 2, 1) := by decide +kernel
theorem dJS_checkBoundsBeginEnd_3 : decode cJS_checkBoundsBeginEnd 3 = .ok (.getstatic 1053, 3) := by decide +kernel
theorem dJS_checkBoundsBeginEnd_6 : decode cJS_checkBoundsBeginEnd 6 = .ok (.invokestatic 1062, 3) := by decide +kernel
theorem dJS_checkBoundsBeginEnd_9 : decode cJS_checkBoundsBeginEnd 9 = .ok (.pop, 1) := by decide +kernel
theorem dJS_checkBoundsBeginEnd_10 : decode cJS_checkBoundsBeginEnd 10 = .ok (.return_, 1) := by decide +kernel
theorem dJS_checkIndex_0 : decode cJS_checkIndex 0 = .ok (.iload_n 0, 1) := by decide +kernel
theorem dJS_checkIndex_1 : decode cJS_checkIndex 1 = .ok (.iload_n 1, 1) := by decide +kernel
theorem dJS_checkIndex_2 : decode cJS_checkIndex 2 = .ok (.getstatic 1053, 3) := by decide +kernel
theorem dJS_checkIndex_5 : decode cJS_checkIndex 5 = .ok (.invokestatic 1059, 3) := by decide +kernel
theorem dJS_checkIndex_8 : decode cJS_checkIndex 8 = .ok (.pop, 1) := by decide +kernel
theorem dJS_checkIndex_9 : decode cJS_checkIndex 9 = .ok (.return_, 1) := by decide +kernel
theorem dJS_coder_0 : decode cJS_coder 0 = .ok (.getstatic 38, 3) := by decide +kernel
theorem dJS_coder_3 : decode cJS_coder 3 = .ok (.ifCond .eq 10, 3) := by decide +kernel
theorem dJS_coder_6 : decode cJS_coder 6 = .ok (.aload_n 0, 1) := by decide +kernel
theorem dJS_coder_7 : decode cJS_coder 7 = .ok (.getfield 15, 3) := by decide +kernel
theorem dJS_coder_10 : decode cJS_coder 10 = .ok (.goto 4, 3) := by decide +kernel
theorem dJS_coder_13 : decode cJS_coder 13 = .ok (.iconst 1, 1) := by decide +kernel
theorem dJS_coder_14 : decode cJS_coder 14 = .ok (.ireturn, 1) := by decide +kernel
theorem dJS_indexOf0_0 : decode cJS_indexOf0 0 = .ok (.aload_n 0, 1) := by decide +kernel
theorem dJS_indexOf0_1 : decode cJS_indexOf0 1 = .ok (.iload_n 1, 1) := by decide +kernel
theorem dJS_indexOf0_2 : decode cJS_indexOf0 2 = .ok (.iconst 0, 1) := by decide +kernel
theorem dJS_indexOf0_3 : decode cJS_indexOf0 3 = .ok (.invokevirtual 633, 3) := by decide +kernel
theorem dJS_indexOf0_6 : decode cJS_indexOf0 6 = .ok (.ireturn, 1) := by decide +kernel
theorem dJS_indexOf1_0 : decode cJS_indexOf1 0 = .ok (.aload_n 0, 1) := by decide +kernel
theorem dJS_indexOf1_1 : decode cJS_indexOf1 1 = .ok (.invokevirtual 492, 3) := by decide +kernel
theorem dJS_indexOf1_4 : decode cJS_indexOf1 4 = .ok (.ifCond .eq 19, 3) := by decide +kernel
theorem dJS_indexOf1_7 : decode cJS_indexOf1 7 = .ok (.aload_n 0, 1) := by decide +kernel
theorem dJS_indexOf1_8 : decode cJS_indexOf1 8 = .ok (.getfield 9, 3) := by decide +kernel
theorem dJS_indexOf1_11 : decode cJS_indexOf1 11 = .ok (.iload_n 1, 1) := by decide +kernel
theorem dJS_indexOf1_12 : decode cJS_indexOf1 12 = .ok (.iload_n 2, 1) := by decide +kernel
theorem dJS_indexOf1_13 : decode cJS_indexOf1 13 = .ok (.aload_n 0, 1) := by decide +kernel
theorem dJS_indexOf1_14 : decode cJS_indexOf1 14 = .ok (.invokevirtual 505, 3) := by decide +kernel
theorem dJS_indexOf1_17 : decode cJS_indexOf1 17 = .ok (.invokestatic 637, 3) := by decide +kernel
theorem dJS_indexOf1_20 : decode cJS_indexOf1 20 = .ok (.goto 16, 3) := by decide +kernel
theorem dJS_indexOf1_23 : decode cJS_indexOf1 23 = .ok (.aload_n 0, 1) := by decide +kernel
theorem dJS_indexOf1_24 : decode cJS_indexOf1 24 = .ok (.getfield 9, 3) := by decide +kernel
theorem dJS_indexOf1_27 : decode cJS_indexOf1 27 = .ok (.iload_n 1, 1) := by decide +kernel
theorem dJS_indexOf1_28 : decode cJS_indexOf1 28 = .ok (.iload_n 2, 1) := by decide +kernel
theorem dJS_indexOf1_29 : decode cJS_indexOf1 29 = .ok (.aload_n 0, 1) := by decide +kernel
theorem dJS_indexOf1_30 : decode cJS_indexOf1 30 = .ok (.invokevirtual 505, 3) := by decide +kernel
theorem dJS_indexOf1_33 : decode cJS_indexOf1 33 = .ok (.invokestatic 640, 3) := by decide +kernel
theorem dJS_indexOf1_36 : decode cJS_indexOf1 36 = .ok (.ireturn, 1) := by decide +kernel
theorem dJS_isEmpty_0 : decode cJS_isEmpty 0 = .ok (.aload_n 0, 1) := by decide +kernel
theorem dJS_isEmpty_1 : decode cJS_isEmpty 1 = .ok (.getfield 9, 3) := by decide +kernel
theorem dJS_isEmpty_4 : decode cJS_isEmpty 4 = .ok (.arraylength, 1) := by decide +kernel
theorem dJS_isEmpty_5 : decode cJS_isEmpty 5 = .ok (.ifCond .ne 7, 3) := by decide +kernel
theorem dJS_isEmpty_8 : decode cJS_isEmpty 8 = .ok (.iconst 1, 1) := by decide +kernel
theorem dJS_isEmpty_9 : decode cJS_isEmpty 9 = .ok (.goto 4, 3) := by decide +kernel
theorem dJS_isEmpty_12 : decode cJS_isEmpty 12 = .ok (.iconst 0, 1) := by decide +kernel
theorem dJS_isEmpty_13 : decode cJS_isEmpty 13 = .ok (.ireturn, 1) := by decide +kernel
theorem dJS_isLatin1_0 : decode cJS_isLatin1 0 = .ok (.getstatic 38, 3) := by decide +kernel
theorem dJS_isLatin1_3 : decode cJS_isLatin1 3 = .ok (.ifCond .eq 14, 3) := by decide +kernel
theorem dJS_isLatin1_6 : decode cJS_isLatin1 6 = .ok (.aload_n 0, 1) := by decide +kernel
theorem dJS_isLatin1_7 : decode cJS_isLatin1 7 = .ok (.getfield 15, 3) := by decide +kernel
theorem dJS_isLatin1_10 : decode cJS_isLatin1 10 = .ok (.ifCond .ne 7, 3) := by decide +kernel
theorem dJS_isLatin1_13 : decode cJS_isLatin1 13 = .ok (.iconst 1, 1) := by decide +kernel
theorem dJS_isLatin1_14 : decode cJS_isLatin1 14 = .ok (.goto 4, 3) := by decide +kernel
theorem dJS_isLatin1_17 : decode cJS_isLatin1 17 = .ok (.iconst 0, 1) := by decide +kernel
theorem dJS_isLatin1_18 : decode cJS_isLatin1 18 = .ok (.ireturn, 1) := by decide +kernel
theorem dJS_length_0 : decode cJS_length 0 = .ok (.aload_n 0, 1) := by decide +kernel
theorem dJS_length_1 : decode cJS_length 1 = .ok (.getfield 9, 3) := by decide +kernel
theorem dJS_length_4 : decode cJS_length 4 = .ok (.arraylength, 1) := by decide +kernel
theorem dJS_length_5 : decode cJS_length 5 = .ok (.aload_n 0, 1) := by decide +kernel
theorem dJS_length_6 : decode cJS_length 6 = .ok (.invokevirtual 335, 3) := by decide +kernel
theorem dJS_length_9 : decode cJS_length 9 = .ok (.ishr, 1) := by decide +kernel
theorem dJS_length_10 : decode cJS_length 10 = .ok (.ireturn, 1) := by decide +kernel
theorem dJL_canEncode_0 : decode cJL_canEncode 0 = .ok (.iload_n 0, 1) := by decide +kernel
theorem dJL_canEncode_1 : decode cJL_canEncode 1 = .ok (.ifCond .lt 14, 3) := by decide +kernel
theorem dJL_canEncode_4 : decode cJL_canEncode 4 = .ok (.iload_n 0, 1) := by decide +kernel
theorem dJL_canEncode_5 : decode cJL_canEncode 5 = .ok (.sipush 255, 3) := by decide +kernel
theorem dJL_canEncode_8 : decode cJL_canEncode 8 = .ok (.if_icmp .gt 7, 3) := by decide +kernel
theorem dJL_canEncode_11 : decode cJL_canEncode 11 = .ok (.iconst 1, 1) := by decide +kernel
theorem dJL_canEncode_12 : decode cJL_canEncode 12 = .ok (.goto 4, 3) := by decide +kernel
theorem dJL_canEncode_15 : decode cJL_canEncode 15 = .ok (.iconst 0, 1) := by decide +kernel
theorem dJL_canEncode_16 : decode cJL_canEncode 16 = .ok (.ireturn, 1) := by decide +kernel
theorem dJL_charAt_0 : decode cJL_charAt 0 = .ok (.iload_n 1, 1) := by decide +kernel
theorem dJL_charAt_1 : decode cJL_charAt 1 = .ok (.aload_n 0, 1) := by decide +kernel
theorem dJL_charAt_2 : decode cJL_charAt 2 = .ok (.arraylength, 1) := by decide +kernel
theorem dJL_charAt_3 : decode cJL_charAt 3 = .ok (.invokestatic 9, 3) := by decide +kernel
theorem dJL_charAt_6 : decode cJL_charAt 6 = .ok (.aload_n 0, 1) := by decide +kernel
theorem dJL_charAt_7 : decode cJL_charAt 7 = .ok (.iload_n 1, 1) := by decide +kernel
theorem dJL_charAt_8 : decode cJL_charAt 8 = .ok (.baload, 1) := by decide +kernel
theorem dJL_charAt_9 : decode cJL_charAt 9 = .ok (.sipush 255, 3) := by decide +kernel
theorem dJL_charAt_12 : decode cJL_charAt 12 = .ok (.iand, 1) := by decide +kernel
theorem dJL_charAt_13 : decode cJL_charAt 13 = .ok (.i2c, 1) := by decide +kernel
theorem dJL_charAt_14 : decode cJL_charAt 14 = .ok (.ireturn, 1) := by decide +kernel
theorem dJL_indexOf_0 : decode cJL_indexOf 0 = .ok (.iload_n 1, 1) := by decide +kernel
theorem dJL_indexOf_1 : decode cJL_indexOf 1 = .ok (.invokestatic 88, 3) := by decide +kernel
theorem dJL_indexOf_4 : decode cJL_indexOf 4 = .ok (.ifCond .ne 5, 3) := by decide +kernel
theorem dJL_indexOf_7 : decode cJL_indexOf 7 = .ok (.iconst (-1), 1) := by decide +kernel
theorem dJL_indexOf_8 : decode cJL_indexOf 8 = .ok (.ireturn, 1) := by decide +kernel
theorem dJL_indexOf_9 : decode cJL_indexOf 9 = .ok (.iload_n 2, 1) := by decide +kernel
theorem dJL_indexOf_10 : decode cJL_indexOf 10 = .ok (.iconst 0, 1) := by decide +kernel
theorem dJL_indexOf_11 : decode cJL_indexOf 11 = .ok (.invokestatic 92, 3) := by decide +kernel
theorem dJL_indexOf_14 : decode cJL_indexOf 14 = .ok (.istore_n 2, 1) := by decide +kernel
theorem dJL_indexOf_15 : decode cJL_indexOf 15 = .ok (.iload_n 3, 1) := by decide +kernel
theorem dJL_indexOf_16 : decode cJL_indexOf 16 = .ok (.aload_n 0, 1) := by decide +kernel
theorem dJL_indexOf_17 : decode cJL_indexOf 17 = .ok (.arraylength, 1) := by decide +kernel
theorem dJL_indexOf_18 : decode cJL_indexOf 18 = .ok (.invokestatic 38, 3) := by decide +kernel
theorem dJL_indexOf_21 : decode cJL_indexOf 21 = .ok (.istore_n 3, 1) := by decide +kernel
theorem dJL_indexOf_22 : decode cJL_indexOf 22 = .ok (.iload_n 2, 1) := by decide +kernel
theorem dJL_indexOf_23 : decode cJL_indexOf 23 = .ok (.iload_n 3, 1) := by decide +kernel
theorem dJL_indexOf_24 : decode cJL_indexOf 24 = .ok (.if_icmp .lt 5, 3) := by decide +kernel
theorem dJL_indexOf_27 : decode cJL_indexOf 27 = .ok (.iconst (-1), 1) := by decide +kernel
theorem dJL_indexOf_28 : decode cJL_indexOf 28 = .ok (.ireturn, 1) := by decide +kernel
theorem dJL_indexOf_29 : decode cJL_indexOf 29 = .ok (.aload_n 0, 1) := by decide +kernel
theorem dJL_indexOf_30 : decode cJL_indexOf 30 = .ok (.iload_n 1, 1) := by decide +kernel
theorem dJL_indexOf_31 : decode cJL_indexOf 31 = .ok (.iload_n 2, 1) := by decide +kernel
theorem dJL_indexOf_32 : decode cJL_indexOf 32 = .ok (.iload_n 3, 1) := by decide +kernel
theorem dJL_indexOf_33 : decode cJL_indexOf 33 = .ok (.invokestatic 95, 3) := by decide +kernel
theorem dJL_indexOf_36 : decode cJL_indexOf 36 = .ok (.ireturn, 1) := by decide +kernel
theorem dJL_indexOfChar_0 : decode cJL_indexOfChar 0 = .ok (.iload_n 1, 1) := by decide +kernel
theorem dJL_indexOfChar_1 : decode cJL_indexOfChar 1 = .ok (.i2b, 1) := by decide +kernel
theorem dJL_indexOfChar_2 : decode cJL_indexOfChar 2 = .ok (.istore 4, 2) := by decide +kernel
theorem dJL_indexOfChar_4 : decode cJL_indexOfChar 4 = .ok (.iload_n 2, 1) := by decide +kernel
theorem dJL_indexOfChar_5 : decode cJL_indexOfChar 5 = .ok (.istore 5, 2) := by decide +kernel
theorem dJL_indexOfChar_7 : decode cJL_indexOfChar 7 = .ok (.iload 5, 2) := by decide +kernel
theorem dJL_indexOfChar_9 : decode cJL_indexOfChar 9 = .ok (.iload_n 3, 1) := by decide +kernel
theorem dJL_indexOfChar_10 : decode cJL_indexOfChar 10 = .ok (.if_icmp .ge 21, 3) := by decide +kernel
theorem dJL_indexOfChar_13 : decode cJL_indexOfChar 13 = .ok (.aload_n 0, 1) := by decide +kernel
theorem dJL_indexOfChar_14 : decode cJL_indexOfChar 14 = .ok (.iload 5, 2) := by decide +kernel
theorem dJL_indexOfChar_16 : decode cJL_indexOfChar 16 = .ok (.baload, 1) := by decide +kernel
theorem dJL_indexOfChar_17 : decode cJL_indexOfChar 17 = .ok (.iload 4, 2) := by decide +kernel
theorem dJL_indexOfChar_19 : decode cJL_indexOfChar 19 = .ok (.if_icmp .ne 6, 3) := by decide +kernel
theorem dJL_indexOfChar_22 : decode cJL_indexOfChar 22 = .ok (.iload 5, 2) := by decide +kernel
theorem dJL_indexOfChar_24 : decode cJL_indexOfChar 24 = .ok (.ireturn, 1) := by decide +kernel
theorem dJL_indexOfChar_25 : decode cJL_indexOfChar 25 = .ok (.iinc 5 1, 3) := by decide +kernel
theorem dJL_indexOfChar_28 : decode cJL_indexOfChar 28 = .ok (.goto (-21), 3) := by decide +kernel
theorem dJL_indexOfChar_31 : decode cJL_indexOfChar 31 = .ok (.iconst (-1), 1) := by decide +kernel
theorem dJL_indexOfChar_32 : decode cJL_indexOfChar 32 = .ok (.ireturn, 1) := by decide +kernel
theorem dJU_charAt_0 : decode cJU_charAt 0 = .ok (.iload_n 1, 1) := by decide +kernel
theorem dJU_charAt_1 : decode cJU_charAt 1 = .ok (.aload_n 0, 1) := by decide +kernel
theorem dJU_charAt_2 : decode cJU_charAt 2 = .ok (.invokestatic 67, 3) := by decide +kernel
theorem dJU_charAt_5 : decode cJU_charAt 5 = .ok (.aload_n 0, 1) := by decide +kernel
theorem dJU_charAt_6 : decode cJU_charAt 6 = .ok (.iload_n 1, 1) := by decide +kernel
theorem dJU_charAt_7 : decode cJU_charAt 7 = .ok (.invokestatic 71, 3) := by decide +kernel
theorem dJU_charAt_10 : decode cJU_charAt 10 = .ok (.ireturn, 1) := by decide +kernel
theorem dJU_checkBoundsBeginEnd_0 : decode cJU_checkBoundsBeginEnd 0 = .ok (.iload_n 0, 1) := by decide +kernel
theorem dJU_checkBoundsBeginEnd_1 : decode cJU_checkBoundsBeginEnd 1 = .ok (.iload_n 1, 1) := by decide +kernel
theorem dJU_checkBoundsBeginEnd_2 : decode cJU_checkBoundsBeginEnd 2 = .ok (.aload_n 2, 1) := by decide +kernel
theorem dJU_checkBoundsBeginEnd_3 : decode cJU_checkBoundsBeginEnd 3 = .ok (.invokestatic 48, 3) := by decide +kernel
theorem dJU_checkBoundsBeginEnd_6 : decode cJU_checkBoundsBeginEnd 6 = .ok (.invokestatic 241, 3) := by decide +kernel
theorem dJU_checkBoundsBeginEnd_9 : decode cJU_checkBoundsBeginEnd 9 = .ok (.return_, 1) := by decide +kernel
theorem dJU_checkIndex_0 : decode cJU_checkIndex 0 = .ok (.iload_n 0, 1) := by decide +kernel
theorem dJU_checkIndex_1 : decode cJU_checkIndex 1 = .ok (.aload_n 1, 1) := by decide +kernel
theorem dJU_checkIndex_2 : decode cJU_checkIndex 2 = .ok (.invokestatic 48, 3) := by decide +kernel
theorem dJU_checkIndex_5 : decode cJU_checkIndex 5 = .ok (.invokestatic 414, 3) := by decide +kernel
theorem dJU_checkIndex_8 : decode cJU_checkIndex 8 = .ok (.return_, 1) := by decide +kernel
theorem dJU_getChar_0 : decode cJU_getChar 0 = .ok (.getstatic 44, 3) := by decide +kernel
theorem dJU_getChar_3 : decode cJU_getChar 3 = .ok (.ifCond .ne 25, 3) := by decide +kernel
theorem dJU_getChar_6 : decode cJU_getChar 6 = .ok (.iload_n 1, 1) := by decide +kernel
theorem dJU_getChar_7 : decode cJU_getChar 7 = .ok (.ifCond .lt 11, 3) := by decide +kernel
theorem dJU_getChar_10 : decode cJU_getChar 10 = .ok (.iload_n 1, 1) := by decide +kernel
theorem dJU_getChar_11 : decode cJU_getChar 11 = .ok (.aload_n 0, 1) := by decide +kernel
theorem dJU_getChar_12 : decode cJU_getChar 12 = .ok (.invokestatic 48, 3) := by decide +kernel
theorem dJU_getChar_15 : decode cJU_getChar 15 = .ok (.if_icmp .lt 13, 3) := by decide +kernel
theorem dJU_getChar_18 : decode cJU_getChar 18 = .ok (.new 52, 3) := by decide +kernel
theorem dJU_getChar_21 : decode cJU_getChar 21 = .ok (.dup, 1) := by decide +kernel
theorem dJU_getChar_22 : decode cJU_getChar 22 = .ok (.ldc 54, 2) := by decide +kernel
theorem dJU_getChar_24 : decode cJU_getChar 24 = .ok (.invokespecial 56, 3) := by decide +kernel
theorem dJU_getChar_27 : decode cJU_getChar 27 = .ok (.athrow, 1) := by decide +kernel
theorem dJU_getChar_28 : decode cJU_getChar 28 = .ok (.iload_n 1, 1) := by decide +kernel
theorem dJU_getChar_29 : decode cJU_getChar 29 = .ok (.iconst 1, 1) := by decide +kernel
theorem dJU_getChar_30 : decode cJU_getChar 30 = .ok (.ishl, 1) := by decide +kernel
theorem dJU_getChar_31 : decode cJU_getChar 31 = .ok (.istore_n 1, 1) := by decide +kernel
theorem dJU_getChar_32 : decode cJU_getChar 32 = .ok (.aload_n 0, 1) := by decide +kernel
theorem dJU_getChar_33 : decode cJU_getChar 33 = .ok (.iload_n 1, 1) := by decide +kernel
theorem dJU_getChar_34 : decode cJU_getChar 34 = .ok (.iinc 1 1, 3) := by decide +kernel
theorem dJU_getChar_37 : decode cJU_getChar 37 = .ok (.baload, 1) := by decide +kernel
theorem dJU_getChar_38 : decode cJU_getChar 38 = .ok (.sipush 255, 3) := by decide +kernel
theorem dJU_getChar_41 : decode cJU_getChar 41 = .ok (.iand, 1) := by decide +kernel
theorem dJU_getChar_42 : decode cJU_getChar 42 = .ok (.getstatic 59, 3) := by decide +kernel
theorem dJU_getChar_45 : decode cJU_getChar 45 = .ok (.ishl, 1) := by decide +kernel
theorem dJU_getChar_46 : decode cJU_getChar 46 = .ok (.aload_n 0, 1) := by decide +kernel
theorem dJU_getChar_47 : decode cJU_getChar 47 = .ok (.iload_n 1, 1) := by decide +kernel
theorem dJU_getChar_48 : decode cJU_getChar 48 = .ok (.baload, 1) := by decide +kernel
theorem dJU_getChar_49 : decode cJU_getChar 49 = .ok (.sipush 255, 3) := by decide +kernel
theorem dJU_getChar_52 : decode cJU_getChar 52 = .ok (.iand, 1) := by decide +kernel
theorem dJU_getChar_53 : decode cJU_getChar 53 = .ok (.getstatic 63, 3) := by decide +kernel
theorem dJU_getChar_56 : decode cJU_getChar 56 = .ok (.ishl, 1) := by decide +kernel
theorem dJU_getChar_57 : decode cJU_getChar 57 = .ok (.ior, 1) := by decide +kernel
theorem dJU_getChar_58 : decode cJU_getChar 58 = .ok (.i2c, 1) := by decide +kernel
theorem dJU_getChar_59 : decode cJU_getChar 59 = .ok (.ireturn, 1) := by decide +kernel
theorem dJU_indexOf_0 : decode cJU_indexOf 0 = .ok (.iload_n 2, 1) := by decide +kernel
theorem dJU_indexOf_1 : decode cJU_indexOf 1 = .ok (.iconst 0, 1) := by decide +kernel
theorem dJU_indexOf_2 : decode cJU_indexOf 2 = .ok (.invokestatic 224, 3) := by decide +kernel
theorem dJU_indexOf_5 : decode cJU_indexOf 5 = .ok (.istore_n 2, 1) := by decide +kernel
theorem dJU_indexOf_6 : decode cJU_indexOf 6 = .ok (.iload_n 3, 1) := by decide +kernel
theorem dJU_indexOf_7 : decode cJU_indexOf 7 = .ok (.aload_n 0, 1) := by decide +kernel
theorem dJU_indexOf_8 : decode cJU_indexOf 8 = .ok (.arraylength, 1) := by decide +kernel
theorem dJU_indexOf_9 : decode cJU_indexOf 9 = .ok (.iconst 1, 1) := by decide +kernel
theorem dJU_indexOf_10 : decode cJU_indexOf 10 = .ok (.ishr, 1) := by decide +kernel
theorem dJU_indexOf_11 : decode cJU_indexOf 11 = .ok (.invokestatic 183, 3) := by decide +kernel
theorem dJU_indexOf_14 : decode cJU_indexOf 14 = .ok (.istore_n 3, 1) := by decide +kernel
theorem dJU_indexOf_15 : decode cJU_indexOf 15 = .ok (.iload_n 2, 1) := by decide +kernel
theorem dJU_indexOf_16 : decode cJU_indexOf 16 = .ok (.iload_n 3, 1) := by decide +kernel
theorem dJU_indexOf_17 : decode cJU_indexOf 17 = .ok (.if_icmp .lt 5, 3) := by decide +kernel
theorem dJU_indexOf_20 : decode cJU_indexOf 20 = .ok (.iconst (-1), 1) := by decide +kernel
theorem dJU_indexOf_21 : decode cJU_indexOf 21 = .ok (.ireturn, 1) := by decide +kernel
theorem dJU_indexOf_22 : decode cJU_indexOf 22 = .ok (.iload_n 1, 1) := by decide +kernel
theorem dJU_indexOf_23 : decode cJU_indexOf 23 = .ok (.ldc 227, 2) := by decide +kernel
theorem dJU_indexOf_25 : decode cJU_indexOf 25 = .ok (.if_icmp .ge 11, 3) := by decide +kernel
theorem dJU_indexOf_28 : decode cJU_indexOf 28 = .ok (.aload_n 0, 1) := by decide +kernel
theorem dJU_indexOf_29 : decode cJU_indexOf 29 = .ok (.iload_n 1, 1) := by decide +kernel
theorem dJU_indexOf_30 : decode cJU_indexOf 30 = .ok (.iload_n 2, 1) := by decide +kernel
theorem dJU_indexOf_31 : decode cJU_indexOf 31 = .ok (.iload_n 3, 1) := by decide +kernel
theorem dJU_indexOf_32 : decode cJU_indexOf 32 = .ok (.invokestatic 228, 3) := by decide +kernel
theorem dJU_indexOf_35 : decode cJU_indexOf 35 = .ok (.ireturn, 1) := by decide +kernel
theorem dJU_indexOf_36 : decode cJU_indexOf 36 = .ok (.aload_n 0, 1) := by decide +kernel
theorem dJU_indexOf_37 : decode cJU_indexOf 37 = .ok (.iload_n 1, 1) := by decide +kernel
theorem dJU_indexOf_38 : decode cJU_indexOf 38 = .ok (.iload_n 2, 1) := by decide +kernel
theorem dJU_indexOf_39 : decode cJU_indexOf 39 = .ok (.iload_n 3, 1) := by decide +kernel
theorem dJU_indexOf_40 : decode cJU_indexOf 40 = .ok (.invokestatic 232, 3) := by decide +kernel
theorem dJU_indexOf_43 : decode cJU_indexOf 43 = .ok (.ireturn, 1) := by decide +kernel
theorem dJU_indexOfChar_0 : decode cJU_indexOfChar 0 = .ok (.iload_n 2, 1) := by decide +kernel
theorem dJU_indexOfChar_1 : decode cJU_indexOfChar 1 = .ok (.iload_n 3, 1) := by decide +kernel
theorem dJU_indexOfChar_2 : decode cJU_indexOfChar 2 = .ok (.aload_n 0, 1) := by decide +kernel
theorem dJU_indexOfChar_3 : decode cJU_indexOfChar 3 = .ok (.invokestatic 96, 3) := by decide +kernel
theorem dJU_indexOfChar_6 : decode cJU_indexOfChar 6 = .ok (.aload_n 0, 1) := by decide +kernel
theorem dJU_indexOfChar_7 : decode cJU_indexOfChar 7 = .ok (.iload_n 1, 1) := by decide +kernel
theorem dJU_indexOfChar_8 : decode cJU_indexOfChar 8 = .ok (.iload_n 2, 1) := by decide +kernel
theorem dJU_indexOfChar_9 : decode cJU_indexOfChar 9 = .ok (.iload_n 3, 1) := by decide +kernel
theorem dJU_indexOfChar_10 : decode cJU_indexOfChar 10 = .ok (.invokestatic 244, 3) := by decide +kernel
theorem dJU_indexOfChar_13 : decode cJU_indexOfChar 13 = .ok (.ireturn, 1) := by decide +kernel
theorem dJU_indexOfCharUnsafe_0 : decode cJU_indexOfCharUnsafe 0 = .ok (.iload_n 2, 1) := by decide +kernel
theorem dJU_indexOfCharUnsafe_1 : decode cJU_indexOfCharUnsafe 1 = .ok (.istore 4, 2) := by decide +kernel
theorem dJU_indexOfCharUnsafe_3 : decode cJU_indexOfCharUnsafe 3 = .ok (.iload 4, 2) := by decide +kernel
theorem dJU_indexOfCharUnsafe_5 : decode cJU_indexOfCharUnsafe 5 = .ok (.iload_n 3, 1) := by decide +kernel
theorem dJU_indexOfCharUnsafe_6 : decode cJU_indexOfCharUnsafe 6 = .ok (.if_icmp .ge 22, 3) := by decide +kernel
theorem dJU_indexOfCharUnsafe_9 : decode cJU_indexOfCharUnsafe 9 = .ok (.aload_n 0, 1) := by decide +kernel
theorem dJU_indexOfCharUnsafe_10 : decode cJU_indexOfCharUnsafe 10 = .ok (.iload 4, 2) := by decide +kernel
theorem dJU_indexOfCharUnsafe_12 : decode cJU_indexOfCharUnsafe 12 = .ok (.invokestatic 71, 3) := by decide +kernel
theorem dJU_indexOfCharUnsafe_15 : decode cJU_indexOfCharUnsafe 15 = .ok (.iload_n 1, 1) := by decide +kernel
theorem dJU_indexOfCharUnsafe_16 : decode cJU_indexOfCharUnsafe 16 = .ok (.if_icmp .ne 6, 3) := by decide +kernel
theorem dJU_indexOfCharUnsafe_19 : decode cJU_indexOfCharUnsafe 19 = .ok (.iload 4, 2) := by decide +kernel
theorem dJU_indexOfCharUnsafe_21 : decode cJU_indexOfCharUnsafe 21 = .ok (.ireturn, 1) := by decide +kernel
theorem dJU_indexOfCharUnsafe_22 : decode cJU_indexOfCharUnsafe 22 = .ok (.iinc 4 1, 3) := by decide +kernel
theorem dJU_indexOfCharUnsafe_25 : decode cJU_indexOfCharUnsafe 25 = .ok (.goto (-22), 3) := by decide +kernel
theorem dJU_indexOfCharUnsafe_28 : decode cJU_indexOfCharUnsafe 28 = .ok (.iconst (-1), 1) := by decide +kernel
theorem dJU_indexOfCharUnsafe_29 : decode cJU_indexOfCharUnsafe 29 = .ok (.ireturn, 1) := by decide +kernel
theorem dJU_indexOfSupplementary_0 : decode cJU_indexOfSupplementary 0 = .ok (.iload_n 1, 1) := by decide +kernel
theorem dJU_indexOfSupplementary_1 : decode cJU_indexOfSupplementary 1 = .ok (.invokestatic 164, 3) := by decide +kernel
theorem dJU_indexOfSupplementary_4 : decode cJU_indexOfSupplementary 4 = .ok (.ifCond .eq 65, 3) := by decide +kernel
theorem dJU_indexOfSupplementary_7 : decode cJU_indexOfSupplementary 7 = .ok (.iload_n 1, 1) := by decide +kernel
theorem dJU_indexOfSupplementary_8 : decode cJU_indexOfSupplementary 8 = .ok (.invokestatic 157, 3) := by decide +kernel
theorem dJU_indexOfSupplementary_11 : decode cJU_indexOfSupplementary 11 = .ok (.istore 4, 2) := by decide +kernel
theorem dJU_indexOfSupplementary_13 : decode cJU_indexOfSupplementary 13 = .ok (.iload_n 1, 1) := by decide +kernel
theorem dJU_indexOfSupplementary_14 : decode cJU_indexOfSupplementary 14 = .ok (.invokestatic 161, 3) := by decide +kernel
theorem dJU_indexOfSupplementary_17 : decode cJU_indexOfSupplementary 17 = .ok (.istore 5, 2) := by decide +kernel
theorem dJU_indexOfSupplementary_19 : decode cJU_indexOfSupplementary 19 = .ok (.iload_n 2, 1) := by decide +kernel
theorem dJU_indexOfSupplementary_20 : decode cJU_indexOfSupplementary 20 = .ok (.iload_n 3, 1) := by decide +kernel
theorem dJU_indexOfSupplementary_21 : decode cJU_indexOfSupplementary 21 = .ok (.aload_n 0, 1) := by decide +kernel
theorem dJU_indexOfSupplementary_22 : decode cJU_indexOfSupplementary 22 = .ok (.invokestatic 96, 3) := by decide +kernel
theorem dJU_indexOfSupplementary_25 : decode cJU_indexOfSupplementary 25 = .ok (.iload_n 2, 1) := by decide +kernel
theorem dJU_indexOfSupplementary_26 : decode cJU_indexOfSupplementary 26 = .ok (.istore 6, 2) := by decide +kernel
theorem dJU_indexOfSupplementary_28 : decode cJU_indexOfSupplementary 28 = .ok (.iload 6, 2) := by decide +kernel
theorem dJU_indexOfSupplementary_30 : decode cJU_indexOfSupplementary 30 = .ok (.iload_n 3, 1) := by decide +kernel
theorem dJU_indexOfSupplementary_31 : decode cJU_indexOfSupplementary 31 = .ok (.iconst 1, 1) := by decide +kernel
theorem dJU_indexOfSupplementary_32 : decode cJU_indexOfSupplementary 32 = .ok (.isub, 1) := by decide +kernel
theorem dJU_indexOfSupplementary_33 : decode cJU_indexOfSupplementary 33 = .ok (.if_icmp .ge 36, 3) := by decide +kernel
theorem dJU_indexOfSupplementary_36 : decode cJU_indexOfSupplementary 36 = .ok (.aload_n 0, 1) := by decide +kernel
theorem dJU_indexOfSupplementary_37 : decode cJU_indexOfSupplementary 37 = .ok (.iload 6, 2) := by decide +kernel
theorem dJU_indexOfSupplementary_39 : decode cJU_indexOfSupplementary 39 = .ok (.invokestatic 71, 3) := by decide +kernel
theorem dJU_indexOfSupplementary_42 : decode cJU_indexOfSupplementary 42 = .ok (.iload 4, 2) := by decide +kernel
theorem dJU_indexOfSupplementary_44 : decode cJU_indexOfSupplementary 44 = .ok (.if_icmp .ne 19, 3) := by decide +kernel
theorem dJU_indexOfSupplementary_47 : decode cJU_indexOfSupplementary 47 = .ok (.aload_n 0, 1) := by decide +kernel
theorem dJU_indexOfSupplementary_48 : decode cJU_indexOfSupplementary 48 = .ok (.iload 6, 2) := by decide +kernel
theorem dJU_indexOfSupplementary_50 : decode cJU_indexOfSupplementary 50 = .ok (.iconst 1, 1) := by decide +kernel
theorem dJU_indexOfSupplementary_51 : decode cJU_indexOfSupplementary 51 = .ok (.iadd, 1) := by decide +kernel
theorem dJU_indexOfSupplementary_52 : decode cJU_indexOfSupplementary 52 = .ok (.invokestatic 71, 3) := by decide +kernel
theorem dJU_indexOfSupplementary_55 : decode cJU_indexOfSupplementary 55 = .ok (.iload 5, 2) := by decide +kernel
theorem dJU_indexOfSupplementary_57 : decode cJU_indexOfSupplementary 57 = .ok (.if_icmp .ne 6, 3) := by decide +kernel
theorem dJU_indexOfSupplementary_60 : decode cJU_indexOfSupplementary 60 = .ok (.iload 6, 2) := by decide +kernel
theorem dJU_indexOfSupplementary_62 : decode cJU_indexOfSupplementary 62 = .ok (.ireturn, 1) := by decide +kernel
theorem dJU_indexOfSupplementary_63 : decode cJU_indexOfSupplementary 63 = .ok (.iinc 6 1, 3) := by decide +kernel
theorem dJU_indexOfSupplementary_66 : decode cJU_indexOfSupplementary 66 = .ok (.goto (-38), 3) := by decide +kernel
theorem dJU_indexOfSupplementary_69 : decode cJU_indexOfSupplementary 69 = .ok (.iconst (-1), 1) := by decide +kernel
theorem dJU_indexOfSupplementary_70 : decode cJU_indexOfSupplementary 70 = .ok (.ireturn, 1) := by decide +kernel
theorem dJU_length_0 : decode cJU_length 0 = .ok (.aload_n 0, 1) := by decide +kernel
theorem dJU_length_1 : decode cJU_length 1 = .ok (.arraylength, 1) := by decide +kernel
theorem dJU_length_2 : decode cJU_length 2 = .ok (.iconst 1, 1) := by decide +kernel
theorem dJU_length_3 : decode cJU_length 3 = .ok (.ishr, 1) := by decide +kernel
theorem dJU_length_4 : decode cJU_length 4 = .ok (.ireturn, 1) := by decide +kernel
theorem dJA_fill_0 : decode cJA_fill 0 = .ok (.iconst 0, 1) := by decide +kernel
theorem dJA_fill_1 : decode cJA_fill 1 = .ok (.istore_n 2, 1) := by decide +kernel
theorem dJA_fill_2 : decode cJA_fill 2 = .ok (.aload_n 0, 1) := by decide +kernel
theorem dJA_fill_3 : decode cJA_fill 3 = .ok (.arraylength, 1) := by decide +kernel
theorem dJA_fill_4 : decode cJA_fill 4 = .ok (.istore_n 3, 1) := by decide +kernel
theorem dJA_fill_5 : decode cJA_fill 5 = .ok (.iload_n 2, 1) := by decide +kernel
theorem dJA_fill_6 : decode cJA_fill 6 = .ok (.iload_n 3, 1) := by decide +kernel
theorem dJA_fill_7 : decode cJA_fill 7 = .ok (.if_icmp .ge 13, 3) := by decide +kernel
theorem dJA_fill_10 : decode cJA_fill 10 = .ok (.aload_n 0, 1) := by decide +kernel
theorem dJA_fill_11 : decode cJA_fill 11 = .ok (.iload_n 2, 1) := by decide +kernel
theorem dJA_fill_12 : decode cJA_fill 12 = .ok (.iload_n 1, 1) := by decide +kernel
theorem dJA_fill_13 : decode cJA_fill 13 = .ok (.iastore, 1) := by decide +kernel
theorem dJA_fill_14 : decode cJA_fill 14 = .ok (.iinc 2 1, 3) := by decide +kernel
theorem dJA_fill_17 : decode cJA_fill 17 = .ok (.goto (-12), 3) := by decide +kernel
theorem dJA_fill_20 : decode cJA_fill 20 = .ok (.return_, 1) := by decide +kernel
theorem dJP_checkFromToIndex_0 : decode cJP_checkFromToIndex 0 = .ok (.iload_n 0, 1) := by decide +kernel
theorem dJP_checkFromToIndex_1 : decode cJP_checkFromToIndex 1 = .ok (.ifCond .lt 13, 3) := by decide +kernel
theorem dJP_checkFromToIndex_4 : decode cJP_checkFromToIndex 4 = .ok (.iload_n 0, 1) := by decide +kernel
theorem dJP_checkFromToIndex_5 : decode cJP_checkFromToIndex 5 = .ok (.iload_n 1, 1) := by decide +kernel
theorem dJP_checkFromToIndex_6 : decode cJP_checkFromToIndex 6 = .ok (.if_icmp .gt 8, 3) := by decide +kernel
theorem dJP_checkFromToIndex_9 : decode cJP_checkFromToIndex 9 = .ok (.iload_n 1, 1) := by decide +kernel
theorem dJP_checkFromToIndex_10 : decode cJP_checkFromToIndex 10 = .ok (.iload_n 2, 1) := by decide +kernel
theorem dJP_checkFromToIndex_11 : decode cJP_checkFromToIndex 11 = .ok (.if_icmp .le 11, 3) := by decide +kernel
theorem dJP_checkFromToIndex_14 : decode cJP_checkFromToIndex 14 = .ok (.aload_n 3, 1) := by decide +kernel
theorem dJP_checkFromToIndex_15 : decode cJP_checkFromToIndex 15 = .ok (.iload_n 0, 1) := by decide +kernel
theorem dJP_checkFromToIndex_16 : decode cJP_checkFromToIndex 16 = .ok (.iload_n 1, 1) := by decide +kernel
theorem dJP_checkFromToIndex_17 : decode cJP_checkFromToIndex 17 = .ok (.iload_n 2, 1) := by decide +kernel
theorem dJP_checkFromToIndex_18 : decode cJP_checkFromToIndex 18 = .ok (.invokestatic 99, 3) := by decide +kernel
theorem dJP_checkFromToIndex_21 : decode cJP_checkFromToIndex 21 = .ok (.athrow, 1) := by decide +kernel
theorem dJP_checkFromToIndex_22 : decode cJP_checkFromToIndex 22 = .ok (.iload_n 0, 1) := by decide +kernel
theorem dJP_checkFromToIndex_23 : decode cJP_checkFromToIndex 23 = .ok (.ireturn, 1) := by decide +kernel
theorem dJP_checkIndex_0 : decode cJP_checkIndex 0 = .ok (.iload_n 0, 1) := by decide +kernel
theorem dJP_checkIndex_1 : decode cJP_checkIndex 1 = .ok (.ifCond .lt 8, 3) := by decide +kernel
theorem dJP_checkIndex_4 : decode cJP_checkIndex 4 = .ok (.iload_n 0, 1) := by decide +kernel
theorem dJP_checkIndex_5 : decode cJP_checkIndex 5 = .ok (.iload_n 1, 1) := by decide +kernel
theorem dJP_checkIndex_6 : decode cJP_checkIndex 6 = .ok (.if_icmp .lt 10, 3) := by decide +kernel
theorem dJP_checkIndex_9 : decode cJP_checkIndex 9 = .ok (.aload_n 2, 1) := by decide +kernel
theorem dJP_checkIndex_10 : decode cJP_checkIndex 10 = .ok (.iload_n 0, 1) := by decide +kernel
theorem dJP_checkIndex_11 : decode cJP_checkIndex 11 = .ok (.iload_n 1, 1) := by decide +kernel
theorem dJP_checkIndex_12 : decode cJP_checkIndex 12 = .ok (.invokestatic 95, 3) := by decide +kernel
theorem dJP_checkIndex_15 : decode cJP_checkIndex 15 = .ok (.athrow, 1) := by decide +kernel
theorem dJP_checkIndex_16 : decode cJP_checkIndex 16 = .ok (.iload_n 0, 1) := by decide +kernel
theorem dJP_checkIndex_17 : decode cJP_checkIndex 17 = .ok (.ireturn, 1) := by decide +kernel
