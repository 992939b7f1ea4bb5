/-! what stands at each place of the code -/
theorem dT_init_0 : decode cT_init 0 = .ok (.aload_n 0, 1) := by decide +kernel
theorem dT_init_1 : decode cT_init 1 = .ok (.invokespecial 3, 3) := by decide +kernel
theorem dT_init_4 : decode cT_init 4 = .ok (.aload_n 0, 1) := by decide +kernel
theorem dT_init_5 : decode cT_init 5 = .ok (.bipush 96, 2) := by decide +kernel
theorem dT_init_7 : decode cT_init 7 = .ok (.newarray .int, 2) := by decide +kernel
theorem dT_init_9 : decode cT_init 9 = .ok (.putfield 9, 3) := by decide +kernel
theorem dT_init_12 : decode cT_init 12 = .ok (.aload_n 0, 1) := by decide +kernel
theorem dT_init_13 : decode cT_init 13 = .ok (.iconst 0, 1) := by decide +kernel
theorem dT_init_14 : decode cT_init 14 = .ok (.putfield 15, 3) := by decide +kernel
theorem dT_init_17 : decode cT_init 17 = .ok (.return_, 1) := by decide +kernel
theorem dT_add_0 : decode cT_add 0 = .ok (.aload_n 0, 1) := by decide +kernel
theorem dT_add_1 : decode cT_add 1 = .ok (.getfield 15, 3) := by decide +kernel
theorem dT_add_4 : decode cT_add 4 = .ok (.bipush 96, 2) := by decide +kernel
theorem dT_add_6 : decode cT_add 6 = .ok (.if_icmp .ge 23, 3) := by decide +kernel
theorem dT_add_9 : decode cT_add 9 = .ok (.aload_n 0, 1) := by decide +kernel
theorem dT_add_10 : decode cT_add 10 = .ok (.getfield 9, 3) := by decide +kernel
theorem dT_add_13 : decode cT_add 13 = .ok (.aload_n 0, 1) := by decide +kernel
theorem dT_add_14 : decode cT_add 14 = .ok (.getfield 15, 3) := by decide +kernel
theorem dT_add_17 : decode cT_add 17 = .ok (.iload_n 1, 1) := by decide +kernel
theorem dT_add_18 : decode cT_add 18 = .ok (.iastore, 1) := by decide +kernel
theorem dT_add_19 : decode cT_add 19 = .ok (.aload_n 0, 1) := by decide +kernel
theorem dT_add_20 : decode cT_add 20 = .ok (.dup, 1) := by decide +kernel
theorem dT_add_21 : decode cT_add 21 = .ok (.getfield 15, 3) := by decide +kernel
theorem dT_add_24 : decode cT_add 24 = .ok (.iconst 1, 1) := by decide +kernel
theorem dT_add_25 : decode cT_add 25 = .ok (.iadd, 1) := by decide +kernel
theorem dT_add_26 : decode cT_add 26 = .ok (.putfield 15, 3) := by decide +kernel
theorem dT_add_29 : decode cT_add 29 = .ok (.return_, 1) := by decide +kernel
theorem dT_behindStatement_0 : decode cT_behindStatement 0 = .ok (.aload_n 0, 1) := by decide +kernel
theorem dT_behindStatement_1 : decode cT_behindStatement 1 = .ok (.iload_n 1, 1) := by decide +kernel
theorem dT_behindStatement_2 : decode cT_behindStatement 2 = .ok (.invokevirtual 19, 3) := by decide +kernel
theorem dT_behindStatement_5 : decode cT_behindStatement 5 = .ok (.invokestatic 29, 3) := by decide +kernel
theorem dT_behindStatement_8 : decode cT_behindStatement 8 = .ok (.astore_n 2, 1) := by decide +kernel
theorem dT_behindStatement_9 : decode cT_behindStatement 9 = .ok (.aload_n 2, 1) := by decide +kernel
theorem dT_behindStatement_10 : decode cT_behindStatement 10 = .ok (.invokevirtual 33, 3) := by decide +kernel
theorem dT_behindStatement_13 : decode cT_behindStatement 13 = .ok (.ifCond .eq 7, 3) := by decide +kernel
theorem dT_behindStatement_16 : decode cT_behindStatement 16 = .ok (.iconst (-1), 1) := by decide +kernel
theorem dT_behindStatement_17 : decode cT_behindStatement 17 = .ok (.iload_n 1, 1) := by decide +kernel
theorem dT_behindStatement_18 : decode cT_behindStatement 18 = .ok (.isub, 1) := by decide +kernel
theorem dT_behindStatement_19 : decode cT_behindStatement 19 = .ok (.ireturn, 1) := by decide +kernel
theorem dT_behindStatement_20 : decode cT_behindStatement 20 = .ok (.iload_n 1, 1) := by decide +kernel
theorem dT_behindStatement_21 : decode cT_behindStatement 21 = .ok (.iconst 1, 1) := by decide +kernel
theorem dT_behindStatement_22 : decode cT_behindStatement 22 = .ok (.iadd, 1) := by decide +kernel
theorem dT_behindStatement_23 : decode cT_behindStatement 23 = .ok (.istore_n 3, 1) := by decide +kernel
theorem dT_behindStatement_24 : decode cT_behindStatement 24 = .ok (.iconst 0, 1) := by decide +kernel
theorem dT_behindStatement_25 : decode cT_behindStatement 25 = .ok (.istore 4, 2) := by decide +kernel
theorem dT_behindStatement_27 : decode cT_behindStatement 27 = .ok (.iload 4, 2) := by decide +kernel
theorem dT_behindStatement_29 : decode cT_behindStatement 29 = .ok (.aload_n 2, 1) := by decide +kernel
theorem dT_behindStatement_30 : decode cT_behindStatement 30 = .ok (.invokevirtual 39, 3) := by decide +kernel
theorem dT_behindStatement_33 : decode cT_behindStatement 33 = .ok (.if_icmp .ge 44, 3) := by decide +kernel
theorem dT_behindStatement_36 : decode cT_behindStatement 36 = .ok (.aload_n 2, 1) := by decide +kernel
theorem dT_behindStatement_37 : decode cT_behindStatement 37 = .ok (.iload 4, 2) := by decide +kernel
theorem dT_behindStatement_39 : decode cT_behindStatement 39 = .ok (.invokevirtual 42, 3) := by decide +kernel
theorem dT_behindStatement_42 : decode cT_behindStatement 42 = .ok (.istore 5, 2) := by decide +kernel
theorem dT_behindStatement_44 : decode cT_behindStatement 44 = .ok (.aload_n 0, 1) := by decide +kernel
theorem dT_behindStatement_45 : decode cT_behindStatement 45 = .ok (.iload 5, 2) := by decide +kernel
theorem dT_behindStatement_47 : decode cT_behindStatement 47 = .ok (.iload_n 3, 1) := by decide +kernel
theorem dT_behindStatement_48 : decode cT_behindStatement 48 = .ok (.invokevirtual 46, 3) := by decide +kernel
theorem dT_behindStatement_51 : decode cT_behindStatement 51 = .ok (.ifCond .eq 9, 3) := by decide +kernel
theorem dT_behindStatement_54 : decode cT_behindStatement 54 = .ok (.iinc 3 1, 3) := by decide +kernel
theorem dT_behindStatement_57 : decode cT_behindStatement 57 = .ok (.goto 14, 3) := by decide +kernel
theorem dT_behindStatement_60 : decode cT_behindStatement 60 = .ok (.iload 5, 2) := by decide +kernel
theorem dT_behindStatement_62 : decode cT_behindStatement 62 = .ok (.bipush 63, 2) := by decide +kernel
theorem dT_behindStatement_64 : decode cT_behindStatement 64 = .ok (.if_icmp .eq 7, 3) := by decide +kernel
theorem dT_behindStatement_67 : decode cT_behindStatement 67 = .ok (.iconst (-1), 1) := by decide +kernel
theorem dT_behindStatement_68 : decode cT_behindStatement 68 = .ok (.iload_n 3, 1) := by decide +kernel
theorem dT_behindStatement_69 : decode cT_behindStatement 69 = .ok (.isub, 1) := by decide +kernel
theorem dT_behindStatement_70 : decode cT_behindStatement 70 = .ok (.ireturn, 1) := by decide +kernel
theorem dT_behindStatement_71 : decode cT_behindStatement 71 = .ok (.iinc 4 1, 3) := by decide +kernel
theorem dT_behindStatement_74 : decode cT_behindStatement 74 = .ok (.goto (-47), 3) := by decide +kernel
theorem dT_behindStatement_77 : decode cT_behindStatement 77 = .ok (.iload_n 3, 1) := by decide +kernel
theorem dT_behindStatement_78 : decode cT_behindStatement 78 = .ok (.ireturn, 1) := by decide +kernel
theorem dT_digitAt_0 : decode cT_digitAt 0 = .ok (.aload_n 0, 1) := by decide +kernel
theorem dT_digitAt_1 : decode cT_digitAt 1 = .ok (.iload_n 1, 1) := by decide +kernel
theorem dT_digitAt_2 : decode cT_digitAt 2 = .ok (.invokevirtual 19, 3) := by decide +kernel
theorem dT_digitAt_5 : decode cT_digitAt 5 = .ok (.istore_n 2, 1) := by decide +kernel
theorem dT_digitAt_6 : decode cT_digitAt 6 = .ok (.iload_n 2, 1) := by decide +kernel
theorem dT_digitAt_7 : decode cT_digitAt 7 = .ok (.bipush 48, 2) := by decide +kernel
theorem dT_digitAt_9 : decode cT_digitAt 9 = .ok (.if_icmp .lt 16, 3) := by decide +kernel
theorem dT_digitAt_12 : decode cT_digitAt 12 = .ok (.iload_n 2, 1) := by decide +kernel
theorem dT_digitAt_13 : decode cT_digitAt 13 = .ok (.bipush 57, 2) := by decide +kernel
theorem dT_digitAt_15 : decode cT_digitAt 15 = .ok (.if_icmp .gt 10, 3) := by decide +kernel
theorem dT_digitAt_18 : decode cT_digitAt 18 = .ok (.iload_n 2, 1) := by decide +kernel
theorem dT_digitAt_19 : decode cT_digitAt 19 = .ok (.bipush 48, 2) := by decide +kernel
theorem dT_digitAt_21 : decode cT_digitAt 21 = .ok (.isub, 1) := by decide +kernel
theorem dT_digitAt_22 : decode cT_digitAt 22 = .ok (.goto 4, 3) := by decide +kernel
theorem dT_digitAt_25 : decode cT_digitAt 25 = .ok (.iconst (-1), 1) := by decide +kernel
theorem dT_digitAt_26 : decode cT_digitAt 26 = .ok (.ireturn, 1) := by decide +kernel
theorem dT_isDue_0 : decode cT_isDue 0 = .ok (.iload_n 1, 1) := by decide +kernel
theorem dT_isDue_1 : decode cT_isDue 1 = .ok (.lookupswitch 80 #[(35, 35), (63, 49), (64, 63)], 35) := by decide +kernel
theorem dT_isDue_36 : decode cT_isDue 36 = .ok (.aload_n 0, 1) := by decide +kernel
theorem dT_isDue_37 : decode cT_isDue 37 = .ok (.iload_n 2, 1) := by decide +kernel
theorem dT_isDue_38 : decode cT_isDue 38 = .ok (.invokevirtual 23, 3) := by decide +kernel
theorem dT_isDue_41 : decode cT_isDue 41 = .ok (.ifCond .lt 7, 3) := by decide +kernel
theorem dT_isDue_44 : decode cT_isDue 44 = .ok (.iconst 1, 1) := by decide +kernel
theorem dT_isDue_45 : decode cT_isDue 45 = .ok (.goto 4, 3) := by decide +kernel
theorem dT_isDue_48 : decode cT_isDue 48 = .ok (.iconst 0, 1) := by decide +kernel
theorem dT_isDue_49 : decode cT_isDue 49 = .ok (.ireturn, 1) := by decide +kernel
theorem dT_isDue_50 : decode cT_isDue 50 = .ok (.aload_n 0, 1) := by decide +kernel
theorem dT_isDue_51 : decode cT_isDue 51 = .ok (.iload_n 2, 1) := by decide +kernel
theorem dT_isDue_52 : decode cT_isDue 52 = .ok (.invokevirtual 23, 3) := by decide +kernel
theorem dT_isDue_55 : decode cT_isDue 55 = .ok (.ifCond .lt 7, 3) := by decide +kernel
theorem dT_isDue_58 : decode cT_isDue 58 = .ok (.iconst 1, 1) := by decide +kernel
theorem dT_isDue_59 : decode cT_isDue 59 = .ok (.goto 4, 3) := by decide +kernel
theorem dT_isDue_62 : decode cT_isDue 62 = .ok (.iconst 0, 1) := by decide +kernel
theorem dT_isDue_63 : decode cT_isDue 63 = .ok (.ireturn, 1) := by decide +kernel
theorem dT_isDue_64 : decode cT_isDue 64 = .ok (.aload_n 0, 1) := by decide +kernel
theorem dT_isDue_65 : decode cT_isDue 65 = .ok (.iload_n 2, 1) := by decide +kernel
theorem dT_isDue_66 : decode cT_isDue 66 = .ok (.invokevirtual 19, 3) := by decide +kernel
theorem dT_isDue_69 : decode cT_isDue 69 = .ok (.invokestatic 60, 3) := by decide +kernel
theorem dT_isDue_72 : decode cT_isDue 72 = .ok (.ifCond .lt 7, 3) := by decide +kernel
theorem dT_isDue_75 : decode cT_isDue 75 = .ok (.iconst 1, 1) := by decide +kernel
theorem dT_isDue_76 : decode cT_isDue 76 = .ok (.goto 4, 3) := by decide +kernel
theorem dT_isDue_79 : decode cT_isDue 79 = .ok (.iconst 0, 1) := by decide +kernel
theorem dT_isDue_80 : decode cT_isDue 80 = .ok (.ireturn, 1) := by decide +kernel
theorem dT_isDue_81 : decode cT_isDue 81 = .ok (.aload_n 0, 1) := by decide +kernel
theorem dT_isDue_82 : decode cT_isDue 82 = .ok (.iload_n 2, 1) := by decide +kernel
theorem dT_isDue_83 : decode cT_isDue 83 = .ok (.invokevirtual 19, 3) := by decide +kernel
theorem dT_isDue_86 : decode cT_isDue 86 = .ok (.iload_n 1, 1) := by decide +kernel
theorem dT_isDue_87 : decode cT_isDue 87 = .ok (.if_icmp .ne 7, 3) := by decide +kernel
theorem dT_isDue_90 : decode cT_isDue 90 = .ok (.iconst 1, 1) := by decide +kernel
theorem dT_isDue_91 : decode cT_isDue 91 = .ok (.goto 4, 3) := by decide +kernel
theorem dT_isDue_94 : decode cT_isDue 94 = .ok (.iconst 0, 1) := by decide +kernel
theorem dT_isDue_95 : decode cT_isDue 95 = .ok (.ireturn, 1) := by decide +kernel
theorem dT_misformedAt_0 : decode cT_misformedAt 0 = .ok (.iconst 0, 1) := by decide +kernel
theorem dT_misformedAt_1 : decode cT_misformedAt 1 = .ok (.istore_n 1, 1) := by decide +kernel
theorem dT_misformedAt_2 : decode cT_misformedAt 2 = .ok (.iconst 0, 1) := by decide +kernel
theorem dT_misformedAt_3 : decode cT_misformedAt 3 = .ok (.istore_n 2, 1) := by decide +kernel
theorem dT_misformedAt_4 : decode cT_misformedAt 4 = .ok (.iload_n 2, 1) := by decide +kernel
theorem dT_misformedAt_5 : decode cT_misformedAt 5 = .ok (.bipush 96, 2) := by decide +kernel
theorem dT_misformedAt_7 : decode cT_misformedAt 7 = .ok (.if_icmp .ge 35, 3) := by decide +kernel
theorem dT_misformedAt_10 : decode cT_misformedAt 10 = .ok (.aload_n 0, 1) := by decide +kernel
theorem dT_misformedAt_11 : decode cT_misformedAt 11 = .ok (.iload_n 1, 1) := by decide +kernel
theorem dT_misformedAt_12 : decode cT_misformedAt 12 = .ok (.invokevirtual 26, 3) := by decide +kernel
theorem dT_misformedAt_15 : decode cT_misformedAt 15 = .ok (.istore_n 3, 1) := by decide +kernel
theorem dT_misformedAt_16 : decode cT_misformedAt 16 = .ok (.iload_n 3, 1) := by decide +kernel
theorem dT_misformedAt_17 : decode cT_misformedAt 17 = .ok (.ifCond .ge 7, 3) := by decide +kernel
theorem dT_misformedAt_20 : decode cT_misformedAt 20 = .ok (.iconst (-1), 1) := by decide +kernel
theorem dT_misformedAt_21 : decode cT_misformedAt 21 = .ok (.iload_n 3, 1) := by decide +kernel
theorem dT_misformedAt_22 : decode cT_misformedAt 22 = .ok (.isub, 1) := by decide +kernel
theorem dT_misformedAt_23 : decode cT_misformedAt 23 = .ok (.ireturn, 1) := by decide +kernel
theorem dT_misformedAt_24 : decode cT_misformedAt 24 = .ok (.iload_n 3, 1) := by decide +kernel
theorem dT_misformedAt_25 : decode cT_misformedAt 25 = .ok (.aload_n 0, 1) := by decide +kernel
theorem dT_misformedAt_26 : decode cT_misformedAt 26 = .ok (.getfield 15, 3) := by decide +kernel
theorem dT_misformedAt_29 : decode cT_misformedAt 29 = .ok (.if_icmp .lt 5, 3) := by decide +kernel
theorem dT_misformedAt_32 : decode cT_misformedAt 32 = .ok (.iconst (-1), 1) := by decide +kernel
theorem dT_misformedAt_33 : decode cT_misformedAt 33 = .ok (.ireturn, 1) := by decide +kernel
theorem dT_misformedAt_34 : decode cT_misformedAt 34 = .ok (.iload_n 3, 1) := by decide +kernel
theorem dT_misformedAt_35 : decode cT_misformedAt 35 = .ok (.istore_n 1, 1) := by decide +kernel
theorem dT_misformedAt_36 : decode cT_misformedAt 36 = .ok (.iinc 2 1, 3) := by decide +kernel
theorem dT_misformedAt_39 : decode cT_misformedAt 39 = .ok (.goto (-35), 3) := by decide +kernel
theorem dT_misformedAt_42 : decode cT_misformedAt 42 = .ok (.iload_n 1, 1) := by decide +kernel
theorem dT_misformedAt_43 : decode cT_misformedAt 43 = .ok (.ireturn, 1) := by decide +kernel
theorem dT_numberAt_0 : decode cT_numberAt 0 = .ok (.aload_n 0, 1) := by decide +kernel
theorem dT_numberAt_1 : decode cT_numberAt 1 = .ok (.iload_n 1, 1) := by decide +kernel
theorem dT_numberAt_2 : decode cT_numberAt 2 = .ok (.invokevirtual 23, 3) := by decide +kernel
theorem dT_numberAt_5 : decode cT_numberAt 5 = .ok (.istore_n 2, 1) := by decide +kernel
theorem dT_numberAt_6 : decode cT_numberAt 6 = .ok (.iconst 1, 1) := by decide +kernel
theorem dT_numberAt_7 : decode cT_numberAt 7 = .ok (.istore_n 3, 1) := by decide +kernel
theorem dT_numberAt_8 : decode cT_numberAt 8 = .ok (.iload_n 3, 1) := by decide +kernel
theorem dT_numberAt_9 : decode cT_numberAt 9 = .ok (.iconst 3, 1) := by decide +kernel
theorem dT_numberAt_10 : decode cT_numberAt 10 = .ok (.if_icmp .ge 32, 3) := by decide +kernel
theorem dT_numberAt_13 : decode cT_numberAt 13 = .ok (.aload_n 0, 1) := by decide +kernel
theorem dT_numberAt_14 : decode cT_numberAt 14 = .ok (.iload_n 1, 1) := by decide +kernel
theorem dT_numberAt_15 : decode cT_numberAt 15 = .ok (.iload_n 3, 1) := by decide +kernel
theorem dT_numberAt_16 : decode cT_numberAt 16 = .ok (.iadd, 1) := by decide +kernel
theorem dT_numberAt_17 : decode cT_numberAt 17 = .ok (.invokevirtual 23, 3) := by decide +kernel
theorem dT_numberAt_20 : decode cT_numberAt 20 = .ok (.ifCond .lt 22, 3) := by decide +kernel
theorem dT_numberAt_23 : decode cT_numberAt 23 = .ok (.bipush 10, 2) := by decide +kernel
theorem dT_numberAt_25 : decode cT_numberAt 25 = .ok (.iload_n 2, 1) := by decide +kernel
theorem dT_numberAt_26 : decode cT_numberAt 26 = .ok (.imul, 1) := by decide +kernel
theorem dT_numberAt_27 : decode cT_numberAt 27 = .ok (.aload_n 0, 1) := by decide +kernel
theorem dT_numberAt_28 : decode cT_numberAt 28 = .ok (.iload_n 1, 1) := by decide +kernel
theorem dT_numberAt_29 : decode cT_numberAt 29 = .ok (.iload_n 3, 1) := by decide +kernel
theorem dT_numberAt_30 : decode cT_numberAt 30 = .ok (.iadd, 1) := by decide +kernel
theorem dT_numberAt_31 : decode cT_numberAt 31 = .ok (.invokevirtual 23, 3) := by decide +kernel
theorem dT_numberAt_34 : decode cT_numberAt 34 = .ok (.iadd, 1) := by decide +kernel
theorem dT_numberAt_35 : decode cT_numberAt 35 = .ok (.istore_n 2, 1) := by decide +kernel
theorem dT_numberAt_36 : decode cT_numberAt 36 = .ok (.iinc 3 1, 3) := by decide +kernel
theorem dT_numberAt_39 : decode cT_numberAt 39 = .ok (.goto (-31), 3) := by decide +kernel
theorem dT_numberAt_42 : decode cT_numberAt 42 = .ok (.iload_n 2, 1) := by decide +kernel
theorem dT_numberAt_43 : decode cT_numberAt 43 = .ok (.ireturn, 1) := by decide +kernel
theorem dT_shapeBehind_0 : decode cT_shapeBehind 0 = .ok (.iload_n 0, 1) := by decide +kernel
theorem dT_shapeBehind_1 : decode cT_shapeBehind 1 = .ok (.tableswitch 66 107 115 #[54, 57, 66, 66, 66, 60, 66, 51, 63], 51) := by decide +kernel
theorem dT_shapeBehind_52 : decode cT_shapeBehind 52 = .ok (.ldc 50, 2) := by decide +kernel
theorem dT_shapeBehind_54 : decode cT_shapeBehind 54 = .ok (.areturn, 1) := by decide +kernel
theorem dT_shapeBehind_55 : decode cT_shapeBehind 55 = .ok (.ldc 52, 2) := by decide +kernel
theorem dT_shapeBehind_57 : decode cT_shapeBehind 57 = .ok (.areturn, 1) := by decide +kernel
theorem dT_shapeBehind_58 : decode cT_shapeBehind 58 = .ok (.ldc 54, 2) := by decide +kernel
theorem dT_shapeBehind_60 : decode cT_shapeBehind 60 = .ok (.areturn, 1) := by decide +kernel
theorem dT_shapeBehind_61 : decode cT_shapeBehind 61 = .ok (.ldc 56, 2) := by decide +kernel
theorem dT_shapeBehind_63 : decode cT_shapeBehind 63 = .ok (.areturn, 1) := by decide +kernel
theorem dT_shapeBehind_64 : decode cT_shapeBehind 64 = .ok (.ldc 52, 2) := by decide +kernel
theorem dT_shapeBehind_66 : decode cT_shapeBehind 66 = .ok (.areturn, 1) := by decide +kernel
theorem dT_shapeBehind_67 : decode cT_shapeBehind 67 = .ok (.ldc 58, 2) := by decide +kernel
theorem dT_shapeBehind_69 : decode cT_shapeBehind 69 = .ok (.areturn, 1) := by decide +kernel
theorem dT_signAt_0 : decode cT_signAt 0 = .ok (.iload_n 1, 1) := by decide +kernel
theorem dT_signAt_1 : decode cT_signAt 1 = .ok (.ifCond .lt 20, 3) := by decide +kernel
theorem dT_signAt_4 : decode cT_signAt 4 = .ok (.iload_n 1, 1) := by decide +kernel
theorem dT_signAt_5 : decode cT_signAt 5 = .ok (.aload_n 0, 1) := by decide +kernel
theorem dT_signAt_6 : decode cT_signAt 6 = .ok (.getfield 15, 3) := by decide +kernel
theorem dT_signAt_9 : decode cT_signAt 9 = .ok (.if_icmp .ge 12, 3) := by decide +kernel
theorem dT_signAt_12 : decode cT_signAt 12 = .ok (.aload_n 0, 1) := by decide +kernel
theorem dT_signAt_13 : decode cT_signAt 13 = .ok (.getfield 9, 3) := by decide +kernel
theorem dT_signAt_16 : decode cT_signAt 16 = .ok (.iload_n 1, 1) := by decide +kernel
theorem dT_signAt_17 : decode cT_signAt 17 = .ok (.iaload, 1) := by decide +kernel
theorem dT_signAt_18 : decode cT_signAt 18 = .ok (.goto 4, 3) := by decide +kernel
theorem dT_signAt_21 : decode cT_signAt 21 = .ok (.iconst (-1), 1) := by decide +kernel
theorem dT_signAt_22 : decode cT_signAt 22 = .ok (.ireturn, 1) := by decide +kernel
