/-! what stands at each place of the code -/
theorem dW_init_0 : decode cW_init 0 = .ok (.aload_n 0, 1) := by decide +kernel
theorem dW_init_1 : decode cW_init 1 = .ok (.invokespecial 3, 3) := by decide +kernel
theorem dW_init_4 : decode cW_init 4 = .ok (.aload_n 0, 1) := by decide +kernel
theorem dW_init_5 : decode cW_init 5 = .ok (.bipush 7, 2) := by decide +kernel
theorem dW_init_7 : decode cW_init 7 = .ok (.bipush 7, 2) := by decide +kernel
theorem dW_init_9 : decode cW_init 9 = .ok (.multianewarray 9 2, 4) := by decide +kernel
theorem dW_init_13 : decode cW_init 13 = .ok (.putfield 11, 3) := by decide +kernel
theorem dW_init_16 : decode cW_init 16 = .ok (.aload_n 0, 1) := by decide +kernel
theorem dW_init_17 : decode cW_init 17 = .ok (.sipush 896, 3) := by decide +kernel
theorem dW_init_20 : decode cW_init 20 = .ok (.newarray .int, 2) := by decide +kernel
theorem dW_init_22 : decode cW_init 22 = .ok (.putfield 16, 3) := by decide +kernel
theorem dW_init_25 : decode cW_init 25 = .ok (.return_, 1) := by decide +kernel
theorem dW_errandsFrom_0 : decode cW_errandsFrom 0 = .ok (.iload_n 1, 1) := by decide +kernel
theorem dW_errandsFrom_1 : decode cW_errandsFrom 1 = .ok (.invokestatic 44, 3) := by decide +kernel
theorem dW_errandsFrom_4 : decode cW_errandsFrom 4 = .ok (.ifCond .eq 14, 3) := by decide +kernel
theorem dW_errandsFrom_7 : decode cW_errandsFrom 7 = .ok (.iload_n 2, 1) := by decide +kernel
theorem dW_errandsFrom_8 : decode cW_errandsFrom 8 = .ok (.ifCond .lt 10, 3) := by decide +kernel
theorem dW_errandsFrom_11 : decode cW_errandsFrom 11 = .ok (.iload_n 2, 1) := by decide +kernel
theorem dW_errandsFrom_12 : decode cW_errandsFrom 12 = .ok (.sipush 128, 3) := by decide +kernel
theorem dW_errandsFrom_15 : decode cW_errandsFrom 15 = .ok (.if_icmp .lt 6, 3) := by decide +kernel
theorem dW_errandsFrom_18 : decode cW_errandsFrom 18 = .ok (.ldc 20, 2) := by decide +kernel
theorem dW_errandsFrom_20 : decode cW_errandsFrom 20 = .ok (.ireturn, 1) := by decide +kernel
theorem dW_errandsFrom_21 : decode cW_errandsFrom 21 = .ok (.iload_n 2, 1) := by decide +kernel
theorem dW_errandsFrom_22 : decode cW_errandsFrom 22 = .ok (.iconst 1, 1) := by decide +kernel
theorem dW_errandsFrom_23 : decode cW_errandsFrom 23 = .ok (.iload_n 1, 1) := by decide +kernel
theorem dW_errandsFrom_24 : decode cW_errandsFrom 24 = .ok (.ishl, 1) := by decide +kernel
theorem dW_errandsFrom_25 : decode cW_errandsFrom 25 = .ok (.ior, 1) := by decide +kernel
theorem dW_errandsFrom_26 : decode cW_errandsFrom 26 = .ok (.istore_n 3, 1) := by decide +kernel
theorem dW_errandsFrom_27 : decode cW_errandsFrom 27 = .ok (.aload_n 0, 1) := by decide +kernel
theorem dW_errandsFrom_28 : decode cW_errandsFrom 28 = .ok (.getfield 16, 3) := by decide +kernel
theorem dW_errandsFrom_31 : decode cW_errandsFrom 31 = .ok (.ldc 20, 2) := by decide +kernel
theorem dW_errandsFrom_33 : decode cW_errandsFrom 33 = .ok (.invokestatic 57, 3) := by decide +kernel
theorem dW_errandsFrom_36 : decode cW_errandsFrom 36 = .ok (.aload_n 0, 1) := by decide +kernel
theorem dW_errandsFrom_37 : decode cW_errandsFrom 37 = .ok (.getfield 16, 3) := by decide +kernel
theorem dW_errandsFrom_40 : decode cW_errandsFrom 40 = .ok (.iconst 1, 1) := by decide +kernel
theorem dW_errandsFrom_41 : decode cW_errandsFrom 41 = .ok (.iload_n 1, 1) := by decide +kernel
theorem dW_errandsFrom_42 : decode cW_errandsFrom 42 = .ok (.ishl, 1) := by decide +kernel
theorem dW_errandsFrom_43 : decode cW_errandsFrom 43 = .ok (.bipush 7, 2) := by decide +kernel
theorem dW_errandsFrom_45 : decode cW_errandsFrom 45 = .ok (.imul, 1) := by decide +kernel
theorem dW_errandsFrom_46 : decode cW_errandsFrom 46 = .ok (.iload_n 1, 1) := by decide +kernel
theorem dW_errandsFrom_47 : decode cW_errandsFrom 47 = .ok (.iadd, 1) := by decide +kernel
theorem dW_errandsFrom_48 : decode cW_errandsFrom 48 = .ok (.iconst 0, 1) := by decide +kernel
theorem dW_errandsFrom_49 : decode cW_errandsFrom 49 = .ok (.iastore, 1) := by decide +kernel
theorem dW_errandsFrom_50 : decode cW_errandsFrom 50 = .ok (.iconst 0, 1) := by decide +kernel
theorem dW_errandsFrom_51 : decode cW_errandsFrom 51 = .ok (.istore 4, 2) := by decide +kernel
theorem dW_errandsFrom_53 : decode cW_errandsFrom 53 = .ok (.iload 4, 2) := by decide +kernel
theorem dW_errandsFrom_55 : decode cW_errandsFrom 55 = .ok (.iload_n 3, 1) := by decide +kernel
theorem dW_errandsFrom_56 : decode cW_errandsFrom 56 = .ok (.if_icmp .ge 34, 3) := by decide +kernel
theorem dW_errandsFrom_59 : decode cW_errandsFrom 59 = .ok (.iconst 0, 1) := by decide +kernel
theorem dW_errandsFrom_60 : decode cW_errandsFrom 60 = .ok (.istore 5, 2) := by decide +kernel
theorem dW_errandsFrom_62 : decode cW_errandsFrom 62 = .ok (.iload 5, 2) := by decide +kernel
theorem dW_errandsFrom_64 : decode cW_errandsFrom 64 = .ok (.bipush 7, 2) := by decide +kernel
theorem dW_errandsFrom_66 : decode cW_errandsFrom 66 = .ok (.if_icmp .ge 18, 3) := by decide +kernel
theorem dW_errandsFrom_69 : decode cW_errandsFrom 69 = .ok (.aload_n 0, 1) := by decide +kernel
theorem dW_errandsFrom_70 : decode cW_errandsFrom 70 = .ok (.iload 4, 2) := by decide +kernel
theorem dW_errandsFrom_72 : decode cW_errandsFrom 72 = .ok (.iload 5, 2) := by decide +kernel
theorem dW_errandsFrom_74 : decode cW_errandsFrom 74 = .ok (.iload_n 3, 1) := by decide +kernel
theorem dW_errandsFrom_75 : decode cW_errandsFrom 75 = .ok (.invokevirtual 63, 3) := by decide +kernel
theorem dW_errandsFrom_78 : decode cW_errandsFrom 78 = .ok (.iinc 5 1, 3) := by decide +kernel
theorem dW_errandsFrom_81 : decode cW_errandsFrom 81 = .ok (.goto (-19), 3) := by decide +kernel
theorem dW_errandsFrom_84 : decode cW_errandsFrom 84 = .ok (.iinc 4 1, 3) := by decide +kernel
theorem dW_errandsFrom_87 : decode cW_errandsFrom 87 = .ok (.goto (-34), 3) := by decide +kernel
theorem dW_errandsFrom_90 : decode cW_errandsFrom 90 = .ok (.ldc 20, 2) := by decide +kernel
theorem dW_errandsFrom_92 : decode cW_errandsFrom 92 = .ok (.istore 4, 2) := by decide +kernel
theorem dW_errandsFrom_94 : decode cW_errandsFrom 94 = .ok (.iconst 0, 1) := by decide +kernel
theorem dW_errandsFrom_95 : decode cW_errandsFrom 95 = .ok (.istore 5, 2) := by decide +kernel
theorem dW_errandsFrom_97 : decode cW_errandsFrom 97 = .ok (.iload 5, 2) := by decide +kernel
theorem dW_errandsFrom_99 : decode cW_errandsFrom 99 = .ok (.bipush 7, 2) := by decide +kernel
theorem dW_errandsFrom_101 : decode cW_errandsFrom 101 = .ok (.if_icmp .ge 28, 3) := by decide +kernel
theorem dW_errandsFrom_104 : decode cW_errandsFrom 104 = .ok (.iload 4, 2) := by decide +kernel
theorem dW_errandsFrom_106 : decode cW_errandsFrom 106 = .ok (.aload_n 0, 1) := by decide +kernel
theorem dW_errandsFrom_107 : decode cW_errandsFrom 107 = .ok (.getfield 16, 3) := by decide +kernel
theorem dW_errandsFrom_110 : decode cW_errandsFrom 110 = .ok (.iload_n 3, 1) := by decide +kernel
theorem dW_errandsFrom_111 : decode cW_errandsFrom 111 = .ok (.bipush 7, 2) := by decide +kernel
theorem dW_errandsFrom_113 : decode cW_errandsFrom 113 = .ok (.imul, 1) := by decide +kernel
theorem dW_errandsFrom_114 : decode cW_errandsFrom 114 = .ok (.iload 5, 2) := by decide +kernel
theorem dW_errandsFrom_116 : decode cW_errandsFrom 116 = .ok (.iadd, 1) := by decide +kernel
theorem dW_errandsFrom_117 : decode cW_errandsFrom 117 = .ok (.iaload, 1) := by decide +kernel
theorem dW_errandsFrom_118 : decode cW_errandsFrom 118 = .ok (.invokestatic 48, 3) := by decide +kernel
theorem dW_errandsFrom_121 : decode cW_errandsFrom 121 = .ok (.istore 4, 2) := by decide +kernel
theorem dW_errandsFrom_123 : decode cW_errandsFrom 123 = .ok (.iinc 5 1, 3) := by decide +kernel
theorem dW_errandsFrom_126 : decode cW_errandsFrom 126 = .ok (.goto (-29), 3) := by decide +kernel
theorem dW_errandsFrom_129 : decode cW_errandsFrom 129 = .ok (.iload 4, 2) := by decide +kernel
theorem dW_errandsFrom_131 : decode cW_errandsFrom 131 = .ok (.ireturn, 1) := by decide +kernel
theorem dW_farthestRoom_0 : decode cW_farthestRoom 0 = .ok (.bipush (-9), 2) := by decide +kernel
theorem dW_farthestRoom_2 : decode cW_farthestRoom 2 = .ok (.istore_n 1, 1) := by decide +kernel
theorem dW_farthestRoom_3 : decode cW_farthestRoom 3 = .ok (.iconst (-1), 1) := by decide +kernel
theorem dW_farthestRoom_4 : decode cW_farthestRoom 4 = .ok (.istore_n 2, 1) := by decide +kernel
theorem dW_farthestRoom_5 : decode cW_farthestRoom 5 = .ok (.iconst 0, 1) := by decide +kernel
theorem dW_farthestRoom_6 : decode cW_farthestRoom 6 = .ok (.istore_n 3, 1) := by decide +kernel
theorem dW_farthestRoom_7 : decode cW_farthestRoom 7 = .ok (.iload_n 3, 1) := by decide +kernel
theorem dW_farthestRoom_8 : decode cW_farthestRoom 8 = .ok (.bipush 6, 2) := by decide +kernel
theorem dW_farthestRoom_10 : decode cW_farthestRoom 10 = .ok (.if_icmp .ge 38, 3) := by decide +kernel
theorem dW_farthestRoom_13 : decode cW_farthestRoom 13 = .ok (.aload_n 0, 1) := by decide +kernel
theorem dW_farthestRoom_14 : decode cW_farthestRoom 14 = .ok (.getfield 11, 3) := by decide +kernel
theorem dW_farthestRoom_17 : decode cW_farthestRoom 17 = .ok (.bipush 6, 2) := by decide +kernel
theorem dW_farthestRoom_19 : decode cW_farthestRoom 19 = .ok (.aaload, 1) := by decide +kernel
theorem dW_farthestRoom_20 : decode cW_farthestRoom 20 = .ok (.iload_n 3, 1) := by decide +kernel
theorem dW_farthestRoom_21 : decode cW_farthestRoom 21 = .ok (.iaload, 1) := by decide +kernel
theorem dW_farthestRoom_22 : decode cW_farthestRoom 22 = .ok (.istore 4, 2) := by decide +kernel
theorem dW_farthestRoom_24 : decode cW_farthestRoom 24 = .ok (.iload 4, 2) := by decide +kernel
theorem dW_farthestRoom_26 : decode cW_farthestRoom 26 = .ok (.ldc 20, 2) := by decide +kernel
theorem dW_farthestRoom_28 : decode cW_farthestRoom 28 = .ok (.if_icmp .ge 14, 3) := by decide +kernel
theorem dW_farthestRoom_31 : decode cW_farthestRoom 31 = .ok (.iload 4, 2) := by decide +kernel
theorem dW_farthestRoom_33 : decode cW_farthestRoom 33 = .ok (.iload_n 2, 1) := by decide +kernel
theorem dW_farthestRoom_34 : decode cW_farthestRoom 34 = .ok (.if_icmp .le 8, 3) := by decide +kernel
theorem dW_farthestRoom_37 : decode cW_farthestRoom 37 = .ok (.iload 4, 2) := by decide +kernel
theorem dW_farthestRoom_39 : decode cW_farthestRoom 39 = .ok (.istore_n 2, 1) := by decide +kernel
theorem dW_farthestRoom_40 : decode cW_farthestRoom 40 = .ok (.iload_n 3, 1) := by decide +kernel
theorem dW_farthestRoom_41 : decode cW_farthestRoom 41 = .ok (.istore_n 1, 1) := by decide +kernel
theorem dW_farthestRoom_42 : decode cW_farthestRoom 42 = .ok (.iinc 3 1, 3) := by decide +kernel
theorem dW_farthestRoom_45 : decode cW_farthestRoom 45 = .ok (.goto (-38), 3) := by decide +kernel
theorem dW_farthestRoom_48 : decode cW_farthestRoom 48 = .ok (.iload_n 1, 1) := by decide +kernel
theorem dW_farthestRoom_49 : decode cW_farthestRoom 49 = .ok (.ireturn, 1) := by decide +kernel
theorem dW_goOnFrom_0 : decode cW_goOnFrom 0 = .ok (.aload_n 0, 1) := by decide +kernel
theorem dW_goOnFrom_1 : decode cW_goOnFrom 1 = .ok (.getfield 16, 3) := by decide +kernel
theorem dW_goOnFrom_4 : decode cW_goOnFrom 4 = .ok (.iload_n 1, 1) := by decide +kernel
theorem dW_goOnFrom_5 : decode cW_goOnFrom 5 = .ok (.bipush 7, 2) := by decide +kernel
theorem dW_goOnFrom_7 : decode cW_goOnFrom 7 = .ok (.imul, 1) := by decide +kernel
theorem dW_goOnFrom_8 : decode cW_goOnFrom 8 = .ok (.iload_n 2, 1) := by decide +kernel
theorem dW_goOnFrom_9 : decode cW_goOnFrom 9 = .ok (.iadd, 1) := by decide +kernel
theorem dW_goOnFrom_10 : decode cW_goOnFrom 10 = .ok (.iaload, 1) := by decide +kernel
theorem dW_goOnFrom_11 : decode cW_goOnFrom 11 = .ok (.istore 4, 2) := by decide +kernel
theorem dW_goOnFrom_13 : decode cW_goOnFrom 13 = .ok (.iconst 0, 1) := by decide +kernel
theorem dW_goOnFrom_14 : decode cW_goOnFrom 14 = .ok (.istore 5, 2) := by decide +kernel
theorem dW_goOnFrom_16 : decode cW_goOnFrom 16 = .ok (.iload 5, 2) := by decide +kernel
theorem dW_goOnFrom_18 : decode cW_goOnFrom 18 = .ok (.bipush 7, 2) := by decide +kernel
theorem dW_goOnFrom_20 : decode cW_goOnFrom 20 = .ok (.if_icmp .ge 70, 3) := by decide +kernel
theorem dW_goOnFrom_23 : decode cW_goOnFrom 23 = .ok (.iload_n 1, 1) := by decide +kernel
theorem dW_goOnFrom_24 : decode cW_goOnFrom 24 = .ok (.iconst 1, 1) := by decide +kernel
theorem dW_goOnFrom_25 : decode cW_goOnFrom 25 = .ok (.iload 5, 2) := by decide +kernel
theorem dW_goOnFrom_27 : decode cW_goOnFrom 27 = .ok (.ishl, 1) := by decide +kernel
theorem dW_goOnFrom_28 : decode cW_goOnFrom 28 = .ok (.ior, 1) := by decide +kernel
theorem dW_goOnFrom_29 : decode cW_goOnFrom 29 = .ok (.istore 6, 2) := by decide +kernel
theorem dW_goOnFrom_31 : decode cW_goOnFrom 31 = .ok (.iload 6, 2) := by decide +kernel
theorem dW_goOnFrom_33 : decode cW_goOnFrom 33 = .ok (.iload_n 1, 1) := by decide +kernel
theorem dW_goOnFrom_34 : decode cW_goOnFrom 34 = .ok (.if_icmp .eq 50, 3) := by decide +kernel
theorem dW_goOnFrom_37 : decode cW_goOnFrom 37 = .ok (.iload 6, 2) := by decide +kernel
theorem dW_goOnFrom_39 : decode cW_goOnFrom 39 = .ok (.iload_n 3, 1) := by decide +kernel
theorem dW_goOnFrom_40 : decode cW_goOnFrom 40 = .ok (.ior, 1) := by decide +kernel
theorem dW_goOnFrom_41 : decode cW_goOnFrom 41 = .ok (.iload_n 3, 1) := by decide +kernel
theorem dW_goOnFrom_42 : decode cW_goOnFrom 42 = .ok (.if_icmp .ne 42, 3) := by decide +kernel
theorem dW_goOnFrom_45 : decode cW_goOnFrom 45 = .ok (.iload 6, 2) := by decide +kernel
theorem dW_goOnFrom_47 : decode cW_goOnFrom 47 = .ok (.bipush 7, 2) := by decide +kernel
theorem dW_goOnFrom_49 : decode cW_goOnFrom 49 = .ok (.imul, 1) := by decide +kernel
theorem dW_goOnFrom_50 : decode cW_goOnFrom 50 = .ok (.iload 5, 2) := by decide +kernel
theorem dW_goOnFrom_52 : decode cW_goOnFrom 52 = .ok (.iadd, 1) := by decide +kernel
theorem dW_goOnFrom_53 : decode cW_goOnFrom 53 = .ok (.istore 7, 2) := by decide +kernel
theorem dW_goOnFrom_55 : decode cW_goOnFrom 55 = .ok (.aload_n 0, 1) := by decide +kernel
theorem dW_goOnFrom_56 : decode cW_goOnFrom 56 = .ok (.getfield 16, 3) := by decide +kernel
theorem dW_goOnFrom_59 : decode cW_goOnFrom 59 = .ok (.iload 7, 2) := by decide +kernel
theorem dW_goOnFrom_61 : decode cW_goOnFrom 61 = .ok (.aload_n 0, 1) := by decide +kernel
theorem dW_goOnFrom_62 : decode cW_goOnFrom 62 = .ok (.getfield 16, 3) := by decide +kernel
theorem dW_goOnFrom_65 : decode cW_goOnFrom 65 = .ok (.iload 7, 2) := by decide +kernel
theorem dW_goOnFrom_67 : decode cW_goOnFrom 67 = .ok (.iaload, 1) := by decide +kernel
theorem dW_goOnFrom_68 : decode cW_goOnFrom 68 = .ok (.iload 4, 2) := by decide +kernel
theorem dW_goOnFrom_70 : decode cW_goOnFrom 70 = .ok (.aload_n 0, 1) := by decide +kernel
theorem dW_goOnFrom_71 : decode cW_goOnFrom 71 = .ok (.getfield 11, 3) := by decide +kernel
theorem dW_goOnFrom_74 : decode cW_goOnFrom 74 = .ok (.iload_n 2, 1) := by decide +kernel
theorem dW_goOnFrom_75 : decode cW_goOnFrom 75 = .ok (.aaload, 1) := by decide +kernel
theorem dW_goOnFrom_76 : decode cW_goOnFrom 76 = .ok (.iload 5, 2) := by decide +kernel
theorem dW_goOnFrom_78 : decode cW_goOnFrom 78 = .ok (.iaload, 1) := by decide +kernel
theorem dW_goOnFrom_79 : decode cW_goOnFrom 79 = .ok (.iadd, 1) := by decide +kernel
theorem dW_goOnFrom_80 : decode cW_goOnFrom 80 = .ok (.invokestatic 48, 3) := by decide +kernel
theorem dW_goOnFrom_83 : decode cW_goOnFrom 83 = .ok (.iastore, 1) := by decide +kernel
theorem dW_goOnFrom_84 : decode cW_goOnFrom 84 = .ok (.iinc 5 1, 3) := by decide +kernel
theorem dW_goOnFrom_87 : decode cW_goOnFrom 87 = .ok (.goto (-71), 3) := by decide +kernel
theorem dW_goOnFrom_90 : decode cW_goOnFrom 90 = .ok (.return_, 1) := by decide +kernel
theorem dW_join_0 : decode cW_join 0 = .ok (.iload_n 1, 1) := by decide +kernel
theorem dW_join_1 : decode cW_join 1 = .ok (.invokestatic 44, 3) := by decide +kernel
theorem dW_join_4 : decode cW_join 4 = .ok (.ifCond .eq 50, 3) := by decide +kernel
theorem dW_join_7 : decode cW_join 7 = .ok (.iload_n 2, 1) := by decide +kernel
theorem dW_join_8 : decode cW_join 8 = .ok (.invokestatic 44, 3) := by decide +kernel
theorem dW_join_11 : decode cW_join 11 = .ok (.ifCond .eq 43, 3) := by decide +kernel
theorem dW_join_14 : decode cW_join 14 = .ok (.aload_n 0, 1) := by decide +kernel
theorem dW_join_15 : decode cW_join 15 = .ok (.getfield 11, 3) := by decide +kernel
theorem dW_join_18 : decode cW_join 18 = .ok (.iload_n 1, 1) := by decide +kernel
theorem dW_join_19 : decode cW_join 19 = .ok (.aaload, 1) := by decide +kernel
theorem dW_join_20 : decode cW_join 20 = .ok (.iload_n 2, 1) := by decide +kernel
theorem dW_join_21 : decode cW_join 21 = .ok (.aload_n 0, 1) := by decide +kernel
theorem dW_join_22 : decode cW_join 22 = .ok (.getfield 11, 3) := by decide +kernel
theorem dW_join_25 : decode cW_join 25 = .ok (.iload_n 1, 1) := by decide +kernel
theorem dW_join_26 : decode cW_join 26 = .ok (.aaload, 1) := by decide +kernel
theorem dW_join_27 : decode cW_join 27 = .ok (.iload_n 2, 1) := by decide +kernel
theorem dW_join_28 : decode cW_join 28 = .ok (.iaload, 1) := by decide +kernel
theorem dW_join_29 : decode cW_join 29 = .ok (.iload_n 3, 1) := by decide +kernel
theorem dW_join_30 : decode cW_join 30 = .ok (.invokestatic 48, 3) := by decide +kernel
theorem dW_join_33 : decode cW_join 33 = .ok (.iastore, 1) := by decide +kernel
theorem dW_join_34 : decode cW_join 34 = .ok (.aload_n 0, 1) := by decide +kernel
theorem dW_join_35 : decode cW_join 35 = .ok (.getfield 11, 3) := by decide +kernel
theorem dW_join_38 : decode cW_join 38 = .ok (.iload_n 2, 1) := by decide +kernel
theorem dW_join_39 : decode cW_join 39 = .ok (.aaload, 1) := by decide +kernel
theorem dW_join_40 : decode cW_join 40 = .ok (.iload_n 1, 1) := by decide +kernel
theorem dW_join_41 : decode cW_join 41 = .ok (.aload_n 0, 1) := by decide +kernel
theorem dW_join_42 : decode cW_join 42 = .ok (.getfield 11, 3) := by decide +kernel
theorem dW_join_45 : decode cW_join 45 = .ok (.iload_n 2, 1) := by decide +kernel
theorem dW_join_46 : decode cW_join 46 = .ok (.aaload, 1) := by decide +kernel
theorem dW_join_47 : decode cW_join 47 = .ok (.iload_n 1, 1) := by decide +kernel
theorem dW_join_48 : decode cW_join 48 = .ok (.iaload, 1) := by decide +kernel
theorem dW_join_49 : decode cW_join 49 = .ok (.iload_n 3, 1) := by decide +kernel
theorem dW_join_50 : decode cW_join 50 = .ok (.invokestatic 48, 3) := by decide +kernel
theorem dW_join_53 : decode cW_join 53 = .ok (.iastore, 1) := by decide +kernel
theorem dW_join_54 : decode cW_join 54 = .ok (.return_, 1) := by decide +kernel
theorem dW_longestWith_0 : decode cW_longestWith 0 = .ok (.iload_n 1, 1) := by decide +kernel
theorem dW_longestWith_1 : decode cW_longestWith 1 = .ok (.invokestatic 44, 3) := by decide +kernel
theorem dW_longestWith_4 : decode cW_longestWith 4 = .ok (.ifCond .eq 10, 3) := by decide +kernel
theorem dW_longestWith_7 : decode cW_longestWith 7 = .ok (.iload_n 2, 1) := by decide +kernel
theorem dW_longestWith_8 : decode cW_longestWith 8 = .ok (.invokestatic 44, 3) := by decide +kernel
theorem dW_longestWith_11 : decode cW_longestWith 11 = .ok (.ifCond .ne 6, 3) := by decide +kernel
theorem dW_longestWith_14 : decode cW_longestWith 14 = .ok (.ldc 20, 2) := by decide +kernel
theorem dW_longestWith_16 : decode cW_longestWith 16 = .ok (.ireturn, 1) := by decide +kernel
theorem dW_longestWith_17 : decode cW_longestWith 17 = .ok (.iconst 0, 1) := by decide +kernel
theorem dW_longestWith_18 : decode cW_longestWith 18 = .ok (.istore_n 3, 1) := by decide +kernel
theorem dW_longestWith_19 : decode cW_longestWith 19 = .ok (.iconst 0, 1) := by decide +kernel
theorem dW_longestWith_20 : decode cW_longestWith 20 = .ok (.istore 4, 2) := by decide +kernel
theorem dW_longestWith_22 : decode cW_longestWith 22 = .ok (.iload 4, 2) := by decide +kernel
theorem dW_longestWith_24 : decode cW_longestWith 24 = .ok (.bipush 6, 2) := by decide +kernel
theorem dW_longestWith_26 : decode cW_longestWith 26 = .ok (.if_icmp .ge 80, 3) := by decide +kernel
theorem dW_longestWith_29 : decode cW_longestWith 29 = .ok (.aload_n 0, 1) := by decide +kernel
theorem dW_longestWith_30 : decode cW_longestWith 30 = .ok (.getfield 11, 3) := by decide +kernel
theorem dW_longestWith_33 : decode cW_longestWith 33 = .ok (.bipush 6, 2) := by decide +kernel
theorem dW_longestWith_35 : decode cW_longestWith 35 = .ok (.aaload, 1) := by decide +kernel
theorem dW_longestWith_36 : decode cW_longestWith 36 = .ok (.iload_n 1, 1) := by decide +kernel
theorem dW_longestWith_37 : decode cW_longestWith 37 = .ok (.iaload, 1) := by decide +kernel
theorem dW_longestWith_38 : decode cW_longestWith 38 = .ok (.iconst 1, 1) := by decide +kernel
theorem dW_longestWith_39 : decode cW_longestWith 39 = .ok (.iadd, 1) := by decide +kernel
theorem dW_longestWith_40 : decode cW_longestWith 40 = .ok (.aload_n 0, 1) := by decide +kernel
theorem dW_longestWith_41 : decode cW_longestWith 41 = .ok (.getfield 11, 3) := by decide +kernel
theorem dW_longestWith_44 : decode cW_longestWith 44 = .ok (.iload_n 2, 1) := by decide +kernel
theorem dW_longestWith_45 : decode cW_longestWith 45 = .ok (.aaload, 1) := by decide +kernel
theorem dW_longestWith_46 : decode cW_longestWith 46 = .ok (.iload 4, 2) := by decide +kernel
theorem dW_longestWith_48 : decode cW_longestWith 48 = .ok (.iaload, 1) := by decide +kernel
theorem dW_longestWith_49 : decode cW_longestWith 49 = .ok (.iadd, 1) := by decide +kernel
theorem dW_longestWith_50 : decode cW_longestWith 50 = .ok (.istore 5, 2) := by decide +kernel
theorem dW_longestWith_52 : decode cW_longestWith 52 = .ok (.aload_n 0, 1) := by decide +kernel
theorem dW_longestWith_53 : decode cW_longestWith 53 = .ok (.getfield 11, 3) := by decide +kernel
theorem dW_longestWith_56 : decode cW_longestWith 56 = .ok (.bipush 6, 2) := by decide +kernel
theorem dW_longestWith_58 : decode cW_longestWith 58 = .ok (.aaload, 1) := by decide +kernel
theorem dW_longestWith_59 : decode cW_longestWith 59 = .ok (.iload_n 2, 1) := by decide +kernel
theorem dW_longestWith_60 : decode cW_longestWith 60 = .ok (.iaload, 1) := by decide +kernel
theorem dW_longestWith_61 : decode cW_longestWith 61 = .ok (.iconst 1, 1) := by decide +kernel
theorem dW_longestWith_62 : decode cW_longestWith 62 = .ok (.iadd, 1) := by decide +kernel
theorem dW_longestWith_63 : decode cW_longestWith 63 = .ok (.aload_n 0, 1) := by decide +kernel
theorem dW_longestWith_64 : decode cW_longestWith 64 = .ok (.getfield 11, 3) := by decide +kernel
theorem dW_longestWith_67 : decode cW_longestWith 67 = .ok (.iload_n 1, 1) := by decide +kernel
theorem dW_longestWith_68 : decode cW_longestWith 68 = .ok (.aaload, 1) := by decide +kernel
theorem dW_longestWith_69 : decode cW_longestWith 69 = .ok (.iload 4, 2) := by decide +kernel
theorem dW_longestWith_71 : decode cW_longestWith 71 = .ok (.iaload, 1) := by decide +kernel
theorem dW_longestWith_72 : decode cW_longestWith 72 = .ok (.iadd, 1) := by decide +kernel
theorem dW_longestWith_73 : decode cW_longestWith 73 = .ok (.istore 6, 2) := by decide +kernel
theorem dW_longestWith_75 : decode cW_longestWith 75 = .ok (.iload_n 3, 1) := by decide +kernel
theorem dW_longestWith_76 : decode cW_longestWith 76 = .ok (.aload_n 0, 1) := by decide +kernel
theorem dW_longestWith_77 : decode cW_longestWith 77 = .ok (.getfield 11, 3) := by decide +kernel
theorem dW_longestWith_80 : decode cW_longestWith 80 = .ok (.bipush 6, 2) := by decide +kernel
theorem dW_longestWith_82 : decode cW_longestWith 82 = .ok (.aaload, 1) := by decide +kernel
theorem dW_longestWith_83 : decode cW_longestWith 83 = .ok (.iload 4, 2) := by decide +kernel
theorem dW_longestWith_85 : decode cW_longestWith 85 = .ok (.iaload, 1) := by decide +kernel
theorem dW_longestWith_86 : decode cW_longestWith 86 = .ok (.iload 5, 2) := by decide +kernel
theorem dW_longestWith_88 : decode cW_longestWith 88 = .ok (.iload 6, 2) := by decide +kernel
theorem dW_longestWith_90 : decode cW_longestWith 90 = .ok (.invokestatic 48, 3) := by decide +kernel
theorem dW_longestWith_93 : decode cW_longestWith 93 = .ok (.invokestatic 48, 3) := by decide +kernel
theorem dW_longestWith_96 : decode cW_longestWith 96 = .ok (.invokestatic 54, 3) := by decide +kernel
theorem dW_longestWith_99 : decode cW_longestWith 99 = .ok (.istore_n 3, 1) := by decide +kernel
theorem dW_longestWith_100 : decode cW_longestWith 100 = .ok (.iinc 4 1, 3) := by decide +kernel
theorem dW_longestWith_103 : decode cW_longestWith 103 = .ok (.goto (-81), 3) := by decide +kernel
theorem dW_longestWith_106 : decode cW_longestWith 106 = .ok (.iload_n 3, 1) := by decide +kernel
theorem dW_longestWith_107 : decode cW_longestWith 107 = .ok (.ireturn, 1) := by decide +kernel
theorem dW_measure_0 : decode cW_measure 0 = .ok (.iconst 0, 1) := by decide +kernel
theorem dW_measure_1 : decode cW_measure 1 = .ok (.istore_n 2, 1) := by decide +kernel
theorem dW_measure_2 : decode cW_measure 2 = .ok (.iload_n 2, 1) := by decide +kernel
theorem dW_measure_3 : decode cW_measure 3 = .ok (.bipush 7, 2) := by decide +kernel
theorem dW_measure_5 : decode cW_measure 5 = .ok (.if_icmp .ge 42, 3) := by decide +kernel
theorem dW_measure_8 : decode cW_measure 8 = .ok (.iconst 0, 1) := by decide +kernel
theorem dW_measure_9 : decode cW_measure 9 = .ok (.istore_n 3, 1) := by decide +kernel
theorem dW_measure_10 : decode cW_measure 10 = .ok (.iload_n 3, 1) := by decide +kernel
theorem dW_measure_11 : decode cW_measure 11 = .ok (.bipush 7, 2) := by decide +kernel
theorem dW_measure_13 : decode cW_measure 13 = .ok (.if_icmp .ge 28, 3) := by decide +kernel
theorem dW_measure_16 : decode cW_measure 16 = .ok (.aload_n 0, 1) := by decide +kernel
theorem dW_measure_17 : decode cW_measure 17 = .ok (.getfield 11, 3) := by decide +kernel
theorem dW_measure_20 : decode cW_measure 20 = .ok (.iload_n 2, 1) := by decide +kernel
theorem dW_measure_21 : decode cW_measure 21 = .ok (.aaload, 1) := by decide +kernel
theorem dW_measure_22 : decode cW_measure 22 = .ok (.iload_n 3, 1) := by decide +kernel
theorem dW_measure_23 : decode cW_measure 23 = .ok (.iload_n 2, 1) := by decide +kernel
theorem dW_measure_24 : decode cW_measure 24 = .ok (.iload_n 3, 1) := by decide +kernel
theorem dW_measure_25 : decode cW_measure 25 = .ok (.if_icmp .ne 7, 3) := by decide +kernel
theorem dW_measure_28 : decode cW_measure 28 = .ok (.iconst 0, 1) := by decide +kernel
theorem dW_measure_29 : decode cW_measure 29 = .ok (.goto 5, 3) := by decide +kernel
theorem dW_measure_32 : decode cW_measure 32 = .ok (.ldc 20, 2) := by decide +kernel
theorem dW_measure_34 : decode cW_measure 34 = .ok (.iastore, 1) := by decide +kernel
theorem dW_measure_35 : decode cW_measure 35 = .ok (.iinc 3 1, 3) := by decide +kernel
theorem dW_measure_38 : decode cW_measure 38 = .ok (.goto (-28), 3) := by decide +kernel
theorem dW_measure_41 : decode cW_measure 41 = .ok (.iinc 2 1, 3) := by decide +kernel
theorem dW_measure_44 : decode cW_measure 44 = .ok (.goto (-42), 3) := by decide +kernel
theorem dW_measure_47 : decode cW_measure 47 = .ok (.iconst 0, 1) := by decide +kernel
theorem dW_measure_48 : decode cW_measure 48 = .ok (.istore_n 2, 1) := by decide +kernel
theorem dW_measure_49 : decode cW_measure 49 = .ok (.iload_n 2, 1) := by decide +kernel
theorem dW_measure_50 : decode cW_measure 50 = .ok (.aload_n 1, 1) := by decide +kernel
theorem dW_measure_51 : decode cW_measure 51 = .ok (.getfield 21, 3) := by decide +kernel
theorem dW_measure_54 : decode cW_measure 54 = .ok (.if_icmp .ge 31, 3) := by decide +kernel
theorem dW_measure_57 : decode cW_measure 57 = .ok (.aload_n 0, 1) := by decide +kernel
theorem dW_measure_58 : decode cW_measure 58 = .ok (.aload_n 1, 1) := by decide +kernel
theorem dW_measure_59 : decode cW_measure 59 = .ok (.getfield 27, 3) := by decide +kernel
theorem dW_measure_62 : decode cW_measure 62 = .ok (.iload_n 2, 1) := by decide +kernel
theorem dW_measure_63 : decode cW_measure 63 = .ok (.iaload, 1) := by decide +kernel
theorem dW_measure_64 : decode cW_measure 64 = .ok (.aload_n 1, 1) := by decide +kernel
theorem dW_measure_65 : decode cW_measure 65 = .ok (.getfield 30, 3) := by decide +kernel
theorem dW_measure_68 : decode cW_measure 68 = .ok (.iload_n 2, 1) := by decide +kernel
theorem dW_measure_69 : decode cW_measure 69 = .ok (.iaload, 1) := by decide +kernel
theorem dW_measure_70 : decode cW_measure 70 = .ok (.aload_n 1, 1) := by decide +kernel
theorem dW_measure_71 : decode cW_measure 71 = .ok (.getfield 33, 3) := by decide +kernel
theorem dW_measure_74 : decode cW_measure 74 = .ok (.iload_n 2, 1) := by decide +kernel
theorem dW_measure_75 : decode cW_measure 75 = .ok (.iaload, 1) := by decide +kernel
theorem dW_measure_76 : decode cW_measure 76 = .ok (.invokevirtual 36, 3) := by decide +kernel
theorem dW_measure_79 : decode cW_measure 79 = .ok (.iinc 2 1, 3) := by decide +kernel
theorem dW_measure_82 : decode cW_measure 82 = .ok (.goto (-33), 3) := by decide +kernel
theorem dW_measure_85 : decode cW_measure 85 = .ok (.iconst 0, 1) := by decide +kernel
theorem dW_measure_86 : decode cW_measure 86 = .ok (.istore_n 2, 1) := by decide +kernel
theorem dW_measure_87 : decode cW_measure 87 = .ok (.iload_n 2, 1) := by decide +kernel
theorem dW_measure_88 : decode cW_measure 88 = .ok (.bipush 7, 2) := by decide +kernel
theorem dW_measure_90 : decode cW_measure 90 = .ok (.if_icmp .ge 14, 3) := by decide +kernel
theorem dW_measure_93 : decode cW_measure 93 = .ok (.aload_n 0, 1) := by decide +kernel
theorem dW_measure_94 : decode cW_measure 94 = .ok (.iload_n 2, 1) := by decide +kernel
theorem dW_measure_95 : decode cW_measure 95 = .ok (.invokevirtual 40, 3) := by decide +kernel
theorem dW_measure_98 : decode cW_measure 98 = .ok (.iinc 2 1, 3) := by decide +kernel
theorem dW_measure_101 : decode cW_measure 101 = .ok (.goto (-14), 3) := by decide +kernel
theorem dW_measure_104 : decode cW_measure 104 = .ok (.return_, 1) := by decide +kernel
theorem dW_shortenBy_0 : decode cW_shortenBy 0 = .ok (.iconst 0, 1) := by decide +kernel
theorem dW_shortenBy_1 : decode cW_shortenBy 1 = .ok (.istore_n 2, 1) := by decide +kernel
theorem dW_shortenBy_2 : decode cW_shortenBy 2 = .ok (.iload_n 2, 1) := by decide +kernel
theorem dW_shortenBy_3 : decode cW_shortenBy 3 = .ok (.bipush 7, 2) := by decide +kernel
theorem dW_shortenBy_5 : decode cW_shortenBy 5 = .ok (.if_icmp .ge 59, 3) := by decide +kernel
theorem dW_shortenBy_8 : decode cW_shortenBy 8 = .ok (.iconst 0, 1) := by decide +kernel
theorem dW_shortenBy_9 : decode cW_shortenBy 9 = .ok (.istore_n 3, 1) := by decide +kernel
theorem dW_shortenBy_10 : decode cW_shortenBy 10 = .ok (.iload_n 3, 1) := by decide +kernel
theorem dW_shortenBy_11 : decode cW_shortenBy 11 = .ok (.bipush 7, 2) := by decide +kernel
theorem dW_shortenBy_13 : decode cW_shortenBy 13 = .ok (.if_icmp .ge 45, 3) := by decide +kernel
theorem dW_shortenBy_16 : decode cW_shortenBy 16 = .ok (.aload_n 0, 1) := by decide +kernel
theorem dW_shortenBy_17 : decode cW_shortenBy 17 = .ok (.getfield 11, 3) := by decide +kernel
theorem dW_shortenBy_20 : decode cW_shortenBy 20 = .ok (.iload_n 2, 1) := by decide +kernel
theorem dW_shortenBy_21 : decode cW_shortenBy 21 = .ok (.aaload, 1) := by decide +kernel
theorem dW_shortenBy_22 : decode cW_shortenBy 22 = .ok (.iload_n 3, 1) := by decide +kernel
theorem dW_shortenBy_23 : decode cW_shortenBy 23 = .ok (.aload_n 0, 1) := by decide +kernel
theorem dW_shortenBy_24 : decode cW_shortenBy 24 = .ok (.getfield 11, 3) := by decide +kernel
theorem dW_shortenBy_27 : decode cW_shortenBy 27 = .ok (.iload_n 2, 1) := by decide +kernel
theorem dW_shortenBy_28 : decode cW_shortenBy 28 = .ok (.aaload, 1) := by decide +kernel
theorem dW_shortenBy_29 : decode cW_shortenBy 29 = .ok (.iload_n 3, 1) := by decide +kernel
theorem dW_shortenBy_30 : decode cW_shortenBy 30 = .ok (.iaload, 1) := by decide +kernel
theorem dW_shortenBy_31 : decode cW_shortenBy 31 = .ok (.aload_n 0, 1) := by decide +kernel
theorem dW_shortenBy_32 : decode cW_shortenBy 32 = .ok (.getfield 11, 3) := by decide +kernel
theorem dW_shortenBy_35 : decode cW_shortenBy 35 = .ok (.iload_n 2, 1) := by decide +kernel
theorem dW_shortenBy_36 : decode cW_shortenBy 36 = .ok (.aaload, 1) := by decide +kernel
theorem dW_shortenBy_37 : decode cW_shortenBy 37 = .ok (.iload_n 1, 1) := by decide +kernel
theorem dW_shortenBy_38 : decode cW_shortenBy 38 = .ok (.iaload, 1) := by decide +kernel
theorem dW_shortenBy_39 : decode cW_shortenBy 39 = .ok (.aload_n 0, 1) := by decide +kernel
theorem dW_shortenBy_40 : decode cW_shortenBy 40 = .ok (.getfield 11, 3) := by decide +kernel
theorem dW_shortenBy_43 : decode cW_shortenBy 43 = .ok (.iload_n 1, 1) := by decide +kernel
theorem dW_shortenBy_44 : decode cW_shortenBy 44 = .ok (.aaload, 1) := by decide +kernel
theorem dW_shortenBy_45 : decode cW_shortenBy 45 = .ok (.iload_n 3, 1) := by decide +kernel
theorem dW_shortenBy_46 : decode cW_shortenBy 46 = .ok (.iaload, 1) := by decide +kernel
theorem dW_shortenBy_47 : decode cW_shortenBy 47 = .ok (.iadd, 1) := by decide +kernel
theorem dW_shortenBy_48 : decode cW_shortenBy 48 = .ok (.invokestatic 48, 3) := by decide +kernel
theorem dW_shortenBy_51 : decode cW_shortenBy 51 = .ok (.iastore, 1) := by decide +kernel
theorem dW_shortenBy_52 : decode cW_shortenBy 52 = .ok (.iinc 3 1, 3) := by decide +kernel
theorem dW_shortenBy_55 : decode cW_shortenBy 55 = .ok (.goto (-45), 3) := by decide +kernel
theorem dW_shortenBy_58 : decode cW_shortenBy 58 = .ok (.iinc 2 1, 3) := by decide +kernel
theorem dW_shortenBy_61 : decode cW_shortenBy 61 = .ok (.goto (-59), 3) := by decide +kernel
theorem dW_shortenBy_64 : decode cW_shortenBy 64 = .ok (.return_, 1) := by decide +kernel
theorem dW_toAnyRoom_0 : decode cW_toAnyRoom 0 = .ok (.ldc 20, 2) := by decide +kernel
theorem dW_toAnyRoom_2 : decode cW_toAnyRoom 2 = .ok (.istore_n 2, 1) := by decide +kernel
theorem dW_toAnyRoom_3 : decode cW_toAnyRoom 3 = .ok (.iconst 0, 1) := by decide +kernel
theorem dW_toAnyRoom_4 : decode cW_toAnyRoom 4 = .ok (.istore_n 3, 1) := by decide +kernel
theorem dW_toAnyRoom_5 : decode cW_toAnyRoom 5 = .ok (.iload_n 3, 1) := by decide +kernel
theorem dW_toAnyRoom_6 : decode cW_toAnyRoom 6 = .ok (.bipush 6, 2) := by decide +kernel
theorem dW_toAnyRoom_8 : decode cW_toAnyRoom 8 = .ok (.if_icmp .ge 22, 3) := by decide +kernel
theorem dW_toAnyRoom_11 : decode cW_toAnyRoom 11 = .ok (.iload_n 2, 1) := by decide +kernel
theorem dW_toAnyRoom_12 : decode cW_toAnyRoom 12 = .ok (.aload_n 0, 1) := by decide +kernel
theorem dW_toAnyRoom_13 : decode cW_toAnyRoom 13 = .ok (.getfield 11, 3) := by decide +kernel
theorem dW_toAnyRoom_16 : decode cW_toAnyRoom 16 = .ok (.iload_n 1, 1) := by decide +kernel
theorem dW_toAnyRoom_17 : decode cW_toAnyRoom 17 = .ok (.aaload, 1) := by decide +kernel
theorem dW_toAnyRoom_18 : decode cW_toAnyRoom 18 = .ok (.iload_n 3, 1) := by decide +kernel
theorem dW_toAnyRoom_19 : decode cW_toAnyRoom 19 = .ok (.iaload, 1) := by decide +kernel
theorem dW_toAnyRoom_20 : decode cW_toAnyRoom 20 = .ok (.invokestatic 48, 3) := by decide +kernel
theorem dW_toAnyRoom_23 : decode cW_toAnyRoom 23 = .ok (.istore_n 2, 1) := by decide +kernel
theorem dW_toAnyRoom_24 : decode cW_toAnyRoom 24 = .ok (.iinc 3 1, 3) := by decide +kernel
theorem dW_toAnyRoom_27 : decode cW_toAnyRoom 27 = .ok (.goto (-22), 3) := by decide +kernel
theorem dW_toAnyRoom_30 : decode cW_toAnyRoom 30 = .ok (.iload_n 2, 1) := by decide +kernel
theorem dW_toAnyRoom_31 : decode cW_toAnyRoom 31 = .ok (.ireturn, 1) := by decide +kernel
