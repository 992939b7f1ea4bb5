/-! what stands at each place of the code -/
theorem dX_init_0 : decode cX_init 0 = .ok (.aload_n 0, 1) := by decide +kernel
theorem dX_init_1 : decode cX_init 1 = .ok (.invokespecial 3, 3) := by decide +kernel
theorem dX_init_4 : decode cX_init 4 = .ok (.aload_n 0, 1) := by decide +kernel
theorem dX_init_5 : decode cX_init 5 = .ok (.new 9, 3) := by decide +kernel
theorem dX_init_8 : decode cX_init 8 = .ok (.dup, 1) := by decide +kernel
theorem dX_init_9 : decode cX_init 9 = .ok (.invokespecial 11, 3) := by decide +kernel
theorem dX_init_12 : decode cX_init 12 = .ok (.putfield 12, 3) := by decide +kernel
theorem dX_init_15 : decode cX_init 15 = .ok (.aload_n 0, 1) := by decide +kernel
theorem dX_init_16 : decode cX_init 16 = .ok (.new 9, 3) := by decide +kernel
theorem dX_init_19 : decode cX_init 19 = .ok (.dup, 1) := by decide +kernel
theorem dX_init_20 : decode cX_init 20 = .ok (.invokespecial 11, 3) := by decide +kernel
theorem dX_init_23 : decode cX_init 23 = .ok (.putfield 16, 3) := by decide +kernel
theorem dX_init_26 : decode cX_init 26 = .ok (.aload_n 0, 1) := by decide +kernel
theorem dX_init_27 : decode cX_init 27 = .ok (.new 9, 3) := by decide +kernel
theorem dX_init_30 : decode cX_init 30 = .ok (.dup, 1) := by decide +kernel
theorem dX_init_31 : decode cX_init 31 = .ok (.invokespecial 11, 3) := by decide +kernel
theorem dX_init_34 : decode cX_init 34 = .ok (.putfield 19, 3) := by decide +kernel
theorem dX_init_37 : decode cX_init 37 = .ok (.aload_n 0, 1) := by decide +kernel
theorem dX_init_38 : decode cX_init 38 = .ok (.iconst 0, 1) := by decide +kernel
theorem dX_init_39 : decode cX_init 39 = .ok (.putfield 22, 3) := by decide +kernel
theorem dX_init_42 : decode cX_init 42 = .ok (.aload_n 0, 1) := by decide +kernel
theorem dX_init_43 : decode cX_init 43 = .ok (.new 26, 3) := by decide +kernel
theorem dX_init_46 : decode cX_init 46 = .ok (.dup, 1) := by decide +kernel
theorem dX_init_47 : decode cX_init 47 = .ok (.invokespecial 28, 3) := by decide +kernel
theorem dX_init_50 : decode cX_init 50 = .ok (.putfield 29, 3) := by decide +kernel
theorem dX_init_53 : decode cX_init 53 = .ok (.aload_n 0, 1) := by decide +kernel
theorem dX_init_54 : decode cX_init 54 = .ok (.new 33, 3) := by decide +kernel
theorem dX_init_57 : decode cX_init 57 = .ok (.dup, 1) := by decide +kernel
theorem dX_init_58 : decode cX_init 58 = .ok (.invokespecial 35, 3) := by decide +kernel
theorem dX_init_61 : decode cX_init 61 = .ok (.putfield 36, 3) := by decide +kernel
theorem dX_init_64 : decode cX_init 64 = .ok (.aload_n 0, 1) := by decide +kernel
theorem dX_init_65 : decode cX_init 65 = .ok (.bipush 12, 2) := by decide +kernel
theorem dX_init_67 : decode cX_init 67 = .ok (.newarray .int, 2) := by decide +kernel
theorem dX_init_69 : decode cX_init 69 = .ok (.putfield 40, 3) := by decide +kernel
theorem dX_init_72 : decode cX_init 72 = .ok (.aload_n 0, 1) := by decide +kernel
theorem dX_init_73 : decode cX_init 73 = .ok (.iconst 0, 1) := by decide +kernel
theorem dX_init_74 : decode cX_init 74 = .ok (.putfield 44, 3) := by decide +kernel
theorem dX_init_77 : decode cX_init 77 = .ok (.aload_n 0, 1) := by decide +kernel
theorem dX_init_78 : decode cX_init 78 = .ok (.bipush 7, 2) := by decide +kernel
theorem dX_init_80 : decode cX_init 80 = .ok (.newarray .int, 2) := by decide +kernel
theorem dX_init_82 : decode cX_init 82 = .ok (.putfield 48, 3) := by decide +kernel
theorem dX_init_85 : decode cX_init 85 = .ok (.return_, 1) := by decide +kernel
theorem dX_air_0 : decode cX_air 0 = .ok (.iload_n 1, 1) := by decide +kernel
theorem dX_air_1 : decode cX_air 1 = .ok (.invokestatic 66, 3) := by decide +kernel
theorem dX_air_4 : decode cX_air 4 = .ok (.ifCond .ne 9, 3) := by decide +kernel
theorem dX_air_7 : decode cX_air 7 = .ok (.aload_n 0, 1) := by decide +kernel
theorem dX_air_8 : decode cX_air 8 = .ok (.iconst (-1), 1) := by decide +kernel
theorem dX_air_9 : decode cX_air 9 = .ok (.invokevirtual 51, 3) := by decide +kernel
theorem dX_air_12 : decode cX_air 12 = .ok (.ireturn, 1) := by decide +kernel
theorem dX_air_13 : decode cX_air 13 = .ok (.iload_n 2, 1) := by decide +kernel
theorem dX_air_14 : decode cX_air 14 = .ok (.ifCond .ge 10, 3) := by decide +kernel
theorem dX_air_17 : decode cX_air 17 = .ok (.aload_n 0, 1) := by decide +kernel
theorem dX_air_18 : decode cX_air 18 = .ok (.bipush (-4), 2) := by decide +kernel
theorem dX_air_20 : decode cX_air 20 = .ok (.invokevirtual 51, 3) := by decide +kernel
theorem dX_air_23 : decode cX_air 23 = .ok (.ireturn, 1) := by decide +kernel
theorem dX_air_24 : decode cX_air 24 = .ok (.iload_n 2, 1) := by decide +kernel
theorem dX_air_25 : decode cX_air 25 = .ok (.bipush 99, 2) := by decide +kernel
theorem dX_air_27 : decode cX_air 27 = .ok (.if_icmp .le 10, 3) := by decide +kernel
theorem dX_air_30 : decode cX_air 30 = .ok (.aload_n 0, 1) := by decide +kernel
theorem dX_air_31 : decode cX_air 31 = .ok (.bipush (-6), 2) := by decide +kernel
theorem dX_air_33 : decode cX_air 33 = .ok (.invokevirtual 51, 3) := by decide +kernel
theorem dX_air_36 : decode cX_air 36 = .ok (.ireturn, 1) := by decide +kernel
theorem dX_air_37 : decode cX_air 37 = .ok (.aload_n 0, 1) := by decide +kernel
theorem dX_air_38 : decode cX_air 38 = .ok (.getfield 12, 3) := by decide +kernel
theorem dX_air_41 : decode cX_air 41 = .ok (.iload_n 1, 1) := by decide +kernel
theorem dX_air_42 : decode cX_air 42 = .ok (.aload_n 0, 1) := by decide +kernel
theorem dX_air_43 : decode cX_air 43 = .ok (.getfield 12, 3) := by decide +kernel
theorem dX_air_46 : decode cX_air 46 = .ok (.getfield 73, 3) := by decide +kernel
theorem dX_air_49 : decode cX_air 49 = .ok (.iload_n 1, 1) := by decide +kernel
theorem dX_air_50 : decode cX_air 50 = .ok (.iaload, 1) := by decide +kernel
theorem dX_air_51 : decode cX_air 51 = .ok (.iload_n 2, 1) := by decide +kernel
theorem dX_air_52 : decode cX_air 52 = .ok (.invokevirtual 132, 3) := by decide +kernel
theorem dX_air_55 : decode cX_air 55 = .ok (.ireturn, 1) := by decide +kernel
theorem dX_bare_0 : decode cX_bare 0 = .ok (.aload_n 0, 1) := by decide +kernel
theorem dX_bare_1 : decode cX_bare 1 = .ok (.getfield 12, 3) := by decide +kernel
theorem dX_bare_4 : decode cX_bare 4 = .ok (.invokevirtual 174, 3) := by decide +kernel
theorem dX_bare_7 : decode cX_bare 7 = .ok (.ireturn, 1) := by decide +kernel
theorem dX_bestNewLock_0 : decode cX_bestNewLock 0 = .ok (.bipush (-9), 2) := by decide +kernel
theorem dX_bestNewLock_2 : decode cX_bestNewLock 2 = .ok (.istore_n 1, 1) := by decide +kernel
theorem dX_bestNewLock_3 : decode cX_bestNewLock 3 = .ok (.ldc 207, 2) := by decide +kernel
theorem dX_bestNewLock_5 : decode cX_bestNewLock 5 = .ok (.istore_n 2, 1) := by decide +kernel
theorem dX_bestNewLock_6 : decode cX_bestNewLock 6 = .ok (.iconst 0, 1) := by decide +kernel
theorem dX_bestNewLock_7 : decode cX_bestNewLock 7 = .ok (.istore_n 3, 1) := by decide +kernel
theorem dX_bestNewLock_8 : decode cX_bestNewLock 8 = .ok (.iload_n 3, 1) := by decide +kernel
theorem dX_bestNewLock_9 : decode cX_bestNewLock 9 = .ok (.bipush 7, 2) := by decide +kernel
theorem dX_bestNewLock_11 : decode cX_bestNewLock 11 = .ok (.if_icmp .ge 57, 3) := by decide +kernel
theorem dX_bestNewLock_14 : decode cX_bestNewLock 14 = .ok (.iload_n 3, 1) := by decide +kernel
theorem dX_bestNewLock_15 : decode cX_bestNewLock 15 = .ok (.iconst 1, 1) := by decide +kernel
theorem dX_bestNewLock_16 : decode cX_bestNewLock 16 = .ok (.iadd, 1) := by decide +kernel
theorem dX_bestNewLock_17 : decode cX_bestNewLock 17 = .ok (.istore 4, 2) := by decide +kernel
theorem dX_bestNewLock_19 : decode cX_bestNewLock 19 = .ok (.iload 4, 2) := by decide +kernel
theorem dX_bestNewLock_21 : decode cX_bestNewLock 21 = .ok (.bipush 7, 2) := by decide +kernel
theorem dX_bestNewLock_23 : decode cX_bestNewLock 23 = .ok (.if_icmp .ge 39, 3) := by decide +kernel
theorem dX_bestNewLock_26 : decode cX_bestNewLock 26 = .ok (.aload_n 0, 1) := by decide +kernel
theorem dX_bestNewLock_27 : decode cX_bestNewLock 27 = .ok (.bipush 10, 2) := by decide +kernel
theorem dX_bestNewLock_29 : decode cX_bestNewLock 29 = .ok (.iload_n 3, 1) := by decide +kernel
theorem dX_bestNewLock_30 : decode cX_bestNewLock 30 = .ok (.imul, 1) := by decide +kernel
theorem dX_bestNewLock_31 : decode cX_bestNewLock 31 = .ok (.iload 4, 2) := by decide +kernel
theorem dX_bestNewLock_33 : decode cX_bestNewLock 33 = .ok (.iadd, 1) := by decide +kernel
theorem dX_bestNewLock_34 : decode cX_bestNewLock 34 = .ok (.invokevirtual 164, 3) := by decide +kernel
theorem dX_bestNewLock_37 : decode cX_bestNewLock 37 = .ok (.istore 5, 2) := by decide +kernel
theorem dX_bestNewLock_39 : decode cX_bestNewLock 39 = .ok (.iload 5, 2) := by decide +kernel
theorem dX_bestNewLock_41 : decode cX_bestNewLock 41 = .ok (.iload_n 2, 1) := by decide +kernel
theorem dX_bestNewLock_42 : decode cX_bestNewLock 42 = .ok (.if_icmp .ge 14, 3) := by decide +kernel
theorem dX_bestNewLock_45 : decode cX_bestNewLock 45 = .ok (.iload 5, 2) := by decide +kernel
theorem dX_bestNewLock_47 : decode cX_bestNewLock 47 = .ok (.istore_n 2, 1) := by decide +kernel
theorem dX_bestNewLock_48 : decode cX_bestNewLock 48 = .ok (.bipush 10, 2) := by decide +kernel
theorem dX_bestNewLock_50 : decode cX_bestNewLock 50 = .ok (.iload_n 3, 1) := by decide +kernel
theorem dX_bestNewLock_51 : decode cX_bestNewLock 51 = .ok (.imul, 1) := by decide +kernel
theorem dX_bestNewLock_52 : decode cX_bestNewLock 52 = .ok (.iload 4, 2) := by decide +kernel
theorem dX_bestNewLock_54 : decode cX_bestNewLock 54 = .ok (.iadd, 1) := by decide +kernel
theorem dX_bestNewLock_55 : decode cX_bestNewLock 55 = .ok (.istore_n 1, 1) := by decide +kernel
theorem dX_bestNewLock_56 : decode cX_bestNewLock 56 = .ok (.iinc 4 1, 3) := by decide +kernel
theorem dX_bestNewLock_59 : decode cX_bestNewLock 59 = .ok (.goto (-40), 3) := by decide +kernel
theorem dX_bestNewLock_62 : decode cX_bestNewLock 62 = .ok (.iinc 3 1, 3) := by decide +kernel
theorem dX_bestNewLock_65 : decode cX_bestNewLock 65 = .ok (.goto (-57), 3) := by decide +kernel
theorem dX_bestNewLock_68 : decode cX_bestNewLock 68 = .ok (.iload_n 1, 1) := by decide +kernel
theorem dX_bestNewLock_69 : decode cX_bestNewLock 69 = .ok (.ireturn, 1) := by decide +kernel
theorem dX_breathOfKind_0 : decode cX_breathOfKind 0 = .ok (.iload_n 0, 1) := by decide +kernel
theorem dX_breathOfKind_1 : decode cX_breathOfKind 1 = .ok (.tableswitch 59 0 5 #[39, 41, 43, 45, 47, 49], 39) := by decide +kernel
theorem dX_breathOfKind_40 : decode cX_breathOfKind 40 = .ok (.iconst 2, 1) := by decide +kernel
theorem dX_breathOfKind_41 : decode cX_breathOfKind 41 = .ok (.ireturn, 1) := by decide +kernel
theorem dX_breathOfKind_42 : decode cX_breathOfKind 42 = .ok (.iconst 1, 1) := by decide +kernel
theorem dX_breathOfKind_43 : decode cX_breathOfKind 43 = .ok (.ireturn, 1) := by decide +kernel
theorem dX_breathOfKind_44 : decode cX_breathOfKind 44 = .ok (.iconst 4, 1) := by decide +kernel
theorem dX_breathOfKind_45 : decode cX_breathOfKind 45 = .ok (.ireturn, 1) := by decide +kernel
theorem dX_breathOfKind_46 : decode cX_breathOfKind 46 = .ok (.iconst 3, 1) := by decide +kernel
theorem dX_breathOfKind_47 : decode cX_breathOfKind 47 = .ok (.ireturn, 1) := by decide +kernel
theorem dX_breathOfKind_48 : decode cX_breathOfKind 48 = .ok (.iconst 0, 1) := by decide +kernel
theorem dX_breathOfKind_49 : decode cX_breathOfKind 49 = .ok (.ireturn, 1) := by decide +kernel
theorem dX_breathOfKind_50 : decode cX_breathOfKind 50 = .ok (.iload_n 1, 1) := by decide +kernel
theorem dX_breathOfKind_51 : decode cX_breathOfKind 51 = .ok (.ifCond .eq 7, 3) := by decide +kernel
theorem dX_breathOfKind_54 : decode cX_breathOfKind 54 = .ok (.iconst 0, 1) := by decide +kernel
theorem dX_breathOfKind_55 : decode cX_breathOfKind 55 = .ok (.goto 4, 3) := by decide +kernel
theorem dX_breathOfKind_58 : decode cX_breathOfKind 58 = .ok (.iconst 1, 1) := by decide +kernel
theorem dX_breathOfKind_59 : decode cX_breathOfKind 59 = .ok (.ireturn, 1) := by decide +kernel
theorem dX_breathOfKind_60 : decode cX_breathOfKind 60 = .ok (.iconst 0, 1) := by decide +kernel
theorem dX_breathOfKind_61 : decode cX_breathOfKind 61 = .ok (.ireturn, 1) := by decide +kernel
theorem dX_burrow_0 : decode cX_burrow 0 = .ok (.aload_n 0, 1) := by decide +kernel
theorem dX_burrow_1 : decode cX_burrow 1 = .ok (.invokevirtual 62, 3) := by decide +kernel
theorem dX_burrow_4 : decode cX_burrow 4 = .ok (.istore_n 1, 1) := by decide +kernel
theorem dX_burrow_5 : decode cX_burrow 5 = .ok (.aload_n 0, 1) := by decide +kernel
theorem dX_burrow_6 : decode cX_burrow 6 = .ok (.getfield 29, 3) := by decide +kernel
theorem dX_burrow_9 : decode cX_burrow 9 = .ok (.iconst 0, 1) := by decide +kernel
theorem dX_burrow_10 : decode cX_burrow 10 = .ok (.putfield 55, 3) := by decide +kernel
theorem dX_burrow_13 : decode cX_burrow 13 = .ok (.iload_n 1, 1) := by decide +kernel
theorem dX_burrow_14 : decode cX_burrow 14 = .ok (.ireturn, 1) := by decide +kernel
theorem dX_clear_0 : decode cX_clear 0 = .ok (.aload_n 0, 1) := by decide +kernel
theorem dX_clear_1 : decode cX_clear 1 = .ok (.getfield 44, 3) := by decide +kernel
theorem dX_clear_4 : decode cX_clear 4 = .ok (.istore_n 1, 1) := by decide +kernel
theorem dX_clear_5 : decode cX_clear 5 = .ok (.aload_n 0, 1) := by decide +kernel
theorem dX_clear_6 : decode cX_clear 6 = .ok (.iconst 0, 1) := by decide +kernel
theorem dX_clear_7 : decode cX_clear 7 = .ok (.putfield 44, 3) := by decide +kernel
theorem dX_clear_10 : decode cX_clear 10 = .ok (.iload_n 1, 1) := by decide +kernel
theorem dX_clear_11 : decode cX_clear 11 = .ok (.ireturn, 1) := by decide +kernel
theorem dX_comesToMind_0 : decode cX_comesToMind 0 = .ok (.aload_n 0, 1) := by decide +kernel
theorem dX_comesToMind_1 : decode cX_comesToMind 1 = .ok (.getfield 29, 3) := by decide +kernel
theorem dX_comesToMind_4 : decode cX_comesToMind 4 = .ok (.iload_n 1, 1) := by decide +kernel
theorem dX_comesToMind_5 : decode cX_comesToMind 5 = .ok (.iconst 1, 1) := by decide +kernel
theorem dX_comesToMind_6 : decode cX_comesToMind 6 = .ok (.iadd, 1) := by decide +kernel
theorem dX_comesToMind_7 : decode cX_comesToMind 7 = .ok (.invokevirtual 217, 3) := by decide +kernel
theorem dX_comesToMind_10 : decode cX_comesToMind 10 = .ok (.istore_n 2, 1) := by decide +kernel
theorem dX_comesToMind_11 : decode cX_comesToMind 11 = .ok (.aload_n 0, 1) := by decide +kernel
theorem dX_comesToMind_12 : decode cX_comesToMind 12 = .ok (.getfield 29, 3) := by decide +kernel
theorem dX_comesToMind_15 : decode cX_comesToMind 15 = .ok (.iload_n 1, 1) := by decide +kernel
theorem dX_comesToMind_16 : decode cX_comesToMind 16 = .ok (.iconst 2, 1) := by decide +kernel
theorem dX_comesToMind_17 : decode cX_comesToMind 17 = .ok (.iadd, 1) := by decide +kernel
theorem dX_comesToMind_18 : decode cX_comesToMind 18 = .ok (.invokevirtual 217, 3) := by decide +kernel
theorem dX_comesToMind_21 : decode cX_comesToMind 21 = .ok (.istore_n 3, 1) := by decide +kernel
theorem dX_comesToMind_22 : decode cX_comesToMind 22 = .ok (.aload_n 0, 1) := by decide +kernel
theorem dX_comesToMind_23 : decode cX_comesToMind 23 = .ok (.getfield 29, 3) := by decide +kernel
theorem dX_comesToMind_26 : decode cX_comesToMind 26 = .ok (.iload_n 1, 1) := by decide +kernel
theorem dX_comesToMind_27 : decode cX_comesToMind 27 = .ok (.iconst 3, 1) := by decide +kernel
theorem dX_comesToMind_28 : decode cX_comesToMind 28 = .ok (.iadd, 1) := by decide +kernel
theorem dX_comesToMind_29 : decode cX_comesToMind 29 = .ok (.invokevirtual 217, 3) := by decide +kernel
theorem dX_comesToMind_32 : decode cX_comesToMind 32 = .ok (.istore 4, 2) := by decide +kernel
theorem dX_comesToMind_34 : decode cX_comesToMind 34 = .ok (.aload_n 0, 1) := by decide +kernel
theorem dX_comesToMind_35 : decode cX_comesToMind 35 = .ok (.getfield 29, 3) := by decide +kernel
theorem dX_comesToMind_38 : decode cX_comesToMind 38 = .ok (.iload_n 1, 1) := by decide +kernel
theorem dX_comesToMind_39 : decode cX_comesToMind 39 = .ok (.invokevirtual 220, 3) := by decide +kernel
theorem dX_comesToMind_42 : decode cX_comesToMind 42 = .ok (.tableswitch 145 107 115 #[69, 79, 145, 145, 145, 101, 145, 50, 135], 50) := by decide +kernel
theorem dX_comesToMind_92 : decode cX_comesToMind 92 = .ok (.aload_n 0, 1) := by decide +kernel
theorem dX_comesToMind_93 : decode cX_comesToMind 93 = .ok (.getfield 16, 3) := by decide +kernel
theorem dX_comesToMind_96 : decode cX_comesToMind 96 = .ok (.iload_n 2, 1) := by decide +kernel
theorem dX_comesToMind_97 : decode cX_comesToMind 97 = .ok (.aload_n 0, 1) := by decide +kernel
theorem dX_comesToMind_98 : decode cX_comesToMind 98 = .ok (.getfield 29, 3) := by decide +kernel
theorem dX_comesToMind_101 : decode cX_comesToMind 101 = .ok (.iload_n 1, 1) := by decide +kernel
theorem dX_comesToMind_102 : decode cX_comesToMind 102 = .ok (.iconst 3, 1) := by decide +kernel
theorem dX_comesToMind_103 : decode cX_comesToMind 103 = .ok (.iadd, 1) := by decide +kernel
theorem dX_comesToMind_104 : decode cX_comesToMind 104 = .ok (.invokevirtual 223, 3) := by decide +kernel
theorem dX_comesToMind_107 : decode cX_comesToMind 107 = .ok (.invokevirtual 226, 3) := by decide +kernel
theorem dX_comesToMind_110 : decode cX_comesToMind 110 = .ok (.ireturn, 1) := by decide +kernel
theorem dX_comesToMind_111 : decode cX_comesToMind 111 = .ok (.aload_n 0, 1) := by decide +kernel
theorem dX_comesToMind_112 : decode cX_comesToMind 112 = .ok (.getfield 16, 3) := by decide +kernel
theorem dX_comesToMind_115 : decode cX_comesToMind 115 = .ok (.iload_n 2, 1) := by decide +kernel
theorem dX_comesToMind_116 : decode cX_comesToMind 116 = .ok (.iload_n 3, 1) := by decide +kernel
theorem dX_comesToMind_117 : decode cX_comesToMind 117 = .ok (.invokevirtual 229, 3) := by decide +kernel
theorem dX_comesToMind_120 : decode cX_comesToMind 120 = .ok (.ireturn, 1) := by decide +kernel
theorem dX_comesToMind_121 : decode cX_comesToMind 121 = .ok (.aload_n 0, 1) := by decide +kernel
theorem dX_comesToMind_122 : decode cX_comesToMind 122 = .ok (.getfield 16, 3) := by decide +kernel
theorem dX_comesToMind_125 : decode cX_comesToMind 125 = .ok (.iload_n 2, 1) := by decide +kernel
theorem dX_comesToMind_126 : decode cX_comesToMind 126 = .ok (.iload_n 3, 1) := by decide +kernel
theorem dX_comesToMind_127 : decode cX_comesToMind 127 = .ok (.iload 4, 2) := by decide +kernel
theorem dX_comesToMind_129 : decode cX_comesToMind 129 = .ok (.aload_n 0, 1) := by decide +kernel
theorem dX_comesToMind_130 : decode cX_comesToMind 130 = .ok (.getfield 29, 3) := by decide +kernel
theorem dX_comesToMind_133 : decode cX_comesToMind 133 = .ok (.iload_n 1, 1) := by decide +kernel
theorem dX_comesToMind_134 : decode cX_comesToMind 134 = .ok (.iconst 4, 1) := by decide +kernel
theorem dX_comesToMind_135 : decode cX_comesToMind 135 = .ok (.iadd, 1) := by decide +kernel
theorem dX_comesToMind_136 : decode cX_comesToMind 136 = .ok (.invokevirtual 217, 3) := by decide +kernel
theorem dX_comesToMind_139 : decode cX_comesToMind 139 = .ok (.invokevirtual 232, 3) := by decide +kernel
theorem dX_comesToMind_142 : decode cX_comesToMind 142 = .ok (.ireturn, 1) := by decide +kernel
theorem dX_comesToMind_143 : decode cX_comesToMind 143 = .ok (.aload_n 0, 1) := by decide +kernel
theorem dX_comesToMind_144 : decode cX_comesToMind 144 = .ok (.getfield 16, 3) := by decide +kernel
theorem dX_comesToMind_147 : decode cX_comesToMind 147 = .ok (.aload_n 0, 1) := by decide +kernel
theorem dX_comesToMind_148 : decode cX_comesToMind 148 = .ok (.getfield 29, 3) := by decide +kernel
theorem dX_comesToMind_151 : decode cX_comesToMind 151 = .ok (.iload_n 1, 1) := by decide +kernel
theorem dX_comesToMind_152 : decode cX_comesToMind 152 = .ok (.iconst 1, 1) := by decide +kernel
theorem dX_comesToMind_153 : decode cX_comesToMind 153 = .ok (.iadd, 1) := by decide +kernel
theorem dX_comesToMind_154 : decode cX_comesToMind 154 = .ok (.invokevirtual 220, 3) := by decide +kernel
theorem dX_comesToMind_157 : decode cX_comesToMind 157 = .ok (.invokestatic 236, 3) := by decide +kernel
theorem dX_comesToMind_160 : decode cX_comesToMind 160 = .ok (.iload_n 3, 1) := by decide +kernel
theorem dX_comesToMind_161 : decode cX_comesToMind 161 = .ok (.iload 4, 2) := by decide +kernel
theorem dX_comesToMind_163 : decode cX_comesToMind 163 = .ok (.aload_n 0, 1) := by decide +kernel
theorem dX_comesToMind_164 : decode cX_comesToMind 164 = .ok (.getfield 29, 3) := by decide +kernel
theorem dX_comesToMind_167 : decode cX_comesToMind 167 = .ok (.iload_n 1, 1) := by decide +kernel
theorem dX_comesToMind_168 : decode cX_comesToMind 168 = .ok (.iconst 5, 1) := by decide +kernel
theorem dX_comesToMind_169 : decode cX_comesToMind 169 = .ok (.iadd, 1) := by decide +kernel
theorem dX_comesToMind_170 : decode cX_comesToMind 170 = .ok (.invokevirtual 223, 3) := by decide +kernel
theorem dX_comesToMind_173 : decode cX_comesToMind 173 = .ok (.invokevirtual 239, 3) := by decide +kernel
theorem dX_comesToMind_176 : decode cX_comesToMind 176 = .ok (.ireturn, 1) := by decide +kernel
theorem dX_comesToMind_177 : decode cX_comesToMind 177 = .ok (.aload_n 0, 1) := by decide +kernel
theorem dX_comesToMind_178 : decode cX_comesToMind 178 = .ok (.getfield 16, 3) := by decide +kernel
theorem dX_comesToMind_181 : decode cX_comesToMind 181 = .ok (.iload_n 2, 1) := by decide +kernel
theorem dX_comesToMind_182 : decode cX_comesToMind 182 = .ok (.iload_n 3, 1) := by decide +kernel
theorem dX_comesToMind_183 : decode cX_comesToMind 183 = .ok (.invokevirtual 242, 3) := by decide +kernel
theorem dX_comesToMind_186 : decode cX_comesToMind 186 = .ok (.ireturn, 1) := by decide +kernel
theorem dX_comesToMind_187 : decode cX_comesToMind 187 = .ok (.iconst 0, 1) := by decide +kernel
theorem dX_comesToMind_188 : decode cX_comesToMind 188 = .ok (.ireturn, 1) := by decide +kernel
theorem dX_count_0 : decode cX_count 0 = .ok (.iload_n 1, 1) := by decide +kernel
theorem dX_count_1 : decode cX_count 1 = .ok (.tableswitch 114 0 7 #[47, 55, 63, 71, 82, 93, 101, 106], 47) := by decide +kernel
theorem dX_count_48 : decode cX_count 48 = .ok (.aload_n 0, 1) := by decide +kernel
theorem dX_count_49 : decode cX_count 49 = .ok (.getfield 12, 3) := by decide +kernel
theorem dX_count_52 : decode cX_count 52 = .ok (.getfield 197, 3) := by decide +kernel
theorem dX_count_55 : decode cX_count 55 = .ok (.ireturn, 1) := by decide +kernel
theorem dX_count_56 : decode cX_count 56 = .ok (.aload_n 0, 1) := by decide +kernel
theorem dX_count_57 : decode cX_count 57 = .ok (.getfield 12, 3) := by decide +kernel
theorem dX_count_60 : decode cX_count 60 = .ok (.getfield 171, 3) := by decide +kernel
theorem dX_count_63 : decode cX_count 63 = .ok (.ireturn, 1) := by decide +kernel
theorem dX_count_64 : decode cX_count 64 = .ok (.aload_n 0, 1) := by decide +kernel
theorem dX_count_65 : decode cX_count 65 = .ok (.getfield 12, 3) := by decide +kernel
theorem dX_count_68 : decode cX_count 68 = .ok (.getfield 122, 3) := by decide +kernel
theorem dX_count_71 : decode cX_count 71 = .ok (.ireturn, 1) := by decide +kernel
theorem dX_count_72 : decode cX_count 72 = .ok (.aload_n 0, 1) := by decide +kernel
theorem dX_count_73 : decode cX_count 73 = .ok (.getfield 12, 3) := by decide +kernel
theorem dX_count_76 : decode cX_count 76 = .ok (.getfield 70, 3) := by decide +kernel
theorem dX_count_79 : decode cX_count 79 = .ok (.invokestatic 203, 3) := by decide +kernel
theorem dX_count_82 : decode cX_count 82 = .ok (.ireturn, 1) := by decide +kernel
theorem dX_count_83 : decode cX_count 83 = .ok (.aload_n 0, 1) := by decide +kernel
theorem dX_count_84 : decode cX_count 84 = .ok (.getfield 12, 3) := by decide +kernel
theorem dX_count_87 : decode cX_count 87 = .ok (.getfield 73, 3) := by decide +kernel
theorem dX_count_90 : decode cX_count 90 = .ok (.invokestatic 203, 3) := by decide +kernel
theorem dX_count_93 : decode cX_count 93 = .ok (.ireturn, 1) := by decide +kernel
theorem dX_count_94 : decode cX_count 94 = .ok (.aload_n 0, 1) := by decide +kernel
theorem dX_count_95 : decode cX_count 95 = .ok (.getfield 12, 3) := by decide +kernel
theorem dX_count_98 : decode cX_count 98 = .ok (.getfield 194, 3) := by decide +kernel
theorem dX_count_101 : decode cX_count 101 = .ok (.ireturn, 1) := by decide +kernel
theorem dX_count_102 : decode cX_count 102 = .ok (.aload_n 0, 1) := by decide +kernel
theorem dX_count_103 : decode cX_count 103 = .ok (.getfield 44, 3) := by decide +kernel
theorem dX_count_106 : decode cX_count 106 = .ok (.ireturn, 1) := by decide +kernel
theorem dX_count_107 : decode cX_count 107 = .ok (.aload_n 0, 1) := by decide +kernel
theorem dX_count_108 : decode cX_count 108 = .ok (.getfield 29, 3) := by decide +kernel
theorem dX_count_111 : decode cX_count 111 = .ok (.getfield 55, 3) := by decide +kernel
theorem dX_count_114 : decode cX_count 114 = .ok (.ireturn, 1) := by decide +kernel
theorem dX_count_115 : decode cX_count 115 = .ok (.iload_n 1, 1) := by decide +kernel
theorem dX_count_116 : decode cX_count 116 = .ok (.bipush 10, 2) := by decide +kernel
theorem dX_count_118 : decode cX_count 118 = .ok (.if_icmp .le 21, 3) := by decide +kernel
theorem dX_count_121 : decode cX_count 121 = .ok (.iload_n 1, 1) := by decide +kernel
theorem dX_count_122 : decode cX_count 122 = .ok (.bipush 16, 2) := by decide +kernel
theorem dX_count_124 : decode cX_count 124 = .ok (.if_icmp .gt 15, 3) := by decide +kernel
theorem dX_count_127 : decode cX_count 127 = .ok (.aload_n 0, 1) := by decide +kernel
theorem dX_count_128 : decode cX_count 128 = .ok (.getfield 48, 3) := by decide +kernel
theorem dX_count_131 : decode cX_count 131 = .ok (.iload_n 1, 1) := by decide +kernel
theorem dX_count_132 : decode cX_count 132 = .ok (.bipush 10, 2) := by decide +kernel
theorem dX_count_134 : decode cX_count 134 = .ok (.isub, 1) := by decide +kernel
theorem dX_count_135 : decode cX_count 135 = .ok (.iaload, 1) := by decide +kernel
theorem dX_count_136 : decode cX_count 136 = .ok (.goto 5, 3) := by decide +kernel
theorem dX_count_139 : decode cX_count 139 = .ok (.bipush (-9), 2) := by decide +kernel
theorem dX_count_141 : decode cX_count 141 = .ok (.ireturn, 1) := by decide +kernel
theorem dX_drawn_0 : decode cX_drawn 0 = .ok (.iload_n 1, 1) := by decide +kernel
theorem dX_drawn_1 : decode cX_drawn 1 = .ok (.ifCond .le 17, 3) := by decide +kernel
theorem dX_drawn_4 : decode cX_drawn 4 = .ok (.iload_n 0, 1) := by decide +kernel
theorem dX_drawn_5 : decode cX_drawn 5 = .ok (.ldc_w 262, 3) := by decide +kernel
theorem dX_drawn_8 : decode cX_drawn 8 = .ok (.iand, 1) := by decide +kernel
theorem dX_drawn_9 : decode cX_drawn 9 = .ok (.sipush 256, 3) := by decide +kernel
theorem dX_drawn_12 : decode cX_drawn 12 = .ok (.idiv, 1) := by decide +kernel
theorem dX_drawn_13 : decode cX_drawn 13 = .ok (.iload_n 1, 1) := by decide +kernel
theorem dX_drawn_14 : decode cX_drawn 14 = .ok (.irem, 1) := by decide +kernel
theorem dX_drawn_15 : decode cX_drawn 15 = .ok (.goto 4, 3) := by decide +kernel
theorem dX_drawn_18 : decode cX_drawn 18 = .ok (.iconst 0, 1) := by decide +kernel
theorem dX_drawn_19 : decode cX_drawn 19 = .ok (.ireturn, 1) := by decide +kernel
theorem dX_ends_0 : decode cX_ends 0 = .ok (.aload_n 0, 1) := by decide +kernel
theorem dX_ends_1 : decode cX_ends 1 = .ok (.invokevirtual 191, 3) := by decide +kernel
theorem dX_ends_4 : decode cX_ends 4 = .ok (.pop, 1) := by decide +kernel
theorem dX_ends_5 : decode cX_ends 5 = .ok (.aload_n 0, 1) := by decide +kernel
theorem dX_ends_6 : decode cX_ends 6 = .ok (.getfield 16, 3) := by decide +kernel
theorem dX_ends_9 : decode cX_ends 9 = .ok (.getfield 194, 3) := by decide +kernel
theorem dX_ends_12 : decode cX_ends 12 = .ok (.aload_n 0, 1) := by decide +kernel
theorem dX_ends_13 : decode cX_ends 13 = .ok (.getfield 12, 3) := by decide +kernel
theorem dX_ends_16 : decode cX_ends 16 = .ok (.getfield 194, 3) := by decide +kernel
theorem dX_ends_19 : decode cX_ends 19 = .ok (.isub, 1) := by decide +kernel
theorem dX_ends_20 : decode cX_ends 20 = .ok (.ireturn, 1) := by decide +kernel
theorem dX_errands_0 : decode cX_errands 0 = .ok (.iload_n 1, 1) := by decide +kernel
theorem dX_errands_1 : decode cX_errands 1 = .ok (.invokestatic 143, 3) := by decide +kernel
theorem dX_errands_4 : decode cX_errands 4 = .ok (.ifCond .eq 14, 3) := by decide +kernel
theorem dX_errands_7 : decode cX_errands 7 = .ok (.iload_n 2, 1) := by decide +kernel
theorem dX_errands_8 : decode cX_errands 8 = .ok (.ifCond .lt 10, 3) := by decide +kernel
theorem dX_errands_11 : decode cX_errands 11 = .ok (.iload_n 2, 1) := by decide +kernel
theorem dX_errands_12 : decode cX_errands 12 = .ok (.sipush 128, 3) := by decide +kernel
theorem dX_errands_15 : decode cX_errands 15 = .ok (.if_icmp .lt 9, 3) := by decide +kernel
theorem dX_errands_18 : decode cX_errands 18 = .ok (.aload_n 0, 1) := by decide +kernel
theorem dX_errands_19 : decode cX_errands 19 = .ok (.iconst (-1), 1) := by decide +kernel
theorem dX_errands_20 : decode cX_errands 20 = .ok (.invokevirtual 51, 3) := by decide +kernel
theorem dX_errands_23 : decode cX_errands 23 = .ok (.ireturn, 1) := by decide +kernel
theorem dX_errands_24 : decode cX_errands 24 = .ok (.aload_n 0, 1) := by decide +kernel
theorem dX_errands_25 : decode cX_errands 25 = .ok (.getfield 36, 3) := by decide +kernel
theorem dX_errands_28 : decode cX_errands 28 = .ok (.aload_n 0, 1) := by decide +kernel
theorem dX_errands_29 : decode cX_errands 29 = .ok (.getfield 12, 3) := by decide +kernel
theorem dX_errands_32 : decode cX_errands 32 = .ok (.invokevirtual 146, 3) := by decide +kernel
theorem dX_errands_35 : decode cX_errands 35 = .ok (.aload_n 0, 1) := by decide +kernel
theorem dX_errands_36 : decode cX_errands 36 = .ok (.getfield 36, 3) := by decide +kernel
theorem dX_errands_39 : decode cX_errands 39 = .ok (.iload_n 1, 1) := by decide +kernel
theorem dX_errands_40 : decode cX_errands 40 = .ok (.iload_n 2, 1) := by decide +kernel
theorem dX_errands_41 : decode cX_errands 41 = .ok (.invokevirtual 167, 3) := by decide +kernel
theorem dX_errands_44 : decode cX_errands 44 = .ok (.invokestatic 152, 3) := by decide +kernel
theorem dX_errands_47 : decode cX_errands 47 = .ok (.ireturn, 1) := by decide +kernel
theorem dX_farthest_0 : decode cX_farthest 0 = .ok (.iload_n 1, 1) := by decide +kernel
theorem dX_farthest_1 : decode cX_farthest 1 = .ok (.ifCond .eq 15, 3) := by decide +kernel
theorem dX_farthest_4 : decode cX_farthest 4 = .ok (.iload_n 1, 1) := by decide +kernel
theorem dX_farthest_5 : decode cX_farthest 5 = .ok (.iconst 1, 1) := by decide +kernel
theorem dX_farthest_6 : decode cX_farthest 6 = .ok (.if_icmp .eq 10, 3) := by decide +kernel
theorem dX_farthest_9 : decode cX_farthest 9 = .ok (.aload_n 0, 1) := by decide +kernel
theorem dX_farthest_10 : decode cX_farthest 10 = .ok (.bipush (-2), 2) := by decide +kernel
theorem dX_farthest_12 : decode cX_farthest 12 = .ok (.invokevirtual 51, 3) := by decide +kernel
theorem dX_farthest_15 : decode cX_farthest 15 = .ok (.ireturn, 1) := by decide +kernel
theorem dX_farthest_16 : decode cX_farthest 16 = .ok (.aload_n 0, 1) := by decide +kernel
theorem dX_farthest_17 : decode cX_farthest 17 = .ok (.getfield 36, 3) := by decide +kernel
theorem dX_farthest_20 : decode cX_farthest 20 = .ok (.aload_n 0, 1) := by decide +kernel
theorem dX_farthest_21 : decode cX_farthest 21 = .ok (.getfield 12, 3) := by decide +kernel
theorem dX_farthest_24 : decode cX_farthest 24 = .ok (.invokevirtual 146, 3) := by decide +kernel
theorem dX_farthest_27 : decode cX_farthest 27 = .ok (.aload_n 0, 1) := by decide +kernel
theorem dX_farthest_28 : decode cX_farthest 28 = .ok (.getfield 36, 3) := by decide +kernel
theorem dX_farthest_31 : decode cX_farthest 31 = .ok (.invokevirtual 158, 3) := by decide +kernel
theorem dX_farthest_34 : decode cX_farthest 34 = .ok (.istore_n 2, 1) := by decide +kernel
theorem dX_farthest_35 : decode cX_farthest 35 = .ok (.iload_n 2, 1) := by decide +kernel
theorem dX_farthest_36 : decode cX_farthest 36 = .ok (.invokestatic 66, 3) := by decide +kernel
theorem dX_farthest_39 : decode cX_farthest 39 = .ok (.ifCond .ne 6, 3) := by decide +kernel
theorem dX_farthest_42 : decode cX_farthest 42 = .ok (.bipush (-9), 2) := by decide +kernel
theorem dX_farthest_44 : decode cX_farthest 44 = .ok (.ireturn, 1) := by decide +kernel
theorem dX_farthest_45 : decode cX_farthest 45 = .ok (.iload_n 1, 1) := by decide +kernel
theorem dX_farthest_46 : decode cX_farthest 46 = .ok (.ifCond .ne 7, 3) := by decide +kernel
theorem dX_farthest_49 : decode cX_farthest 49 = .ok (.iload_n 2, 1) := by decide +kernel
theorem dX_farthest_50 : decode cX_farthest 50 = .ok (.goto 15, 3) := by decide +kernel
theorem dX_farthest_53 : decode cX_farthest 53 = .ok (.aload_n 0, 1) := by decide +kernel
theorem dX_farthest_54 : decode cX_farthest 54 = .ok (.getfield 36, 3) := by decide +kernel
theorem dX_farthest_57 : decode cX_farthest 57 = .ok (.getfield 149, 3) := by decide +kernel
theorem dX_farthest_60 : decode cX_farthest 60 = .ok (.bipush 6, 2) := by decide +kernel
theorem dX_farthest_62 : decode cX_farthest 62 = .ok (.aaload, 1) := by decide +kernel
theorem dX_farthest_63 : decode cX_farthest 63 = .ok (.iload_n 2, 1) := by decide +kernel
theorem dX_farthest_64 : decode cX_farthest 64 = .ok (.iaload, 1) := by decide +kernel
theorem dX_farthest_65 : decode cX_farthest 65 = .ok (.ireturn, 1) := by decide +kernel
theorem dX_firstToLeak_0 : decode cX_firstToLeak 0 = .ok (.aload_n 0, 1) := by decide +kernel
theorem dX_firstToLeak_1 : decode cX_firstToLeak 1 = .ok (.iload_n 1, 1) := by decide +kernel
theorem dX_firstToLeak_2 : decode cX_firstToLeak 2 = .ok (.invokevirtual 188, 3) := by decide +kernel
theorem dX_firstToLeak_5 : decode cX_firstToLeak 5 = .ok (.istore_n 2, 1) := by decide +kernel
theorem dX_firstToLeak_6 : decode cX_firstToLeak 6 = .ok (.iconst 0, 1) := by decide +kernel
theorem dX_firstToLeak_7 : decode cX_firstToLeak 7 = .ok (.istore_n 3, 1) := by decide +kernel
theorem dX_firstToLeak_8 : decode cX_firstToLeak 8 = .ok (.iload_n 3, 1) := by decide +kernel
theorem dX_firstToLeak_9 : decode cX_firstToLeak 9 = .ok (.bipush 6, 2) := by decide +kernel
theorem dX_firstToLeak_11 : decode cX_firstToLeak 11 = .ok (.if_icmp .ge 45, 3) := by decide +kernel
theorem dX_firstToLeak_14 : decode cX_firstToLeak 14 = .ok (.iconst 0, 1) := by decide +kernel
theorem dX_firstToLeak_15 : decode cX_firstToLeak 15 = .ok (.istore 4, 2) := by decide +kernel
theorem dX_firstToLeak_17 : decode cX_firstToLeak 17 = .ok (.iload 4, 2) := by decide +kernel
theorem dX_firstToLeak_19 : decode cX_firstToLeak 19 = .ok (.bipush 9, 2) := by decide +kernel
theorem dX_firstToLeak_21 : decode cX_firstToLeak 21 = .ok (.if_icmp .gt 29, 3) := by decide +kernel
theorem dX_firstToLeak_24 : decode cX_firstToLeak 24 = .ok (.aload_n 0, 1) := by decide +kernel
theorem dX_firstToLeak_25 : decode cX_firstToLeak 25 = .ok (.iload_n 3, 1) := by decide +kernel
theorem dX_firstToLeak_26 : decode cX_firstToLeak 26 = .ok (.iload 4, 2) := by decide +kernel
theorem dX_firstToLeak_28 : decode cX_firstToLeak 28 = .ok (.iload_n 1, 1) := by decide +kernel
theorem dX_firstToLeak_29 : decode cX_firstToLeak 29 = .ok (.iload_n 2, 1) := by decide +kernel
theorem dX_firstToLeak_30 : decode cX_firstToLeak 30 = .ok (.invokevirtual 251, 3) := by decide +kernel
theorem dX_firstToLeak_33 : decode cX_firstToLeak 33 = .ok (.ifCond .eq 11, 3) := by decide +kernel
theorem dX_firstToLeak_36 : decode cX_firstToLeak 36 = .ok (.bipush 10, 2) := by decide +kernel
theorem dX_firstToLeak_38 : decode cX_firstToLeak 38 = .ok (.iload_n 3, 1) := by decide +kernel
theorem dX_firstToLeak_39 : decode cX_firstToLeak 39 = .ok (.imul, 1) := by decide +kernel
theorem dX_firstToLeak_40 : decode cX_firstToLeak 40 = .ok (.iload 4, 2) := by decide +kernel
theorem dX_firstToLeak_42 : decode cX_firstToLeak 42 = .ok (.iadd, 1) := by decide +kernel
theorem dX_firstToLeak_43 : decode cX_firstToLeak 43 = .ok (.ireturn, 1) := by decide +kernel
theorem dX_firstToLeak_44 : decode cX_firstToLeak 44 = .ok (.iinc 4 1, 3) := by decide +kernel
theorem dX_firstToLeak_47 : decode cX_firstToLeak 47 = .ok (.goto (-30), 3) := by decide +kernel
theorem dX_firstToLeak_50 : decode cX_firstToLeak 50 = .ok (.iinc 3 1, 3) := by decide +kernel
theorem dX_firstToLeak_53 : decode cX_firstToLeak 53 = .ok (.goto (-45), 3) := by decide +kernel
theorem dX_firstToLeak_56 : decode cX_firstToLeak 56 = .ok (.bipush (-9), 2) := by decide +kernel
theorem dX_firstToLeak_58 : decode cX_firstToLeak 58 = .ok (.ireturn, 1) := by decide +kernel
theorem dX_fitted_0 : decode cX_fitted 0 = .ok (.aload_n 0, 1) := by decide +kernel
theorem dX_fitted_1 : decode cX_fitted 1 = .ok (.getfield 12, 3) := by decide +kernel
theorem dX_fitted_4 : decode cX_fitted 4 = .ok (.getfield 171, 3) := by decide +kernel
theorem dX_fitted_7 : decode cX_fitted 7 = .ok (.aload_n 0, 1) := by decide +kernel
theorem dX_fitted_8 : decode cX_fitted 8 = .ok (.getfield 12, 3) := by decide +kernel
theorem dX_fitted_11 : decode cX_fitted 11 = .ok (.invokevirtual 174, 3) := by decide +kernel
theorem dX_fitted_14 : decode cX_fitted 14 = .ok (.invokestatic 177, 3) := by decide +kernel
theorem dX_fitted_17 : decode cX_fitted 17 = .ok (.isub, 1) := by decide +kernel
theorem dX_fitted_18 : decode cX_fitted 18 = .ok (.ireturn, 1) := by decide +kernel
theorem dX_gasps_0 : decode cX_gasps 0 = .ok (.iload_n 1, 1) := by decide +kernel
theorem dX_gasps_1 : decode cX_gasps 1 = .ok (.ifCond .ge 10, 3) := by decide +kernel
theorem dX_gasps_4 : decode cX_gasps 4 = .ok (.aload_n 0, 1) := by decide +kernel
theorem dX_gasps_5 : decode cX_gasps 5 = .ok (.bipush (-4), 2) := by decide +kernel
theorem dX_gasps_7 : decode cX_gasps 7 = .ok (.invokevirtual 51, 3) := by decide +kernel
theorem dX_gasps_10 : decode cX_gasps 10 = .ok (.ireturn, 1) := by decide +kernel
theorem dX_gasps_11 : decode cX_gasps 11 = .ok (.iload_n 1, 1) := by decide +kernel
theorem dX_gasps_12 : decode cX_gasps 12 = .ok (.bipush 99, 2) := by decide +kernel
theorem dX_gasps_14 : decode cX_gasps 14 = .ok (.if_icmp .le 10, 3) := by decide +kernel
theorem dX_gasps_17 : decode cX_gasps 17 = .ok (.aload_n 0, 1) := by decide +kernel
theorem dX_gasps_18 : decode cX_gasps 18 = .ok (.bipush (-6), 2) := by decide +kernel
theorem dX_gasps_20 : decode cX_gasps 20 = .ok (.invokevirtual 51, 3) := by decide +kernel
theorem dX_gasps_23 : decode cX_gasps 23 = .ok (.ireturn, 1) := by decide +kernel
theorem dX_gasps_24 : decode cX_gasps 24 = .ok (.aload_n 0, 1) := by decide +kernel
theorem dX_gasps_25 : decode cX_gasps 25 = .ok (.getfield 16, 3) := by decide +kernel
theorem dX_gasps_28 : decode cX_gasps 28 = .ok (.aload_n 0, 1) := by decide +kernel
theorem dX_gasps_29 : decode cX_gasps 29 = .ok (.getfield 12, 3) := by decide +kernel
theorem dX_gasps_32 : decode cX_gasps 32 = .ok (.invokevirtual 136, 3) := by decide +kernel
theorem dX_gasps_35 : decode cX_gasps 35 = .ok (.aload_n 0, 1) := by decide +kernel
theorem dX_gasps_36 : decode cX_gasps 36 = .ok (.getfield 16, 3) := by decide +kernel
theorem dX_gasps_39 : decode cX_gasps 39 = .ok (.iload_n 1, 1) := by decide +kernel
theorem dX_gasps_40 : decode cX_gasps 40 = .ok (.invokevirtual 129, 3) := by decide +kernel
theorem dX_gasps_43 : decode cX_gasps 43 = .ok (.ireturn, 1) := by decide +kernel
theorem dX_gauges_0 : decode cX_gauges 0 = .ok (.iload_n 1, 1) := by decide +kernel
theorem dX_gauges_1 : decode cX_gauges 1 = .ok (.ifCond .ge 10, 3) := by decide +kernel
theorem dX_gauges_4 : decode cX_gauges 4 = .ok (.aload_n 0, 1) := by decide +kernel
theorem dX_gauges_5 : decode cX_gauges 5 = .ok (.bipush (-4), 2) := by decide +kernel
theorem dX_gauges_7 : decode cX_gauges 7 = .ok (.invokevirtual 51, 3) := by decide +kernel
theorem dX_gauges_10 : decode cX_gauges 10 = .ok (.ireturn, 1) := by decide +kernel
theorem dX_gauges_11 : decode cX_gauges 11 = .ok (.iload_n 1, 1) := by decide +kernel
theorem dX_gauges_12 : decode cX_gauges 12 = .ok (.bipush 99, 2) := by decide +kernel
theorem dX_gauges_14 : decode cX_gauges 14 = .ok (.if_icmp .le 10, 3) := by decide +kernel
theorem dX_gauges_17 : decode cX_gauges 17 = .ok (.aload_n 0, 1) := by decide +kernel
theorem dX_gauges_18 : decode cX_gauges 18 = .ok (.bipush (-6), 2) := by decide +kernel
theorem dX_gauges_20 : decode cX_gauges 20 = .ok (.invokevirtual 51, 3) := by decide +kernel
theorem dX_gauges_23 : decode cX_gauges 23 = .ok (.ireturn, 1) := by decide +kernel
theorem dX_gauges_24 : decode cX_gauges 24 = .ok (.iload_n 2, 1) := by decide +kernel
theorem dX_gauges_25 : decode cX_gauges 25 = .ok (.ifCond .lt 8, 3) := by decide +kernel
theorem dX_gauges_28 : decode cX_gauges 28 = .ok (.iload_n 2, 1) := by decide +kernel
theorem dX_gauges_29 : decode cX_gauges 29 = .ok (.iconst 2, 1) := by decide +kernel
theorem dX_gauges_30 : decode cX_gauges 30 = .ok (.if_icmp .le 10, 3) := by decide +kernel
theorem dX_gauges_33 : decode cX_gauges 33 = .ok (.aload_n 0, 1) := by decide +kernel
theorem dX_gauges_34 : decode cX_gauges 34 = .ok (.bipush (-2), 2) := by decide +kernel
theorem dX_gauges_36 : decode cX_gauges 36 = .ok (.invokevirtual 51, 3) := by decide +kernel
theorem dX_gauges_39 : decode cX_gauges 39 = .ok (.ireturn, 1) := by decide +kernel
theorem dX_gauges_40 : decode cX_gauges 40 = .ok (.aload_n 0, 1) := by decide +kernel
theorem dX_gauges_41 : decode cX_gauges 41 = .ok (.getfield 44, 3) := by decide +kernel
theorem dX_gauges_44 : decode cX_gauges 44 = .ok (.bipush 6, 2) := by decide +kernel
theorem dX_gauges_46 : decode cX_gauges 46 = .ok (.if_icmp .eq 10, 3) := by decide +kernel
theorem dX_gauges_49 : decode cX_gauges 49 = .ok (.aload_n 0, 1) := by decide +kernel
theorem dX_gauges_50 : decode cX_gauges 50 = .ok (.bipush (-3), 2) := by decide +kernel
theorem dX_gauges_52 : decode cX_gauges 52 = .ok (.invokevirtual 51, 3) := by decide +kernel
theorem dX_gauges_55 : decode cX_gauges 55 = .ok (.ireturn, 1) := by decide +kernel
theorem dX_gauges_56 : decode cX_gauges 56 = .ok (.iload_n 2, 1) := by decide +kernel
theorem dX_gauges_57 : decode cX_gauges 57 = .ok (.lookupswitch 39 #[(0, 27), (1, 33)], 27) := by decide +kernel
theorem dX_gauges_84 : decode cX_gauges 84 = .ok (.aload_n 0, 1) := by decide +kernel
theorem dX_gauges_85 : decode cX_gauges 85 = .ok (.iload_n 1, 1) := by decide +kernel
theorem dX_gauges_86 : decode cX_gauges 86 = .ok (.invokevirtual 182, 3) := by decide +kernel
theorem dX_gauges_89 : decode cX_gauges 89 = .ok (.ireturn, 1) := by decide +kernel
theorem dX_gauges_90 : decode cX_gauges 90 = .ok (.aload_n 0, 1) := by decide +kernel
theorem dX_gauges_91 : decode cX_gauges 91 = .ok (.iload_n 1, 1) := by decide +kernel
theorem dX_gauges_92 : decode cX_gauges 92 = .ok (.invokevirtual 185, 3) := by decide +kernel
theorem dX_gauges_95 : decode cX_gauges 95 = .ok (.ireturn, 1) := by decide +kernel
theorem dX_gauges_96 : decode cX_gauges 96 = .ok (.aload_n 0, 1) := by decide +kernel
theorem dX_gauges_97 : decode cX_gauges 97 = .ok (.iload_n 1, 1) := by decide +kernel
theorem dX_gauges_98 : decode cX_gauges 98 = .ok (.invokevirtual 188, 3) := by decide +kernel
theorem dX_gauges_101 : decode cX_gauges 101 = .ok (.ifCond .ne 7, 3) := by decide +kernel
theorem dX_gauges_104 : decode cX_gauges 104 = .ok (.iconst 1, 1) := by decide +kernel
theorem dX_gauges_105 : decode cX_gauges 105 = .ok (.goto 4, 3) := by decide +kernel
theorem dX_gauges_108 : decode cX_gauges 108 = .ok (.iconst 0, 1) := by decide +kernel
theorem dX_gauges_109 : decode cX_gauges 109 = .ok (.ireturn, 1) := by decide +kernel
theorem dX_image_0 : decode cX_image 0 = .ok (.aload_n 0, 1) := by decide +kernel
theorem dX_image_1 : decode cX_image 1 = .ok (.getfield 19, 3) := by decide +kernel
theorem dX_image_4 : decode cX_image 4 = .ok (.aload_n 0, 1) := by decide +kernel
theorem dX_image_5 : decode cX_image 5 = .ok (.getfield 12, 3) := by decide +kernel
theorem dX_image_8 : decode cX_image 8 = .ok (.invokevirtual 136, 3) := by decide +kernel
theorem dX_image_11 : decode cX_image 11 = .ok (.aload_n 0, 1) := by decide +kernel
theorem dX_image_12 : decode cX_image 12 = .ok (.iconst 1, 1) := by decide +kernel
theorem dX_image_13 : decode cX_image 13 = .ok (.putfield 22, 3) := by decide +kernel
theorem dX_image_16 : decode cX_image 16 = .ok (.aload_n 0, 1) := by decide +kernel
theorem dX_image_17 : decode cX_image 17 = .ok (.getfield 12, 3) := by decide +kernel
theorem dX_image_20 : decode cX_image 20 = .ok (.getfield 122, 3) := by decide +kernel
theorem dX_image_23 : decode cX_image 23 = .ok (.ireturn, 1) := by decide +kernel
theorem dX_isAsTold_0 : decode cX_isAsTold 0 = .ok (.iload_n 1, 1) := by decide +kernel
theorem dX_isAsTold_1 : decode cX_isAsTold 1 = .ok (.invokestatic 66, 3) := by decide +kernel
theorem dX_isAsTold_4 : decode cX_isAsTold 4 = .ok (.ifCond .eq 26, 3) := by decide +kernel
theorem dX_isAsTold_7 : decode cX_isAsTold 7 = .ok (.aload_n 0, 1) := by decide +kernel
theorem dX_isAsTold_8 : decode cX_isAsTold 8 = .ok (.getfield 12, 3) := by decide +kernel
theorem dX_isAsTold_11 : decode cX_isAsTold 11 = .ok (.iload_n 1, 1) := by decide +kernel
theorem dX_isAsTold_12 : decode cX_isAsTold 12 = .ok (.iload_n 2, 1) := by decide +kernel
theorem dX_isAsTold_13 : decode cX_isAsTold 13 = .ok (.iload_n 3, 1) := by decide +kernel
theorem dX_isAsTold_14 : decode cX_isAsTold 14 = .ok (.invokevirtual 132, 3) := by decide +kernel
theorem dX_isAsTold_17 : decode cX_isAsTold 17 = .ok (.aload_n 0, 1) := by decide +kernel
theorem dX_isAsTold_18 : decode cX_isAsTold 18 = .ok (.getfield 40, 3) := by decide +kernel
theorem dX_isAsTold_21 : decode cX_isAsTold 21 = .ok (.iload_n 1, 1) := by decide +kernel
theorem dX_isAsTold_22 : decode cX_isAsTold 22 = .ok (.iaload, 1) := by decide +kernel
theorem dX_isAsTold_23 : decode cX_isAsTold 23 = .ok (.if_icmp .ne 7, 3) := by decide +kernel
theorem dX_isAsTold_26 : decode cX_isAsTold 26 = .ok (.iconst 1, 1) := by decide +kernel
theorem dX_isAsTold_27 : decode cX_isAsTold 27 = .ok (.goto 4, 3) := by decide +kernel
theorem dX_isAsTold_30 : decode cX_isAsTold 30 = .ok (.iconst 0, 1) := by decide +kernel
theorem dX_isAsTold_31 : decode cX_isAsTold 31 = .ok (.ireturn, 1) := by decide +kernel
theorem dX_isPlace_0 : decode cX_isPlace 0 = .ok (.iload_n 0, 1) := by decide +kernel
theorem dX_isPlace_1 : decode cX_isPlace 1 = .ok (.ifCond .lt 13, 3) := by decide +kernel
theorem dX_isPlace_4 : decode cX_isPlace 4 = .ok (.iload_n 0, 1) := by decide +kernel
theorem dX_isPlace_5 : decode cX_isPlace 5 = .ok (.bipush 7, 2) := by decide +kernel
theorem dX_isPlace_7 : decode cX_isPlace 7 = .ok (.if_icmp .ge 7, 3) := by decide +kernel
theorem dX_isPlace_10 : decode cX_isPlace 10 = .ok (.iconst 1, 1) := by decide +kernel
theorem dX_isPlace_11 : decode cX_isPlace 11 = .ok (.goto 4, 3) := by decide +kernel
theorem dX_isPlace_14 : decode cX_isPlace 14 = .ok (.iconst 0, 1) := by decide +kernel
theorem dX_isPlace_15 : decode cX_isPlace 15 = .ok (.ireturn, 1) := by decide +kernel
theorem dX_isRoom_0 : decode cX_isRoom 0 = .ok (.iload_n 0, 1) := by decide +kernel
theorem dX_isRoom_1 : decode cX_isRoom 1 = .ok (.ifCond .lt 13, 3) := by decide +kernel
theorem dX_isRoom_4 : decode cX_isRoom 4 = .ok (.iload_n 0, 1) := by decide +kernel
theorem dX_isRoom_5 : decode cX_isRoom 5 = .ok (.bipush 6, 2) := by decide +kernel
theorem dX_isRoom_7 : decode cX_isRoom 7 = .ok (.if_icmp .ge 7, 3) := by decide +kernel
theorem dX_isRoom_10 : decode cX_isRoom 10 = .ok (.iconst 1, 1) := by decide +kernel
theorem dX_isRoom_11 : decode cX_isRoom 11 = .ok (.goto 4, 3) := by decide +kernel
theorem dX_isRoom_14 : decode cX_isRoom 14 = .ok (.iconst 0, 1) := by decide +kernel
theorem dX_isRoom_15 : decode cX_isRoom 15 = .ok (.ireturn, 1) := by decide +kernel
theorem dX_judge_0 : decode cX_judge 0 = .ok (.aload_n 0, 1) := by decide +kernel
theorem dX_judge_1 : decode cX_judge 1 = .ok (.invokevirtual 191, 3) := by decide +kernel
theorem dX_judge_4 : decode cX_judge 4 = .ok (.istore_n 1, 1) := by decide +kernel
theorem dX_judge_5 : decode cX_judge 5 = .ok (.iload_n 1, 1) := by decide +kernel
theorem dX_judge_6 : decode cX_judge 6 = .ok (.aload_n 0, 1) := by decide +kernel
theorem dX_judge_7 : decode cX_judge 7 = .ok (.getfield 44, 3) := by decide +kernel
theorem dX_judge_10 : decode cX_judge 10 = .ok (.if_icmp .ge 7, 3) := by decide +kernel
theorem dX_judge_13 : decode cX_judge 13 = .ok (.iload_n 1, 1) := by decide +kernel
theorem dX_judge_14 : decode cX_judge 14 = .ok (.goto 5, 3) := by decide +kernel
theorem dX_judge_17 : decode cX_judge 17 = .ok (.bipush (-9), 2) := by decide +kernel
theorem dX_judge_19 : decode cX_judge 19 = .ok (.ireturn, 1) := by decide +kernel
theorem dX_kindOf_0 : decode cX_kindOf 0 = .ok (.iload_n 0, 1) := by decide +kernel
theorem dX_kindOf_1 : decode cX_kindOf 1 = .ok (.lookupswitch 71 #[(99, 61), (104, 65), (112, 59), (115, 69), (116, 67), (119, 63)], 59) := by decide +kernel
theorem dX_kindOf_60 : decode cX_kindOf 60 = .ok (.iconst 0, 1) := by decide +kernel
theorem dX_kindOf_61 : decode cX_kindOf 61 = .ok (.ireturn, 1) := by decide +kernel
theorem dX_kindOf_62 : decode cX_kindOf 62 = .ok (.iconst 1, 1) := by decide +kernel
theorem dX_kindOf_63 : decode cX_kindOf 63 = .ok (.ireturn, 1) := by decide +kernel
theorem dX_kindOf_64 : decode cX_kindOf 64 = .ok (.iconst 2, 1) := by decide +kernel
theorem dX_kindOf_65 : decode cX_kindOf 65 = .ok (.ireturn, 1) := by decide +kernel
theorem dX_kindOf_66 : decode cX_kindOf 66 = .ok (.iconst 3, 1) := by decide +kernel
theorem dX_kindOf_67 : decode cX_kindOf 67 = .ok (.ireturn, 1) := by decide +kernel
theorem dX_kindOf_68 : decode cX_kindOf 68 = .ok (.iconst 4, 1) := by decide +kernel
theorem dX_kindOf_69 : decode cX_kindOf 69 = .ok (.ireturn, 1) := by decide +kernel
theorem dX_kindOf_70 : decode cX_kindOf 70 = .ok (.iconst 5, 1) := by decide +kernel
theorem dX_kindOf_71 : decode cX_kindOf 71 = .ok (.ireturn, 1) := by decide +kernel
theorem dX_kindOf_72 : decode cX_kindOf 72 = .ok (.iconst (-1), 1) := by decide +kernel
theorem dX_kindOf_73 : decode cX_kindOf 73 = .ok (.ireturn, 1) := by decide +kernel
theorem dX_leak_0 : decode cX_leak 0 = .ok (.iload_n 1, 1) := by decide +kernel
theorem dX_leak_1 : decode cX_leak 1 = .ok (.invokestatic 66, 3) := by decide +kernel
theorem dX_leak_4 : decode cX_leak 4 = .ok (.ifCond .ne 9, 3) := by decide +kernel
theorem dX_leak_7 : decode cX_leak 7 = .ok (.aload_n 0, 1) := by decide +kernel
theorem dX_leak_8 : decode cX_leak 8 = .ok (.iconst (-1), 1) := by decide +kernel
theorem dX_leak_9 : decode cX_leak 9 = .ok (.invokevirtual 51, 3) := by decide +kernel
theorem dX_leak_12 : decode cX_leak 12 = .ok (.ireturn, 1) := by decide +kernel
theorem dX_leak_13 : decode cX_leak 13 = .ok (.iload_n 2, 1) := by decide +kernel
theorem dX_leak_14 : decode cX_leak 14 = .ok (.ifCond .ge 10, 3) := by decide +kernel
theorem dX_leak_17 : decode cX_leak 17 = .ok (.aload_n 0, 1) := by decide +kernel
theorem dX_leak_18 : decode cX_leak 18 = .ok (.bipush (-4), 2) := by decide +kernel
theorem dX_leak_20 : decode cX_leak 20 = .ok (.invokevirtual 51, 3) := by decide +kernel
theorem dX_leak_23 : decode cX_leak 23 = .ok (.ireturn, 1) := by decide +kernel
theorem dX_leak_24 : decode cX_leak 24 = .ok (.iload_n 2, 1) := by decide +kernel
theorem dX_leak_25 : decode cX_leak 25 = .ok (.bipush 9, 2) := by decide +kernel
theorem dX_leak_27 : decode cX_leak 27 = .ok (.if_icmp .le 10, 3) := by decide +kernel
theorem dX_leak_30 : decode cX_leak 30 = .ok (.aload_n 0, 1) := by decide +kernel
theorem dX_leak_31 : decode cX_leak 31 = .ok (.bipush (-6), 2) := by decide +kernel
theorem dX_leak_33 : decode cX_leak 33 = .ok (.invokevirtual 51, 3) := by decide +kernel
theorem dX_leak_36 : decode cX_leak 36 = .ok (.ireturn, 1) := by decide +kernel
theorem dX_leak_37 : decode cX_leak 37 = .ok (.aload_n 0, 1) := by decide +kernel
theorem dX_leak_38 : decode cX_leak 38 = .ok (.getfield 12, 3) := by decide +kernel
theorem dX_leak_41 : decode cX_leak 41 = .ok (.getfield 73, 3) := by decide +kernel
theorem dX_leak_44 : decode cX_leak 44 = .ok (.iload_n 1, 1) := by decide +kernel
theorem dX_leak_45 : decode cX_leak 45 = .ok (.iaload, 1) := by decide +kernel
theorem dX_leak_46 : decode cX_leak 46 = .ok (.istore_n 3, 1) := by decide +kernel
theorem dX_leak_47 : decode cX_leak 47 = .ok (.aload_n 0, 1) := by decide +kernel
theorem dX_leak_48 : decode cX_leak 48 = .ok (.getfield 12, 3) := by decide +kernel
theorem dX_leak_51 : decode cX_leak 51 = .ok (.getfield 73, 3) := by decide +kernel
theorem dX_leak_54 : decode cX_leak 54 = .ok (.iload_n 1, 1) := by decide +kernel
theorem dX_leak_55 : decode cX_leak 55 = .ok (.iload_n 2, 1) := by decide +kernel
theorem dX_leak_56 : decode cX_leak 56 = .ok (.iastore, 1) := by decide +kernel
theorem dX_leak_57 : decode cX_leak 57 = .ok (.iload_n 3, 1) := by decide +kernel
theorem dX_leak_58 : decode cX_leak 58 = .ok (.ireturn, 1) := by decide +kernel
theorem dX_letter_0 : decode cX_letter 0 = .ok (.iload_n 1, 1) := by decide +kernel
theorem dX_letter_1 : decode cX_letter 1 = .ok (.ifCond .ge 10, 3) := by decide +kernel
theorem dX_letter_4 : decode cX_letter 4 = .ok (.aload_n 0, 1) := by decide +kernel
theorem dX_letter_5 : decode cX_letter 5 = .ok (.bipush (-4), 2) := by decide +kernel
theorem dX_letter_7 : decode cX_letter 7 = .ok (.invokevirtual 51, 3) := by decide +kernel
theorem dX_letter_10 : decode cX_letter 10 = .ok (.ireturn, 1) := by decide +kernel
theorem dX_letter_11 : decode cX_letter 11 = .ok (.iload_n 1, 1) := by decide +kernel
theorem dX_letter_12 : decode cX_letter 12 = .ok (.sipush 255, 3) := by decide +kernel
theorem dX_letter_15 : decode cX_letter 15 = .ok (.if_icmp .gt 15, 3) := by decide +kernel
theorem dX_letter_18 : decode cX_letter 18 = .ok (.aload_n 0, 1) := by decide +kernel
theorem dX_letter_19 : decode cX_letter 19 = .ok (.getfield 29, 3) := by decide +kernel
theorem dX_letter_22 : decode cX_letter 22 = .ok (.getfield 55, 3) := by decide +kernel
theorem dX_letter_25 : decode cX_letter 25 = .ok (.bipush 96, 2) := by decide +kernel
theorem dX_letter_27 : decode cX_letter 27 = .ok (.if_icmp .lt 10, 3) := by decide +kernel
theorem dX_letter_30 : decode cX_letter 30 = .ok (.aload_n 0, 1) := by decide +kernel
theorem dX_letter_31 : decode cX_letter 31 = .ok (.bipush (-6), 2) := by decide +kernel
theorem dX_letter_33 : decode cX_letter 33 = .ok (.invokevirtual 51, 3) := by decide +kernel
theorem dX_letter_36 : decode cX_letter 36 = .ok (.ireturn, 1) := by decide +kernel
theorem dX_letter_37 : decode cX_letter 37 = .ok (.aload_n 0, 1) := by decide +kernel
theorem dX_letter_38 : decode cX_letter 38 = .ok (.getfield 29, 3) := by decide +kernel
theorem dX_letter_41 : decode cX_letter 41 = .ok (.iload_n 1, 1) := by decide +kernel
theorem dX_letter_42 : decode cX_letter 42 = .ok (.invokevirtual 58, 3) := by decide +kernel
theorem dX_letter_45 : decode cX_letter 45 = .ok (.aload_n 0, 1) := by decide +kernel
theorem dX_letter_46 : decode cX_letter 46 = .ok (.getfield 29, 3) := by decide +kernel
theorem dX_letter_49 : decode cX_letter 49 = .ok (.getfield 55, 3) := by decide +kernel
theorem dX_letter_52 : decode cX_letter 52 = .ok (.ireturn, 1) := by decide +kernel
theorem dX_lock_0 : decode cX_lock 0 = .ok (.aload_n 0, 1) := by decide +kernel
theorem dX_lock_1 : decode cX_lock 1 = .ok (.getfield 12, 3) := by decide +kernel
theorem dX_lock_4 : decode cX_lock 4 = .ok (.iload_n 1, 1) := by decide +kernel
theorem dX_lock_5 : decode cX_lock 5 = .ok (.invokevirtual 82, 3) := by decide +kernel
theorem dX_lock_8 : decode cX_lock 8 = .ok (.ifCond .ne 9, 3) := by decide +kernel
theorem dX_lock_11 : decode cX_lock 11 = .ok (.aload_n 0, 1) := by decide +kernel
theorem dX_lock_12 : decode cX_lock 12 = .ok (.iconst (-1), 1) := by decide +kernel
theorem dX_lock_13 : decode cX_lock 13 = .ok (.invokevirtual 51, 3) := by decide +kernel
theorem dX_lock_16 : decode cX_lock 16 = .ok (.ireturn, 1) := by decide +kernel
theorem dX_lock_17 : decode cX_lock 17 = .ok (.iload_n 2, 1) := by decide +kernel
theorem dX_lock_18 : decode cX_lock 18 = .ok (.tableswitch 84 0 4 #[34, 44, 54, 64, 74], 34) := by decide +kernel
theorem dX_lock_52 : decode cX_lock 52 = .ok (.aload_n 0, 1) := by decide +kernel
theorem dX_lock_53 : decode cX_lock 53 = .ok (.getfield 12, 3) := by decide +kernel
theorem dX_lock_56 : decode cX_lock 56 = .ok (.getfield 85, 3) := by decide +kernel
theorem dX_lock_59 : decode cX_lock 59 = .ok (.iload_n 1, 1) := by decide +kernel
theorem dX_lock_60 : decode cX_lock 60 = .ok (.iaload, 1) := by decide +kernel
theorem dX_lock_61 : decode cX_lock 61 = .ok (.ireturn, 1) := by decide +kernel
theorem dX_lock_62 : decode cX_lock 62 = .ok (.aload_n 0, 1) := by decide +kernel
theorem dX_lock_63 : decode cX_lock 63 = .ok (.getfield 12, 3) := by decide +kernel
theorem dX_lock_66 : decode cX_lock 66 = .ok (.getfield 88, 3) := by decide +kernel
theorem dX_lock_69 : decode cX_lock 69 = .ok (.iload_n 1, 1) := by decide +kernel
theorem dX_lock_70 : decode cX_lock 70 = .ok (.iaload, 1) := by decide +kernel
theorem dX_lock_71 : decode cX_lock 71 = .ok (.ireturn, 1) := by decide +kernel
theorem dX_lock_72 : decode cX_lock 72 = .ok (.aload_n 0, 1) := by decide +kernel
theorem dX_lock_73 : decode cX_lock 73 = .ok (.getfield 12, 3) := by decide +kernel
theorem dX_lock_76 : decode cX_lock 76 = .ok (.getfield 91, 3) := by decide +kernel
theorem dX_lock_79 : decode cX_lock 79 = .ok (.iload_n 1, 1) := by decide +kernel
theorem dX_lock_80 : decode cX_lock 80 = .ok (.iaload, 1) := by decide +kernel
theorem dX_lock_81 : decode cX_lock 81 = .ok (.ireturn, 1) := by decide +kernel
theorem dX_lock_82 : decode cX_lock 82 = .ok (.aload_n 0, 1) := by decide +kernel
theorem dX_lock_83 : decode cX_lock 83 = .ok (.getfield 12, 3) := by decide +kernel
theorem dX_lock_86 : decode cX_lock 86 = .ok (.getfield 94, 3) := by decide +kernel
theorem dX_lock_89 : decode cX_lock 89 = .ok (.iload_n 1, 1) := by decide +kernel
theorem dX_lock_90 : decode cX_lock 90 = .ok (.iaload, 1) := by decide +kernel
theorem dX_lock_91 : decode cX_lock 91 = .ok (.ireturn, 1) := by decide +kernel
theorem dX_lock_92 : decode cX_lock 92 = .ok (.aload_n 0, 1) := by decide +kernel
theorem dX_lock_93 : decode cX_lock 93 = .ok (.getfield 12, 3) := by decide +kernel
theorem dX_lock_96 : decode cX_lock 96 = .ok (.getfield 97, 3) := by decide +kernel
theorem dX_lock_99 : decode cX_lock 99 = .ok (.iload_n 1, 1) := by decide +kernel
theorem dX_lock_100 : decode cX_lock 100 = .ok (.iaload, 1) := by decide +kernel
theorem dX_lock_101 : decode cX_lock 101 = .ok (.ireturn, 1) := by decide +kernel
theorem dX_lock_102 : decode cX_lock 102 = .ok (.aload_n 0, 1) := by decide +kernel
theorem dX_lock_103 : decode cX_lock 103 = .ok (.bipush (-2), 2) := by decide +kernel
theorem dX_lock_105 : decode cX_lock 105 = .ok (.invokevirtual 51, 3) := by decide +kernel
theorem dX_lock_108 : decode cX_lock 108 = .ok (.ireturn, 1) := by decide +kernel
theorem dX_longestWith_0 : decode cX_longestWith 0 = .ok (.iload_n 1, 1) := by decide +kernel
theorem dX_longestWith_1 : decode cX_longestWith 1 = .ok (.ifCond .ge 8, 3) := by decide +kernel
theorem dX_longestWith_4 : decode cX_longestWith 4 = .ok (.ldc 207, 2) := by decide +kernel
theorem dX_longestWith_6 : decode cX_longestWith 6 = .ok (.goto 18, 3) := by decide +kernel
theorem dX_longestWith_9 : decode cX_longestWith 9 = .ok (.aload_n 0, 1) := by decide +kernel
theorem dX_longestWith_10 : decode cX_longestWith 10 = .ok (.getfield 36, 3) := by decide +kernel
theorem dX_longestWith_13 : decode cX_longestWith 13 = .ok (.iload_n 1, 1) := by decide +kernel
theorem dX_longestWith_14 : decode cX_longestWith 14 = .ok (.bipush 10, 2) := by decide +kernel
theorem dX_longestWith_16 : decode cX_longestWith 16 = .ok (.idiv, 1) := by decide +kernel
theorem dX_longestWith_17 : decode cX_longestWith 17 = .ok (.iload_n 1, 1) := by decide +kernel
theorem dX_longestWith_18 : decode cX_longestWith 18 = .ok (.bipush 10, 2) := by decide +kernel
theorem dX_longestWith_20 : decode cX_longestWith 20 = .ok (.irem, 1) := by decide +kernel
theorem dX_longestWith_21 : decode cX_longestWith 21 = .ok (.invokevirtual 245, 3) := by decide +kernel
theorem dX_longestWith_24 : decode cX_longestWith 24 = .ok (.ireturn, 1) := by decide +kernel
theorem dX_minutes_0 : decode cX_minutes 0 = .ok (.iload_n 1, 1) := by decide +kernel
theorem dX_minutes_1 : decode cX_minutes 1 = .ok (.iconst 1, 1) := by decide +kernel
theorem dX_minutes_2 : decode cX_minutes 2 = .ok (.if_icmp .ge 10, 3) := by decide +kernel
theorem dX_minutes_5 : decode cX_minutes 5 = .ok (.aload_n 0, 1) := by decide +kernel
theorem dX_minutes_6 : decode cX_minutes 6 = .ok (.bipush (-4), 2) := by decide +kernel
theorem dX_minutes_8 : decode cX_minutes 8 = .ok (.invokevirtual 51, 3) := by decide +kernel
theorem dX_minutes_11 : decode cX_minutes 11 = .ok (.ireturn, 1) := by decide +kernel
theorem dX_minutes_12 : decode cX_minutes 12 = .ok (.iload_n 1, 1) := by decide +kernel
theorem dX_minutes_13 : decode cX_minutes 13 = .ok (.bipush 99, 2) := by decide +kernel
theorem dX_minutes_15 : decode cX_minutes 15 = .ok (.if_icmp .gt 18, 3) := by decide +kernel
theorem dX_minutes_18 : decode cX_minutes 18 = .ok (.aload_n 0, 1) := by decide +kernel
theorem dX_minutes_19 : decode cX_minutes 19 = .ok (.getfield 12, 3) := by decide +kernel
theorem dX_minutes_22 : decode cX_minutes 22 = .ok (.getfield 122, 3) := by decide +kernel
theorem dX_minutes_25 : decode cX_minutes 25 = .ok (.iload_n 1, 1) := by decide +kernel
theorem dX_minutes_26 : decode cX_minutes 26 = .ok (.iadd, 1) := by decide +kernel
theorem dX_minutes_27 : decode cX_minutes 27 = .ok (.sipush 999, 3) := by decide +kernel
theorem dX_minutes_30 : decode cX_minutes 30 = .ok (.if_icmp .le 10, 3) := by decide +kernel
theorem dX_minutes_33 : decode cX_minutes 33 = .ok (.aload_n 0, 1) := by decide +kernel
theorem dX_minutes_34 : decode cX_minutes 34 = .ok (.bipush (-6), 2) := by decide +kernel
theorem dX_minutes_36 : decode cX_minutes 36 = .ok (.invokevirtual 51, 3) := by decide +kernel
theorem dX_minutes_39 : decode cX_minutes 39 = .ok (.ireturn, 1) := by decide +kernel
theorem dX_minutes_40 : decode cX_minutes 40 = .ok (.aload_n 0, 1) := by decide +kernel
theorem dX_minutes_41 : decode cX_minutes 41 = .ok (.getfield 12, 3) := by decide +kernel
theorem dX_minutes_44 : decode cX_minutes 44 = .ok (.iload_n 1, 1) := by decide +kernel
theorem dX_minutes_45 : decode cX_minutes 45 = .ok (.invokevirtual 129, 3) := by decide +kernel
theorem dX_minutes_48 : decode cX_minutes 48 = .ok (.ireturn, 1) := by decide +kernel
theorem dX_more_0 : decode cX_more 0 = .ok (.iload_n 1, 1) := by decide +kernel
theorem dX_more_1 : decode cX_more 1 = .ok (.ifCond .eq 15, 3) := by decide +kernel
theorem dX_more_4 : decode cX_more 4 = .ok (.iload_n 1, 1) := by decide +kernel
theorem dX_more_5 : decode cX_more 5 = .ok (.iconst 1, 1) := by decide +kernel
theorem dX_more_6 : decode cX_more 6 = .ok (.if_icmp .eq 10, 3) := by decide +kernel
theorem dX_more_9 : decode cX_more 9 = .ok (.aload_n 0, 1) := by decide +kernel
theorem dX_more_10 : decode cX_more 10 = .ok (.bipush (-2), 2) := by decide +kernel
theorem dX_more_12 : decode cX_more 12 = .ok (.invokevirtual 51, 3) := by decide +kernel
theorem dX_more_15 : decode cX_more 15 = .ok (.ireturn, 1) := by decide +kernel
theorem dX_more_16 : decode cX_more 16 = .ok (.aload_n 0, 1) := by decide +kernel
theorem dX_more_17 : decode cX_more 17 = .ok (.getfield 36, 3) := by decide +kernel
theorem dX_more_20 : decode cX_more 20 = .ok (.aload_n 0, 1) := by decide +kernel
theorem dX_more_21 : decode cX_more 21 = .ok (.getfield 12, 3) := by decide +kernel
theorem dX_more_24 : decode cX_more 24 = .ok (.invokevirtual 146, 3) := by decide +kernel
theorem dX_more_27 : decode cX_more 27 = .ok (.iload_n 1, 1) := by decide +kernel
theorem dX_more_28 : decode cX_more 28 = .ok (.ifCond .ne 10, 3) := by decide +kernel
theorem dX_more_31 : decode cX_more 31 = .ok (.aload_n 0, 1) := by decide +kernel
theorem dX_more_32 : decode cX_more 32 = .ok (.invokevirtual 161, 3) := by decide +kernel
theorem dX_more_35 : decode cX_more 35 = .ok (.goto 14, 3) := by decide +kernel
theorem dX_more_38 : decode cX_more 38 = .ok (.aload_n 0, 1) := by decide +kernel
theorem dX_more_39 : decode cX_more 39 = .ok (.aload_n 0, 1) := by decide +kernel
theorem dX_more_40 : decode cX_more 40 = .ok (.invokevirtual 161, 3) := by decide +kernel
theorem dX_more_43 : decode cX_more 43 = .ok (.invokevirtual 164, 3) := by decide +kernel
theorem dX_more_46 : decode cX_more 46 = .ok (.invokestatic 152, 3) := by decide +kernel
theorem dX_more_49 : decode cX_more 49 = .ok (.ireturn, 1) := by decide +kernel
theorem dX_nextSeed_0 : decode cX_nextSeed 0 = .ok (.iload_n 0, 1) := by decide +kernel
theorem dX_nextSeed_1 : decode cX_nextSeed 1 = .ok (.ldc_w 260, 3) := by decide +kernel
theorem dX_nextSeed_4 : decode cX_nextSeed 4 = .ok (.imul, 1) := by decide +kernel
theorem dX_nextSeed_5 : decode cX_nextSeed 5 = .ok (.ldc_w 261, 3) := by decide +kernel
theorem dX_nextSeed_8 : decode cX_nextSeed 8 = .ok (.iadd, 1) := by decide +kernel
theorem dX_nextSeed_9 : decode cX_nextSeed 9 = .ok (.ireturn, 1) := by decide +kernel
theorem dX_on_0 : decode cX_on 0 = .ok (.aload_n 0, 1) := by decide +kernel
theorem dX_on_1 : decode cX_on 1 = .ok (.getfield 22, 3) := by decide +kernel
theorem dX_on_4 : decode cX_on 4 = .ok (.ifCond .ne 10, 3) := by decide +kernel
theorem dX_on_7 : decode cX_on 7 = .ok (.aload_n 0, 1) := by decide +kernel
theorem dX_on_8 : decode cX_on 8 = .ok (.bipush (-3), 2) := by decide +kernel
theorem dX_on_10 : decode cX_on 10 = .ok (.invokevirtual 51, 3) := by decide +kernel
theorem dX_on_13 : decode cX_on 13 = .ok (.ireturn, 1) := by decide +kernel
theorem dX_on_14 : decode cX_on 14 = .ok (.aload_n 0, 1) := by decide +kernel
theorem dX_on_15 : decode cX_on 15 = .ok (.getfield 12, 3) := by decide +kernel
theorem dX_on_18 : decode cX_on 18 = .ok (.aload_n 0, 1) := by decide +kernel
theorem dX_on_19 : decode cX_on 19 = .ok (.getfield 19, 3) := by decide +kernel
theorem dX_on_22 : decode cX_on 22 = .ok (.invokevirtual 136, 3) := by decide +kernel
theorem dX_on_25 : decode cX_on 25 = .ok (.aload_n 0, 1) := by decide +kernel
theorem dX_on_26 : decode cX_on 26 = .ok (.getfield 12, 3) := by decide +kernel
theorem dX_on_29 : decode cX_on 29 = .ok (.getfield 122, 3) := by decide +kernel
theorem dX_on_32 : decode cX_on 32 = .ok (.ireturn, 1) := by decide +kernel
theorem dX_open_0 : decode cX_open 0 = .ok (.aload_n 0, 1) := by decide +kernel
theorem dX_open_1 : decode cX_open 1 = .ok (.getfield 12, 3) := by decide +kernel
theorem dX_open_4 : decode cX_open 4 = .ok (.iload_n 1, 1) := by decide +kernel
theorem dX_open_5 : decode cX_open 5 = .ok (.invokevirtual 82, 3) := by decide +kernel
theorem dX_open_8 : decode cX_open 8 = .ok (.ifCond .ne 9, 3) := by decide +kernel
theorem dX_open_11 : decode cX_open 11 = .ok (.aload_n 0, 1) := by decide +kernel
theorem dX_open_12 : decode cX_open 12 = .ok (.iconst (-1), 1) := by decide +kernel
theorem dX_open_13 : decode cX_open 13 = .ok (.invokevirtual 51, 3) := by decide +kernel
theorem dX_open_16 : decode cX_open 16 = .ok (.ireturn, 1) := by decide +kernel
theorem dX_open_17 : decode cX_open 17 = .ok (.iload_n 2, 1) := by decide +kernel
theorem dX_open_18 : decode cX_open 18 = .ok (.ifCond .lt 8, 3) := by decide +kernel
theorem dX_open_21 : decode cX_open 21 = .ok (.iload_n 2, 1) := by decide +kernel
theorem dX_open_22 : decode cX_open 22 = .ok (.iconst 2, 1) := by decide +kernel
theorem dX_open_23 : decode cX_open 23 = .ok (.if_icmp .le 10, 3) := by decide +kernel
theorem dX_open_26 : decode cX_open 26 = .ok (.aload_n 0, 1) := by decide +kernel
theorem dX_open_27 : decode cX_open 27 = .ok (.bipush (-2), 2) := by decide +kernel
theorem dX_open_29 : decode cX_open 29 = .ok (.invokevirtual 51, 3) := by decide +kernel
theorem dX_open_32 : decode cX_open 32 = .ok (.ireturn, 1) := by decide +kernel
theorem dX_open_33 : decode cX_open 33 = .ok (.aload_n 0, 1) := by decide +kernel
theorem dX_open_34 : decode cX_open 34 = .ok (.getfield 12, 3) := by decide +kernel
theorem dX_open_37 : decode cX_open 37 = .ok (.getfield 97, 3) := by decide +kernel
theorem dX_open_40 : decode cX_open 40 = .ok (.iload_n 1, 1) := by decide +kernel
theorem dX_open_41 : decode cX_open 41 = .ok (.iaload, 1) := by decide +kernel
theorem dX_open_42 : decode cX_open 42 = .ok (.istore_n 3, 1) := by decide +kernel
theorem dX_open_43 : decode cX_open 43 = .ok (.iload_n 2, 1) := by decide +kernel
theorem dX_open_44 : decode cX_open 44 = .ok (.ifCond .eq 19, 3) := by decide +kernel
theorem dX_open_47 : decode cX_open 47 = .ok (.iload_n 3, 1) := by decide +kernel
theorem dX_open_48 : decode cX_open 48 = .ok (.ifCond .eq 15, 3) := by decide +kernel
theorem dX_open_51 : decode cX_open 51 = .ok (.iload_n 3, 1) := by decide +kernel
theorem dX_open_52 : decode cX_open 52 = .ok (.iload_n 2, 1) := by decide +kernel
theorem dX_open_53 : decode cX_open 53 = .ok (.if_icmp .eq 10, 3) := by decide +kernel
theorem dX_open_56 : decode cX_open 56 = .ok (.aload_n 0, 1) := by decide +kernel
theorem dX_open_57 : decode cX_open 57 = .ok (.bipush (-3), 2) := by decide +kernel
theorem dX_open_59 : decode cX_open 59 = .ok (.invokevirtual 51, 3) := by decide +kernel
theorem dX_open_62 : decode cX_open 62 = .ok (.ireturn, 1) := by decide +kernel
theorem dX_open_63 : decode cX_open 63 = .ok (.aload_n 0, 1) := by decide +kernel
theorem dX_open_64 : decode cX_open 64 = .ok (.getfield 12, 3) := by decide +kernel
theorem dX_open_67 : decode cX_open 67 = .ok (.getfield 97, 3) := by decide +kernel
theorem dX_open_70 : decode cX_open 70 = .ok (.iload_n 1, 1) := by decide +kernel
theorem dX_open_71 : decode cX_open 71 = .ok (.iload_n 2, 1) := by decide +kernel
theorem dX_open_72 : decode cX_open 72 = .ok (.iastore, 1) := by decide +kernel
theorem dX_open_73 : decode cX_open 73 = .ok (.iload_n 3, 1) := by decide +kernel
theorem dX_open_74 : decode cX_open 74 = .ok (.ireturn, 1) := by decide +kernel
theorem dX_orNone_0 : decode cX_orNone 0 = .ok (.iload_n 0, 1) := by decide +kernel
theorem dX_orNone_1 : decode cX_orNone 1 = .ok (.ldc 207, 2) := by decide +kernel
theorem dX_orNone_3 : decode cX_orNone 3 = .ok (.if_icmp .ge 7, 3) := by decide +kernel
theorem dX_orNone_6 : decode cX_orNone 6 = .ok (.iload_n 0, 1) := by decide +kernel
theorem dX_orNone_7 : decode cX_orNone 7 = .ok (.goto 5, 3) := by decide +kernel
theorem dX_orNone_10 : decode cX_orNone 10 = .ok (.bipush (-9), 2) := by decide +kernel
theorem dX_orNone_12 : decode cX_orNone 12 = .ok (.ireturn, 1) := by decide +kernel
theorem dX_out_0 : decode cX_out 0 = .ok (.aload_n 0, 1) := by decide +kernel
theorem dX_out_1 : decode cX_out 1 = .ok (.getfield 16, 3) := by decide +kernel
theorem dX_out_4 : decode cX_out 4 = .ok (.aload_n 0, 1) := by decide +kernel
theorem dX_out_5 : decode cX_out 5 = .ok (.getfield 12, 3) := by decide +kernel
theorem dX_out_8 : decode cX_out 8 = .ok (.invokevirtual 136, 3) := by decide +kernel
theorem dX_out_11 : decode cX_out 11 = .ok (.iconst 1, 1) := by decide +kernel
theorem dX_out_12 : decode cX_out 12 = .ok (.istore_n 1, 1) := by decide +kernel
theorem dX_out_13 : decode cX_out 13 = .ok (.iload_n 1, 1) := by decide +kernel
theorem dX_out_14 : decode cX_out 14 = .ok (.bipush 99, 2) := by decide +kernel
theorem dX_out_16 : decode cX_out 16 = .ok (.if_icmp .gt 21, 3) := by decide +kernel
theorem dX_out_19 : decode cX_out 19 = .ok (.aload_n 0, 1) := by decide +kernel
theorem dX_out_20 : decode cX_out 20 = .ok (.getfield 16, 3) := by decide +kernel
theorem dX_out_23 : decode cX_out 23 = .ok (.invokevirtual 140, 3) := by decide +kernel
theorem dX_out_26 : decode cX_out 26 = .ok (.ifCond .le 5, 3) := by decide +kernel
theorem dX_out_29 : decode cX_out 29 = .ok (.iload_n 1, 1) := by decide +kernel
theorem dX_out_30 : decode cX_out 30 = .ok (.ireturn, 1) := by decide +kernel
theorem dX_out_31 : decode cX_out 31 = .ok (.iinc 1 1, 3) := by decide +kernel
theorem dX_out_34 : decode cX_out 34 = .ok (.goto (-21), 3) := by decide +kernel
theorem dX_out_37 : decode cX_out 37 = .ok (.bipush (-9), 2) := by decide +kernel
theorem dX_out_39 : decode cX_out 39 = .ok (.ireturn, 1) := by decide +kernel
theorem dX_passBySeeds_0 : decode cX_passBySeeds 0 = .ok (.aload_n 0, 1) := by decide +kernel
theorem dX_passBySeeds_1 : decode cX_passBySeeds 1 = .ok (.getfield 16, 3) := by decide +kernel
theorem dX_passBySeeds_4 : decode cX_passBySeeds 4 = .ok (.aload_n 0, 1) := by decide +kernel
theorem dX_passBySeeds_5 : decode cX_passBySeeds 5 = .ok (.getfield 12, 3) := by decide +kernel
theorem dX_passBySeeds_8 : decode cX_passBySeeds 8 = .ok (.invokevirtual 136, 3) := by decide +kernel
theorem dX_passBySeeds_11 : decode cX_passBySeeds 11 = .ok (.iload_n 2, 1) := by decide +kernel
theorem dX_passBySeeds_12 : decode cX_passBySeeds 12 = .ok (.istore_n 3, 1) := by decide +kernel
theorem dX_passBySeeds_13 : decode cX_passBySeeds 13 = .ok (.iconst 0, 1) := by decide +kernel
theorem dX_passBySeeds_14 : decode cX_passBySeeds 14 = .ok (.istore 4, 2) := by decide +kernel
theorem dX_passBySeeds_16 : decode cX_passBySeeds 16 = .ok (.iconst 0, 1) := by decide +kernel
theorem dX_passBySeeds_17 : decode cX_passBySeeds 17 = .ok (.istore 5, 2) := by decide +kernel
theorem dX_passBySeeds_19 : decode cX_passBySeeds 19 = .ok (.iload 5, 2) := by decide +kernel
theorem dX_passBySeeds_21 : decode cX_passBySeeds 21 = .ok (.iload_n 1, 1) := by decide +kernel
theorem dX_passBySeeds_22 : decode cX_passBySeeds 22 = .ok (.if_icmp .ge 73, 3) := by decide +kernel
theorem dX_passBySeeds_25 : decode cX_passBySeeds 25 = .ok (.iload_n 3, 1) := by decide +kernel
theorem dX_passBySeeds_26 : decode cX_passBySeeds 26 = .ok (.invokestatic 254, 3) := by decide +kernel
theorem dX_passBySeeds_29 : decode cX_passBySeeds 29 = .ok (.istore_n 3, 1) := by decide +kernel
theorem dX_passBySeeds_30 : decode cX_passBySeeds 30 = .ok (.iload_n 3, 1) := by decide +kernel
theorem dX_passBySeeds_31 : decode cX_passBySeeds 31 = .ok (.aload_n 0, 1) := by decide +kernel
theorem dX_passBySeeds_32 : decode cX_passBySeeds 32 = .ok (.getfield 16, 3) := by decide +kernel
theorem dX_passBySeeds_35 : decode cX_passBySeeds 35 = .ok (.getfield 171, 3) := by decide +kernel
theorem dX_passBySeeds_38 : decode cX_passBySeeds 38 = .ok (.invokestatic 257, 3) := by decide +kernel
theorem dX_passBySeeds_41 : decode cX_passBySeeds 41 = .ok (.istore 6, 2) := by decide +kernel
theorem dX_passBySeeds_43 : decode cX_passBySeeds 43 = .ok (.iload_n 3, 1) := by decide +kernel
theorem dX_passBySeeds_44 : decode cX_passBySeeds 44 = .ok (.invokestatic 254, 3) := by decide +kernel
theorem dX_passBySeeds_47 : decode cX_passBySeeds 47 = .ok (.istore_n 3, 1) := by decide +kernel
theorem dX_passBySeeds_48 : decode cX_passBySeeds 48 = .ok (.iload_n 3, 1) := by decide +kernel
theorem dX_passBySeeds_49 : decode cX_passBySeeds 49 = .ok (.aload_n 0, 1) := by decide +kernel
theorem dX_passBySeeds_50 : decode cX_passBySeeds 50 = .ok (.getfield 16, 3) := by decide +kernel
theorem dX_passBySeeds_53 : decode cX_passBySeeds 53 = .ok (.getfield 197, 3) := by decide +kernel
theorem dX_passBySeeds_56 : decode cX_passBySeeds 56 = .ok (.invokestatic 257, 3) := by decide +kernel
theorem dX_passBySeeds_59 : decode cX_passBySeeds 59 = .ok (.istore 7, 2) := by decide +kernel
theorem dX_passBySeeds_61 : decode cX_passBySeeds 61 = .ok (.aload_n 0, 1) := by decide +kernel
theorem dX_passBySeeds_62 : decode cX_passBySeeds 62 = .ok (.getfield 16, 3) := by decide +kernel
theorem dX_passBySeeds_65 : decode cX_passBySeeds 65 = .ok (.iload 6, 2) := by decide +kernel
theorem dX_passBySeeds_67 : decode cX_passBySeeds 67 = .ok (.iload 7, 2) := by decide +kernel
theorem dX_passBySeeds_69 : decode cX_passBySeeds 69 = .ok (.invokevirtual 118, 3) := by decide +kernel
theorem dX_passBySeeds_72 : decode cX_passBySeeds 72 = .ok (.ifCond .eq 17, 3) := by decide +kernel
theorem dX_passBySeeds_75 : decode cX_passBySeeds 75 = .ok (.aload_n 0, 1) := by decide +kernel
theorem dX_passBySeeds_76 : decode cX_passBySeeds 76 = .ok (.getfield 16, 3) := by decide +kernel
theorem dX_passBySeeds_79 : decode cX_passBySeeds 79 = .ok (.iload 6, 2) := by decide +kernel
theorem dX_passBySeeds_81 : decode cX_passBySeeds 81 = .ok (.iload 7, 2) := by decide +kernel
theorem dX_passBySeeds_83 : decode cX_passBySeeds 83 = .ok (.invokevirtual 125, 3) := by decide +kernel
theorem dX_passBySeeds_86 : decode cX_passBySeeds 86 = .ok (.iinc 4 1, 3) := by decide +kernel
theorem dX_passBySeeds_89 : decode cX_passBySeeds 89 = .ok (.iinc 5 1, 3) := by decide +kernel
theorem dX_passBySeeds_92 : decode cX_passBySeeds 92 = .ok (.goto (-73), 3) := by decide +kernel
theorem dX_passBySeeds_95 : decode cX_passBySeeds 95 = .ok (.iload 4, 2) := by decide +kernel
theorem dX_passBySeeds_97 : decode cX_passBySeeds 97 = .ok (.ireturn, 1) := by decide +kernel
theorem dX_passToldInMind_0 : decode cX_passToldInMind 0 = .ok (.aload_n 0, 1) := by decide +kernel
theorem dX_passToldInMind_1 : decode cX_passToldInMind 1 = .ok (.getfield 16, 3) := by decide +kernel
theorem dX_passToldInMind_4 : decode cX_passToldInMind 4 = .ok (.aload_n 0, 1) := by decide +kernel
theorem dX_passToldInMind_5 : decode cX_passToldInMind 5 = .ok (.getfield 12, 3) := by decide +kernel
theorem dX_passToldInMind_8 : decode cX_passToldInMind 8 = .ok (.invokevirtual 136, 3) := by decide +kernel
theorem dX_passToldInMind_11 : decode cX_passToldInMind 11 = .ok (.iconst 0, 1) := by decide +kernel
theorem dX_passToldInMind_12 : decode cX_passToldInMind 12 = .ok (.istore_n 1, 1) := by decide +kernel
theorem dX_passToldInMind_13 : decode cX_passToldInMind 13 = .ok (.iload_n 1, 1) := by decide +kernel
theorem dX_passToldInMind_14 : decode cX_passToldInMind 14 = .ok (.aload_n 0, 1) := by decide +kernel
theorem dX_passToldInMind_15 : decode cX_passToldInMind 15 = .ok (.getfield 44, 3) := by decide +kernel
theorem dX_passToldInMind_18 : decode cX_passToldInMind 18 = .ok (.if_icmp .ge 52, 3) := by decide +kernel
theorem dX_passToldInMind_21 : decode cX_passToldInMind 21 = .ok (.aload_n 0, 1) := by decide +kernel
theorem dX_passToldInMind_22 : decode cX_passToldInMind 22 = .ok (.getfield 40, 3) := by decide +kernel
theorem dX_passToldInMind_25 : decode cX_passToldInMind 25 = .ok (.iload_n 1, 1) := by decide +kernel
theorem dX_passToldInMind_26 : decode cX_passToldInMind 26 = .ok (.iaload, 1) := by decide +kernel
theorem dX_passToldInMind_27 : decode cX_passToldInMind 27 = .ok (.bipush 10, 2) := by decide +kernel
theorem dX_passToldInMind_29 : decode cX_passToldInMind 29 = .ok (.idiv, 1) := by decide +kernel
theorem dX_passToldInMind_30 : decode cX_passToldInMind 30 = .ok (.istore_n 2, 1) := by decide +kernel
theorem dX_passToldInMind_31 : decode cX_passToldInMind 31 = .ok (.aload_n 0, 1) := by decide +kernel
theorem dX_passToldInMind_32 : decode cX_passToldInMind 32 = .ok (.getfield 40, 3) := by decide +kernel
theorem dX_passToldInMind_35 : decode cX_passToldInMind 35 = .ok (.iload_n 1, 1) := by decide +kernel
theorem dX_passToldInMind_36 : decode cX_passToldInMind 36 = .ok (.iaload, 1) := by decide +kernel
theorem dX_passToldInMind_37 : decode cX_passToldInMind 37 = .ok (.bipush 10, 2) := by decide +kernel
theorem dX_passToldInMind_39 : decode cX_passToldInMind 39 = .ok (.irem, 1) := by decide +kernel
theorem dX_passToldInMind_40 : decode cX_passToldInMind 40 = .ok (.istore_n 3, 1) := by decide +kernel
theorem dX_passToldInMind_41 : decode cX_passToldInMind 41 = .ok (.aload_n 0, 1) := by decide +kernel
theorem dX_passToldInMind_42 : decode cX_passToldInMind 42 = .ok (.getfield 16, 3) := by decide +kernel
theorem dX_passToldInMind_45 : decode cX_passToldInMind 45 = .ok (.iload_n 2, 1) := by decide +kernel
theorem dX_passToldInMind_46 : decode cX_passToldInMind 46 = .ok (.iload_n 3, 1) := by decide +kernel
theorem dX_passToldInMind_47 : decode cX_passToldInMind 47 = .ok (.invokevirtual 118, 3) := by decide +kernel
theorem dX_passToldInMind_50 : decode cX_passToldInMind 50 = .ok (.ifCond .ne 5, 3) := by decide +kernel
theorem dX_passToldInMind_53 : decode cX_passToldInMind 53 = .ok (.iload_n 1, 1) := by decide +kernel
theorem dX_passToldInMind_54 : decode cX_passToldInMind 54 = .ok (.ireturn, 1) := by decide +kernel
theorem dX_passToldInMind_55 : decode cX_passToldInMind 55 = .ok (.aload_n 0, 1) := by decide +kernel
theorem dX_passToldInMind_56 : decode cX_passToldInMind 56 = .ok (.getfield 16, 3) := by decide +kernel
theorem dX_passToldInMind_59 : decode cX_passToldInMind 59 = .ok (.iload_n 2, 1) := by decide +kernel
theorem dX_passToldInMind_60 : decode cX_passToldInMind 60 = .ok (.iload_n 3, 1) := by decide +kernel
theorem dX_passToldInMind_61 : decode cX_passToldInMind 61 = .ok (.invokevirtual 125, 3) := by decide +kernel
theorem dX_passToldInMind_64 : decode cX_passToldInMind 64 = .ok (.iinc 1 1, 3) := by decide +kernel
theorem dX_passToldInMind_67 : decode cX_passToldInMind 67 = .ok (.goto (-54), 3) := by decide +kernel
theorem dX_passToldInMind_70 : decode cX_passToldInMind 70 = .ok (.aload_n 0, 1) := by decide +kernel
theorem dX_passToldInMind_71 : decode cX_passToldInMind 71 = .ok (.getfield 44, 3) := by decide +kernel
theorem dX_passToldInMind_74 : decode cX_passToldInMind 74 = .ok (.ireturn, 1) := by decide +kernel
theorem dX_passes_0 : decode cX_passes 0 = .ok (.aload_n 0, 1) := by decide +kernel
theorem dX_passes_1 : decode cX_passes 1 = .ok (.getfield 12, 3) := by decide +kernel
theorem dX_passes_4 : decode cX_passes 4 = .ok (.iload_n 1, 1) := by decide +kernel
theorem dX_passes_5 : decode cX_passes 5 = .ok (.invokevirtual 100, 3) := by decide +kernel
theorem dX_passes_8 : decode cX_passes 8 = .ok (.ifCond .eq 14, 3) := by decide +kernel
theorem dX_passes_11 : decode cX_passes 11 = .ok (.aload_n 0, 1) := by decide +kernel
theorem dX_passes_12 : decode cX_passes 12 = .ok (.getfield 12, 3) := by decide +kernel
theorem dX_passes_15 : decode cX_passes 15 = .ok (.iload_n 2, 1) := by decide +kernel
theorem dX_passes_16 : decode cX_passes 16 = .ok (.invokevirtual 82, 3) := by decide +kernel
theorem dX_passes_19 : decode cX_passes 19 = .ok (.ifCond .ne 9, 3) := by decide +kernel
theorem dX_passes_22 : decode cX_passes 22 = .ok (.aload_n 0, 1) := by decide +kernel
theorem dX_passes_23 : decode cX_passes 23 = .ok (.iconst (-1), 1) := by decide +kernel
theorem dX_passes_24 : decode cX_passes 24 = .ok (.invokevirtual 51, 3) := by decide +kernel
theorem dX_passes_27 : decode cX_passes 27 = .ok (.ireturn, 1) := by decide +kernel
theorem dX_passes_28 : decode cX_passes 28 = .ok (.aload_n 0, 1) := by decide +kernel
theorem dX_passes_29 : decode cX_passes 29 = .ok (.getfield 12, 3) := by decide +kernel
theorem dX_passes_32 : decode cX_passes 32 = .ok (.iload_n 1, 1) := by decide +kernel
theorem dX_passes_33 : decode cX_passes 33 = .ok (.iload_n 2, 1) := by decide +kernel
theorem dX_passes_34 : decode cX_passes 34 = .ok (.invokevirtual 118, 3) := by decide +kernel
theorem dX_passes_37 : decode cX_passes 37 = .ok (.ifCond .ne 10, 3) := by decide +kernel
theorem dX_passes_40 : decode cX_passes 40 = .ok (.aload_n 0, 1) := by decide +kernel
theorem dX_passes_41 : decode cX_passes 41 = .ok (.bipush (-3), 2) := by decide +kernel
theorem dX_passes_43 : decode cX_passes 43 = .ok (.invokevirtual 51, 3) := by decide +kernel
theorem dX_passes_46 : decode cX_passes 46 = .ok (.ireturn, 1) := by decide +kernel
theorem dX_passes_47 : decode cX_passes 47 = .ok (.aload_n 0, 1) := by decide +kernel
theorem dX_passes_48 : decode cX_passes 48 = .ok (.getfield 12, 3) := by decide +kernel
theorem dX_passes_51 : decode cX_passes 51 = .ok (.getfield 122, 3) := by decide +kernel
theorem dX_passes_54 : decode cX_passes 54 = .ok (.aload_n 0, 1) := by decide +kernel
theorem dX_passes_55 : decode cX_passes 55 = .ok (.getfield 12, 3) := by decide +kernel
theorem dX_passes_58 : decode cX_passes 58 = .ok (.getfield 94, 3) := by decide +kernel
theorem dX_passes_61 : decode cX_passes 61 = .ok (.iload_n 2, 1) := by decide +kernel
theorem dX_passes_62 : decode cX_passes 62 = .ok (.iaload, 1) := by decide +kernel
theorem dX_passes_63 : decode cX_passes 63 = .ok (.iadd, 1) := by decide +kernel
theorem dX_passes_64 : decode cX_passes 64 = .ok (.sipush 999, 3) := by decide +kernel
theorem dX_passes_67 : decode cX_passes 67 = .ok (.if_icmp .le 10, 3) := by decide +kernel
theorem dX_passes_70 : decode cX_passes 70 = .ok (.aload_n 0, 1) := by decide +kernel
theorem dX_passes_71 : decode cX_passes 71 = .ok (.bipush (-6), 2) := by decide +kernel
theorem dX_passes_73 : decode cX_passes 73 = .ok (.invokevirtual 51, 3) := by decide +kernel
theorem dX_passes_76 : decode cX_passes 76 = .ok (.ireturn, 1) := by decide +kernel
theorem dX_passes_77 : decode cX_passes 77 = .ok (.aload_n 0, 1) := by decide +kernel
theorem dX_passes_78 : decode cX_passes 78 = .ok (.getfield 12, 3) := by decide +kernel
theorem dX_passes_81 : decode cX_passes 81 = .ok (.iload_n 1, 1) := by decide +kernel
theorem dX_passes_82 : decode cX_passes 82 = .ok (.iload_n 2, 1) := by decide +kernel
theorem dX_passes_83 : decode cX_passes 83 = .ok (.invokevirtual 125, 3) := by decide +kernel
theorem dX_passes_86 : decode cX_passes 86 = .ok (.aload_n 0, 1) := by decide +kernel
theorem dX_passes_87 : decode cX_passes 87 = .ok (.getfield 12, 3) := by decide +kernel
theorem dX_passes_90 : decode cX_passes 90 = .ok (.getfield 106, 3) := by decide +kernel
theorem dX_passes_93 : decode cX_passes 93 = .ok (.iload_n 1, 1) := by decide +kernel
theorem dX_passes_94 : decode cX_passes 94 = .ok (.iaload, 1) := by decide +kernel
theorem dX_passes_95 : decode cX_passes 95 = .ok (.ireturn, 1) := by decide +kernel
theorem dX_person_0 : decode cX_person 0 = .ok (.aload_n 0, 1) := by decide +kernel
theorem dX_person_1 : decode cX_person 1 = .ok (.getfield 12, 3) := by decide +kernel
theorem dX_person_4 : decode cX_person 4 = .ok (.iload_n 1, 1) := by decide +kernel
theorem dX_person_5 : decode cX_person 5 = .ok (.invokevirtual 100, 3) := by decide +kernel
theorem dX_person_8 : decode cX_person 8 = .ok (.ifCond .ne 9, 3) := by decide +kernel
theorem dX_person_11 : decode cX_person 11 = .ok (.aload_n 0, 1) := by decide +kernel
theorem dX_person_12 : decode cX_person 12 = .ok (.iconst (-1), 1) := by decide +kernel
theorem dX_person_13 : decode cX_person 13 = .ok (.invokevirtual 51, 3) := by decide +kernel
theorem dX_person_16 : decode cX_person 16 = .ok (.ireturn, 1) := by decide +kernel
theorem dX_person_17 : decode cX_person 17 = .ok (.iload_n 2, 1) := by decide +kernel
theorem dX_person_18 : decode cX_person 18 = .ok (.tableswitch 83 0 4 #[34, 44, 54, 64, 74], 34) := by decide +kernel
theorem dX_person_52 : decode cX_person 52 = .ok (.aload_n 0, 1) := by decide +kernel
theorem dX_person_53 : decode cX_person 53 = .ok (.getfield 12, 3) := by decide +kernel
theorem dX_person_56 : decode cX_person 56 = .ok (.getfield 103, 3) := by decide +kernel
theorem dX_person_59 : decode cX_person 59 = .ok (.iload_n 1, 1) := by decide +kernel
theorem dX_person_60 : decode cX_person 60 = .ok (.iaload, 1) := by decide +kernel
theorem dX_person_61 : decode cX_person 61 = .ok (.ireturn, 1) := by decide +kernel
theorem dX_person_62 : decode cX_person 62 = .ok (.aload_n 0, 1) := by decide +kernel
theorem dX_person_63 : decode cX_person 63 = .ok (.getfield 12, 3) := by decide +kernel
theorem dX_person_66 : decode cX_person 66 = .ok (.getfield 106, 3) := by decide +kernel
theorem dX_person_69 : decode cX_person 69 = .ok (.iload_n 1, 1) := by decide +kernel
theorem dX_person_70 : decode cX_person 70 = .ok (.iaload, 1) := by decide +kernel
theorem dX_person_71 : decode cX_person 71 = .ok (.ireturn, 1) := by decide +kernel
theorem dX_person_72 : decode cX_person 72 = .ok (.aload_n 0, 1) := by decide +kernel
theorem dX_person_73 : decode cX_person 73 = .ok (.getfield 12, 3) := by decide +kernel
theorem dX_person_76 : decode cX_person 76 = .ok (.getfield 109, 3) := by decide +kernel
theorem dX_person_79 : decode cX_person 79 = .ok (.iload_n 1, 1) := by decide +kernel
theorem dX_person_80 : decode cX_person 80 = .ok (.iaload, 1) := by decide +kernel
theorem dX_person_81 : decode cX_person 81 = .ok (.ireturn, 1) := by decide +kernel
theorem dX_person_82 : decode cX_person 82 = .ok (.aload_n 0, 1) := by decide +kernel
theorem dX_person_83 : decode cX_person 83 = .ok (.getfield 12, 3) := by decide +kernel
theorem dX_person_86 : decode cX_person 86 = .ok (.getfield 112, 3) := by decide +kernel
theorem dX_person_89 : decode cX_person 89 = .ok (.iload_n 1, 1) := by decide +kernel
theorem dX_person_90 : decode cX_person 90 = .ok (.iaload, 1) := by decide +kernel
theorem dX_person_91 : decode cX_person 91 = .ok (.ireturn, 1) := by decide +kernel
theorem dX_person_92 : decode cX_person 92 = .ok (.aload_n 0, 1) := by decide +kernel
theorem dX_person_93 : decode cX_person 93 = .ok (.getfield 12, 3) := by decide +kernel
theorem dX_person_96 : decode cX_person 96 = .ok (.iload_n 1, 1) := by decide +kernel
theorem dX_person_97 : decode cX_person 97 = .ok (.invokevirtual 115, 3) := by decide +kernel
theorem dX_person_100 : decode cX_person 100 = .ok (.ireturn, 1) := by decide +kernel
theorem dX_person_101 : decode cX_person 101 = .ok (.aload_n 0, 1) := by decide +kernel
theorem dX_person_102 : decode cX_person 102 = .ok (.bipush (-2), 2) := by decide +kernel
theorem dX_person_104 : decode cX_person 104 = .ok (.invokevirtual 51, 3) := by decide +kernel
theorem dX_person_107 : decode cX_person 107 = .ok (.ireturn, 1) := by decide +kernel
theorem dX_readBurrow_0 : decode cX_readBurrow 0 = .ok (.aload_n 0, 1) := by decide +kernel
theorem dX_readBurrow_1 : decode cX_readBurrow 1 = .ok (.getfield 29, 3) := by decide +kernel
theorem dX_readBurrow_4 : decode cX_readBurrow 4 = .ok (.invokevirtual 208, 3) := by decide +kernel
theorem dX_readBurrow_7 : decode cX_readBurrow 7 = .ok (.istore_n 1, 1) := by decide +kernel
theorem dX_readBurrow_8 : decode cX_readBurrow 8 = .ok (.iload_n 1, 1) := by decide +kernel
theorem dX_readBurrow_9 : decode cX_readBurrow 9 = .ok (.ifCond .lt 9, 3) := by decide +kernel
theorem dX_readBurrow_12 : decode cX_readBurrow 12 = .ok (.sipush (-1000), 3) := by decide +kernel
theorem dX_readBurrow_15 : decode cX_readBurrow 15 = .ok (.iload_n 1, 1) := by decide +kernel
theorem dX_readBurrow_16 : decode cX_readBurrow 16 = .ok (.isub, 1) := by decide +kernel
theorem dX_readBurrow_17 : decode cX_readBurrow 17 = .ok (.ireturn, 1) := by decide +kernel
theorem dX_readBurrow_18 : decode cX_readBurrow 18 = .ok (.aload_n 0, 1) := by decide +kernel
theorem dX_readBurrow_19 : decode cX_readBurrow 19 = .ok (.getfield 16, 3) := by decide +kernel
theorem dX_readBurrow_22 : decode cX_readBurrow 22 = .ok (.aload_n 0, 1) := by decide +kernel
theorem dX_readBurrow_23 : decode cX_readBurrow 23 = .ok (.getfield 12, 3) := by decide +kernel
theorem dX_readBurrow_26 : decode cX_readBurrow 26 = .ok (.invokevirtual 136, 3) := by decide +kernel
theorem dX_readBurrow_29 : decode cX_readBurrow 29 = .ok (.iconst 0, 1) := by decide +kernel
theorem dX_readBurrow_30 : decode cX_readBurrow 30 = .ok (.istore_n 2, 1) := by decide +kernel
theorem dX_readBurrow_31 : decode cX_readBurrow 31 = .ok (.iconst 0, 1) := by decide +kernel
theorem dX_readBurrow_32 : decode cX_readBurrow 32 = .ok (.istore_n 3, 1) := by decide +kernel
theorem dX_readBurrow_33 : decode cX_readBurrow 33 = .ok (.iload_n 2, 1) := by decide +kernel
theorem dX_readBurrow_34 : decode cX_readBurrow 34 = .ok (.aload_n 0, 1) := by decide +kernel
theorem dX_readBurrow_35 : decode cX_readBurrow 35 = .ok (.getfield 29, 3) := by decide +kernel
theorem dX_readBurrow_38 : decode cX_readBurrow 38 = .ok (.getfield 55, 3) := by decide +kernel
theorem dX_readBurrow_41 : decode cX_readBurrow 41 = .ok (.if_icmp .ge 38, 3) := by decide +kernel
theorem dX_readBurrow_44 : decode cX_readBurrow 44 = .ok (.iload_n 3, 1) := by decide +kernel
theorem dX_readBurrow_45 : decode cX_readBurrow 45 = .ok (.bipush 96, 2) := by decide +kernel
theorem dX_readBurrow_47 : decode cX_readBurrow 47 = .ok (.if_icmp .ge 32, 3) := by decide +kernel
theorem dX_readBurrow_50 : decode cX_readBurrow 50 = .ok (.aload_n 0, 1) := by decide +kernel
theorem dX_readBurrow_51 : decode cX_readBurrow 51 = .ok (.iload_n 2, 1) := by decide +kernel
theorem dX_readBurrow_52 : decode cX_readBurrow 52 = .ok (.invokevirtual 211, 3) := by decide +kernel
theorem dX_readBurrow_55 : decode cX_readBurrow 55 = .ok (.ifCond .ne 9, 3) := by decide +kernel
theorem dX_readBurrow_58 : decode cX_readBurrow 58 = .ok (.sipush (-2000), 3) := by decide +kernel
theorem dX_readBurrow_61 : decode cX_readBurrow 61 = .ok (.iload_n 2, 1) := by decide +kernel
theorem dX_readBurrow_62 : decode cX_readBurrow 62 = .ok (.isub, 1) := by decide +kernel
theorem dX_readBurrow_63 : decode cX_readBurrow 63 = .ok (.ireturn, 1) := by decide +kernel
theorem dX_readBurrow_64 : decode cX_readBurrow 64 = .ok (.aload_n 0, 1) := by decide +kernel
theorem dX_readBurrow_65 : decode cX_readBurrow 65 = .ok (.getfield 29, 3) := by decide +kernel
theorem dX_readBurrow_68 : decode cX_readBurrow 68 = .ok (.iload_n 2, 1) := by decide +kernel
theorem dX_readBurrow_69 : decode cX_readBurrow 69 = .ok (.invokevirtual 214, 3) := by decide +kernel
theorem dX_readBurrow_72 : decode cX_readBurrow 72 = .ok (.istore_n 2, 1) := by decide +kernel
theorem dX_readBurrow_73 : decode cX_readBurrow 73 = .ok (.iinc 3 1, 3) := by decide +kernel
theorem dX_readBurrow_76 : decode cX_readBurrow 76 = .ok (.goto (-43), 3) := by decide +kernel
theorem dX_readBurrow_79 : decode cX_readBurrow 79 = .ok (.aload_n 0, 1) := by decide +kernel
theorem dX_readBurrow_80 : decode cX_readBurrow 80 = .ok (.getfield 12, 3) := by decide +kernel
theorem dX_readBurrow_83 : decode cX_readBurrow 83 = .ok (.aload_n 0, 1) := by decide +kernel
theorem dX_readBurrow_84 : decode cX_readBurrow 84 = .ok (.getfield 16, 3) := by decide +kernel
theorem dX_readBurrow_87 : decode cX_readBurrow 87 = .ok (.invokevirtual 136, 3) := by decide +kernel
theorem dX_readBurrow_90 : decode cX_readBurrow 90 = .ok (.iload_n 3, 1) := by decide +kernel
theorem dX_readBurrow_91 : decode cX_readBurrow 91 = .ok (.ireturn, 1) := by decide +kernel
theorem dX_refuse_0 : decode cX_refuse 0 = .ok (.iload_n 1, 1) := by decide +kernel
theorem dX_refuse_1 : decode cX_refuse 1 = .ok (.ifCond .ge 20, 3) := by decide +kernel
theorem dX_refuse_4 : decode cX_refuse 4 = .ok (.iload_n 1, 1) := by decide +kernel
theorem dX_refuse_5 : decode cX_refuse 5 = .ok (.bipush (-6), 2) := by decide +kernel
theorem dX_refuse_7 : decode cX_refuse 7 = .ok (.if_icmp .lt 14, 3) := by decide +kernel
theorem dX_refuse_10 : decode cX_refuse 10 = .ok (.aload_n 0, 1) := by decide +kernel
theorem dX_refuse_11 : decode cX_refuse 11 = .ok (.getfield 48, 3) := by decide +kernel
theorem dX_refuse_14 : decode cX_refuse 14 = .ok (.iload_n 1, 1) := by decide +kernel
theorem dX_refuse_15 : decode cX_refuse 15 = .ok (.ineg, 1) := by decide +kernel
theorem dX_refuse_16 : decode cX_refuse 16 = .ok (.dup2, 1) := by decide +kernel
theorem dX_refuse_17 : decode cX_refuse 17 = .ok (.iaload, 1) := by decide +kernel
theorem dX_refuse_18 : decode cX_refuse 18 = .ok (.iconst 1, 1) := by decide +kernel
theorem dX_refuse_19 : decode cX_refuse 19 = .ok (.iadd, 1) := by decide +kernel
theorem dX_refuse_20 : decode cX_refuse 20 = .ok (.iastore, 1) := by decide +kernel
theorem dX_refuse_21 : decode cX_refuse 21 = .ok (.iload_n 1, 1) := by decide +kernel
theorem dX_refuse_22 : decode cX_refuse 22 = .ok (.ireturn, 1) := by decide +kernel
theorem dX_room_0 : decode cX_room 0 = .ok (.iload_n 1, 1) := by decide +kernel
theorem dX_room_1 : decode cX_room 1 = .ok (.invokestatic 66, 3) := by decide +kernel
theorem dX_room_4 : decode cX_room 4 = .ok (.ifCond .ne 9, 3) := by decide +kernel
theorem dX_room_7 : decode cX_room 7 = .ok (.aload_n 0, 1) := by decide +kernel
theorem dX_room_8 : decode cX_room 8 = .ok (.iconst (-1), 1) := by decide +kernel
theorem dX_room_9 : decode cX_room 9 = .ok (.invokevirtual 51, 3) := by decide +kernel
theorem dX_room_12 : decode cX_room 12 = .ok (.ireturn, 1) := by decide +kernel
theorem dX_room_13 : decode cX_room 13 = .ok (.iload_n 2, 1) := by decide +kernel
theorem dX_room_14 : decode cX_room 14 = .ok (.tableswitch 68 0 3 #[30, 40, 50, 59], 30) := by decide +kernel
theorem dX_room_44 : decode cX_room 44 = .ok (.aload_n 0, 1) := by decide +kernel
theorem dX_room_45 : decode cX_room 45 = .ok (.getfield 12, 3) := by decide +kernel
theorem dX_room_48 : decode cX_room 48 = .ok (.getfield 70, 3) := by decide +kernel
theorem dX_room_51 : decode cX_room 51 = .ok (.iload_n 1, 1) := by decide +kernel
theorem dX_room_52 : decode cX_room 52 = .ok (.iaload, 1) := by decide +kernel
theorem dX_room_53 : decode cX_room 53 = .ok (.ireturn, 1) := by decide +kernel
theorem dX_room_54 : decode cX_room 54 = .ok (.aload_n 0, 1) := by decide +kernel
theorem dX_room_55 : decode cX_room 55 = .ok (.getfield 12, 3) := by decide +kernel
theorem dX_room_58 : decode cX_room 58 = .ok (.getfield 73, 3) := by decide +kernel
theorem dX_room_61 : decode cX_room 61 = .ok (.iload_n 1, 1) := by decide +kernel
theorem dX_room_62 : decode cX_room 62 = .ok (.iaload, 1) := by decide +kernel
theorem dX_room_63 : decode cX_room 63 = .ok (.ireturn, 1) := by decide +kernel
theorem dX_room_64 : decode cX_room 64 = .ok (.aload_n 0, 1) := by decide +kernel
theorem dX_room_65 : decode cX_room 65 = .ok (.getfield 12, 3) := by decide +kernel
theorem dX_room_68 : decode cX_room 68 = .ok (.iload_n 1, 1) := by decide +kernel
theorem dX_room_69 : decode cX_room 69 = .ok (.invokevirtual 76, 3) := by decide +kernel
theorem dX_room_72 : decode cX_room 72 = .ok (.ireturn, 1) := by decide +kernel
theorem dX_room_73 : decode cX_room 73 = .ok (.aload_n 0, 1) := by decide +kernel
theorem dX_room_74 : decode cX_room 74 = .ok (.getfield 12, 3) := by decide +kernel
theorem dX_room_77 : decode cX_room 77 = .ok (.iload_n 1, 1) := by decide +kernel
theorem dX_room_78 : decode cX_room 78 = .ok (.invokevirtual 79, 3) := by decide +kernel
theorem dX_room_81 : decode cX_room 81 = .ok (.ireturn, 1) := by decide +kernel
theorem dX_room_82 : decode cX_room 82 = .ok (.aload_n 0, 1) := by decide +kernel
theorem dX_room_83 : decode cX_room 83 = .ok (.bipush (-2), 2) := by decide +kernel
theorem dX_room_85 : decode cX_room 85 = .ok (.invokevirtual 51, 3) := by decide +kernel
theorem dX_room_88 : decode cX_room 88 = .ok (.ireturn, 1) := by decide +kernel
theorem dX_roomsUnlikeTold_0 : decode cX_roomsUnlikeTold 0 = .ok (.iconst 0, 1) := by decide +kernel
theorem dX_roomsUnlikeTold_1 : decode cX_roomsUnlikeTold 1 = .ok (.istore_n 2, 1) := by decide +kernel
theorem dX_roomsUnlikeTold_2 : decode cX_roomsUnlikeTold 2 = .ok (.iconst 0, 1) := by decide +kernel
theorem dX_roomsUnlikeTold_3 : decode cX_roomsUnlikeTold 3 = .ok (.istore_n 3, 1) := by decide +kernel
theorem dX_roomsUnlikeTold_4 : decode cX_roomsUnlikeTold 4 = .ok (.iload_n 3, 1) := by decide +kernel
theorem dX_roomsUnlikeTold_5 : decode cX_roomsUnlikeTold 5 = .ok (.bipush 6, 2) := by decide +kernel
theorem dX_roomsUnlikeTold_7 : decode cX_roomsUnlikeTold 7 = .ok (.if_icmp .ge 30, 3) := by decide +kernel
theorem dX_roomsUnlikeTold_10 : decode cX_roomsUnlikeTold 10 = .ok (.aload_n 0, 1) := by decide +kernel
theorem dX_roomsUnlikeTold_11 : decode cX_roomsUnlikeTold 11 = .ok (.iload_n 3, 1) := by decide +kernel
theorem dX_roomsUnlikeTold_12 : decode cX_roomsUnlikeTold 12 = .ok (.aload_n 0, 1) := by decide +kernel
theorem dX_roomsUnlikeTold_13 : decode cX_roomsUnlikeTold 13 = .ok (.getfield 12, 3) := by decide +kernel
theorem dX_roomsUnlikeTold_16 : decode cX_roomsUnlikeTold 16 = .ok (.getfield 73, 3) := by decide +kernel
theorem dX_roomsUnlikeTold_19 : decode cX_roomsUnlikeTold 19 = .ok (.iload_n 3, 1) := by decide +kernel
theorem dX_roomsUnlikeTold_20 : decode cX_roomsUnlikeTold 20 = .ok (.iaload, 1) := by decide +kernel
theorem dX_roomsUnlikeTold_21 : decode cX_roomsUnlikeTold 21 = .ok (.iload_n 1, 1) := by decide +kernel
theorem dX_roomsUnlikeTold_22 : decode cX_roomsUnlikeTold 22 = .ok (.invokevirtual 247, 3) := by decide +kernel
theorem dX_roomsUnlikeTold_25 : decode cX_roomsUnlikeTold 25 = .ok (.ifCond .ne 6, 3) := by decide +kernel
theorem dX_roomsUnlikeTold_28 : decode cX_roomsUnlikeTold 28 = .ok (.iinc 2 1, 3) := by decide +kernel
theorem dX_roomsUnlikeTold_31 : decode cX_roomsUnlikeTold 31 = .ok (.iinc 3 1, 3) := by decide +kernel
theorem dX_roomsUnlikeTold_34 : decode cX_roomsUnlikeTold 34 = .ok (.goto (-30), 3) := by decide +kernel
theorem dX_roomsUnlikeTold_37 : decode cX_roomsUnlikeTold 37 = .ok (.iload_n 2, 1) := by decide +kernel
theorem dX_roomsUnlikeTold_38 : decode cX_roomsUnlikeTold 38 = .ok (.ireturn, 1) := by decide +kernel
theorem dX_row_0 : decode cX_row 0 = .ok (.iload_n 1, 1) := by decide +kernel
theorem dX_row_1 : decode cX_row 1 = .ok (.ifCond .ge 10, 3) := by decide +kernel
theorem dX_row_4 : decode cX_row 4 = .ok (.aload_n 0, 1) := by decide +kernel
theorem dX_row_5 : decode cX_row 5 = .ok (.bipush (-4), 2) := by decide +kernel
theorem dX_row_7 : decode cX_row 7 = .ok (.invokevirtual 51, 3) := by decide +kernel
theorem dX_row_10 : decode cX_row 10 = .ok (.ireturn, 1) := by decide +kernel
theorem dX_row_11 : decode cX_row 11 = .ok (.iload_n 1, 1) := by decide +kernel
theorem dX_row_12 : decode cX_row 12 = .ok (.sipush 999, 3) := by decide +kernel
theorem dX_row_15 : decode cX_row 15 = .ok (.if_icmp .gt 12, 3) := by decide +kernel
theorem dX_row_18 : decode cX_row 18 = .ok (.aload_n 0, 1) := by decide +kernel
theorem dX_row_19 : decode cX_row 19 = .ok (.getfield 44, 3) := by decide +kernel
theorem dX_row_22 : decode cX_row 22 = .ok (.bipush 12, 2) := by decide +kernel
theorem dX_row_24 : decode cX_row 24 = .ok (.if_icmp .lt 10, 3) := by decide +kernel
theorem dX_row_27 : decode cX_row 27 = .ok (.aload_n 0, 1) := by decide +kernel
theorem dX_row_28 : decode cX_row 28 = .ok (.bipush (-6), 2) := by decide +kernel
theorem dX_row_30 : decode cX_row 30 = .ok (.invokevirtual 51, 3) := by decide +kernel
theorem dX_row_33 : decode cX_row 33 = .ok (.ireturn, 1) := by decide +kernel
theorem dX_row_34 : decode cX_row 34 = .ok (.aload_n 0, 1) := by decide +kernel
theorem dX_row_35 : decode cX_row 35 = .ok (.getfield 40, 3) := by decide +kernel
theorem dX_row_38 : decode cX_row 38 = .ok (.aload_n 0, 1) := by decide +kernel
theorem dX_row_39 : decode cX_row 39 = .ok (.getfield 44, 3) := by decide +kernel
theorem dX_row_42 : decode cX_row 42 = .ok (.iload_n 1, 1) := by decide +kernel
theorem dX_row_43 : decode cX_row 43 = .ok (.iastore, 1) := by decide +kernel
theorem dX_row_44 : decode cX_row 44 = .ok (.aload_n 0, 1) := by decide +kernel
theorem dX_row_45 : decode cX_row 45 = .ok (.dup, 1) := by decide +kernel
theorem dX_row_46 : decode cX_row 46 = .ok (.getfield 44, 3) := by decide +kernel
theorem dX_row_49 : decode cX_row 49 = .ok (.iconst 1, 1) := by decide +kernel
theorem dX_row_50 : decode cX_row 50 = .ok (.iadd, 1) := by decide +kernel
theorem dX_row_51 : decode cX_row 51 = .ok (.putfield 44, 3) := by decide +kernel
theorem dX_row_54 : decode cX_row 54 = .ok (.aload_n 0, 1) := by decide +kernel
theorem dX_row_55 : decode cX_row 55 = .ok (.getfield 44, 3) := by decide +kernel
theorem dX_row_58 : decode cX_row 58 = .ok (.ireturn, 1) := by decide +kernel
theorem dX_seeds_0 : decode cX_seeds 0 = .ok (.iload_n 1, 1) := by decide +kernel
theorem dX_seeds_1 : decode cX_seeds 1 = .ok (.iconst 1, 1) := by decide +kernel
theorem dX_seeds_2 : decode cX_seeds 2 = .ok (.if_icmp .ge 10, 3) := by decide +kernel
theorem dX_seeds_5 : decode cX_seeds 5 = .ok (.aload_n 0, 1) := by decide +kernel
theorem dX_seeds_6 : decode cX_seeds 6 = .ok (.bipush (-4), 2) := by decide +kernel
theorem dX_seeds_8 : decode cX_seeds 8 = .ok (.invokevirtual 51, 3) := by decide +kernel
theorem dX_seeds_11 : decode cX_seeds 11 = .ok (.ireturn, 1) := by decide +kernel
theorem dX_seeds_12 : decode cX_seeds 12 = .ok (.iload_n 1, 1) := by decide +kernel
theorem dX_seeds_13 : decode cX_seeds 13 = .ok (.bipush 30, 2) := by decide +kernel
theorem dX_seeds_15 : decode cX_seeds 15 = .ok (.if_icmp .le 10, 3) := by decide +kernel
theorem dX_seeds_18 : decode cX_seeds 18 = .ok (.aload_n 0, 1) := by decide +kernel
theorem dX_seeds_19 : decode cX_seeds 19 = .ok (.bipush (-6), 2) := by decide +kernel
theorem dX_seeds_21 : decode cX_seeds 21 = .ok (.invokevirtual 51, 3) := by decide +kernel
theorem dX_seeds_24 : decode cX_seeds 24 = .ok (.ireturn, 1) := by decide +kernel
theorem dX_seeds_25 : decode cX_seeds 25 = .ok (.aload_n 0, 1) := by decide +kernel
theorem dX_seeds_26 : decode cX_seeds 26 = .ok (.getfield 12, 3) := by decide +kernel
theorem dX_seeds_29 : decode cX_seeds 29 = .ok (.getfield 171, 3) := by decide +kernel
theorem dX_seeds_32 : decode cX_seeds 32 = .ok (.ifCond .eq 13, 3) := by decide +kernel
theorem dX_seeds_35 : decode cX_seeds 35 = .ok (.aload_n 0, 1) := by decide +kernel
theorem dX_seeds_36 : decode cX_seeds 36 = .ok (.getfield 12, 3) := by decide +kernel
theorem dX_seeds_39 : decode cX_seeds 39 = .ok (.getfield 197, 3) := by decide +kernel
theorem dX_seeds_42 : decode cX_seeds 42 = .ok (.ifCond .ne 10, 3) := by decide +kernel
theorem dX_seeds_45 : decode cX_seeds 45 = .ok (.aload_n 0, 1) := by decide +kernel
theorem dX_seeds_46 : decode cX_seeds 46 = .ok (.bipush (-3), 2) := by decide +kernel
theorem dX_seeds_48 : decode cX_seeds 48 = .ok (.invokevirtual 51, 3) := by decide +kernel
theorem dX_seeds_51 : decode cX_seeds 51 = .ok (.ireturn, 1) := by decide +kernel
theorem dX_seeds_52 : decode cX_seeds 52 = .ok (.aload_n 0, 1) := by decide +kernel
theorem dX_seeds_53 : decode cX_seeds 53 = .ok (.iload_n 1, 1) := by decide +kernel
theorem dX_seeds_54 : decode cX_seeds 54 = .ok (.iload_n 2, 1) := by decide +kernel
theorem dX_seeds_55 : decode cX_seeds 55 = .ok (.invokevirtual 200, 3) := by decide +kernel
theorem dX_seeds_58 : decode cX_seeds 58 = .ok (.ireturn, 1) := by decide +kernel
theorem dX_soonest_0 : decode cX_soonest 0 = .ok (.iload_n 1, 1) := by decide +kernel
theorem dX_soonest_1 : decode cX_soonest 1 = .ok (.invokestatic 143, 3) := by decide +kernel
theorem dX_soonest_4 : decode cX_soonest 4 = .ok (.ifCond .ne 9, 3) := by decide +kernel
theorem dX_soonest_7 : decode cX_soonest 7 = .ok (.aload_n 0, 1) := by decide +kernel
theorem dX_soonest_8 : decode cX_soonest 8 = .ok (.iconst (-1), 1) := by decide +kernel
theorem dX_soonest_9 : decode cX_soonest 9 = .ok (.invokevirtual 51, 3) := by decide +kernel
theorem dX_soonest_12 : decode cX_soonest 12 = .ok (.ireturn, 1) := by decide +kernel
theorem dX_soonest_13 : decode cX_soonest 13 = .ok (.aload_n 0, 1) := by decide +kernel
theorem dX_soonest_14 : decode cX_soonest 14 = .ok (.getfield 36, 3) := by decide +kernel
theorem dX_soonest_17 : decode cX_soonest 17 = .ok (.aload_n 0, 1) := by decide +kernel
theorem dX_soonest_18 : decode cX_soonest 18 = .ok (.getfield 12, 3) := by decide +kernel
theorem dX_soonest_21 : decode cX_soonest 21 = .ok (.invokevirtual 146, 3) := by decide +kernel
theorem dX_soonest_24 : decode cX_soonest 24 = .ok (.aload_n 0, 1) := by decide +kernel
theorem dX_soonest_25 : decode cX_soonest 25 = .ok (.getfield 36, 3) := by decide +kernel
theorem dX_soonest_28 : decode cX_soonest 28 = .ok (.iload_n 1, 1) := by decide +kernel
theorem dX_soonest_29 : decode cX_soonest 29 = .ok (.invokevirtual 155, 3) := by decide +kernel
theorem dX_soonest_32 : decode cX_soonest 32 = .ok (.invokestatic 152, 3) := by decide +kernel
theorem dX_soonest_35 : decode cX_soonest 35 = .ok (.ireturn, 1) := by decide +kernel
theorem dX_sum_0 : decode cX_sum 0 = .ok (.iconst 0, 1) := by decide +kernel
theorem dX_sum_1 : decode cX_sum 1 = .ok (.istore_n 1, 1) := by decide +kernel
theorem dX_sum_2 : decode cX_sum 2 = .ok (.aload_n 0, 1) := by decide +kernel
theorem dX_sum_3 : decode cX_sum 3 = .ok (.astore_n 2, 1) := by decide +kernel
theorem dX_sum_4 : decode cX_sum 4 = .ok (.aload_n 2, 1) := by decide +kernel
theorem dX_sum_5 : decode cX_sum 5 = .ok (.arraylength, 1) := by decide +kernel
theorem dX_sum_6 : decode cX_sum 6 = .ok (.istore_n 3, 1) := by decide +kernel
theorem dX_sum_7 : decode cX_sum 7 = .ok (.iconst 0, 1) := by decide +kernel
theorem dX_sum_8 : decode cX_sum 8 = .ok (.istore 4, 2) := by decide +kernel
theorem dX_sum_10 : decode cX_sum 10 = .ok (.iload 4, 2) := by decide +kernel
theorem dX_sum_12 : decode cX_sum 12 = .ok (.iload_n 3, 1) := by decide +kernel
theorem dX_sum_13 : decode cX_sum 13 = .ok (.if_icmp .ge 20, 3) := by decide +kernel
theorem dX_sum_16 : decode cX_sum 16 = .ok (.aload_n 2, 1) := by decide +kernel
theorem dX_sum_17 : decode cX_sum 17 = .ok (.iload 4, 2) := by decide +kernel
theorem dX_sum_19 : decode cX_sum 19 = .ok (.iaload, 1) := by decide +kernel
theorem dX_sum_20 : decode cX_sum 20 = .ok (.istore 5, 2) := by decide +kernel
theorem dX_sum_22 : decode cX_sum 22 = .ok (.iload_n 1, 1) := by decide +kernel
theorem dX_sum_23 : decode cX_sum 23 = .ok (.iload 5, 2) := by decide +kernel
theorem dX_sum_25 : decode cX_sum 25 = .ok (.iadd, 1) := by decide +kernel
theorem dX_sum_26 : decode cX_sum 26 = .ok (.istore_n 1, 1) := by decide +kernel
theorem dX_sum_27 : decode cX_sum 27 = .ok (.iinc 4 1, 3) := by decide +kernel
theorem dX_sum_30 : decode cX_sum 30 = .ok (.goto (-20), 3) := by decide +kernel
theorem dX_sum_33 : decode cX_sum 33 = .ok (.iload_n 1, 1) := by decide +kernel
theorem dX_sum_34 : decode cX_sum 34 = .ok (.ireturn, 1) := by decide +kernel
theorem dX_way_0 : decode cX_way 0 = .ok (.iload_n 1, 1) := by decide +kernel
theorem dX_way_1 : decode cX_way 1 = .ok (.invokestatic 143, 3) := by decide +kernel
theorem dX_way_4 : decode cX_way 4 = .ok (.ifCond .eq 10, 3) := by decide +kernel
theorem dX_way_7 : decode cX_way 7 = .ok (.iload_n 2, 1) := by decide +kernel
theorem dX_way_8 : decode cX_way 8 = .ok (.invokestatic 143, 3) := by decide +kernel
theorem dX_way_11 : decode cX_way 11 = .ok (.ifCond .ne 9, 3) := by decide +kernel
theorem dX_way_14 : decode cX_way 14 = .ok (.aload_n 0, 1) := by decide +kernel
theorem dX_way_15 : decode cX_way 15 = .ok (.iconst (-1), 1) := by decide +kernel
theorem dX_way_16 : decode cX_way 16 = .ok (.invokevirtual 51, 3) := by decide +kernel
theorem dX_way_19 : decode cX_way 19 = .ok (.ireturn, 1) := by decide +kernel
theorem dX_way_20 : decode cX_way 20 = .ok (.aload_n 0, 1) := by decide +kernel
theorem dX_way_21 : decode cX_way 21 = .ok (.getfield 36, 3) := by decide +kernel
theorem dX_way_24 : decode cX_way 24 = .ok (.aload_n 0, 1) := by decide +kernel
theorem dX_way_25 : decode cX_way 25 = .ok (.getfield 12, 3) := by decide +kernel
theorem dX_way_28 : decode cX_way 28 = .ok (.invokevirtual 146, 3) := by decide +kernel
theorem dX_way_31 : decode cX_way 31 = .ok (.aload_n 0, 1) := by decide +kernel
theorem dX_way_32 : decode cX_way 32 = .ok (.getfield 36, 3) := by decide +kernel
theorem dX_way_35 : decode cX_way 35 = .ok (.getfield 149, 3) := by decide +kernel
theorem dX_way_38 : decode cX_way 38 = .ok (.iload_n 1, 1) := by decide +kernel
theorem dX_way_39 : decode cX_way 39 = .ok (.aaload, 1) := by decide +kernel
theorem dX_way_40 : decode cX_way 40 = .ok (.iload_n 2, 1) := by decide +kernel
theorem dX_way_41 : decode cX_way 41 = .ok (.iaload, 1) := by decide +kernel
theorem dX_way_42 : decode cX_way 42 = .ok (.invokestatic 152, 3) := by decide +kernel
theorem dX_way_45 : decode cX_way 45 = .ok (.ireturn, 1) := by decide +kernel
theorem dX_waysToLeak_0 : decode cX_waysToLeak 0 = .ok (.aload_n 0, 1) := by decide +kernel
theorem dX_waysToLeak_1 : decode cX_waysToLeak 1 = .ok (.iload_n 1, 1) := by decide +kernel
theorem dX_waysToLeak_2 : decode cX_waysToLeak 2 = .ok (.invokevirtual 188, 3) := by decide +kernel
theorem dX_waysToLeak_5 : decode cX_waysToLeak 5 = .ok (.istore_n 2, 1) := by decide +kernel
theorem dX_waysToLeak_6 : decode cX_waysToLeak 6 = .ok (.iconst 0, 1) := by decide +kernel
theorem dX_waysToLeak_7 : decode cX_waysToLeak 7 = .ok (.istore_n 3, 1) := by decide +kernel
theorem dX_waysToLeak_8 : decode cX_waysToLeak 8 = .ok (.iconst 0, 1) := by decide +kernel
theorem dX_waysToLeak_9 : decode cX_waysToLeak 9 = .ok (.istore 4, 2) := by decide +kernel
theorem dX_waysToLeak_11 : decode cX_waysToLeak 11 = .ok (.iload 4, 2) := by decide +kernel
theorem dX_waysToLeak_13 : decode cX_waysToLeak 13 = .ok (.bipush 6, 2) := by decide +kernel
theorem dX_waysToLeak_15 : decode cX_waysToLeak 15 = .ok (.if_icmp .ge 41, 3) := by decide +kernel
theorem dX_waysToLeak_18 : decode cX_waysToLeak 18 = .ok (.iconst 0, 1) := by decide +kernel
theorem dX_waysToLeak_19 : decode cX_waysToLeak 19 = .ok (.istore 5, 2) := by decide +kernel
theorem dX_waysToLeak_21 : decode cX_waysToLeak 21 = .ok (.iload 5, 2) := by decide +kernel
theorem dX_waysToLeak_23 : decode cX_waysToLeak 23 = .ok (.bipush 9, 2) := by decide +kernel
theorem dX_waysToLeak_25 : decode cX_waysToLeak 25 = .ok (.if_icmp .gt 25, 3) := by decide +kernel
theorem dX_waysToLeak_28 : decode cX_waysToLeak 28 = .ok (.aload_n 0, 1) := by decide +kernel
theorem dX_waysToLeak_29 : decode cX_waysToLeak 29 = .ok (.iload 4, 2) := by decide +kernel
theorem dX_waysToLeak_31 : decode cX_waysToLeak 31 = .ok (.iload 5, 2) := by decide +kernel
theorem dX_waysToLeak_33 : decode cX_waysToLeak 33 = .ok (.iload_n 1, 1) := by decide +kernel
theorem dX_waysToLeak_34 : decode cX_waysToLeak 34 = .ok (.iload_n 2, 1) := by decide +kernel
theorem dX_waysToLeak_35 : decode cX_waysToLeak 35 = .ok (.invokevirtual 251, 3) := by decide +kernel
theorem dX_waysToLeak_38 : decode cX_waysToLeak 38 = .ok (.ifCond .eq 6, 3) := by decide +kernel
theorem dX_waysToLeak_41 : decode cX_waysToLeak 41 = .ok (.iinc 3 1, 3) := by decide +kernel
theorem dX_waysToLeak_44 : decode cX_waysToLeak 44 = .ok (.iinc 5 1, 3) := by decide +kernel
theorem dX_waysToLeak_47 : decode cX_waysToLeak 47 = .ok (.goto (-26), 3) := by decide +kernel
theorem dX_waysToLeak_50 : decode cX_waysToLeak 50 = .ok (.iinc 4 1, 3) := by decide +kernel
theorem dX_waysToLeak_53 : decode cX_waysToLeak 53 = .ok (.goto (-42), 3) := by decide +kernel
theorem dX_waysToLeak_56 : decode cX_waysToLeak 56 = .ok (.iload_n 3, 1) := by decide +kernel
theorem dX_waysToLeak_57 : decode cX_waysToLeak 57 = .ok (.ireturn, 1) := by decide +kernel
theorem dX_wouldMakeAllSo_0 : decode cX_wouldMakeAllSo 0 = .ok (.iload_n 1, 1) := by decide +kernel
theorem dX_wouldMakeAllSo_1 : decode cX_wouldMakeAllSo 1 = .ok (.invokestatic 66, 3) := by decide +kernel
theorem dX_wouldMakeAllSo_4 : decode cX_wouldMakeAllSo 4 = .ok (.ifCond .eq 26, 3) := by decide +kernel
theorem dX_wouldMakeAllSo_7 : decode cX_wouldMakeAllSo 7 = .ok (.aload_n 0, 1) := by decide +kernel
theorem dX_wouldMakeAllSo_8 : decode cX_wouldMakeAllSo 8 = .ok (.getfield 12, 3) := by decide +kernel
theorem dX_wouldMakeAllSo_11 : decode cX_wouldMakeAllSo 11 = .ok (.getfield 73, 3) := by decide +kernel
theorem dX_wouldMakeAllSo_14 : decode cX_wouldMakeAllSo 14 = .ok (.iload_n 1, 1) := by decide +kernel
theorem dX_wouldMakeAllSo_15 : decode cX_wouldMakeAllSo 15 = .ok (.iaload, 1) := by decide +kernel
theorem dX_wouldMakeAllSo_16 : decode cX_wouldMakeAllSo 16 = .ok (.iload_n 2, 1) := by decide +kernel
theorem dX_wouldMakeAllSo_17 : decode cX_wouldMakeAllSo 17 = .ok (.if_icmp .eq 13, 3) := by decide +kernel
theorem dX_wouldMakeAllSo_20 : decode cX_wouldMakeAllSo 20 = .ok (.aload_n 0, 1) := by decide +kernel
theorem dX_wouldMakeAllSo_21 : decode cX_wouldMakeAllSo 21 = .ok (.iload_n 1, 1) := by decide +kernel
theorem dX_wouldMakeAllSo_22 : decode cX_wouldMakeAllSo 22 = .ok (.iload_n 2, 1) := by decide +kernel
theorem dX_wouldMakeAllSo_23 : decode cX_wouldMakeAllSo 23 = .ok (.iload_n 3, 1) := by decide +kernel
theorem dX_wouldMakeAllSo_24 : decode cX_wouldMakeAllSo 24 = .ok (.invokevirtual 247, 3) := by decide +kernel
theorem dX_wouldMakeAllSo_27 : decode cX_wouldMakeAllSo 27 = .ok (.ifCond .ne 5, 3) := by decide +kernel
theorem dX_wouldMakeAllSo_30 : decode cX_wouldMakeAllSo 30 = .ok (.iconst 0, 1) := by decide +kernel
theorem dX_wouldMakeAllSo_31 : decode cX_wouldMakeAllSo 31 = .ok (.ireturn, 1) := by decide +kernel
theorem dX_wouldMakeAllSo_32 : decode cX_wouldMakeAllSo 32 = .ok (.aload_n 0, 1) := by decide +kernel
theorem dX_wouldMakeAllSo_33 : decode cX_wouldMakeAllSo 33 = .ok (.iload_n 1, 1) := by decide +kernel
theorem dX_wouldMakeAllSo_34 : decode cX_wouldMakeAllSo 34 = .ok (.aload_n 0, 1) := by decide +kernel
theorem dX_wouldMakeAllSo_35 : decode cX_wouldMakeAllSo 35 = .ok (.getfield 12, 3) := by decide +kernel
theorem dX_wouldMakeAllSo_38 : decode cX_wouldMakeAllSo 38 = .ok (.getfield 73, 3) := by decide +kernel
theorem dX_wouldMakeAllSo_41 : decode cX_wouldMakeAllSo 41 = .ok (.iload_n 1, 1) := by decide +kernel
theorem dX_wouldMakeAllSo_42 : decode cX_wouldMakeAllSo 42 = .ok (.iaload, 1) := by decide +kernel
theorem dX_wouldMakeAllSo_43 : decode cX_wouldMakeAllSo 43 = .ok (.iload_n 3, 1) := by decide +kernel
theorem dX_wouldMakeAllSo_44 : decode cX_wouldMakeAllSo 44 = .ok (.invokevirtual 247, 3) := by decide +kernel
theorem dX_wouldMakeAllSo_47 : decode cX_wouldMakeAllSo 47 = .ok (.ifCond .eq 7, 3) := by decide +kernel
theorem dX_wouldMakeAllSo_50 : decode cX_wouldMakeAllSo 50 = .ok (.iconst 0, 1) := by decide +kernel
theorem dX_wouldMakeAllSo_51 : decode cX_wouldMakeAllSo 51 = .ok (.goto 4, 3) := by decide +kernel
theorem dX_wouldMakeAllSo_54 : decode cX_wouldMakeAllSo 54 = .ok (.iconst 1, 1) := by decide +kernel
theorem dX_wouldMakeAllSo_55 : decode cX_wouldMakeAllSo 55 = .ok (.istore 5, 2) := by decide +kernel
theorem dX_wouldMakeAllSo_57 : decode cX_wouldMakeAllSo 57 = .ok (.iload 4, 2) := by decide +kernel
theorem dX_wouldMakeAllSo_59 : decode cX_wouldMakeAllSo 59 = .ok (.iload 5, 2) := by decide +kernel
theorem dX_wouldMakeAllSo_61 : decode cX_wouldMakeAllSo 61 = .ok (.if_icmp .ne 7, 3) := by decide +kernel
theorem dX_wouldMakeAllSo_64 : decode cX_wouldMakeAllSo 64 = .ok (.iconst 1, 1) := by decide +kernel
theorem dX_wouldMakeAllSo_65 : decode cX_wouldMakeAllSo 65 = .ok (.goto 4, 3) := by decide +kernel
theorem dX_wouldMakeAllSo_68 : decode cX_wouldMakeAllSo 68 = .ok (.iconst 0, 1) := by decide +kernel
theorem dX_wouldMakeAllSo_69 : decode cX_wouldMakeAllSo 69 = .ok (.ireturn, 1) := by decide +kernel
