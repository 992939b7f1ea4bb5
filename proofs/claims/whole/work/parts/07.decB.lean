/-! what stands at each place of the code -/
theorem dB_init_0 : decode cB_init 0 = .ok (.aload_n 0, 1) := by decide +kernel
theorem dB_init_1 : decode cB_init 1 = .ok (.invokespecial 3, 3) := by decide +kernel
theorem dB_init_4 : decode cB_init 4 = .ok (.aload_n 0, 1) := by decide +kernel
theorem dB_init_5 : decode cB_init 5 = .ok (.bipush 6, 2) := by decide +kernel
theorem dB_init_7 : decode cB_init 7 = .ok (.newarray .int, 2) := by decide +kernel
theorem dB_init_9 : decode cB_init 9 = .ok (.putfield 9, 3) := by decide +kernel
theorem dB_init_12 : decode cB_init 12 = .ok (.aload_n 0, 1) := by decide +kernel
theorem dB_init_13 : decode cB_init 13 = .ok (.bipush 6, 2) := by decide +kernel
theorem dB_init_15 : decode cB_init 15 = .ok (.newarray .int, 2) := by decide +kernel
theorem dB_init_17 : decode cB_init 17 = .ok (.putfield 15, 3) := by decide +kernel
theorem dB_init_20 : decode cB_init 20 = .ok (.aload_n 0, 1) := by decide +kernel
theorem dB_init_21 : decode cB_init 21 = .ok (.bipush 7, 2) := by decide +kernel
theorem dB_init_23 : decode cB_init 23 = .ok (.newarray .int, 2) := by decide +kernel
theorem dB_init_25 : decode cB_init 25 = .ok (.putfield 18, 3) := by decide +kernel
theorem dB_init_28 : decode cB_init 28 = .ok (.aload_n 0, 1) := by decide +kernel
theorem dB_init_29 : decode cB_init 29 = .ok (.bipush 7, 2) := by decide +kernel
theorem dB_init_31 : decode cB_init 31 = .ok (.newarray .int, 2) := by decide +kernel
theorem dB_init_33 : decode cB_init 33 = .ok (.putfield 21, 3) := by decide +kernel
theorem dB_init_36 : decode cB_init 36 = .ok (.aload_n 0, 1) := by decide +kernel
theorem dB_init_37 : decode cB_init 37 = .ok (.bipush 7, 2) := by decide +kernel
theorem dB_init_39 : decode cB_init 39 = .ok (.newarray .int, 2) := by decide +kernel
theorem dB_init_41 : decode cB_init 41 = .ok (.putfield 24, 3) := by decide +kernel
theorem dB_init_44 : decode cB_init 44 = .ok (.aload_n 0, 1) := by decide +kernel
theorem dB_init_45 : decode cB_init 45 = .ok (.bipush 7, 2) := by decide +kernel
theorem dB_init_47 : decode cB_init 47 = .ok (.newarray .int, 2) := by decide +kernel
theorem dB_init_49 : decode cB_init 49 = .ok (.putfield 27, 3) := by decide +kernel
theorem dB_init_52 : decode cB_init 52 = .ok (.aload_n 0, 1) := by decide +kernel
theorem dB_init_53 : decode cB_init 53 = .ok (.bipush 7, 2) := by decide +kernel
theorem dB_init_55 : decode cB_init 55 = .ok (.newarray .int, 2) := by decide +kernel
theorem dB_init_57 : decode cB_init 57 = .ok (.putfield 30, 3) := by decide +kernel
theorem dB_init_60 : decode cB_init 60 = .ok (.aload_n 0, 1) := by decide +kernel
theorem dB_init_61 : decode cB_init 61 = .ok (.iconst 0, 1) := by decide +kernel
theorem dB_init_62 : decode cB_init 62 = .ok (.putfield 33, 3) := by decide +kernel
theorem dB_init_65 : decode cB_init 65 = .ok (.aload_n 0, 1) := by decide +kernel
theorem dB_init_66 : decode cB_init 66 = .ok (.iconst 5, 1) := by decide +kernel
theorem dB_init_67 : decode cB_init 67 = .ok (.newarray .int, 2) := by decide +kernel
theorem dB_init_69 : decode cB_init 69 = .ok (.putfield 37, 3) := by decide +kernel
theorem dB_init_72 : decode cB_init 72 = .ok (.aload_n 0, 1) := by decide +kernel
theorem dB_init_73 : decode cB_init 73 = .ok (.iconst 5, 1) := by decide +kernel
theorem dB_init_74 : decode cB_init 74 = .ok (.newarray .int, 2) := by decide +kernel
theorem dB_init_76 : decode cB_init 76 = .ok (.putfield 40, 3) := by decide +kernel
theorem dB_init_79 : decode cB_init 79 = .ok (.aload_n 0, 1) := by decide +kernel
theorem dB_init_80 : decode cB_init 80 = .ok (.iconst 5, 1) := by decide +kernel
theorem dB_init_81 : decode cB_init 81 = .ok (.newarray .int, 2) := by decide +kernel
theorem dB_init_83 : decode cB_init 83 = .ok (.putfield 43, 3) := by decide +kernel
theorem dB_init_86 : decode cB_init 86 = .ok (.aload_n 0, 1) := by decide +kernel
theorem dB_init_87 : decode cB_init 87 = .ok (.iconst 5, 1) := by decide +kernel
theorem dB_init_88 : decode cB_init 88 = .ok (.newarray .int, 2) := by decide +kernel
theorem dB_init_90 : decode cB_init 90 = .ok (.putfield 46, 3) := by decide +kernel
theorem dB_init_93 : decode cB_init 93 = .ok (.aload_n 0, 1) := by decide +kernel
theorem dB_init_94 : decode cB_init 94 = .ok (.iconst 0, 1) := by decide +kernel
theorem dB_init_95 : decode cB_init 95 = .ok (.putfield 49, 3) := by decide +kernel
theorem dB_init_98 : decode cB_init 98 = .ok (.aload_n 0, 1) := by decide +kernel
theorem dB_init_99 : decode cB_init 99 = .ok (.bipush 6, 2) := by decide +kernel
theorem dB_init_101 : decode cB_init 101 = .ok (.newarray .int, 2) := by decide +kernel
theorem dB_init_103 : decode cB_init 103 = .ok (.putfield 52, 3) := by decide +kernel
theorem dB_init_106 : decode cB_init 106 = .ok (.aload_n 0, 1) := by decide +kernel
theorem dB_init_107 : decode cB_init 107 = .ok (.iconst 0, 1) := by decide +kernel
theorem dB_init_108 : decode cB_init 108 = .ok (.putfield 55, 3) := by decide +kernel
theorem dB_init_111 : decode cB_init 111 = .ok (.aload_n 0, 1) := by decide +kernel
theorem dB_init_112 : decode cB_init 112 = .ok (.iconst 0, 1) := by decide +kernel
theorem dB_init_113 : decode cB_init 113 = .ok (.putfield 58, 3) := by decide +kernel
theorem dB_init_116 : decode cB_init 116 = .ok (.aload_n 0, 1) := by decide +kernel
theorem dB_init_117 : decode cB_init 117 = .ok (.getfield 9, 3) := by decide +kernel
theorem dB_init_120 : decode cB_init 120 = .ok (.bipush 100, 2) := by decide +kernel
theorem dB_init_122 : decode cB_init 122 = .ok (.invokestatic 61, 3) := by decide +kernel
theorem dB_init_125 : decode cB_init 125 = .ok (.return_, 1) := by decide +kernel
theorem dB_airBehind_0 : decode cB_airBehind 0 = .ok (.iload_n 1, 1) := by decide +kernel
theorem dB_airBehind_1 : decode cB_airBehind 1 = .ok (.invokestatic 73, 3) := by decide +kernel
theorem dB_airBehind_4 : decode cB_airBehind 4 = .ok (.ifCond .eq 26, 3) := by decide +kernel
theorem dB_airBehind_7 : decode cB_airBehind 7 = .ok (.iconst 0, 1) := by decide +kernel
theorem dB_airBehind_8 : decode cB_airBehind 8 = .ok (.aload_n 0, 1) := by decide +kernel
theorem dB_airBehind_9 : decode cB_airBehind 9 = .ok (.getfield 9, 3) := by decide +kernel
theorem dB_airBehind_12 : decode cB_airBehind 12 = .ok (.iload_n 1, 1) := by decide +kernel
theorem dB_airBehind_13 : decode cB_airBehind 13 = .ok (.iaload, 1) := by decide +kernel
theorem dB_airBehind_14 : decode cB_airBehind 14 = .ok (.iload_n 3, 1) := by decide +kernel
theorem dB_airBehind_15 : decode cB_airBehind 15 = .ok (.iload_n 2, 1) := by decide +kernel
theorem dB_airBehind_16 : decode cB_airBehind 16 = .ok (.aload_n 0, 1) := by decide +kernel
theorem dB_airBehind_17 : decode cB_airBehind 17 = .ok (.iload_n 1, 1) := by decide +kernel
theorem dB_airBehind_18 : decode cB_airBehind 18 = .ok (.invokevirtual 100, 3) := by decide +kernel
theorem dB_airBehind_21 : decode cB_airBehind 21 = .ok (.iadd, 1) := by decide +kernel
theorem dB_airBehind_22 : decode cB_airBehind 22 = .ok (.imul, 1) := by decide +kernel
theorem dB_airBehind_23 : decode cB_airBehind 23 = .ok (.isub, 1) := by decide +kernel
theorem dB_airBehind_24 : decode cB_airBehind 24 = .ok (.invokestatic 86, 3) := by decide +kernel
theorem dB_airBehind_27 : decode cB_airBehind 27 = .ok (.goto 4, 3) := by decide +kernel
theorem dB_airBehind_30 : decode cB_airBehind 30 = .ok (.iconst 0, 1) := by decide +kernel
theorem dB_airBehind_31 : decode cB_airBehind 31 = .ok (.ireturn, 1) := by decide +kernel
theorem dB_become_0 : decode cB_become 0 = .ok (.aload_n 1, 1) := by decide +kernel
theorem dB_become_1 : decode cB_become 1 = .ok (.getfield 9, 3) := by decide +kernel
theorem dB_become_4 : decode cB_become 4 = .ok (.iconst 0, 1) := by decide +kernel
theorem dB_become_5 : decode cB_become 5 = .ok (.aload_n 0, 1) := by decide +kernel
theorem dB_become_6 : decode cB_become 6 = .ok (.getfield 9, 3) := by decide +kernel
theorem dB_become_9 : decode cB_become 9 = .ok (.iconst 0, 1) := by decide +kernel
theorem dB_become_10 : decode cB_become 10 = .ok (.bipush 6, 2) := by decide +kernel
theorem dB_become_12 : decode cB_become 12 = .ok (.invokestatic 67, 3) := by decide +kernel
theorem dB_become_15 : decode cB_become 15 = .ok (.aload_n 1, 1) := by decide +kernel
theorem dB_become_16 : decode cB_become 16 = .ok (.getfield 15, 3) := by decide +kernel
theorem dB_become_19 : decode cB_become 19 = .ok (.iconst 0, 1) := by decide +kernel
theorem dB_become_20 : decode cB_become 20 = .ok (.aload_n 0, 1) := by decide +kernel
theorem dB_become_21 : decode cB_become 21 = .ok (.getfield 15, 3) := by decide +kernel
theorem dB_become_24 : decode cB_become 24 = .ok (.iconst 0, 1) := by decide +kernel
theorem dB_become_25 : decode cB_become 25 = .ok (.bipush 6, 2) := by decide +kernel
theorem dB_become_27 : decode cB_become 27 = .ok (.invokestatic 67, 3) := by decide +kernel
theorem dB_become_30 : decode cB_become 30 = .ok (.aload_n 1, 1) := by decide +kernel
theorem dB_become_31 : decode cB_become 31 = .ok (.getfield 18, 3) := by decide +kernel
theorem dB_become_34 : decode cB_become 34 = .ok (.iconst 0, 1) := by decide +kernel
theorem dB_become_35 : decode cB_become 35 = .ok (.aload_n 0, 1) := by decide +kernel
theorem dB_become_36 : decode cB_become 36 = .ok (.getfield 18, 3) := by decide +kernel
theorem dB_become_39 : decode cB_become 39 = .ok (.iconst 0, 1) := by decide +kernel
theorem dB_become_40 : decode cB_become 40 = .ok (.bipush 7, 2) := by decide +kernel
theorem dB_become_42 : decode cB_become 42 = .ok (.invokestatic 67, 3) := by decide +kernel
theorem dB_become_45 : decode cB_become 45 = .ok (.aload_n 1, 1) := by decide +kernel
theorem dB_become_46 : decode cB_become 46 = .ok (.getfield 21, 3) := by decide +kernel
theorem dB_become_49 : decode cB_become 49 = .ok (.iconst 0, 1) := by decide +kernel
theorem dB_become_50 : decode cB_become 50 = .ok (.aload_n 0, 1) := by decide +kernel
theorem dB_become_51 : decode cB_become 51 = .ok (.getfield 21, 3) := by decide +kernel
theorem dB_become_54 : decode cB_become 54 = .ok (.iconst 0, 1) := by decide +kernel
theorem dB_become_55 : decode cB_become 55 = .ok (.bipush 7, 2) := by decide +kernel
theorem dB_become_57 : decode cB_become 57 = .ok (.invokestatic 67, 3) := by decide +kernel
theorem dB_become_60 : decode cB_become 60 = .ok (.aload_n 1, 1) := by decide +kernel
theorem dB_become_61 : decode cB_become 61 = .ok (.getfield 24, 3) := by decide +kernel
theorem dB_become_64 : decode cB_become 64 = .ok (.iconst 0, 1) := by decide +kernel
theorem dB_become_65 : decode cB_become 65 = .ok (.aload_n 0, 1) := by decide +kernel
theorem dB_become_66 : decode cB_become 66 = .ok (.getfield 24, 3) := by decide +kernel
theorem dB_become_69 : decode cB_become 69 = .ok (.iconst 0, 1) := by decide +kernel
theorem dB_become_70 : decode cB_become 70 = .ok (.bipush 7, 2) := by decide +kernel
theorem dB_become_72 : decode cB_become 72 = .ok (.invokestatic 67, 3) := by decide +kernel
theorem dB_become_75 : decode cB_become 75 = .ok (.aload_n 1, 1) := by decide +kernel
theorem dB_become_76 : decode cB_become 76 = .ok (.getfield 27, 3) := by decide +kernel
theorem dB_become_79 : decode cB_become 79 = .ok (.iconst 0, 1) := by decide +kernel
theorem dB_become_80 : decode cB_become 80 = .ok (.aload_n 0, 1) := by decide +kernel
theorem dB_become_81 : decode cB_become 81 = .ok (.getfield 27, 3) := by decide +kernel
theorem dB_become_84 : decode cB_become 84 = .ok (.iconst 0, 1) := by decide +kernel
theorem dB_become_85 : decode cB_become 85 = .ok (.bipush 7, 2) := by decide +kernel
theorem dB_become_87 : decode cB_become 87 = .ok (.invokestatic 67, 3) := by decide +kernel
theorem dB_become_90 : decode cB_become 90 = .ok (.aload_n 1, 1) := by decide +kernel
theorem dB_become_91 : decode cB_become 91 = .ok (.getfield 30, 3) := by decide +kernel
theorem dB_become_94 : decode cB_become 94 = .ok (.iconst 0, 1) := by decide +kernel
theorem dB_become_95 : decode cB_become 95 = .ok (.aload_n 0, 1) := by decide +kernel
theorem dB_become_96 : decode cB_become 96 = .ok (.getfield 30, 3) := by decide +kernel
theorem dB_become_99 : decode cB_become 99 = .ok (.iconst 0, 1) := by decide +kernel
theorem dB_become_100 : decode cB_become 100 = .ok (.bipush 7, 2) := by decide +kernel
theorem dB_become_102 : decode cB_become 102 = .ok (.invokestatic 67, 3) := by decide +kernel
theorem dB_become_105 : decode cB_become 105 = .ok (.aload_n 0, 1) := by decide +kernel
theorem dB_become_106 : decode cB_become 106 = .ok (.aload_n 1, 1) := by decide +kernel
theorem dB_become_107 : decode cB_become 107 = .ok (.getfield 33, 3) := by decide +kernel
theorem dB_become_110 : decode cB_become 110 = .ok (.putfield 33, 3) := by decide +kernel
theorem dB_become_113 : decode cB_become 113 = .ok (.aload_n 1, 1) := by decide +kernel
theorem dB_become_114 : decode cB_become 114 = .ok (.getfield 37, 3) := by decide +kernel
theorem dB_become_117 : decode cB_become 117 = .ok (.iconst 0, 1) := by decide +kernel
theorem dB_become_118 : decode cB_become 118 = .ok (.aload_n 0, 1) := by decide +kernel
theorem dB_become_119 : decode cB_become 119 = .ok (.getfield 37, 3) := by decide +kernel
theorem dB_become_122 : decode cB_become 122 = .ok (.iconst 0, 1) := by decide +kernel
theorem dB_become_123 : decode cB_become 123 = .ok (.iconst 5, 1) := by decide +kernel
theorem dB_become_124 : decode cB_become 124 = .ok (.invokestatic 67, 3) := by decide +kernel
theorem dB_become_127 : decode cB_become 127 = .ok (.aload_n 1, 1) := by decide +kernel
theorem dB_become_128 : decode cB_become 128 = .ok (.getfield 40, 3) := by decide +kernel
theorem dB_become_131 : decode cB_become 131 = .ok (.iconst 0, 1) := by decide +kernel
theorem dB_become_132 : decode cB_become 132 = .ok (.aload_n 0, 1) := by decide +kernel
theorem dB_become_133 : decode cB_become 133 = .ok (.getfield 40, 3) := by decide +kernel
theorem dB_become_136 : decode cB_become 136 = .ok (.iconst 0, 1) := by decide +kernel
theorem dB_become_137 : decode cB_become 137 = .ok (.iconst 5, 1) := by decide +kernel
theorem dB_become_138 : decode cB_become 138 = .ok (.invokestatic 67, 3) := by decide +kernel
theorem dB_become_141 : decode cB_become 141 = .ok (.aload_n 1, 1) := by decide +kernel
theorem dB_become_142 : decode cB_become 142 = .ok (.getfield 43, 3) := by decide +kernel
theorem dB_become_145 : decode cB_become 145 = .ok (.iconst 0, 1) := by decide +kernel
theorem dB_become_146 : decode cB_become 146 = .ok (.aload_n 0, 1) := by decide +kernel
theorem dB_become_147 : decode cB_become 147 = .ok (.getfield 43, 3) := by decide +kernel
theorem dB_become_150 : decode cB_become 150 = .ok (.iconst 0, 1) := by decide +kernel
theorem dB_become_151 : decode cB_become 151 = .ok (.iconst 5, 1) := by decide +kernel
theorem dB_become_152 : decode cB_become 152 = .ok (.invokestatic 67, 3) := by decide +kernel
theorem dB_become_155 : decode cB_become 155 = .ok (.aload_n 1, 1) := by decide +kernel
theorem dB_become_156 : decode cB_become 156 = .ok (.getfield 46, 3) := by decide +kernel
theorem dB_become_159 : decode cB_become 159 = .ok (.iconst 0, 1) := by decide +kernel
theorem dB_become_160 : decode cB_become 160 = .ok (.aload_n 0, 1) := by decide +kernel
theorem dB_become_161 : decode cB_become 161 = .ok (.getfield 46, 3) := by decide +kernel
theorem dB_become_164 : decode cB_become 164 = .ok (.iconst 0, 1) := by decide +kernel
theorem dB_become_165 : decode cB_become 165 = .ok (.iconst 5, 1) := by decide +kernel
theorem dB_become_166 : decode cB_become 166 = .ok (.invokestatic 67, 3) := by decide +kernel
theorem dB_become_169 : decode cB_become 169 = .ok (.aload_n 0, 1) := by decide +kernel
theorem dB_become_170 : decode cB_become 170 = .ok (.aload_n 1, 1) := by decide +kernel
theorem dB_become_171 : decode cB_become 171 = .ok (.getfield 49, 3) := by decide +kernel
theorem dB_become_174 : decode cB_become 174 = .ok (.putfield 49, 3) := by decide +kernel
theorem dB_become_177 : decode cB_become 177 = .ok (.aload_n 1, 1) := by decide +kernel
theorem dB_become_178 : decode cB_become 178 = .ok (.getfield 52, 3) := by decide +kernel
theorem dB_become_181 : decode cB_become 181 = .ok (.iconst 0, 1) := by decide +kernel
theorem dB_become_182 : decode cB_become 182 = .ok (.aload_n 0, 1) := by decide +kernel
theorem dB_become_183 : decode cB_become 183 = .ok (.getfield 52, 3) := by decide +kernel
theorem dB_become_186 : decode cB_become 186 = .ok (.iconst 0, 1) := by decide +kernel
theorem dB_become_187 : decode cB_become 187 = .ok (.bipush 6, 2) := by decide +kernel
theorem dB_become_189 : decode cB_become 189 = .ok (.invokestatic 67, 3) := by decide +kernel
theorem dB_become_192 : decode cB_become 192 = .ok (.aload_n 0, 1) := by decide +kernel
theorem dB_become_193 : decode cB_become 193 = .ok (.aload_n 1, 1) := by decide +kernel
theorem dB_become_194 : decode cB_become 194 = .ok (.getfield 55, 3) := by decide +kernel
theorem dB_become_197 : decode cB_become 197 = .ok (.putfield 55, 3) := by decide +kernel
theorem dB_become_200 : decode cB_become 200 = .ok (.aload_n 0, 1) := by decide +kernel
theorem dB_become_201 : decode cB_become 201 = .ok (.aload_n 1, 1) := by decide +kernel
theorem dB_become_202 : decode cB_become 202 = .ok (.getfield 58, 3) := by decide +kernel
theorem dB_become_205 : decode cB_become 205 = .ok (.putfield 58, 3) := by decide +kernel
theorem dB_become_208 : decode cB_become 208 = .ok (.return_, 1) := by decide +kernel
theorem dB_breathIn_0 : decode cB_breathIn 0 = .ok (.aload_n 0, 1) := by decide +kernel
theorem dB_breathIn_1 : decode cB_breathIn 1 = .ok (.iload_n 1, 1) := by decide +kernel
theorem dB_breathIn_2 : decode cB_breathIn 2 = .ok (.invokevirtual 92, 3) := by decide +kernel
theorem dB_breathIn_5 : decode cB_breathIn 5 = .ok (.iconst 1, 1) := by decide +kernel
theorem dB_breathIn_6 : decode cB_breathIn 6 = .ok (.if_icmp .ne 7, 3) := by decide +kernel
theorem dB_breathIn_9 : decode cB_breathIn 9 = .ok (.iconst 1, 1) := by decide +kernel
theorem dB_breathIn_10 : decode cB_breathIn 10 = .ok (.goto 4, 3) := by decide +kernel
theorem dB_breathIn_13 : decode cB_breathIn 13 = .ok (.iconst 0, 1) := by decide +kernel
theorem dB_breathIn_14 : decode cB_breathIn 14 = .ok (.istore_n 2, 1) := by decide +kernel
theorem dB_breathIn_15 : decode cB_breathIn 15 = .ok (.iconst 0, 1) := by decide +kernel
theorem dB_breathIn_16 : decode cB_breathIn 16 = .ok (.istore_n 3, 1) := by decide +kernel
theorem dB_breathIn_17 : decode cB_breathIn 17 = .ok (.iconst 0, 1) := by decide +kernel
theorem dB_breathIn_18 : decode cB_breathIn 18 = .ok (.istore 4, 2) := by decide +kernel
theorem dB_breathIn_20 : decode cB_breathIn 20 = .ok (.iload 4, 2) := by decide +kernel
theorem dB_breathIn_22 : decode cB_breathIn 22 = .ok (.aload_n 0, 1) := by decide +kernel
theorem dB_breathIn_23 : decode cB_breathIn 23 = .ok (.getfield 49, 3) := by decide +kernel
theorem dB_breathIn_26 : decode cB_breathIn 26 = .ok (.if_icmp .ge 34, 3) := by decide +kernel
theorem dB_breathIn_29 : decode cB_breathIn 29 = .ok (.aload_n 0, 1) := by decide +kernel
theorem dB_breathIn_30 : decode cB_breathIn 30 = .ok (.getfield 40, 3) := by decide +kernel
theorem dB_breathIn_33 : decode cB_breathIn 33 = .ok (.iload 4, 2) := by decide +kernel
theorem dB_breathIn_35 : decode cB_breathIn 35 = .ok (.iaload, 1) := by decide +kernel
theorem dB_breathIn_36 : decode cB_breathIn 36 = .ok (.iload_n 1, 1) := by decide +kernel
theorem dB_breathIn_37 : decode cB_breathIn 37 = .ok (.if_icmp .ne 17, 3) := by decide +kernel
theorem dB_breathIn_40 : decode cB_breathIn 40 = .ok (.iload_n 3, 1) := by decide +kernel
theorem dB_breathIn_41 : decode cB_breathIn 41 = .ok (.aload_n 0, 1) := by decide +kernel
theorem dB_breathIn_42 : decode cB_breathIn 42 = .ok (.getfield 37, 3) := by decide +kernel
theorem dB_breathIn_45 : decode cB_breathIn 45 = .ok (.iload 4, 2) := by decide +kernel
theorem dB_breathIn_47 : decode cB_breathIn 47 = .ok (.iaload, 1) := by decide +kernel
theorem dB_breathIn_48 : decode cB_breathIn 48 = .ok (.iload_n 2, 1) := by decide +kernel
theorem dB_breathIn_49 : decode cB_breathIn 49 = .ok (.invokestatic 96, 3) := by decide +kernel
theorem dB_breathIn_52 : decode cB_breathIn 52 = .ok (.iadd, 1) := by decide +kernel
theorem dB_breathIn_53 : decode cB_breathIn 53 = .ok (.istore_n 3, 1) := by decide +kernel
theorem dB_breathIn_54 : decode cB_breathIn 54 = .ok (.iinc 4 1, 3) := by decide +kernel
theorem dB_breathIn_57 : decode cB_breathIn 57 = .ok (.goto (-37), 3) := by decide +kernel
theorem dB_breathIn_60 : decode cB_breathIn 60 = .ok (.iload_n 3, 1) := by decide +kernel
theorem dB_breathIn_61 : decode cB_breathIn 61 = .ok (.ireturn, 1) := by decide +kernel
theorem dB_breathOf_0 : decode cB_breathOf 0 = .ok (.aload_n 0, 1) := by decide +kernel
theorem dB_breathOf_1 : decode cB_breathOf 1 = .ok (.iload_n 1, 1) := by decide +kernel
theorem dB_breathOf_2 : decode cB_breathOf 2 = .ok (.invokevirtual 89, 3) := by decide +kernel
theorem dB_breathOf_5 : decode cB_breathOf 5 = .ok (.ifCond .eq 15, 3) := by decide +kernel
theorem dB_breathOf_8 : decode cB_breathOf 8 = .ok (.aload_n 0, 1) := by decide +kernel
theorem dB_breathOf_9 : decode cB_breathOf 9 = .ok (.getfield 40, 3) := by decide +kernel
theorem dB_breathOf_12 : decode cB_breathOf 12 = .ok (.iload_n 1, 1) := by decide +kernel
theorem dB_breathOf_13 : decode cB_breathOf 13 = .ok (.iaload, 1) := by decide +kernel
theorem dB_breathOf_14 : decode cB_breathOf 14 = .ok (.invokestatic 73, 3) := by decide +kernel
theorem dB_breathOf_17 : decode cB_breathOf 17 = .ok (.ifCond .ne 5, 3) := by decide +kernel
theorem dB_breathOf_20 : decode cB_breathOf 20 = .ok (.iconst 0, 1) := by decide +kernel
theorem dB_breathOf_21 : decode cB_breathOf 21 = .ok (.ireturn, 1) := by decide +kernel
theorem dB_breathOf_22 : decode cB_breathOf 22 = .ok (.aload_n 0, 1) := by decide +kernel
theorem dB_breathOf_23 : decode cB_breathOf 23 = .ok (.getfield 37, 3) := by decide +kernel
theorem dB_breathOf_26 : decode cB_breathOf 26 = .ok (.iload_n 1, 1) := by decide +kernel
theorem dB_breathOf_27 : decode cB_breathOf 27 = .ok (.iaload, 1) := by decide +kernel
theorem dB_breathOf_28 : decode cB_breathOf 28 = .ok (.aload_n 0, 1) := by decide +kernel
theorem dB_breathOf_29 : decode cB_breathOf 29 = .ok (.aload_n 0, 1) := by decide +kernel
theorem dB_breathOf_30 : decode cB_breathOf 30 = .ok (.getfield 40, 3) := by decide +kernel
theorem dB_breathOf_33 : decode cB_breathOf 33 = .ok (.iload_n 1, 1) := by decide +kernel
theorem dB_breathOf_34 : decode cB_breathOf 34 = .ok (.iaload, 1) := by decide +kernel
theorem dB_breathOf_35 : decode cB_breathOf 35 = .ok (.invokevirtual 92, 3) := by decide +kernel
theorem dB_breathOf_38 : decode cB_breathOf 38 = .ok (.iconst 1, 1) := by decide +kernel
theorem dB_breathOf_39 : decode cB_breathOf 39 = .ok (.if_icmp .ne 7, 3) := by decide +kernel
theorem dB_breathOf_42 : decode cB_breathOf 42 = .ok (.iconst 1, 1) := by decide +kernel
theorem dB_breathOf_43 : decode cB_breathOf 43 = .ok (.goto 4, 3) := by decide +kernel
theorem dB_breathOf_46 : decode cB_breathOf 46 = .ok (.iconst 0, 1) := by decide +kernel
theorem dB_breathOf_47 : decode cB_breathOf 47 = .ok (.invokestatic 96, 3) := by decide +kernel
theorem dB_breathOf_50 : decode cB_breathOf 50 = .ok (.ireturn, 1) := by decide +kernel
theorem dB_canPass_0 : decode cB_canPass 0 = .ok (.aload_n 0, 1) := by decide +kernel
theorem dB_canPass_1 : decode cB_canPass 1 = .ok (.iload_n 1, 1) := by decide +kernel
theorem dB_canPass_2 : decode cB_canPass 2 = .ok (.invokevirtual 89, 3) := by decide +kernel
theorem dB_canPass_5 : decode cB_canPass 5 = .ok (.ifCond .eq 20, 3) := by decide +kernel
theorem dB_canPass_8 : decode cB_canPass 8 = .ok (.aload_n 0, 1) := by decide +kernel
theorem dB_canPass_9 : decode cB_canPass 9 = .ok (.iload_n 2, 1) := by decide +kernel
theorem dB_canPass_10 : decode cB_canPass 10 = .ok (.invokevirtual 107, 3) := by decide +kernel
theorem dB_canPass_13 : decode cB_canPass 13 = .ok (.ifCond .eq 12, 3) := by decide +kernel
theorem dB_canPass_16 : decode cB_canPass 16 = .ok (.aload_n 0, 1) := by decide +kernel
theorem dB_canPass_17 : decode cB_canPass 17 = .ok (.getfield 30, 3) := by decide +kernel
theorem dB_canPass_20 : decode cB_canPass 20 = .ok (.iload_n 2, 1) := by decide +kernel
theorem dB_canPass_21 : decode cB_canPass 21 = .ok (.iaload, 1) := by decide +kernel
theorem dB_canPass_22 : decode cB_canPass 22 = .ok (.ifCond .eq 5, 3) := by decide +kernel
theorem dB_canPass_25 : decode cB_canPass 25 = .ok (.iconst 0, 1) := by decide +kernel
theorem dB_canPass_26 : decode cB_canPass 26 = .ok (.ireturn, 1) := by decide +kernel
theorem dB_canPass_27 : decode cB_canPass 27 = .ok (.aload_n 0, 1) := by decide +kernel
theorem dB_canPass_28 : decode cB_canPass 28 = .ok (.getfield 40, 3) := by decide +kernel
theorem dB_canPass_31 : decode cB_canPass 31 = .ok (.iload_n 1, 1) := by decide +kernel
theorem dB_canPass_32 : decode cB_canPass 32 = .ok (.iaload, 1) := by decide +kernel
theorem dB_canPass_33 : decode cB_canPass 33 = .ok (.aload_n 0, 1) := by decide +kernel
theorem dB_canPass_34 : decode cB_canPass 34 = .ok (.getfield 18, 3) := by decide +kernel
theorem dB_canPass_37 : decode cB_canPass 37 = .ok (.iload_n 2, 1) := by decide +kernel
theorem dB_canPass_38 : decode cB_canPass 38 = .ok (.iaload, 1) := by decide +kernel
theorem dB_canPass_39 : decode cB_canPass 39 = .ok (.if_icmp .eq 18, 3) := by decide +kernel
theorem dB_canPass_42 : decode cB_canPass 42 = .ok (.aload_n 0, 1) := by decide +kernel
theorem dB_canPass_43 : decode cB_canPass 43 = .ok (.getfield 40, 3) := by decide +kernel
theorem dB_canPass_46 : decode cB_canPass 46 = .ok (.iload_n 1, 1) := by decide +kernel
theorem dB_canPass_47 : decode cB_canPass 47 = .ok (.iaload, 1) := by decide +kernel
theorem dB_canPass_48 : decode cB_canPass 48 = .ok (.aload_n 0, 1) := by decide +kernel
theorem dB_canPass_49 : decode cB_canPass 49 = .ok (.getfield 21, 3) := by decide +kernel
theorem dB_canPass_52 : decode cB_canPass 52 = .ok (.iload_n 2, 1) := by decide +kernel
theorem dB_canPass_53 : decode cB_canPass 53 = .ok (.iaload, 1) := by decide +kernel
theorem dB_canPass_54 : decode cB_canPass 54 = .ok (.if_icmp .ne 7, 3) := by decide +kernel
theorem dB_canPass_57 : decode cB_canPass 57 = .ok (.iconst 1, 1) := by decide +kernel
theorem dB_canPass_58 : decode cB_canPass 58 = .ok (.goto 4, 3) := by decide +kernel
theorem dB_canPass_61 : decode cB_canPass 61 = .ok (.iconst 0, 1) := by decide +kernel
theorem dB_canPass_62 : decode cB_canPass 62 = .ok (.ireturn, 1) := by decide +kernel
theorem dB_goThrough_0 : decode cB_goThrough 0 = .ok (.aload_n 0, 1) := by decide +kernel
theorem dB_goThrough_1 : decode cB_goThrough 1 = .ok (.iload_n 1, 1) := by decide +kernel
theorem dB_goThrough_2 : decode cB_goThrough 2 = .ok (.iload_n 2, 1) := by decide +kernel
theorem dB_goThrough_3 : decode cB_goThrough 3 = .ok (.invokevirtual 110, 3) := by decide +kernel
theorem dB_goThrough_6 : decode cB_goThrough 6 = .ok (.ifCond .ne 4, 3) := by decide +kernel
theorem dB_goThrough_9 : decode cB_goThrough 9 = .ok (.return_, 1) := by decide +kernel
theorem dB_goThrough_10 : decode cB_goThrough 10 = .ok (.aload_n 0, 1) := by decide +kernel
theorem dB_goThrough_11 : decode cB_goThrough 11 = .ok (.getfield 18, 3) := by decide +kernel
theorem dB_goThrough_14 : decode cB_goThrough 14 = .ok (.iload_n 2, 1) := by decide +kernel
theorem dB_goThrough_15 : decode cB_goThrough 15 = .ok (.iaload, 1) := by decide +kernel
theorem dB_goThrough_16 : decode cB_goThrough 16 = .ok (.istore_n 3, 1) := by decide +kernel
theorem dB_goThrough_17 : decode cB_goThrough 17 = .ok (.aload_n 0, 1) := by decide +kernel
theorem dB_goThrough_18 : decode cB_goThrough 18 = .ok (.getfield 40, 3) := by decide +kernel
theorem dB_goThrough_21 : decode cB_goThrough 21 = .ok (.iload_n 1, 1) := by decide +kernel
theorem dB_goThrough_22 : decode cB_goThrough 22 = .ok (.aload_n 0, 1) := by decide +kernel
theorem dB_goThrough_23 : decode cB_goThrough 23 = .ok (.getfield 40, 3) := by decide +kernel
theorem dB_goThrough_26 : decode cB_goThrough 26 = .ok (.iload_n 1, 1) := by decide +kernel
theorem dB_goThrough_27 : decode cB_goThrough 27 = .ok (.iaload, 1) := by decide +kernel
theorem dB_goThrough_28 : decode cB_goThrough 28 = .ok (.iload_n 3, 1) := by decide +kernel
theorem dB_goThrough_29 : decode cB_goThrough 29 = .ok (.if_icmp .ne 12, 3) := by decide +kernel
theorem dB_goThrough_32 : decode cB_goThrough 32 = .ok (.aload_n 0, 1) := by decide +kernel
theorem dB_goThrough_33 : decode cB_goThrough 33 = .ok (.getfield 21, 3) := by decide +kernel
theorem dB_goThrough_36 : decode cB_goThrough 36 = .ok (.iload_n 2, 1) := by decide +kernel
theorem dB_goThrough_37 : decode cB_goThrough 37 = .ok (.iaload, 1) := by decide +kernel
theorem dB_goThrough_38 : decode cB_goThrough 38 = .ok (.goto 4, 3) := by decide +kernel
theorem dB_goThrough_41 : decode cB_goThrough 41 = .ok (.iload_n 3, 1) := by decide +kernel
theorem dB_goThrough_42 : decode cB_goThrough 42 = .ok (.iastore, 1) := by decide +kernel
theorem dB_goThrough_43 : decode cB_goThrough 43 = .ok (.aload_n 0, 1) := by decide +kernel
theorem dB_goThrough_44 : decode cB_goThrough 44 = .ok (.getfield 21, 3) := by decide +kernel
theorem dB_goThrough_47 : decode cB_goThrough 47 = .ok (.iload_n 2, 1) := by decide +kernel
theorem dB_goThrough_48 : decode cB_goThrough 48 = .ok (.iaload, 1) := by decide +kernel
theorem dB_goThrough_49 : decode cB_goThrough 49 = .ok (.bipush 6, 2) := by decide +kernel
theorem dB_goThrough_51 : decode cB_goThrough 51 = .ok (.if_icmp .ne 33, 3) := by decide +kernel
theorem dB_goThrough_54 : decode cB_goThrough 54 = .ok (.iload_n 3, 1) := by decide +kernel
theorem dB_goThrough_55 : decode cB_goThrough 55 = .ok (.invokestatic 73, 3) := by decide +kernel
theorem dB_goThrough_58 : decode cB_goThrough 58 = .ok (.ifCond .eq 26, 3) := by decide +kernel
theorem dB_goThrough_61 : decode cB_goThrough 61 = .ok (.aload_n 0, 1) := by decide +kernel
theorem dB_goThrough_62 : decode cB_goThrough 62 = .ok (.getfield 9, 3) := by decide +kernel
theorem dB_goThrough_65 : decode cB_goThrough 65 = .ok (.iload_n 3, 1) := by decide +kernel
theorem dB_goThrough_66 : decode cB_goThrough 66 = .ok (.iconst 0, 1) := by decide +kernel
theorem dB_goThrough_67 : decode cB_goThrough 67 = .ok (.aload_n 0, 1) := by decide +kernel
theorem dB_goThrough_68 : decode cB_goThrough 68 = .ok (.getfield 9, 3) := by decide +kernel
theorem dB_goThrough_71 : decode cB_goThrough 71 = .ok (.iload_n 3, 1) := by decide +kernel
theorem dB_goThrough_72 : decode cB_goThrough 72 = .ok (.iaload, 1) := by decide +kernel
theorem dB_goThrough_73 : decode cB_goThrough 73 = .ok (.aload_n 0, 1) := by decide +kernel
theorem dB_goThrough_74 : decode cB_goThrough 74 = .ok (.getfield 24, 3) := by decide +kernel
theorem dB_goThrough_77 : decode cB_goThrough 77 = .ok (.iload_n 2, 1) := by decide +kernel
theorem dB_goThrough_78 : decode cB_goThrough 78 = .ok (.iaload, 1) := by decide +kernel
theorem dB_goThrough_79 : decode cB_goThrough 79 = .ok (.isub, 1) := by decide +kernel
theorem dB_goThrough_80 : decode cB_goThrough 80 = .ok (.invokestatic 86, 3) := by decide +kernel
theorem dB_goThrough_83 : decode cB_goThrough 83 = .ok (.iastore, 1) := by decide +kernel
theorem dB_goThrough_84 : decode cB_goThrough 84 = .ok (.aload_n 0, 1) := by decide +kernel
theorem dB_goThrough_85 : decode cB_goThrough 85 = .ok (.aload_n 0, 1) := by decide +kernel
theorem dB_goThrough_86 : decode cB_goThrough 86 = .ok (.getfield 27, 3) := by decide +kernel
theorem dB_goThrough_89 : decode cB_goThrough 89 = .ok (.iload_n 2, 1) := by decide +kernel
theorem dB_goThrough_90 : decode cB_goThrough 90 = .ok (.iaload, 1) := by decide +kernel
theorem dB_goThrough_91 : decode cB_goThrough 91 = .ok (.invokevirtual 114, 3) := by decide +kernel
theorem dB_goThrough_94 : decode cB_goThrough 94 = .ok (.pop, 1) := by decide +kernel
theorem dB_goThrough_95 : decode cB_goThrough 95 = .ok (.return_, 1) := by decide +kernel
theorem dB_hasLock_0 : decode cB_hasLock 0 = .ok (.iload_n 1, 1) := by decide +kernel
theorem dB_hasLock_1 : decode cB_hasLock 1 = .ok (.ifCond .lt 15, 3) := by decide +kernel
theorem dB_hasLock_4 : decode cB_hasLock 4 = .ok (.iload_n 1, 1) := by decide +kernel
theorem dB_hasLock_5 : decode cB_hasLock 5 = .ok (.aload_n 0, 1) := by decide +kernel
theorem dB_hasLock_6 : decode cB_hasLock 6 = .ok (.getfield 33, 3) := by decide +kernel
theorem dB_hasLock_9 : decode cB_hasLock 9 = .ok (.if_icmp .ge 7, 3) := by decide +kernel
theorem dB_hasLock_12 : decode cB_hasLock 12 = .ok (.iconst 1, 1) := by decide +kernel
theorem dB_hasLock_13 : decode cB_hasLock 13 = .ok (.goto 4, 3) := by decide +kernel
theorem dB_hasLock_16 : decode cB_hasLock 16 = .ok (.iconst 0, 1) := by decide +kernel
theorem dB_hasLock_17 : decode cB_hasLock 17 = .ok (.ireturn, 1) := by decide +kernel
theorem dB_hasPerson_0 : decode cB_hasPerson 0 = .ok (.iload_n 1, 1) := by decide +kernel
theorem dB_hasPerson_1 : decode cB_hasPerson 1 = .ok (.ifCond .lt 15, 3) := by decide +kernel
theorem dB_hasPerson_4 : decode cB_hasPerson 4 = .ok (.iload_n 1, 1) := by decide +kernel
theorem dB_hasPerson_5 : decode cB_hasPerson 5 = .ok (.aload_n 0, 1) := by decide +kernel
theorem dB_hasPerson_6 : decode cB_hasPerson 6 = .ok (.getfield 49, 3) := by decide +kernel
theorem dB_hasPerson_9 : decode cB_hasPerson 9 = .ok (.if_icmp .ge 7, 3) := by decide +kernel
theorem dB_hasPerson_12 : decode cB_hasPerson 12 = .ok (.iconst 1, 1) := by decide +kernel
theorem dB_hasPerson_13 : decode cB_hasPerson 13 = .ok (.goto 4, 3) := by decide +kernel
theorem dB_hasPerson_16 : decode cB_hasPerson 16 = .ok (.iconst 0, 1) := by decide +kernel
theorem dB_hasPerson_17 : decode cB_hasPerson 17 = .ok (.ireturn, 1) := by decide +kernel
theorem dB_leastBare_0 : decode cB_leastBare 0 = .ok (.iconst 1, 1) := by decide +kernel
theorem dB_leastBare_1 : decode cB_leastBare 1 = .ok (.aload_n 0, 1) := by decide +kernel
theorem dB_leastBare_2 : decode cB_leastBare 2 = .ok (.getfield 49, 3) := by decide +kernel
theorem dB_leastBare_5 : decode cB_leastBare 5 = .ok (.ishl, 1) := by decide +kernel
theorem dB_leastBare_6 : decode cB_leastBare 6 = .ok (.iconst 1, 1) := by decide +kernel
theorem dB_leastBare_7 : decode cB_leastBare 7 = .ok (.isub, 1) := by decide +kernel
theorem dB_leastBare_8 : decode cB_leastBare 8 = .ok (.istore_n 1, 1) := by decide +kernel
theorem dB_leastBare_9 : decode cB_leastBare 9 = .ok (.iload_n 1, 1) := by decide +kernel
theorem dB_leastBare_10 : decode cB_leastBare 10 = .ok (.istore_n 2, 1) := by decide +kernel
theorem dB_leastBare_11 : decode cB_leastBare 11 = .ok (.iconst 0, 1) := by decide +kernel
theorem dB_leastBare_12 : decode cB_leastBare 12 = .ok (.istore_n 3, 1) := by decide +kernel
theorem dB_leastBare_13 : decode cB_leastBare 13 = .ok (.iload_n 3, 1) := by decide +kernel
theorem dB_leastBare_14 : decode cB_leastBare 14 = .ok (.iload_n 1, 1) := by decide +kernel
theorem dB_leastBare_15 : decode cB_leastBare 15 = .ok (.if_icmp .ge 30, 3) := by decide +kernel
theorem dB_leastBare_18 : decode cB_leastBare 18 = .ok (.iload_n 3, 1) := by decide +kernel
theorem dB_leastBare_19 : decode cB_leastBare 19 = .ok (.invokestatic 117, 3) := by decide +kernel
theorem dB_leastBare_22 : decode cB_leastBare 22 = .ok (.iload_n 2, 1) := by decide +kernel
theorem dB_leastBare_23 : decode cB_leastBare 23 = .ok (.invokestatic 117, 3) := by decide +kernel
theorem dB_leastBare_26 : decode cB_leastBare 26 = .ok (.if_icmp .ge 13, 3) := by decide +kernel
theorem dB_leastBare_29 : decode cB_leastBare 29 = .ok (.aload_n 0, 1) := by decide +kernel
theorem dB_leastBare_30 : decode cB_leastBare 30 = .ok (.iload_n 3, 1) := by decide +kernel
theorem dB_leastBare_31 : decode cB_leastBare 31 = .ok (.invokevirtual 122, 3) := by decide +kernel
theorem dB_leastBare_34 : decode cB_leastBare 34 = .ok (.ifCond .eq 5, 3) := by decide +kernel
theorem dB_leastBare_37 : decode cB_leastBare 37 = .ok (.iload_n 3, 1) := by decide +kernel
theorem dB_leastBare_38 : decode cB_leastBare 38 = .ok (.istore_n 2, 1) := by decide +kernel
theorem dB_leastBare_39 : decode cB_leastBare 39 = .ok (.iinc 3 1, 3) := by decide +kernel
theorem dB_leastBare_42 : decode cB_leastBare 42 = .ok (.goto (-29), 3) := by decide +kernel
theorem dB_leastBare_45 : decode cB_leastBare 45 = .ok (.iload_n 2, 1) := by decide +kernel
theorem dB_leastBare_46 : decode cB_leastBare 46 = .ok (.ireturn, 1) := by decide +kernel
theorem dB_liveMinute_0 : decode cB_liveMinute 0 = .ok (.iconst 0, 1) := by decide +kernel
theorem dB_liveMinute_1 : decode cB_liveMinute 1 = .ok (.istore_n 1, 1) := by decide +kernel
theorem dB_liveMinute_2 : decode cB_liveMinute 2 = .ok (.iconst 0, 1) := by decide +kernel
theorem dB_liveMinute_3 : decode cB_liveMinute 3 = .ok (.istore_n 2, 1) := by decide +kernel
theorem dB_liveMinute_4 : decode cB_liveMinute 4 = .ok (.iload_n 2, 1) := by decide +kernel
theorem dB_liveMinute_5 : decode cB_liveMinute 5 = .ok (.bipush 6, 2) := by decide +kernel
theorem dB_liveMinute_7 : decode cB_liveMinute 7 = .ok (.if_icmp .ge 52, 3) := by decide +kernel
theorem dB_liveMinute_10 : decode cB_liveMinute 10 = .ok (.aload_n 0, 1) := by decide +kernel
theorem dB_liveMinute_11 : decode cB_liveMinute 11 = .ok (.getfield 9, 3) := by decide +kernel
theorem dB_liveMinute_14 : decode cB_liveMinute 14 = .ok (.iload_n 2, 1) := by decide +kernel
theorem dB_liveMinute_15 : decode cB_liveMinute 15 = .ok (.iaload, 1) := by decide +kernel
theorem dB_liveMinute_16 : decode cB_liveMinute 16 = .ok (.aload_n 0, 1) := by decide +kernel
theorem dB_liveMinute_17 : decode cB_liveMinute 17 = .ok (.getfield 15, 3) := by decide +kernel
theorem dB_liveMinute_20 : decode cB_liveMinute 20 = .ok (.iload_n 2, 1) := by decide +kernel
theorem dB_liveMinute_21 : decode cB_liveMinute 21 = .ok (.iaload, 1) := by decide +kernel
theorem dB_liveMinute_22 : decode cB_liveMinute 22 = .ok (.isub, 1) := by decide +kernel
theorem dB_liveMinute_23 : decode cB_liveMinute 23 = .ok (.aload_n 0, 1) := by decide +kernel
theorem dB_liveMinute_24 : decode cB_liveMinute 24 = .ok (.iload_n 2, 1) := by decide +kernel
theorem dB_liveMinute_25 : decode cB_liveMinute 25 = .ok (.invokevirtual 100, 3) := by decide +kernel
theorem dB_liveMinute_28 : decode cB_liveMinute 28 = .ok (.isub, 1) := by decide +kernel
theorem dB_liveMinute_29 : decode cB_liveMinute 29 = .ok (.istore_n 3, 1) := by decide +kernel
theorem dB_liveMinute_30 : decode cB_liveMinute 30 = .ok (.iload_n 3, 1) := by decide +kernel
theorem dB_liveMinute_31 : decode cB_liveMinute 31 = .ok (.ifCond .ge 11, 3) := by decide +kernel
theorem dB_liveMinute_34 : decode cB_liveMinute 34 = .ok (.iload_n 1, 1) := by decide +kernel
theorem dB_liveMinute_35 : decode cB_liveMinute 35 = .ok (.aload_n 0, 1) := by decide +kernel
theorem dB_liveMinute_36 : decode cB_liveMinute 36 = .ok (.iload_n 2, 1) := by decide +kernel
theorem dB_liveMinute_37 : decode cB_liveMinute 37 = .ok (.invokevirtual 92, 3) := by decide +kernel
theorem dB_liveMinute_40 : decode cB_liveMinute 40 = .ok (.iadd, 1) := by decide +kernel
theorem dB_liveMinute_41 : decode cB_liveMinute 41 = .ok (.istore_n 1, 1) := by decide +kernel
theorem dB_liveMinute_42 : decode cB_liveMinute 42 = .ok (.aload_n 0, 1) := by decide +kernel
theorem dB_liveMinute_43 : decode cB_liveMinute 43 = .ok (.getfield 9, 3) := by decide +kernel
theorem dB_liveMinute_46 : decode cB_liveMinute 46 = .ok (.iload_n 2, 1) := by decide +kernel
theorem dB_liveMinute_47 : decode cB_liveMinute 47 = .ok (.iconst 0, 1) := by decide +kernel
theorem dB_liveMinute_48 : decode cB_liveMinute 48 = .ok (.iload_n 3, 1) := by decide +kernel
theorem dB_liveMinute_49 : decode cB_liveMinute 49 = .ok (.invokestatic 86, 3) := by decide +kernel
theorem dB_liveMinute_52 : decode cB_liveMinute 52 = .ok (.iastore, 1) := by decide +kernel
theorem dB_liveMinute_53 : decode cB_liveMinute 53 = .ok (.iinc 2 1, 3) := by decide +kernel
theorem dB_liveMinute_56 : decode cB_liveMinute 56 = .ok (.goto (-52), 3) := by decide +kernel
theorem dB_liveMinute_59 : decode cB_liveMinute 59 = .ok (.iconst 0, 1) := by decide +kernel
theorem dB_liveMinute_60 : decode cB_liveMinute 60 = .ok (.istore_n 2, 1) := by decide +kernel
theorem dB_liveMinute_61 : decode cB_liveMinute 61 = .ok (.iload_n 2, 1) := by decide +kernel
theorem dB_liveMinute_62 : decode cB_liveMinute 62 = .ok (.aload_n 0, 1) := by decide +kernel
theorem dB_liveMinute_63 : decode cB_liveMinute 63 = .ok (.getfield 49, 3) := by decide +kernel
theorem dB_liveMinute_66 : decode cB_liveMinute 66 = .ok (.if_icmp .ge 55, 3) := by decide +kernel
theorem dB_liveMinute_69 : decode cB_liveMinute 69 = .ok (.aload_n 0, 1) := by decide +kernel
theorem dB_liveMinute_70 : decode cB_liveMinute 70 = .ok (.getfield 40, 3) := by decide +kernel
theorem dB_liveMinute_73 : decode cB_liveMinute 73 = .ok (.iload_n 2, 1) := by decide +kernel
theorem dB_liveMinute_74 : decode cB_liveMinute 74 = .ok (.iaload, 1) := by decide +kernel
theorem dB_liveMinute_75 : decode cB_liveMinute 75 = .ok (.bipush 6, 2) := by decide +kernel
theorem dB_liveMinute_77 : decode cB_liveMinute 77 = .ok (.if_icmp .ne 38, 3) := by decide +kernel
theorem dB_liveMinute_80 : decode cB_liveMinute 80 = .ok (.iload_n 1, 1) := by decide +kernel
theorem dB_liveMinute_81 : decode cB_liveMinute 81 = .ok (.aload_n 0, 1) := by decide +kernel
theorem dB_liveMinute_82 : decode cB_liveMinute 82 = .ok (.getfield 46, 3) := by decide +kernel
theorem dB_liveMinute_85 : decode cB_liveMinute 85 = .ok (.iload_n 2, 1) := by decide +kernel
theorem dB_liveMinute_86 : decode cB_liveMinute 86 = .ok (.iaload, 1) := by decide +kernel
theorem dB_liveMinute_87 : decode cB_liveMinute 87 = .ok (.ifCond .ne 7, 3) := by decide +kernel
theorem dB_liveMinute_90 : decode cB_liveMinute 90 = .ok (.iconst 1, 1) := by decide +kernel
theorem dB_liveMinute_91 : decode cB_liveMinute 91 = .ok (.goto 4, 3) := by decide +kernel
theorem dB_liveMinute_94 : decode cB_liveMinute 94 = .ok (.iconst 0, 1) := by decide +kernel
theorem dB_liveMinute_95 : decode cB_liveMinute 95 = .ok (.iadd, 1) := by decide +kernel
theorem dB_liveMinute_96 : decode cB_liveMinute 96 = .ok (.istore_n 1, 1) := by decide +kernel
theorem dB_liveMinute_97 : decode cB_liveMinute 97 = .ok (.aload_n 0, 1) := by decide +kernel
theorem dB_liveMinute_98 : decode cB_liveMinute 98 = .ok (.getfield 46, 3) := by decide +kernel
theorem dB_liveMinute_101 : decode cB_liveMinute 101 = .ok (.iload_n 2, 1) := by decide +kernel
theorem dB_liveMinute_102 : decode cB_liveMinute 102 = .ok (.iconst 0, 1) := by decide +kernel
theorem dB_liveMinute_103 : decode cB_liveMinute 103 = .ok (.aload_n 0, 1) := by decide +kernel
theorem dB_liveMinute_104 : decode cB_liveMinute 104 = .ok (.getfield 46, 3) := by decide +kernel
theorem dB_liveMinute_107 : decode cB_liveMinute 107 = .ok (.iload_n 2, 1) := by decide +kernel
theorem dB_liveMinute_108 : decode cB_liveMinute 108 = .ok (.iaload, 1) := by decide +kernel
theorem dB_liveMinute_109 : decode cB_liveMinute 109 = .ok (.iconst 1, 1) := by decide +kernel
theorem dB_liveMinute_110 : decode cB_liveMinute 110 = .ok (.isub, 1) := by decide +kernel
theorem dB_liveMinute_111 : decode cB_liveMinute 111 = .ok (.invokestatic 86, 3) := by decide +kernel
theorem dB_liveMinute_114 : decode cB_liveMinute 114 = .ok (.iastore, 1) := by decide +kernel
theorem dB_liveMinute_115 : decode cB_liveMinute 115 = .ok (.iinc 2 1, 3) := by decide +kernel
theorem dB_liveMinute_118 : decode cB_liveMinute 118 = .ok (.goto (-57), 3) := by decide +kernel
theorem dB_liveMinute_121 : decode cB_liveMinute 121 = .ok (.aload_n 0, 1) := by decide +kernel
theorem dB_liveMinute_122 : decode cB_liveMinute 122 = .ok (.dup, 1) := by decide +kernel
theorem dB_liveMinute_123 : decode cB_liveMinute 123 = .ok (.getfield 55, 3) := by decide +kernel
theorem dB_liveMinute_126 : decode cB_liveMinute 126 = .ok (.iconst 1, 1) := by decide +kernel
theorem dB_liveMinute_127 : decode cB_liveMinute 127 = .ok (.iadd, 1) := by decide +kernel
theorem dB_liveMinute_128 : decode cB_liveMinute 128 = .ok (.putfield 55, 3) := by decide +kernel
theorem dB_liveMinute_131 : decode cB_liveMinute 131 = .ok (.aload_n 0, 1) := by decide +kernel
theorem dB_liveMinute_132 : decode cB_liveMinute 132 = .ok (.dup, 1) := by decide +kernel
theorem dB_liveMinute_133 : decode cB_liveMinute 133 = .ok (.getfield 58, 3) := by decide +kernel
theorem dB_liveMinute_136 : decode cB_liveMinute 136 = .ok (.iload_n 1, 1) := by decide +kernel
theorem dB_liveMinute_137 : decode cB_liveMinute 137 = .ok (.iadd, 1) := by decide +kernel
theorem dB_liveMinute_138 : decode cB_liveMinute 138 = .ok (.putfield 58, 3) := by decide +kernel
theorem dB_liveMinute_141 : decode cB_liveMinute 141 = .ok (.iload_n 1, 1) := by decide +kernel
theorem dB_liveMinute_142 : decode cB_liveMinute 142 = .ok (.ireturn, 1) := by decide +kernel
theorem dB_liveMinutes_0 : decode cB_liveMinutes 0 = .ok (.aload_n 0, 1) := by decide +kernel
theorem dB_liveMinutes_1 : decode cB_liveMinutes 1 = .ok (.getfield 58, 3) := by decide +kernel
theorem dB_liveMinutes_4 : decode cB_liveMinutes 4 = .ok (.istore_n 2, 1) := by decide +kernel
theorem dB_liveMinutes_5 : decode cB_liveMinutes 5 = .ok (.iconst 0, 1) := by decide +kernel
theorem dB_liveMinutes_6 : decode cB_liveMinutes 6 = .ok (.istore_n 3, 1) := by decide +kernel
theorem dB_liveMinutes_7 : decode cB_liveMinutes 7 = .ok (.iload_n 3, 1) := by decide +kernel
theorem dB_liveMinutes_8 : decode cB_liveMinutes 8 = .ok (.iload_n 1, 1) := by decide +kernel
theorem dB_liveMinutes_9 : decode cB_liveMinutes 9 = .ok (.if_icmp .ge 14, 3) := by decide +kernel
theorem dB_liveMinutes_12 : decode cB_liveMinutes 12 = .ok (.aload_n 0, 1) := by decide +kernel
theorem dB_liveMinutes_13 : decode cB_liveMinutes 13 = .ok (.invokevirtual 103, 3) := by decide +kernel
theorem dB_liveMinutes_16 : decode cB_liveMinutes 16 = .ok (.pop, 1) := by decide +kernel
theorem dB_liveMinutes_17 : decode cB_liveMinutes 17 = .ok (.iinc 3 1, 3) := by decide +kernel
theorem dB_liveMinutes_20 : decode cB_liveMinutes 20 = .ok (.goto (-13), 3) := by decide +kernel
theorem dB_liveMinutes_23 : decode cB_liveMinutes 23 = .ok (.aload_n 0, 1) := by decide +kernel
theorem dB_liveMinutes_24 : decode cB_liveMinutes 24 = .ok (.getfield 58, 3) := by decide +kernel
theorem dB_liveMinutes_27 : decode cB_liveMinutes 27 = .ok (.iload_n 2, 1) := by decide +kernel
theorem dB_liveMinutes_28 : decode cB_liveMinutes 28 = .ok (.isub, 1) := by decide +kernel
theorem dB_liveMinutes_29 : decode cB_liveMinutes 29 = .ok (.ireturn, 1) := by decide +kernel
theorem dB_peopleAt_0 : decode cB_peopleAt 0 = .ok (.iconst 0, 1) := by decide +kernel
theorem dB_peopleAt_1 : decode cB_peopleAt 1 = .ok (.istore_n 2, 1) := by decide +kernel
theorem dB_peopleAt_2 : decode cB_peopleAt 2 = .ok (.iconst 0, 1) := by decide +kernel
theorem dB_peopleAt_3 : decode cB_peopleAt 3 = .ok (.istore_n 3, 1) := by decide +kernel
theorem dB_peopleAt_4 : decode cB_peopleAt 4 = .ok (.iload_n 3, 1) := by decide +kernel
theorem dB_peopleAt_5 : decode cB_peopleAt 5 = .ok (.aload_n 0, 1) := by decide +kernel
theorem dB_peopleAt_6 : decode cB_peopleAt 6 = .ok (.getfield 49, 3) := by decide +kernel
theorem dB_peopleAt_9 : decode cB_peopleAt 9 = .ok (.if_icmp .ge 22, 3) := by decide +kernel
theorem dB_peopleAt_12 : decode cB_peopleAt 12 = .ok (.aload_n 0, 1) := by decide +kernel
theorem dB_peopleAt_13 : decode cB_peopleAt 13 = .ok (.getfield 40, 3) := by decide +kernel
theorem dB_peopleAt_16 : decode cB_peopleAt 16 = .ok (.iload_n 3, 1) := by decide +kernel
theorem dB_peopleAt_17 : decode cB_peopleAt 17 = .ok (.iaload, 1) := by decide +kernel
theorem dB_peopleAt_18 : decode cB_peopleAt 18 = .ok (.iload_n 1, 1) := by decide +kernel
theorem dB_peopleAt_19 : decode cB_peopleAt 19 = .ok (.if_icmp .ne 6, 3) := by decide +kernel
theorem dB_peopleAt_22 : decode cB_peopleAt 22 = .ok (.iinc 2 1, 3) := by decide +kernel
theorem dB_peopleAt_25 : decode cB_peopleAt 25 = .ok (.iinc 3 1, 3) := by decide +kernel
theorem dB_peopleAt_28 : decode cB_peopleAt 28 = .ok (.goto (-24), 3) := by decide +kernel
theorem dB_peopleAt_31 : decode cB_peopleAt 31 = .ok (.iload_n 2, 1) := by decide +kernel
theorem dB_peopleAt_32 : decode cB_peopleAt 32 = .ok (.ireturn, 1) := by decide +kernel
theorem dB_peopleOfFit_0 : decode cB_peopleOfFit 0 = .ok (.iconst 0, 1) := by decide +kernel
theorem dB_peopleOfFit_1 : decode cB_peopleOfFit 1 = .ok (.istore_n 3, 1) := by decide +kernel
theorem dB_peopleOfFit_2 : decode cB_peopleOfFit 2 = .ok (.iconst 0, 1) := by decide +kernel
theorem dB_peopleOfFit_3 : decode cB_peopleOfFit 3 = .ok (.istore 4, 2) := by decide +kernel
theorem dB_peopleOfFit_5 : decode cB_peopleOfFit 5 = .ok (.iload 4, 2) := by decide +kernel
theorem dB_peopleOfFit_7 : decode cB_peopleOfFit 7 = .ok (.aload_n 0, 1) := by decide +kernel
theorem dB_peopleOfFit_8 : decode cB_peopleOfFit 8 = .ok (.getfield 49, 3) := by decide +kernel
theorem dB_peopleOfFit_11 : decode cB_peopleOfFit 11 = .ok (.if_icmp .ge 32, 3) := by decide +kernel
theorem dB_peopleOfFit_14 : decode cB_peopleOfFit 14 = .ok (.aload_n 0, 1) := by decide +kernel
theorem dB_peopleOfFit_15 : decode cB_peopleOfFit 15 = .ok (.getfield 43, 3) := by decide +kernel
theorem dB_peopleOfFit_18 : decode cB_peopleOfFit 18 = .ok (.iload 4, 2) := by decide +kernel
theorem dB_peopleOfFit_20 : decode cB_peopleOfFit 20 = .ok (.iaload, 1) := by decide +kernel
theorem dB_peopleOfFit_21 : decode cB_peopleOfFit 21 = .ok (.iload_n 1, 1) := by decide +kernel
theorem dB_peopleOfFit_22 : decode cB_peopleOfFit 22 = .ok (.if_icmp .ne 15, 3) := by decide +kernel
theorem dB_peopleOfFit_25 : decode cB_peopleOfFit 25 = .ok (.iload_n 2, 1) := by decide +kernel
theorem dB_peopleOfFit_26 : decode cB_peopleOfFit 26 = .ok (.iload 4, 2) := by decide +kernel
theorem dB_peopleOfFit_28 : decode cB_peopleOfFit 28 = .ok (.ishr, 1) := by decide +kernel
theorem dB_peopleOfFit_29 : decode cB_peopleOfFit 29 = .ok (.iconst 1, 1) := by decide +kernel
theorem dB_peopleOfFit_30 : decode cB_peopleOfFit 30 = .ok (.iand, 1) := by decide +kernel
theorem dB_peopleOfFit_31 : decode cB_peopleOfFit 31 = .ok (.ifCond .ne 6, 3) := by decide +kernel
theorem dB_peopleOfFit_34 : decode cB_peopleOfFit 34 = .ok (.iinc 3 1, 3) := by decide +kernel
theorem dB_peopleOfFit_37 : decode cB_peopleOfFit 37 = .ok (.iinc 4 1, 3) := by decide +kernel
theorem dB_peopleOfFit_40 : decode cB_peopleOfFit 40 = .ok (.goto (-35), 3) := by decide +kernel
theorem dB_peopleOfFit_43 : decode cB_peopleOfFit 43 = .ok (.iload_n 3, 1) := by decide +kernel
theorem dB_peopleOfFit_44 : decode cB_peopleOfFit 44 = .ok (.ireturn, 1) := by decide +kernel
theorem dB_suitsAreEnoughBut_0 : decode cB_suitsAreEnoughBut 0 = .ok (.iconst 0, 1) := by decide +kernel
theorem dB_suitsAreEnoughBut_1 : decode cB_suitsAreEnoughBut 1 = .ok (.istore_n 2, 1) := by decide +kernel
theorem dB_suitsAreEnoughBut_2 : decode cB_suitsAreEnoughBut 2 = .ok (.iconst 1, 1) := by decide +kernel
theorem dB_suitsAreEnoughBut_3 : decode cB_suitsAreEnoughBut 3 = .ok (.istore_n 3, 1) := by decide +kernel
theorem dB_suitsAreEnoughBut_4 : decode cB_suitsAreEnoughBut 4 = .ok (.iload_n 3, 1) := by decide +kernel
theorem dB_suitsAreEnoughBut_5 : decode cB_suitsAreEnoughBut 5 = .ok (.iconst 5, 1) := by decide +kernel
theorem dB_suitsAreEnoughBut_6 : decode cB_suitsAreEnoughBut 6 = .ok (.if_icmp .gt 40, 3) := by decide +kernel
theorem dB_suitsAreEnoughBut_9 : decode cB_suitsAreEnoughBut 9 = .ok (.aload_n 0, 1) := by decide +kernel
theorem dB_suitsAreEnoughBut_10 : decode cB_suitsAreEnoughBut 10 = .ok (.getfield 52, 3) := by decide +kernel
theorem dB_suitsAreEnoughBut_13 : decode cB_suitsAreEnoughBut 13 = .ok (.iload_n 3, 1) := by decide +kernel
theorem dB_suitsAreEnoughBut_14 : decode cB_suitsAreEnoughBut 14 = .ok (.iaload, 1) := by decide +kernel
theorem dB_suitsAreEnoughBut_15 : decode cB_suitsAreEnoughBut 15 = .ok (.iload_n 2, 1) := by decide +kernel
theorem dB_suitsAreEnoughBut_16 : decode cB_suitsAreEnoughBut 16 = .ok (.isub, 1) := by decide +kernel
theorem dB_suitsAreEnoughBut_17 : decode cB_suitsAreEnoughBut 17 = .ok (.istore 4, 2) := by decide +kernel
theorem dB_suitsAreEnoughBut_19 : decode cB_suitsAreEnoughBut 19 = .ok (.iload 4, 2) := by decide +kernel
theorem dB_suitsAreEnoughBut_21 : decode cB_suitsAreEnoughBut 21 = .ok (.ifCond .ge 5, 3) := by decide +kernel
theorem dB_suitsAreEnoughBut_24 : decode cB_suitsAreEnoughBut 24 = .ok (.iconst 0, 1) := by decide +kernel
theorem dB_suitsAreEnoughBut_25 : decode cB_suitsAreEnoughBut 25 = .ok (.ireturn, 1) := by decide +kernel
theorem dB_suitsAreEnoughBut_26 : decode cB_suitsAreEnoughBut 26 = .ok (.iconst 0, 1) := by decide +kernel
theorem dB_suitsAreEnoughBut_27 : decode cB_suitsAreEnoughBut 27 = .ok (.aload_n 0, 1) := by decide +kernel
theorem dB_suitsAreEnoughBut_28 : decode cB_suitsAreEnoughBut 28 = .ok (.iload_n 3, 1) := by decide +kernel
theorem dB_suitsAreEnoughBut_29 : decode cB_suitsAreEnoughBut 29 = .ok (.iload_n 1, 1) := by decide +kernel
theorem dB_suitsAreEnoughBut_30 : decode cB_suitsAreEnoughBut 30 = .ok (.invokevirtual 125, 3) := by decide +kernel
theorem dB_suitsAreEnoughBut_33 : decode cB_suitsAreEnoughBut 33 = .ok (.iload 4, 2) := by decide +kernel
theorem dB_suitsAreEnoughBut_35 : decode cB_suitsAreEnoughBut 35 = .ok (.isub, 1) := by decide +kernel
theorem dB_suitsAreEnoughBut_36 : decode cB_suitsAreEnoughBut 36 = .ok (.invokestatic 86, 3) := by decide +kernel
theorem dB_suitsAreEnoughBut_39 : decode cB_suitsAreEnoughBut 39 = .ok (.istore_n 2, 1) := by decide +kernel
theorem dB_suitsAreEnoughBut_40 : decode cB_suitsAreEnoughBut 40 = .ok (.iinc 3 1, 3) := by decide +kernel
theorem dB_suitsAreEnoughBut_43 : decode cB_suitsAreEnoughBut 43 = .ok (.goto (-39), 3) := by decide +kernel
theorem dB_suitsAreEnoughBut_46 : decode cB_suitsAreEnoughBut 46 = .ok (.iload_n 2, 1) := by decide +kernel
theorem dB_suitsAreEnoughBut_47 : decode cB_suitsAreEnoughBut 47 = .ok (.ifCond .ne 7, 3) := by decide +kernel
theorem dB_suitsAreEnoughBut_50 : decode cB_suitsAreEnoughBut 50 = .ok (.iconst 1, 1) := by decide +kernel
theorem dB_suitsAreEnoughBut_51 : decode cB_suitsAreEnoughBut 51 = .ok (.goto 4, 3) := by decide +kernel
theorem dB_suitsAreEnoughBut_54 : decode cB_suitsAreEnoughBut 54 = .ok (.iconst 0, 1) := by decide +kernel
theorem dB_suitsAreEnoughBut_55 : decode cB_suitsAreEnoughBut 55 = .ok (.ireturn, 1) := by decide +kernel
theorem dB_tellAir_0 : decode cB_tellAir 0 = .ok (.iload_n 1, 1) := by decide +kernel
theorem dB_tellAir_1 : decode cB_tellAir 1 = .ok (.invokestatic 73, 3) := by decide +kernel
theorem dB_tellAir_4 : decode cB_tellAir 4 = .ok (.ifCond .eq 14, 3) := by decide +kernel
theorem dB_tellAir_7 : decode cB_tellAir 7 = .ok (.iload_n 2, 1) := by decide +kernel
theorem dB_tellAir_8 : decode cB_tellAir 8 = .ok (.ifCond .lt 10, 3) := by decide +kernel
theorem dB_tellAir_11 : decode cB_tellAir 11 = .ok (.iload_n 2, 1) := by decide +kernel
theorem dB_tellAir_12 : decode cB_tellAir 12 = .ok (.sipush 999, 3) := by decide +kernel
theorem dB_tellAir_15 : decode cB_tellAir 15 = .ok (.if_icmp .le 5, 3) := by decide +kernel
theorem dB_tellAir_18 : decode cB_tellAir 18 = .ok (.iconst 0, 1) := by decide +kernel
theorem dB_tellAir_19 : decode cB_tellAir 19 = .ok (.ireturn, 1) := by decide +kernel
theorem dB_tellAir_20 : decode cB_tellAir 20 = .ok (.aload_n 0, 1) := by decide +kernel
theorem dB_tellAir_21 : decode cB_tellAir 21 = .ok (.getfield 9, 3) := by decide +kernel
theorem dB_tellAir_24 : decode cB_tellAir 24 = .ok (.iload_n 1, 1) := by decide +kernel
theorem dB_tellAir_25 : decode cB_tellAir 25 = .ok (.iload_n 2, 1) := by decide +kernel
theorem dB_tellAir_26 : decode cB_tellAir 26 = .ok (.iastore, 1) := by decide +kernel
theorem dB_tellAir_27 : decode cB_tellAir 27 = .ok (.iconst 1, 1) := by decide +kernel
theorem dB_tellAir_28 : decode cB_tellAir 28 = .ok (.ireturn, 1) := by decide +kernel
theorem dB_tellLeak_0 : decode cB_tellLeak 0 = .ok (.iload_n 1, 1) := by decide +kernel
theorem dB_tellLeak_1 : decode cB_tellLeak 1 = .ok (.invokestatic 73, 3) := by decide +kernel
theorem dB_tellLeak_4 : decode cB_tellLeak 4 = .ok (.ifCond .eq 13, 3) := by decide +kernel
theorem dB_tellLeak_7 : decode cB_tellLeak 7 = .ok (.iload_n 2, 1) := by decide +kernel
theorem dB_tellLeak_8 : decode cB_tellLeak 8 = .ok (.ifCond .lt 9, 3) := by decide +kernel
theorem dB_tellLeak_11 : decode cB_tellLeak 11 = .ok (.iload_n 2, 1) := by decide +kernel
theorem dB_tellLeak_12 : decode cB_tellLeak 12 = .ok (.bipush 9, 2) := by decide +kernel
theorem dB_tellLeak_14 : decode cB_tellLeak 14 = .ok (.if_icmp .le 5, 3) := by decide +kernel
theorem dB_tellLeak_17 : decode cB_tellLeak 17 = .ok (.iconst 0, 1) := by decide +kernel
theorem dB_tellLeak_18 : decode cB_tellLeak 18 = .ok (.ireturn, 1) := by decide +kernel
theorem dB_tellLeak_19 : decode cB_tellLeak 19 = .ok (.aload_n 0, 1) := by decide +kernel
theorem dB_tellLeak_20 : decode cB_tellLeak 20 = .ok (.getfield 15, 3) := by decide +kernel
theorem dB_tellLeak_23 : decode cB_tellLeak 23 = .ok (.iload_n 1, 1) := by decide +kernel
theorem dB_tellLeak_24 : decode cB_tellLeak 24 = .ok (.iload_n 2, 1) := by decide +kernel
theorem dB_tellLeak_25 : decode cB_tellLeak 25 = .ok (.iastore, 1) := by decide +kernel
theorem dB_tellLeak_26 : decode cB_tellLeak 26 = .ok (.iconst 1, 1) := by decide +kernel
theorem dB_tellLeak_27 : decode cB_tellLeak 27 = .ok (.ireturn, 1) := by decide +kernel
theorem dB_tellLock_0 : decode cB_tellLock 0 = .ok (.iload_n 1, 1) := by decide +kernel
theorem dB_tellLock_1 : decode cB_tellLock 1 = .ok (.invokestatic 77, 3) := by decide +kernel
theorem dB_tellLock_4 : decode cB_tellLock 4 = .ok (.ifCond .eq 15, 3) := by decide +kernel
theorem dB_tellLock_7 : decode cB_tellLock 7 = .ok (.iload_n 2, 1) := by decide +kernel
theorem dB_tellLock_8 : decode cB_tellLock 8 = .ok (.invokestatic 77, 3) := by decide +kernel
theorem dB_tellLock_11 : decode cB_tellLock 11 = .ok (.ifCond .eq 8, 3) := by decide +kernel
theorem dB_tellLock_14 : decode cB_tellLock 14 = .ok (.iload_n 1, 1) := by decide +kernel
theorem dB_tellLock_15 : decode cB_tellLock 15 = .ok (.iload_n 2, 1) := by decide +kernel
theorem dB_tellLock_16 : decode cB_tellLock 16 = .ok (.if_icmp .ne 5, 3) := by decide +kernel
theorem dB_tellLock_19 : decode cB_tellLock 19 = .ok (.iconst 0, 1) := by decide +kernel
theorem dB_tellLock_20 : decode cB_tellLock 20 = .ok (.ireturn, 1) := by decide +kernel
theorem dB_tellLock_21 : decode cB_tellLock 21 = .ok (.iload_n 3, 1) := by decide +kernel
theorem dB_tellLock_22 : decode cB_tellLock 22 = .ok (.ifCond .lt 18, 3) := by decide +kernel
theorem dB_tellLock_25 : decode cB_tellLock 25 = .ok (.iload 4, 2) := by decide +kernel
theorem dB_tellLock_27 : decode cB_tellLock 27 = .ok (.iconst 1, 1) := by decide +kernel
theorem dB_tellLock_28 : decode cB_tellLock 28 = .ok (.if_icmp .lt 12, 3) := by decide +kernel
theorem dB_tellLock_31 : decode cB_tellLock 31 = .ok (.aload_n 0, 1) := by decide +kernel
theorem dB_tellLock_32 : decode cB_tellLock 32 = .ok (.getfield 33, 3) := by decide +kernel
theorem dB_tellLock_35 : decode cB_tellLock 35 = .ok (.bipush 7, 2) := by decide +kernel
theorem dB_tellLock_37 : decode cB_tellLock 37 = .ok (.if_icmp .lt 5, 3) := by decide +kernel
theorem dB_tellLock_40 : decode cB_tellLock 40 = .ok (.iconst 0, 1) := by decide +kernel
theorem dB_tellLock_41 : decode cB_tellLock 41 = .ok (.ireturn, 1) := by decide +kernel
theorem dB_tellLock_42 : decode cB_tellLock 42 = .ok (.aload_n 0, 1) := by decide +kernel
theorem dB_tellLock_43 : decode cB_tellLock 43 = .ok (.getfield 18, 3) := by decide +kernel
theorem dB_tellLock_46 : decode cB_tellLock 46 = .ok (.aload_n 0, 1) := by decide +kernel
theorem dB_tellLock_47 : decode cB_tellLock 47 = .ok (.getfield 33, 3) := by decide +kernel
theorem dB_tellLock_50 : decode cB_tellLock 50 = .ok (.iload_n 1, 1) := by decide +kernel
theorem dB_tellLock_51 : decode cB_tellLock 51 = .ok (.iload_n 2, 1) := by decide +kernel
theorem dB_tellLock_52 : decode cB_tellLock 52 = .ok (.invokestatic 80, 3) := by decide +kernel
theorem dB_tellLock_55 : decode cB_tellLock 55 = .ok (.iastore, 1) := by decide +kernel
theorem dB_tellLock_56 : decode cB_tellLock 56 = .ok (.aload_n 0, 1) := by decide +kernel
theorem dB_tellLock_57 : decode cB_tellLock 57 = .ok (.getfield 21, 3) := by decide +kernel
theorem dB_tellLock_60 : decode cB_tellLock 60 = .ok (.aload_n 0, 1) := by decide +kernel
theorem dB_tellLock_61 : decode cB_tellLock 61 = .ok (.getfield 33, 3) := by decide +kernel
theorem dB_tellLock_64 : decode cB_tellLock 64 = .ok (.iload_n 1, 1) := by decide +kernel
theorem dB_tellLock_65 : decode cB_tellLock 65 = .ok (.iload_n 2, 1) := by decide +kernel
theorem dB_tellLock_66 : decode cB_tellLock 66 = .ok (.invokestatic 86, 3) := by decide +kernel
theorem dB_tellLock_69 : decode cB_tellLock 69 = .ok (.iastore, 1) := by decide +kernel
theorem dB_tellLock_70 : decode cB_tellLock 70 = .ok (.aload_n 0, 1) := by decide +kernel
theorem dB_tellLock_71 : decode cB_tellLock 71 = .ok (.getfield 24, 3) := by decide +kernel
theorem dB_tellLock_74 : decode cB_tellLock 74 = .ok (.aload_n 0, 1) := by decide +kernel
theorem dB_tellLock_75 : decode cB_tellLock 75 = .ok (.getfield 33, 3) := by decide +kernel
theorem dB_tellLock_78 : decode cB_tellLock 78 = .ok (.iload_n 3, 1) := by decide +kernel
theorem dB_tellLock_79 : decode cB_tellLock 79 = .ok (.iastore, 1) := by decide +kernel
theorem dB_tellLock_80 : decode cB_tellLock 80 = .ok (.aload_n 0, 1) := by decide +kernel
theorem dB_tellLock_81 : decode cB_tellLock 81 = .ok (.getfield 27, 3) := by decide +kernel
theorem dB_tellLock_84 : decode cB_tellLock 84 = .ok (.aload_n 0, 1) := by decide +kernel
theorem dB_tellLock_85 : decode cB_tellLock 85 = .ok (.getfield 33, 3) := by decide +kernel
theorem dB_tellLock_88 : decode cB_tellLock 88 = .ok (.iload 4, 2) := by decide +kernel
theorem dB_tellLock_90 : decode cB_tellLock 90 = .ok (.iastore, 1) := by decide +kernel
theorem dB_tellLock_91 : decode cB_tellLock 91 = .ok (.aload_n 0, 1) := by decide +kernel
theorem dB_tellLock_92 : decode cB_tellLock 92 = .ok (.getfield 30, 3) := by decide +kernel
theorem dB_tellLock_95 : decode cB_tellLock 95 = .ok (.aload_n 0, 1) := by decide +kernel
theorem dB_tellLock_96 : decode cB_tellLock 96 = .ok (.getfield 33, 3) := by decide +kernel
theorem dB_tellLock_99 : decode cB_tellLock 99 = .ok (.iconst 0, 1) := by decide +kernel
theorem dB_tellLock_100 : decode cB_tellLock 100 = .ok (.iastore, 1) := by decide +kernel
theorem dB_tellLock_101 : decode cB_tellLock 101 = .ok (.aload_n 0, 1) := by decide +kernel
theorem dB_tellLock_102 : decode cB_tellLock 102 = .ok (.dup, 1) := by decide +kernel
theorem dB_tellLock_103 : decode cB_tellLock 103 = .ok (.getfield 33, 3) := by decide +kernel
theorem dB_tellLock_106 : decode cB_tellLock 106 = .ok (.iconst 1, 1) := by decide +kernel
theorem dB_tellLock_107 : decode cB_tellLock 107 = .ok (.iadd, 1) := by decide +kernel
theorem dB_tellLock_108 : decode cB_tellLock 108 = .ok (.putfield 33, 3) := by decide +kernel
theorem dB_tellLock_111 : decode cB_tellLock 111 = .ok (.iconst 1, 1) := by decide +kernel
theorem dB_tellLock_112 : decode cB_tellLock 112 = .ok (.ireturn, 1) := by decide +kernel
theorem dB_tellPerson_0 : decode cB_tellPerson 0 = .ok (.iload_n 1, 1) := by decide +kernel
theorem dB_tellPerson_1 : decode cB_tellPerson 1 = .ok (.ifCond .lt 20, 3) := by decide +kernel
theorem dB_tellPerson_4 : decode cB_tellPerson 4 = .ok (.iload_n 2, 1) := by decide +kernel
theorem dB_tellPerson_5 : decode cB_tellPerson 5 = .ok (.invokestatic 77, 3) := by decide +kernel
theorem dB_tellPerson_8 : decode cB_tellPerson 8 = .ok (.ifCond .eq 13, 3) := by decide +kernel
theorem dB_tellPerson_11 : decode cB_tellPerson 11 = .ok (.iload_n 3, 1) := by decide +kernel
theorem dB_tellPerson_12 : decode cB_tellPerson 12 = .ok (.iconst 1, 1) := by decide +kernel
theorem dB_tellPerson_13 : decode cB_tellPerson 13 = .ok (.if_icmp .lt 8, 3) := by decide +kernel
theorem dB_tellPerson_16 : decode cB_tellPerson 16 = .ok (.iload_n 3, 1) := by decide +kernel
theorem dB_tellPerson_17 : decode cB_tellPerson 17 = .ok (.iconst 5, 1) := by decide +kernel
theorem dB_tellPerson_18 : decode cB_tellPerson 18 = .ok (.if_icmp .le 5, 3) := by decide +kernel
theorem dB_tellPerson_21 : decode cB_tellPerson 21 = .ok (.iconst 0, 1) := by decide +kernel
theorem dB_tellPerson_22 : decode cB_tellPerson 22 = .ok (.ireturn, 1) := by decide +kernel
theorem dB_tellPerson_23 : decode cB_tellPerson 23 = .ok (.iload 4, 2) := by decide +kernel
theorem dB_tellPerson_25 : decode cB_tellPerson 25 = .ok (.ifCond .lt 11, 3) := by decide +kernel
theorem dB_tellPerson_28 : decode cB_tellPerson 28 = .ok (.aload_n 0, 1) := by decide +kernel
theorem dB_tellPerson_29 : decode cB_tellPerson 29 = .ok (.getfield 49, 3) := by decide +kernel
theorem dB_tellPerson_32 : decode cB_tellPerson 32 = .ok (.iconst 5, 1) := by decide +kernel
theorem dB_tellPerson_33 : decode cB_tellPerson 33 = .ok (.if_icmp .lt 5, 3) := by decide +kernel
theorem dB_tellPerson_36 : decode cB_tellPerson 36 = .ok (.iconst 0, 1) := by decide +kernel
theorem dB_tellPerson_37 : decode cB_tellPerson 37 = .ok (.ireturn, 1) := by decide +kernel
theorem dB_tellPerson_38 : decode cB_tellPerson 38 = .ok (.aload_n 0, 1) := by decide +kernel
theorem dB_tellPerson_39 : decode cB_tellPerson 39 = .ok (.getfield 37, 3) := by decide +kernel
theorem dB_tellPerson_42 : decode cB_tellPerson 42 = .ok (.aload_n 0, 1) := by decide +kernel
theorem dB_tellPerson_43 : decode cB_tellPerson 43 = .ok (.getfield 49, 3) := by decide +kernel
theorem dB_tellPerson_46 : decode cB_tellPerson 46 = .ok (.iload_n 1, 1) := by decide +kernel
theorem dB_tellPerson_47 : decode cB_tellPerson 47 = .ok (.iastore, 1) := by decide +kernel
theorem dB_tellPerson_48 : decode cB_tellPerson 48 = .ok (.aload_n 0, 1) := by decide +kernel
theorem dB_tellPerson_49 : decode cB_tellPerson 49 = .ok (.getfield 40, 3) := by decide +kernel
theorem dB_tellPerson_52 : decode cB_tellPerson 52 = .ok (.aload_n 0, 1) := by decide +kernel
theorem dB_tellPerson_53 : decode cB_tellPerson 53 = .ok (.getfield 49, 3) := by decide +kernel
theorem dB_tellPerson_56 : decode cB_tellPerson 56 = .ok (.iload_n 2, 1) := by decide +kernel
theorem dB_tellPerson_57 : decode cB_tellPerson 57 = .ok (.iastore, 1) := by decide +kernel
theorem dB_tellPerson_58 : decode cB_tellPerson 58 = .ok (.aload_n 0, 1) := by decide +kernel
theorem dB_tellPerson_59 : decode cB_tellPerson 59 = .ok (.getfield 43, 3) := by decide +kernel
theorem dB_tellPerson_62 : decode cB_tellPerson 62 = .ok (.aload_n 0, 1) := by decide +kernel
theorem dB_tellPerson_63 : decode cB_tellPerson 63 = .ok (.getfield 49, 3) := by decide +kernel
theorem dB_tellPerson_66 : decode cB_tellPerson 66 = .ok (.iload_n 3, 1) := by decide +kernel
theorem dB_tellPerson_67 : decode cB_tellPerson 67 = .ok (.iastore, 1) := by decide +kernel
theorem dB_tellPerson_68 : decode cB_tellPerson 68 = .ok (.aload_n 0, 1) := by decide +kernel
theorem dB_tellPerson_69 : decode cB_tellPerson 69 = .ok (.getfield 46, 3) := by decide +kernel
theorem dB_tellPerson_72 : decode cB_tellPerson 72 = .ok (.aload_n 0, 1) := by decide +kernel
theorem dB_tellPerson_73 : decode cB_tellPerson 73 = .ok (.getfield 49, 3) := by decide +kernel
theorem dB_tellPerson_76 : decode cB_tellPerson 76 = .ok (.iload 4, 2) := by decide +kernel
theorem dB_tellPerson_78 : decode cB_tellPerson 78 = .ok (.iastore, 1) := by decide +kernel
theorem dB_tellPerson_79 : decode cB_tellPerson 79 = .ok (.aload_n 0, 1) := by decide +kernel
theorem dB_tellPerson_80 : decode cB_tellPerson 80 = .ok (.dup, 1) := by decide +kernel
theorem dB_tellPerson_81 : decode cB_tellPerson 81 = .ok (.getfield 49, 3) := by decide +kernel
theorem dB_tellPerson_84 : decode cB_tellPerson 84 = .ok (.iconst 1, 1) := by decide +kernel
theorem dB_tellPerson_85 : decode cB_tellPerson 85 = .ok (.iadd, 1) := by decide +kernel
theorem dB_tellPerson_86 : decode cB_tellPerson 86 = .ok (.putfield 49, 3) := by decide +kernel
theorem dB_tellPerson_89 : decode cB_tellPerson 89 = .ok (.iconst 1, 1) := by decide +kernel
theorem dB_tellPerson_90 : decode cB_tellPerson 90 = .ok (.ireturn, 1) := by decide +kernel
theorem dB_tellSuits_0 : decode cB_tellSuits 0 = .ok (.iload_n 1, 1) := by decide +kernel
theorem dB_tellSuits_1 : decode cB_tellSuits 1 = .ok (.iconst 1, 1) := by decide +kernel
theorem dB_tellSuits_2 : decode cB_tellSuits 2 = .ok (.if_icmp .lt 17, 3) := by decide +kernel
theorem dB_tellSuits_5 : decode cB_tellSuits 5 = .ok (.iload_n 1, 1) := by decide +kernel
theorem dB_tellSuits_6 : decode cB_tellSuits 6 = .ok (.iconst 5, 1) := by decide +kernel
theorem dB_tellSuits_7 : decode cB_tellSuits 7 = .ok (.if_icmp .gt 12, 3) := by decide +kernel
theorem dB_tellSuits_10 : decode cB_tellSuits 10 = .ok (.iload_n 2, 1) := by decide +kernel
theorem dB_tellSuits_11 : decode cB_tellSuits 11 = .ok (.ifCond .lt 8, 3) := by decide +kernel
theorem dB_tellSuits_14 : decode cB_tellSuits 14 = .ok (.iload_n 2, 1) := by decide +kernel
theorem dB_tellSuits_15 : decode cB_tellSuits 15 = .ok (.iconst 5, 1) := by decide +kernel
theorem dB_tellSuits_16 : decode cB_tellSuits 16 = .ok (.if_icmp .le 5, 3) := by decide +kernel
theorem dB_tellSuits_19 : decode cB_tellSuits 19 = .ok (.iconst 0, 1) := by decide +kernel
theorem dB_tellSuits_20 : decode cB_tellSuits 20 = .ok (.ireturn, 1) := by decide +kernel
theorem dB_tellSuits_21 : decode cB_tellSuits 21 = .ok (.aload_n 0, 1) := by decide +kernel
theorem dB_tellSuits_22 : decode cB_tellSuits 22 = .ok (.getfield 52, 3) := by decide +kernel
theorem dB_tellSuits_25 : decode cB_tellSuits 25 = .ok (.iload_n 1, 1) := by decide +kernel
theorem dB_tellSuits_26 : decode cB_tellSuits 26 = .ok (.iload_n 2, 1) := by decide +kernel
theorem dB_tellSuits_27 : decode cB_tellSuits 27 = .ok (.iastore, 1) := by decide +kernel
theorem dB_tellSuits_28 : decode cB_tellSuits 28 = .ok (.iconst 1, 1) := by decide +kernel
theorem dB_tellSuits_29 : decode cB_tellSuits 29 = .ok (.ireturn, 1) := by decide +kernel
