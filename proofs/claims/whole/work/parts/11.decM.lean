/-! what stands at each place of the code -/
theorem dM_init_0 : decode cM_init 0 = .ok (.aload_n 0, 1) := by decide +kernel
theorem dM_init_1 : decode cM_init 1 = .ok (.invokespecial 1, 3) := by decide +kernel
theorem dM_init_4 : decode cM_init 4 = .ok (.aload_n 0, 1) := by decide +kernel
theorem dM_init_5 : decode cM_init 5 = .ok (.bipush 6, 2) := by decide +kernel
theorem dM_init_7 : decode cM_init 7 = .ok (.newarray .int, 2) := by decide +kernel
theorem dM_init_9 : decode cM_init 9 = .ok (.putfield 7, 3) := by decide +kernel
theorem dM_init_12 : decode cM_init 12 = .ok (.aload_n 0, 1) := by decide +kernel
theorem dM_init_13 : decode cM_init 13 = .ok (.bipush 6, 2) := by decide +kernel
theorem dM_init_15 : decode cM_init 15 = .ok (.newarray .int, 2) := by decide +kernel
theorem dM_init_17 : decode cM_init 17 = .ok (.putfield 13, 3) := by decide +kernel
theorem dM_init_20 : decode cM_init 20 = .ok (.aload_n 0, 1) := by decide +kernel
theorem dM_init_21 : decode cM_init 21 = .ok (.bipush 8, 2) := by decide +kernel
theorem dM_init_23 : decode cM_init 23 = .ok (.newarray .int, 2) := by decide +kernel
theorem dM_init_25 : decode cM_init 25 = .ok (.putfield 16, 3) := by decide +kernel
theorem dM_init_28 : decode cM_init 28 = .ok (.aload_n 0, 1) := by decide +kernel
theorem dM_init_29 : decode cM_init 29 = .ok (.bipush 8, 2) := by decide +kernel
theorem dM_init_31 : decode cM_init 31 = .ok (.newarray .int, 2) := by decide +kernel
theorem dM_init_33 : decode cM_init 33 = .ok (.putfield 19, 3) := by decide +kernel
theorem dM_init_36 : decode cM_init 36 = .ok (.aload_n 0, 1) := by decide +kernel
theorem dM_init_37 : decode cM_init 37 = .ok (.bipush 8, 2) := by decide +kernel
theorem dM_init_39 : decode cM_init 39 = .ok (.newarray .int, 2) := by decide +kernel
theorem dM_init_41 : decode cM_init 41 = .ok (.putfield 22, 3) := by decide +kernel
theorem dM_init_44 : decode cM_init 44 = .ok (.aload_n 0, 1) := by decide +kernel
theorem dM_init_45 : decode cM_init 45 = .ok (.bipush 8, 2) := by decide +kernel
theorem dM_init_47 : decode cM_init 47 = .ok (.newarray .int, 2) := by decide +kernel
theorem dM_init_49 : decode cM_init 49 = .ok (.putfield 25, 3) := by decide +kernel
theorem dM_init_52 : decode cM_init 52 = .ok (.aload_n 0, 1) := by decide +kernel
theorem dM_init_53 : decode cM_init 53 = .ok (.bipush 8, 2) := by decide +kernel
theorem dM_init_55 : decode cM_init 55 = .ok (.newarray .int, 2) := by decide +kernel
theorem dM_init_57 : decode cM_init 57 = .ok (.putfield 28, 3) := by decide +kernel
theorem dM_init_60 : decode cM_init 60 = .ok (.aload_n 0, 1) := by decide +kernel
theorem dM_init_61 : decode cM_init 61 = .ok (.iconst 5, 1) := by decide +kernel
theorem dM_init_62 : decode cM_init 62 = .ok (.newarray .int, 2) := by decide +kernel
theorem dM_init_64 : decode cM_init 64 = .ok (.putfield 31, 3) := by decide +kernel
theorem dM_init_67 : decode cM_init 67 = .ok (.aload_n 0, 1) := by decide +kernel
theorem dM_init_68 : decode cM_init 68 = .ok (.iconst 5, 1) := by decide +kernel
theorem dM_init_69 : decode cM_init 69 = .ok (.newarray .int, 2) := by decide +kernel
theorem dM_init_71 : decode cM_init 71 = .ok (.putfield 34, 3) := by decide +kernel
theorem dM_init_74 : decode cM_init 74 = .ok (.aload_n 0, 1) := by decide +kernel
theorem dM_init_75 : decode cM_init 75 = .ok (.iconst 5, 1) := by decide +kernel
theorem dM_init_76 : decode cM_init 76 = .ok (.newarray .int, 2) := by decide +kernel
theorem dM_init_78 : decode cM_init 78 = .ok (.putfield 37, 3) := by decide +kernel
theorem dM_init_81 : decode cM_init 81 = .ok (.aload_n 0, 1) := by decide +kernel
theorem dM_init_82 : decode cM_init 82 = .ok (.iconst 5, 1) := by decide +kernel
theorem dM_init_83 : decode cM_init 83 = .ok (.newarray .int, 2) := by decide +kernel
theorem dM_init_85 : decode cM_init 85 = .ok (.putfield 40, 3) := by decide +kernel
theorem dM_init_88 : decode cM_init 88 = .ok (.aload_n 0, 1) := by decide +kernel
theorem dM_init_89 : decode cM_init 89 = .ok (.bipush 7, 2) := by decide +kernel
theorem dM_init_91 : decode cM_init 91 = .ok (.newarray .int, 2) := by decide +kernel
theorem dM_init_93 : decode cM_init 93 = .ok (.putfield 43, 3) := by decide +kernel
theorem dM_init_96 : decode cM_init 96 = .ok (.aload_n 0, 1) := by decide +kernel
theorem dM_init_97 : decode cM_init 97 = .ok (.bipush 96, 2) := by decide +kernel
theorem dM_init_99 : decode cM_init 99 = .ok (.newarray .int, 2) := by decide +kernel
theorem dM_init_101 : decode cM_init 101 = .ok (.putfield 46, 3) := by decide +kernel
theorem dM_init_104 : decode cM_init 104 = .ok (.aload_n 0, 1) := by decide +kernel
theorem dM_init_105 : decode cM_init 105 = .ok (.iconst 4, 1) := by decide +kernel
theorem dM_init_106 : decode cM_init 106 = .ok (.newarray .int, 2) := by decide +kernel
theorem dM_init_108 : decode cM_init 108 = .ok (.putfield 49, 3) := by decide +kernel
theorem dM_init_111 : decode cM_init 111 = .ok (.aload_n 0, 1) := by decide +kernel
theorem dM_init_112 : decode cM_init 112 = .ok (.bipush 12, 2) := by decide +kernel
theorem dM_init_114 : decode cM_init 114 = .ok (.newarray .int, 2) := by decide +kernel
theorem dM_init_116 : decode cM_init 116 = .ok (.putfield 52, 3) := by decide +kernel
theorem dM_init_119 : decode cM_init 119 = .ok (.aload_n 0, 1) := by decide +kernel
theorem dM_init_120 : decode cM_init 120 = .ok (.bipush 7, 2) := by decide +kernel
theorem dM_init_122 : decode cM_init 122 = .ok (.newarray .int, 2) := by decide +kernel
theorem dM_init_124 : decode cM_init 124 = .ok (.putfield 55, 3) := by decide +kernel
theorem dM_init_127 : decode cM_init 127 = .ok (.aload_n 0, 1) := by decide +kernel
theorem dM_init_128 : decode cM_init 128 = .ok (.bipush 77, 2) := by decide +kernel
theorem dM_init_130 : decode cM_init 130 = .ok (.newarray .int, 2) := by decide +kernel
theorem dM_init_132 : decode cM_init 132 = .ok (.putfield 58, 3) := by decide +kernel
theorem dM_init_135 : decode cM_init 135 = .ok (.aload_n 0, 1) := by decide +kernel
theorem dM_init_136 : decode cM_init 136 = .ok (.bipush 77, 2) := by decide +kernel
theorem dM_init_138 : decode cM_init 138 = .ok (.newarray .int, 2) := by decide +kernel
theorem dM_init_140 : decode cM_init 140 = .ok (.putfield 61, 3) := by decide +kernel
theorem dM_init_143 : decode cM_init 143 = .ok (.aload_n 0, 1) := by decide +kernel
theorem dM_init_144 : decode cM_init 144 = .ok (.bipush 7, 2) := by decide +kernel
theorem dM_init_146 : decode cM_init 146 = .ok (.newarray .int, 2) := by decide +kernel
theorem dM_init_148 : decode cM_init 148 = .ok (.putfield 64, 3) := by decide +kernel
theorem dM_init_151 : decode cM_init 151 = .ok (.aload_n 0, 1) := by decide +kernel
theorem dM_init_152 : decode cM_init 152 = .ok (.sipush 896, 3) := by decide +kernel
theorem dM_init_155 : decode cM_init 155 = .ok (.newarray .int, 2) := by decide +kernel
theorem dM_init_157 : decode cM_init 157 = .ok (.putfield 67, 3) := by decide +kernel
theorem dM_init_160 : decode cM_init 160 = .ok (.aload_n 0, 1) := by decide +kernel
theorem dM_init_161 : decode cM_init 161 = .ok (.bipush 7, 2) := by decide +kernel
theorem dM_init_163 : decode cM_init 163 = .ok (.newarray .int, 2) := by decide +kernel
theorem dM_init_165 : decode cM_init 165 = .ok (.putfield 70, 3) := by decide +kernel
theorem dM_init_168 : decode cM_init 168 = .ok (.iconst 0, 1) := by decide +kernel
theorem dM_init_169 : decode cM_init 169 = .ok (.istore_n 1, 1) := by decide +kernel
theorem dM_init_170 : decode cM_init 170 = .ok (.iload_n 1, 1) := by decide +kernel
theorem dM_init_171 : decode cM_init 171 = .ok (.bipush 6, 2) := by decide +kernel
theorem dM_init_173 : decode cM_init 173 = .ok (.if_icmp .ge 17, 3) := by decide +kernel
theorem dM_init_176 : decode cM_init 176 = .ok (.aload_n 0, 1) := by decide +kernel
theorem dM_init_177 : decode cM_init 177 = .ok (.getfield 7, 3) := by decide +kernel
theorem dM_init_180 : decode cM_init 180 = .ok (.iload_n 1, 1) := by decide +kernel
theorem dM_init_181 : decode cM_init 181 = .ok (.bipush 100, 2) := by decide +kernel
theorem dM_init_183 : decode cM_init 183 = .ok (.iastore, 1) := by decide +kernel
theorem dM_init_184 : decode cM_init 184 = .ok (.iinc 1 1, 3) := by decide +kernel
theorem dM_init_187 : decode cM_init 187 = .ok (.goto (-17), 3) := by decide +kernel
theorem dM_init_190 : decode cM_init 190 = .ok (.return_, 1) := by decide +kernel
theorem dM_again_0 : decode cM_again 0 = .ok (.iconst 0, 1) := by decide +kernel
theorem dM_again_1 : decode cM_again 1 = .ok (.istore_n 2, 1) := by decide +kernel
theorem dM_again_2 : decode cM_again 2 = .ok (.iload_n 2, 1) := by decide +kernel
theorem dM_again_3 : decode cM_again 3 = .ok (.bipush 6, 2) := by decide +kernel
theorem dM_again_5 : decode cM_again 5 = .ok (.if_icmp .ge 42, 3) := by decide +kernel
theorem dM_again_8 : decode cM_again 8 = .ok (.aload_n 0, 1) := by decide +kernel
theorem dM_again_9 : decode cM_again 9 = .ok (.getfield 7, 3) := by decide +kernel
theorem dM_again_12 : decode cM_again 12 = .ok (.iload_n 2, 1) := by decide +kernel
theorem dM_again_13 : decode cM_again 13 = .ok (.aload_n 1, 1) := by decide +kernel
theorem dM_again_14 : decode cM_again 14 = .ok (.iload_n 2, 1) := by decide +kernel
theorem dM_again_15 : decode cM_again 15 = .ok (.iaload, 1) := by decide +kernel
theorem dM_again_16 : decode cM_again 16 = .ok (.iastore, 1) := by decide +kernel
theorem dM_again_17 : decode cM_again 17 = .ok (.aload_n 0, 1) := by decide +kernel
theorem dM_again_18 : decode cM_again 18 = .ok (.getfield 13, 3) := by decide +kernel
theorem dM_again_21 : decode cM_again 21 = .ok (.iload_n 2, 1) := by decide +kernel
theorem dM_again_22 : decode cM_again 22 = .ok (.aload_n 1, 1) := by decide +kernel
theorem dM_again_23 : decode cM_again 23 = .ok (.bipush 6, 2) := by decide +kernel
theorem dM_again_25 : decode cM_again 25 = .ok (.iload_n 2, 1) := by decide +kernel
theorem dM_again_26 : decode cM_again 26 = .ok (.iadd, 1) := by decide +kernel
theorem dM_again_27 : decode cM_again 27 = .ok (.iaload, 1) := by decide +kernel
theorem dM_again_28 : decode cM_again 28 = .ok (.iastore, 1) := by decide +kernel
theorem dM_again_29 : decode cM_again 29 = .ok (.aload_n 0, 1) := by decide +kernel
theorem dM_again_30 : decode cM_again 30 = .ok (.getfield 43, 3) := by decide +kernel
theorem dM_again_33 : decode cM_again 33 = .ok (.iload_n 2, 1) := by decide +kernel
theorem dM_again_34 : decode cM_again 34 = .ok (.aload_n 1, 1) := by decide +kernel
theorem dM_again_35 : decode cM_again 35 = .ok (.bipush 67, 2) := by decide +kernel
theorem dM_again_37 : decode cM_again 37 = .ok (.iload_n 2, 1) := by decide +kernel
theorem dM_again_38 : decode cM_again 38 = .ok (.iadd, 1) := by decide +kernel
theorem dM_again_39 : decode cM_again 39 = .ok (.iaload, 1) := by decide +kernel
theorem dM_again_40 : decode cM_again 40 = .ok (.iastore, 1) := by decide +kernel
theorem dM_again_41 : decode cM_again 41 = .ok (.iinc 2 1, 3) := by decide +kernel
theorem dM_again_44 : decode cM_again 44 = .ok (.goto (-42), 3) := by decide +kernel
theorem dM_again_47 : decode cM_again 47 = .ok (.iconst 0, 1) := by decide +kernel
theorem dM_again_48 : decode cM_again 48 = .ok (.istore_n 2, 1) := by decide +kernel
theorem dM_again_49 : decode cM_again 49 = .ok (.iload_n 2, 1) := by decide +kernel
theorem dM_again_50 : decode cM_again 50 = .ok (.bipush 7, 2) := by decide +kernel
theorem dM_again_52 : decode cM_again 52 = .ok (.if_icmp .ge 69, 3) := by decide +kernel
theorem dM_again_55 : decode cM_again 55 = .ok (.aload_n 0, 1) := by decide +kernel
theorem dM_again_56 : decode cM_again 56 = .ok (.getfield 16, 3) := by decide +kernel
theorem dM_again_59 : decode cM_again 59 = .ok (.iload_n 2, 1) := by decide +kernel
theorem dM_again_60 : decode cM_again 60 = .ok (.aload_n 1, 1) := by decide +kernel
theorem dM_again_61 : decode cM_again 61 = .ok (.bipush 12, 2) := by decide +kernel
theorem dM_again_63 : decode cM_again 63 = .ok (.iload_n 2, 1) := by decide +kernel
theorem dM_again_64 : decode cM_again 64 = .ok (.iadd, 1) := by decide +kernel
theorem dM_again_65 : decode cM_again 65 = .ok (.iaload, 1) := by decide +kernel
theorem dM_again_66 : decode cM_again 66 = .ok (.iastore, 1) := by decide +kernel
theorem dM_again_67 : decode cM_again 67 = .ok (.aload_n 0, 1) := by decide +kernel
theorem dM_again_68 : decode cM_again 68 = .ok (.getfield 19, 3) := by decide +kernel
theorem dM_again_71 : decode cM_again 71 = .ok (.iload_n 2, 1) := by decide +kernel
theorem dM_again_72 : decode cM_again 72 = .ok (.aload_n 1, 1) := by decide +kernel
theorem dM_again_73 : decode cM_again 73 = .ok (.bipush 19, 2) := by decide +kernel
theorem dM_again_75 : decode cM_again 75 = .ok (.iload_n 2, 1) := by decide +kernel
theorem dM_again_76 : decode cM_again 76 = .ok (.iadd, 1) := by decide +kernel
theorem dM_again_77 : decode cM_again 77 = .ok (.iaload, 1) := by decide +kernel
theorem dM_again_78 : decode cM_again 78 = .ok (.iastore, 1) := by decide +kernel
theorem dM_again_79 : decode cM_again 79 = .ok (.aload_n 0, 1) := by decide +kernel
theorem dM_again_80 : decode cM_again 80 = .ok (.getfield 22, 3) := by decide +kernel
theorem dM_again_83 : decode cM_again 83 = .ok (.iload_n 2, 1) := by decide +kernel
theorem dM_again_84 : decode cM_again 84 = .ok (.aload_n 1, 1) := by decide +kernel
theorem dM_again_85 : decode cM_again 85 = .ok (.bipush 26, 2) := by decide +kernel
theorem dM_again_87 : decode cM_again 87 = .ok (.iload_n 2, 1) := by decide +kernel
theorem dM_again_88 : decode cM_again 88 = .ok (.iadd, 1) := by decide +kernel
theorem dM_again_89 : decode cM_again 89 = .ok (.iaload, 1) := by decide +kernel
theorem dM_again_90 : decode cM_again 90 = .ok (.iastore, 1) := by decide +kernel
theorem dM_again_91 : decode cM_again 91 = .ok (.aload_n 0, 1) := by decide +kernel
theorem dM_again_92 : decode cM_again 92 = .ok (.getfield 25, 3) := by decide +kernel
theorem dM_again_95 : decode cM_again 95 = .ok (.iload_n 2, 1) := by decide +kernel
theorem dM_again_96 : decode cM_again 96 = .ok (.aload_n 1, 1) := by decide +kernel
theorem dM_again_97 : decode cM_again 97 = .ok (.bipush 33, 2) := by decide +kernel
theorem dM_again_99 : decode cM_again 99 = .ok (.iload_n 2, 1) := by decide +kernel
theorem dM_again_100 : decode cM_again 100 = .ok (.iadd, 1) := by decide +kernel
theorem dM_again_101 : decode cM_again 101 = .ok (.iaload, 1) := by decide +kernel
theorem dM_again_102 : decode cM_again 102 = .ok (.iastore, 1) := by decide +kernel
theorem dM_again_103 : decode cM_again 103 = .ok (.aload_n 0, 1) := by decide +kernel
theorem dM_again_104 : decode cM_again 104 = .ok (.getfield 28, 3) := by decide +kernel
theorem dM_again_107 : decode cM_again 107 = .ok (.iload_n 2, 1) := by decide +kernel
theorem dM_again_108 : decode cM_again 108 = .ok (.aload_n 1, 1) := by decide +kernel
theorem dM_again_109 : decode cM_again 109 = .ok (.bipush 40, 2) := by decide +kernel
theorem dM_again_111 : decode cM_again 111 = .ok (.iload_n 2, 1) := by decide +kernel
theorem dM_again_112 : decode cM_again 112 = .ok (.iadd, 1) := by decide +kernel
theorem dM_again_113 : decode cM_again 113 = .ok (.iaload, 1) := by decide +kernel
theorem dM_again_114 : decode cM_again 114 = .ok (.iastore, 1) := by decide +kernel
theorem dM_again_115 : decode cM_again 115 = .ok (.iinc 2 1, 3) := by decide +kernel
theorem dM_again_118 : decode cM_again 118 = .ok (.goto (-69), 3) := by decide +kernel
theorem dM_again_121 : decode cM_again 121 = .ok (.iconst 0, 1) := by decide +kernel
theorem dM_again_122 : decode cM_again 122 = .ok (.istore_n 2, 1) := by decide +kernel
theorem dM_again_123 : decode cM_again 123 = .ok (.iload_n 2, 1) := by decide +kernel
theorem dM_again_124 : decode cM_again 124 = .ok (.iconst 5, 1) := by decide +kernel
theorem dM_again_125 : decode cM_again 125 = .ok (.if_icmp .ge 57, 3) := by decide +kernel
theorem dM_again_128 : decode cM_again 128 = .ok (.aload_n 0, 1) := by decide +kernel
theorem dM_again_129 : decode cM_again 129 = .ok (.getfield 31, 3) := by decide +kernel
theorem dM_again_132 : decode cM_again 132 = .ok (.iload_n 2, 1) := by decide +kernel
theorem dM_again_133 : decode cM_again 133 = .ok (.aload_n 1, 1) := by decide +kernel
theorem dM_again_134 : decode cM_again 134 = .ok (.bipush 47, 2) := by decide +kernel
theorem dM_again_136 : decode cM_again 136 = .ok (.iload_n 2, 1) := by decide +kernel
theorem dM_again_137 : decode cM_again 137 = .ok (.iadd, 1) := by decide +kernel
theorem dM_again_138 : decode cM_again 138 = .ok (.iaload, 1) := by decide +kernel
theorem dM_again_139 : decode cM_again 139 = .ok (.iastore, 1) := by decide +kernel
theorem dM_again_140 : decode cM_again 140 = .ok (.aload_n 0, 1) := by decide +kernel
theorem dM_again_141 : decode cM_again 141 = .ok (.getfield 34, 3) := by decide +kernel
theorem dM_again_144 : decode cM_again 144 = .ok (.iload_n 2, 1) := by decide +kernel
theorem dM_again_145 : decode cM_again 145 = .ok (.aload_n 1, 1) := by decide +kernel
theorem dM_again_146 : decode cM_again 146 = .ok (.bipush 52, 2) := by decide +kernel
theorem dM_again_148 : decode cM_again 148 = .ok (.iload_n 2, 1) := by decide +kernel
theorem dM_again_149 : decode cM_again 149 = .ok (.iadd, 1) := by decide +kernel
theorem dM_again_150 : decode cM_again 150 = .ok (.iaload, 1) := by decide +kernel
theorem dM_again_151 : decode cM_again 151 = .ok (.iastore, 1) := by decide +kernel
theorem dM_again_152 : decode cM_again 152 = .ok (.aload_n 0, 1) := by decide +kernel
theorem dM_again_153 : decode cM_again 153 = .ok (.getfield 37, 3) := by decide +kernel
theorem dM_again_156 : decode cM_again 156 = .ok (.iload_n 2, 1) := by decide +kernel
theorem dM_again_157 : decode cM_again 157 = .ok (.aload_n 1, 1) := by decide +kernel
theorem dM_again_158 : decode cM_again 158 = .ok (.bipush 57, 2) := by decide +kernel
theorem dM_again_160 : decode cM_again 160 = .ok (.iload_n 2, 1) := by decide +kernel
theorem dM_again_161 : decode cM_again 161 = .ok (.iadd, 1) := by decide +kernel
theorem dM_again_162 : decode cM_again 162 = .ok (.iaload, 1) := by decide +kernel
theorem dM_again_163 : decode cM_again 163 = .ok (.iastore, 1) := by decide +kernel
theorem dM_again_164 : decode cM_again 164 = .ok (.aload_n 0, 1) := by decide +kernel
theorem dM_again_165 : decode cM_again 165 = .ok (.getfield 40, 3) := by decide +kernel
theorem dM_again_168 : decode cM_again 168 = .ok (.iload_n 2, 1) := by decide +kernel
theorem dM_again_169 : decode cM_again 169 = .ok (.aload_n 1, 1) := by decide +kernel
theorem dM_again_170 : decode cM_again 170 = .ok (.bipush 62, 2) := by decide +kernel
theorem dM_again_172 : decode cM_again 172 = .ok (.iload_n 2, 1) := by decide +kernel
theorem dM_again_173 : decode cM_again 173 = .ok (.iadd, 1) := by decide +kernel
theorem dM_again_174 : decode cM_again 174 = .ok (.iaload, 1) := by decide +kernel
theorem dM_again_175 : decode cM_again 175 = .ok (.iastore, 1) := by decide +kernel
theorem dM_again_176 : decode cM_again 176 = .ok (.iinc 2 1, 3) := by decide +kernel
theorem dM_again_179 : decode cM_again 179 = .ok (.goto (-56), 3) := by decide +kernel
theorem dM_again_182 : decode cM_again 182 = .ok (.aload_n 0, 1) := by decide +kernel
theorem dM_again_183 : decode cM_again 183 = .ok (.aload_n 1, 1) := by decide +kernel
theorem dM_again_184 : decode cM_again 184 = .ok (.bipush 73, 2) := by decide +kernel
theorem dM_again_186 : decode cM_again 186 = .ok (.iaload, 1) := by decide +kernel
theorem dM_again_187 : decode cM_again 187 = .ok (.putfield 77, 3) := by decide +kernel
theorem dM_again_190 : decode cM_again 190 = .ok (.aload_n 0, 1) := by decide +kernel
theorem dM_again_191 : decode cM_again 191 = .ok (.aload_n 1, 1) := by decide +kernel
theorem dM_again_192 : decode cM_again 192 = .ok (.bipush 74, 2) := by decide +kernel
theorem dM_again_194 : decode cM_again 194 = .ok (.iaload, 1) := by decide +kernel
theorem dM_again_195 : decode cM_again 195 = .ok (.putfield 81, 3) := by decide +kernel
theorem dM_again_198 : decode cM_again 198 = .ok (.aload_n 0, 1) := by decide +kernel
theorem dM_again_199 : decode cM_again 199 = .ok (.aload_n 1, 1) := by decide +kernel
theorem dM_again_200 : decode cM_again 200 = .ok (.bipush 75, 2) := by decide +kernel
theorem dM_again_202 : decode cM_again 202 = .ok (.iaload, 1) := by decide +kernel
theorem dM_again_203 : decode cM_again 203 = .ok (.putfield 146, 3) := by decide +kernel
theorem dM_again_206 : decode cM_again 206 = .ok (.aload_n 0, 1) := by decide +kernel
theorem dM_again_207 : decode cM_again 207 = .ok (.aload_n 1, 1) := by decide +kernel
theorem dM_again_208 : decode cM_again 208 = .ok (.bipush 76, 2) := by decide +kernel
theorem dM_again_210 : decode cM_again 210 = .ok (.iaload, 1) := by decide +kernel
theorem dM_again_211 : decode cM_again 211 = .ok (.putfield 149, 3) := by decide +kernel
theorem dM_again_214 : decode cM_again 214 = .ok (.return_, 1) := by decide +kernel
theorem dM_air_0 : decode cM_air 0 = .ok (.iload_n 1, 1) := by decide +kernel
theorem dM_air_1 : decode cM_air 1 = .ok (.invokestatic 152, 3) := by decide +kernel
theorem dM_air_4 : decode cM_air 4 = .ok (.ifCond .ne 9, 3) := by decide +kernel
theorem dM_air_7 : decode cM_air 7 = .ok (.aload_n 0, 1) := by decide +kernel
theorem dM_air_8 : decode cM_air 8 = .ok (.iconst (-1), 1) := by decide +kernel
theorem dM_air_9 : decode cM_air 9 = .ok (.invokevirtual 84, 3) := by decide +kernel
theorem dM_air_12 : decode cM_air 12 = .ok (.ireturn, 1) := by decide +kernel
theorem dM_air_13 : decode cM_air 13 = .ok (.iload_n 2, 1) := by decide +kernel
theorem dM_air_14 : decode cM_air 14 = .ok (.ifCond .ge 10, 3) := by decide +kernel
theorem dM_air_17 : decode cM_air 17 = .ok (.aload_n 0, 1) := by decide +kernel
theorem dM_air_18 : decode cM_air 18 = .ok (.bipush (-4), 2) := by decide +kernel
theorem dM_air_20 : decode cM_air 20 = .ok (.invokevirtual 84, 3) := by decide +kernel
theorem dM_air_23 : decode cM_air 23 = .ok (.ireturn, 1) := by decide +kernel
theorem dM_air_24 : decode cM_air 24 = .ok (.iload_n 2, 1) := by decide +kernel
theorem dM_air_25 : decode cM_air 25 = .ok (.bipush 99, 2) := by decide +kernel
theorem dM_air_27 : decode cM_air 27 = .ok (.if_icmp .le 10, 3) := by decide +kernel
theorem dM_air_30 : decode cM_air 30 = .ok (.aload_n 0, 1) := by decide +kernel
theorem dM_air_31 : decode cM_air 31 = .ok (.bipush (-6), 2) := by decide +kernel
theorem dM_air_33 : decode cM_air 33 = .ok (.invokevirtual 84, 3) := by decide +kernel
theorem dM_air_36 : decode cM_air 36 = .ok (.ireturn, 1) := by decide +kernel
theorem dM_air_37 : decode cM_air 37 = .ok (.aload_n 0, 1) := by decide +kernel
theorem dM_air_38 : decode cM_air 38 = .ok (.aload_n 0, 1) := by decide +kernel
theorem dM_air_39 : decode cM_air 39 = .ok (.getfield 61, 3) := by decide +kernel
theorem dM_air_42 : decode cM_air 42 = .ok (.invokevirtual 130, 3) := by decide +kernel
theorem dM_air_45 : decode cM_air 45 = .ok (.aload_n 0, 1) := by decide +kernel
theorem dM_air_46 : decode cM_air 46 = .ok (.iload_n 2, 1) := by decide +kernel
theorem dM_air_47 : decode cM_air 47 = .ok (.invokevirtual 161, 3) := by decide +kernel
theorem dM_air_50 : decode cM_air 50 = .ok (.pop, 1) := by decide +kernel
theorem dM_air_51 : decode cM_air 51 = .ok (.aload_n 0, 1) := by decide +kernel
theorem dM_air_52 : decode cM_air 52 = .ok (.getfield 7, 3) := by decide +kernel
theorem dM_air_55 : decode cM_air 55 = .ok (.iload_n 1, 1) := by decide +kernel
theorem dM_air_56 : decode cM_air 56 = .ok (.iaload, 1) := by decide +kernel
theorem dM_air_57 : decode cM_air 57 = .ok (.istore_n 3, 1) := by decide +kernel
theorem dM_air_58 : decode cM_air 58 = .ok (.aload_n 0, 1) := by decide +kernel
theorem dM_air_59 : decode cM_air 59 = .ok (.aload_n 0, 1) := by decide +kernel
theorem dM_air_60 : decode cM_air 60 = .ok (.getfield 61, 3) := by decide +kernel
theorem dM_air_63 : decode cM_air 63 = .ok (.invokevirtual 134, 3) := by decide +kernel
theorem dM_air_66 : decode cM_air 66 = .ok (.iload_n 3, 1) := by decide +kernel
theorem dM_air_67 : decode cM_air 67 = .ok (.ireturn, 1) := by decide +kernel
theorem dM_bare_0 : decode cM_bare 0 = .ok (.iconst 1, 1) := by decide +kernel
theorem dM_bare_1 : decode cM_bare 1 = .ok (.aload_n 0, 1) := by decide +kernel
theorem dM_bare_2 : decode cM_bare 2 = .ok (.getfield 81, 3) := by decide +kernel
theorem dM_bare_5 : decode cM_bare 5 = .ok (.ishl, 1) := by decide +kernel
theorem dM_bare_6 : decode cM_bare 6 = .ok (.iconst 1, 1) := by decide +kernel
theorem dM_bare_7 : decode cM_bare 7 = .ok (.isub, 1) := by decide +kernel
theorem dM_bare_8 : decode cM_bare 8 = .ok (.istore_n 1, 1) := by decide +kernel
theorem dM_bare_9 : decode cM_bare 9 = .ok (.iload_n 1, 1) := by decide +kernel
theorem dM_bare_10 : decode cM_bare 10 = .ok (.istore_n 2, 1) := by decide +kernel
theorem dM_bare_11 : decode cM_bare 11 = .ok (.iload_n 2, 1) := by decide +kernel
theorem dM_bare_12 : decode cM_bare 12 = .ok (.ifCond .lt 51, 3) := by decide +kernel
theorem dM_bare_15 : decode cM_bare 15 = .ok (.iload_n 2, 1) := by decide +kernel
theorem dM_bare_16 : decode cM_bare 16 = .ok (.invokestatic 184, 3) := by decide +kernel
theorem dM_bare_19 : decode cM_bare 19 = .ok (.iload_n 1, 1) := by decide +kernel
theorem dM_bare_20 : decode cM_bare 20 = .ok (.invokestatic 184, 3) := by decide +kernel
theorem dM_bare_23 : decode cM_bare 23 = .ok (.if_icmp .gt 7, 3) := by decide +kernel
theorem dM_bare_26 : decode cM_bare 26 = .ok (.iconst 1, 1) := by decide +kernel
theorem dM_bare_27 : decode cM_bare 27 = .ok (.goto 4, 3) := by decide +kernel
theorem dM_bare_30 : decode cM_bare 30 = .ok (.iconst 0, 1) := by decide +kernel
theorem dM_bare_31 : decode cM_bare 31 = .ok (.istore_n 3, 1) := by decide +kernel
theorem dM_bare_32 : decode cM_bare 32 = .ok (.iload_n 3, 1) := by decide +kernel
theorem dM_bare_33 : decode cM_bare 33 = .ok (.ifCond .eq 24, 3) := by decide +kernel
theorem dM_bare_36 : decode cM_bare 36 = .ok (.aload_n 0, 1) := by decide +kernel
theorem dM_bare_37 : decode cM_bare 37 = .ok (.iconst 1, 1) := by decide +kernel
theorem dM_bare_38 : decode cM_bare 38 = .ok (.aload_n 0, 1) := by decide +kernel
theorem dM_bare_39 : decode cM_bare 39 = .ok (.getfield 81, 3) := by decide +kernel
theorem dM_bare_42 : decode cM_bare 42 = .ok (.ishl, 1) := by decide +kernel
theorem dM_bare_43 : decode cM_bare 43 = .ok (.iconst 1, 1) := by decide +kernel
theorem dM_bare_44 : decode cM_bare 44 = .ok (.isub, 1) := by decide +kernel
theorem dM_bare_45 : decode cM_bare 45 = .ok (.iload_n 2, 1) := by decide +kernel
theorem dM_bare_46 : decode cM_bare 46 = .ok (.iconst (-1), 1) := by decide +kernel
theorem dM_bare_47 : decode cM_bare 47 = .ok (.ixor, 1) := by decide +kernel
theorem dM_bare_48 : decode cM_bare 48 = .ok (.iand, 1) := by decide +kernel
theorem dM_bare_49 : decode cM_bare 49 = .ok (.invokevirtual 189, 3) := by decide +kernel
theorem dM_bare_52 : decode cM_bare 52 = .ok (.ifCond .eq 5, 3) := by decide +kernel
theorem dM_bare_55 : decode cM_bare 55 = .ok (.iload_n 2, 1) := by decide +kernel
theorem dM_bare_56 : decode cM_bare 56 = .ok (.istore_n 1, 1) := by decide +kernel
theorem dM_bare_57 : decode cM_bare 57 = .ok (.iinc 2 (-1), 3) := by decide +kernel
theorem dM_bare_60 : decode cM_bare 60 = .ok (.goto (-49), 3) := by decide +kernel
theorem dM_bare_63 : decode cM_bare 63 = .ok (.iload_n 1, 1) := by decide +kernel
theorem dM_bare_64 : decode cM_bare 64 = .ok (.ireturn, 1) := by decide +kernel
theorem dM_breath_0 : decode cM_breath 0 = .ok (.aload_n 0, 1) := by decide +kernel
theorem dM_breath_1 : decode cM_breath 1 = .ok (.getfield 34, 3) := by decide +kernel
theorem dM_breath_4 : decode cM_breath 4 = .ok (.iload_n 1, 1) := by decide +kernel
theorem dM_breath_5 : decode cM_breath 5 = .ok (.iaload, 1) := by decide +kernel
theorem dM_breath_6 : decode cM_breath 6 = .ok (.bipush 6, 2) := by decide +kernel
theorem dM_breath_8 : decode cM_breath 8 = .ok (.if_icmp .ne 5, 3) := by decide +kernel
theorem dM_breath_11 : decode cM_breath 11 = .ok (.iconst 0, 1) := by decide +kernel
theorem dM_breath_12 : decode cM_breath 12 = .ok (.ireturn, 1) := by decide +kernel
theorem dM_breath_13 : decode cM_breath 13 = .ok (.aload_n 0, 1) := by decide +kernel
theorem dM_breath_14 : decode cM_breath 14 = .ok (.getfield 31, 3) := by decide +kernel
theorem dM_breath_17 : decode cM_breath 17 = .ok (.iload_n 1, 1) := by decide +kernel
theorem dM_breath_18 : decode cM_breath 18 = .ok (.iaload, 1) := by decide +kernel
theorem dM_breath_19 : decode cM_breath 19 = .ok (.tableswitch 61 1 5 #[33, 35, 37, 39, 41], 33) := by decide +kernel
theorem dM_breath_52 : decode cM_breath 52 = .ok (.iconst 1, 1) := by decide +kernel
theorem dM_breath_53 : decode cM_breath 53 = .ok (.ireturn, 1) := by decide +kernel
theorem dM_breath_54 : decode cM_breath 54 = .ok (.iconst 4, 1) := by decide +kernel
theorem dM_breath_55 : decode cM_breath 55 = .ok (.ireturn, 1) := by decide +kernel
theorem dM_breath_56 : decode cM_breath 56 = .ok (.iconst 3, 1) := by decide +kernel
theorem dM_breath_57 : decode cM_breath 57 = .ok (.ireturn, 1) := by decide +kernel
theorem dM_breath_58 : decode cM_breath 58 = .ok (.iconst 0, 1) := by decide +kernel
theorem dM_breath_59 : decode cM_breath 59 = .ok (.ireturn, 1) := by decide +kernel
theorem dM_breath_60 : decode cM_breath 60 = .ok (.aload_n 0, 1) := by decide +kernel
theorem dM_breath_61 : decode cM_breath 61 = .ok (.aload_n 0, 1) := by decide +kernel
theorem dM_breath_62 : decode cM_breath 62 = .ok (.getfield 34, 3) := by decide +kernel
theorem dM_breath_65 : decode cM_breath 65 = .ok (.iload_n 1, 1) := by decide +kernel
theorem dM_breath_66 : decode cM_breath 66 = .ok (.iaload, 1) := by decide +kernel
theorem dM_breath_67 : decode cM_breath 67 = .ok (.invokevirtual 137, 3) := by decide +kernel
theorem dM_breath_70 : decode cM_breath 70 = .ok (.iconst 1, 1) := by decide +kernel
theorem dM_breath_71 : decode cM_breath 71 = .ok (.if_icmp .ne 7, 3) := by decide +kernel
theorem dM_breath_74 : decode cM_breath 74 = .ok (.iconst 0, 1) := by decide +kernel
theorem dM_breath_75 : decode cM_breath 75 = .ok (.goto 4, 3) := by decide +kernel
theorem dM_breath_78 : decode cM_breath 78 = .ok (.iconst 1, 1) := by decide +kernel
theorem dM_breath_79 : decode cM_breath 79 = .ok (.ireturn, 1) := by decide +kernel
theorem dM_breath_80 : decode cM_breath 80 = .ok (.iconst 2, 1) := by decide +kernel
theorem dM_breath_81 : decode cM_breath 81 = .ok (.ireturn, 1) := by decide +kernel
theorem dM_breathed_0 : decode cM_breathed 0 = .ok (.iconst 0, 1) := by decide +kernel
theorem dM_breathed_1 : decode cM_breathed 1 = .ok (.istore_n 2, 1) := by decide +kernel
theorem dM_breathed_2 : decode cM_breathed 2 = .ok (.iconst 0, 1) := by decide +kernel
theorem dM_breathed_3 : decode cM_breathed 3 = .ok (.istore_n 3, 1) := by decide +kernel
theorem dM_breathed_4 : decode cM_breathed 4 = .ok (.iload_n 3, 1) := by decide +kernel
theorem dM_breathed_5 : decode cM_breathed 5 = .ok (.aload_n 0, 1) := by decide +kernel
theorem dM_breathed_6 : decode cM_breathed 6 = .ok (.getfield 81, 3) := by decide +kernel
theorem dM_breathed_9 : decode cM_breathed 9 = .ok (.if_icmp .ge 27, 3) := by decide +kernel
theorem dM_breathed_12 : decode cM_breathed 12 = .ok (.aload_n 0, 1) := by decide +kernel
theorem dM_breathed_13 : decode cM_breathed 13 = .ok (.getfield 34, 3) := by decide +kernel
theorem dM_breathed_16 : decode cM_breathed 16 = .ok (.iload_n 3, 1) := by decide +kernel
theorem dM_breathed_17 : decode cM_breathed 17 = .ok (.iaload, 1) := by decide +kernel
theorem dM_breathed_18 : decode cM_breathed 18 = .ok (.iload_n 1, 1) := by decide +kernel
theorem dM_breathed_19 : decode cM_breathed 19 = .ok (.if_icmp .ne 11, 3) := by decide +kernel
theorem dM_breathed_22 : decode cM_breathed 22 = .ok (.iload_n 2, 1) := by decide +kernel
theorem dM_breathed_23 : decode cM_breathed 23 = .ok (.aload_n 0, 1) := by decide +kernel
theorem dM_breathed_24 : decode cM_breathed 24 = .ok (.iload_n 3, 1) := by decide +kernel
theorem dM_breathed_25 : decode cM_breathed 25 = .ok (.invokevirtual 140, 3) := by decide +kernel
theorem dM_breathed_28 : decode cM_breathed 28 = .ok (.iadd, 1) := by decide +kernel
theorem dM_breathed_29 : decode cM_breathed 29 = .ok (.istore_n 2, 1) := by decide +kernel
theorem dM_breathed_30 : decode cM_breathed 30 = .ok (.iinc 3 1, 3) := by decide +kernel
theorem dM_breathed_33 : decode cM_breathed 33 = .ok (.goto (-29), 3) := by decide +kernel
theorem dM_breathed_36 : decode cM_breathed 36 = .ok (.iload_n 2, 1) := by decide +kernel
theorem dM_breathed_37 : decode cM_breathed 37 = .ok (.ireturn, 1) := by decide +kernel
theorem dM_burrow_0 : decode cM_burrow 0 = .ok (.aload_n 0, 1) := by decide +kernel
theorem dM_burrow_1 : decode cM_burrow 1 = .ok (.iconst 0, 1) := by decide +kernel
theorem dM_burrow_2 : decode cM_burrow 2 = .ok (.putfield 91, 3) := by decide +kernel
theorem dM_burrow_5 : decode cM_burrow 5 = .ok (.iconst 1, 1) := by decide +kernel
theorem dM_burrow_6 : decode cM_burrow 6 = .ok (.istore_n 1, 1) := by decide +kernel
theorem dM_burrow_7 : decode cM_burrow 7 = .ok (.iload_n 1, 1) := by decide +kernel
theorem dM_burrow_8 : decode cM_burrow 8 = .ok (.ifCond .eq 45, 3) := by decide +kernel
theorem dM_burrow_11 : decode cM_burrow 11 = .ok (.aload_n 0, 1) := by decide +kernel
theorem dM_burrow_12 : decode cM_burrow 12 = .ok (.iconst 0, 1) := by decide +kernel
theorem dM_burrow_13 : decode cM_burrow 13 = .ok (.invokevirtual 126, 3) := by decide +kernel
theorem dM_burrow_16 : decode cM_burrow 16 = .ok (.iconst 1, 1) := by decide +kernel
theorem dM_burrow_17 : decode cM_burrow 17 = .ok (.if_icmp .ne 16, 3) := by decide +kernel
theorem dM_burrow_20 : decode cM_burrow 20 = .ok (.aload_n 0, 1) := by decide +kernel
theorem dM_burrow_21 : decode cM_burrow 21 = .ok (.bipush 59, 2) := by decide +kernel
theorem dM_burrow_23 : decode cM_burrow 23 = .ok (.invokevirtual 107, 3) := by decide +kernel
theorem dM_burrow_26 : decode cM_burrow 26 = .ok (.ifCond .eq 7, 3) := by decide +kernel
theorem dM_burrow_29 : decode cM_burrow 29 = .ok (.iconst 1, 1) := by decide +kernel
theorem dM_burrow_30 : decode cM_burrow 30 = .ok (.goto 4, 3) := by decide +kernel
theorem dM_burrow_33 : decode cM_burrow 33 = .ok (.iconst 0, 1) := by decide +kernel
theorem dM_burrow_34 : decode cM_burrow 34 = .ok (.istore_n 1, 1) := by decide +kernel
theorem dM_burrow_35 : decode cM_burrow 35 = .ok (.iload_n 1, 1) := by decide +kernel
theorem dM_burrow_36 : decode cM_burrow 36 = .ok (.ifCond .eq (-29), 3) := by decide +kernel
theorem dM_burrow_39 : decode cM_burrow 39 = .ok (.aload_n 0, 1) := by decide +kernel
theorem dM_burrow_40 : decode cM_burrow 40 = .ok (.getfield 91, 3) := by decide +kernel
theorem dM_burrow_43 : decode cM_burrow 43 = .ok (.aload_n 0, 1) := by decide +kernel
theorem dM_burrow_44 : decode cM_burrow 44 = .ok (.getfield 88, 3) := by decide +kernel
theorem dM_burrow_47 : decode cM_burrow 47 = .ok (.if_icmp .ne (-40), 3) := by decide +kernel
theorem dM_burrow_50 : decode cM_burrow 50 = .ok (.goto 3, 3) := by decide +kernel
theorem dM_burrow_53 : decode cM_burrow 53 = .ok (.iload_n 1, 1) := by decide +kernel
theorem dM_burrow_54 : decode cM_burrow 54 = .ok (.ifCond .ne 17, 3) := by decide +kernel
theorem dM_burrow_57 : decode cM_burrow 57 = .ok (.aload_n 0, 1) := by decide +kernel
theorem dM_burrow_58 : decode cM_burrow 58 = .ok (.iconst 0, 1) := by decide +kernel
theorem dM_burrow_59 : decode cM_burrow 59 = .ok (.putfield 88, 3) := by decide +kernel
theorem dM_burrow_62 : decode cM_burrow 62 = .ok (.sipush (-1000), 3) := by decide +kernel
theorem dM_burrow_65 : decode cM_burrow 65 = .ok (.aload_n 0, 1) := by decide +kernel
theorem dM_burrow_66 : decode cM_burrow 66 = .ok (.getfield 91, 3) := by decide +kernel
theorem dM_burrow_69 : decode cM_burrow 69 = .ok (.isub, 1) := by decide +kernel
theorem dM_burrow_70 : decode cM_burrow 70 = .ok (.ireturn, 1) := by decide +kernel
theorem dM_burrow_71 : decode cM_burrow 71 = .ok (.aload_n 0, 1) := by decide +kernel
theorem dM_burrow_72 : decode cM_burrow 72 = .ok (.aload_n 0, 1) := by decide +kernel
theorem dM_burrow_73 : decode cM_burrow 73 = .ok (.getfield 61, 3) := by decide +kernel
theorem dM_burrow_76 : decode cM_burrow 76 = .ok (.invokevirtual 130, 3) := by decide +kernel
theorem dM_burrow_79 : decode cM_burrow 79 = .ok (.aload_n 0, 1) := by decide +kernel
theorem dM_burrow_80 : decode cM_burrow 80 = .ok (.iconst 0, 1) := by decide +kernel
theorem dM_burrow_81 : decode cM_burrow 81 = .ok (.putfield 91, 3) := by decide +kernel
theorem dM_burrow_84 : decode cM_burrow 84 = .ok (.iconst 0, 1) := by decide +kernel
theorem dM_burrow_85 : decode cM_burrow 85 = .ok (.istore_n 2, 1) := by decide +kernel
theorem dM_burrow_86 : decode cM_burrow 86 = .ok (.aload_n 0, 1) := by decide +kernel
theorem dM_burrow_87 : decode cM_burrow 87 = .ok (.getfield 91, 3) := by decide +kernel
theorem dM_burrow_90 : decode cM_burrow 90 = .ok (.aload_n 0, 1) := by decide +kernel
theorem dM_burrow_91 : decode cM_burrow 91 = .ok (.getfield 88, 3) := by decide +kernel
theorem dM_burrow_94 : decode cM_burrow 94 = .ok (.if_icmp .ge 48, 3) := by decide +kernel
theorem dM_burrow_97 : decode cM_burrow 97 = .ok (.aload_n 0, 1) := by decide +kernel
theorem dM_burrow_98 : decode cM_burrow 98 = .ok (.getfield 91, 3) := by decide +kernel
theorem dM_burrow_101 : decode cM_burrow 101 = .ok (.istore_n 3, 1) := by decide +kernel
theorem dM_burrow_102 : decode cM_burrow 102 = .ok (.aload_n 0, 1) := by decide +kernel
theorem dM_burrow_103 : decode cM_burrow 103 = .ok (.iconst 1, 1) := by decide +kernel
theorem dM_burrow_104 : decode cM_burrow 104 = .ok (.invokevirtual 126, 3) := by decide +kernel
theorem dM_burrow_107 : decode cM_burrow 107 = .ok (.ifCond .ne 22, 3) := by decide +kernel
theorem dM_burrow_110 : decode cM_burrow 110 = .ok (.aload_n 0, 1) := by decide +kernel
theorem dM_burrow_111 : decode cM_burrow 111 = .ok (.aload_n 0, 1) := by decide +kernel
theorem dM_burrow_112 : decode cM_burrow 112 = .ok (.getfield 61, 3) := by decide +kernel
theorem dM_burrow_115 : decode cM_burrow 115 = .ok (.invokevirtual 134, 3) := by decide +kernel
theorem dM_burrow_118 : decode cM_burrow 118 = .ok (.aload_n 0, 1) := by decide +kernel
theorem dM_burrow_119 : decode cM_burrow 119 = .ok (.iconst 0, 1) := by decide +kernel
theorem dM_burrow_120 : decode cM_burrow 120 = .ok (.putfield 88, 3) := by decide +kernel
theorem dM_burrow_123 : decode cM_burrow 123 = .ok (.sipush (-2000), 3) := by decide +kernel
theorem dM_burrow_126 : decode cM_burrow 126 = .ok (.iload_n 3, 1) := by decide +kernel
theorem dM_burrow_127 : decode cM_burrow 127 = .ok (.isub, 1) := by decide +kernel
theorem dM_burrow_128 : decode cM_burrow 128 = .ok (.ireturn, 1) := by decide +kernel
theorem dM_burrow_129 : decode cM_burrow 129 = .ok (.aload_n 0, 1) := by decide +kernel
theorem dM_burrow_130 : decode cM_burrow 130 = .ok (.bipush 59, 2) := by decide +kernel
theorem dM_burrow_132 : decode cM_burrow 132 = .ok (.invokevirtual 107, 3) := by decide +kernel
theorem dM_burrow_135 : decode cM_burrow 135 = .ok (.pop, 1) := by decide +kernel
theorem dM_burrow_136 : decode cM_burrow 136 = .ok (.iinc 2 1, 3) := by decide +kernel
theorem dM_burrow_139 : decode cM_burrow 139 = .ok (.goto (-53), 3) := by decide +kernel
theorem dM_burrow_142 : decode cM_burrow 142 = .ok (.aload_n 0, 1) := by decide +kernel
theorem dM_burrow_143 : decode cM_burrow 143 = .ok (.iconst 0, 1) := by decide +kernel
theorem dM_burrow_144 : decode cM_burrow 144 = .ok (.putfield 88, 3) := by decide +kernel
theorem dM_burrow_147 : decode cM_burrow 147 = .ok (.iload_n 2, 1) := by decide +kernel
theorem dM_burrow_148 : decode cM_burrow 148 = .ok (.ireturn, 1) := by decide +kernel
theorem dM_canHave_0 : decode cM_canHave 0 = .ok (.iconst 1, 1) := by decide +kernel
theorem dM_canHave_1 : decode cM_canHave 1 = .ok (.istore_n 2, 1) := by decide +kernel
theorem dM_canHave_2 : decode cM_canHave 2 = .ok (.iload_n 2, 1) := by decide +kernel
theorem dM_canHave_3 : decode cM_canHave 3 = .ok (.bipush 7, 2) := by decide +kernel
theorem dM_canHave_5 : decode cM_canHave 5 = .ok (.if_icmp .ge 31, 3) := by decide +kernel
theorem dM_canHave_8 : decode cM_canHave 8 = .ok (.aload_n 0, 1) := by decide +kernel
theorem dM_canHave_9 : decode cM_canHave 9 = .ok (.getfield 70, 3) := by decide +kernel
theorem dM_canHave_12 : decode cM_canHave 12 = .ok (.iload_n 2, 1) := by decide +kernel
theorem dM_canHave_13 : decode cM_canHave 13 = .ok (.iload_n 2, 1) := by decide +kernel
theorem dM_canHave_14 : decode cM_canHave 14 = .ok (.bipush 6, 2) := by decide +kernel
theorem dM_canHave_16 : decode cM_canHave 16 = .ok (.if_icmp .ge 12, 3) := by decide +kernel
theorem dM_canHave_19 : decode cM_canHave 19 = .ok (.aload_n 0, 1) := by decide +kernel
theorem dM_canHave_20 : decode cM_canHave 20 = .ok (.getfield 43, 3) := by decide +kernel
theorem dM_canHave_23 : decode cM_canHave 23 = .ok (.iload_n 2, 1) := by decide +kernel
theorem dM_canHave_24 : decode cM_canHave 24 = .ok (.iaload, 1) := by decide +kernel
theorem dM_canHave_25 : decode cM_canHave 25 = .ok (.goto 4, 3) := by decide +kernel
theorem dM_canHave_28 : decode cM_canHave 28 = .ok (.iconst 0, 1) := by decide +kernel
theorem dM_canHave_29 : decode cM_canHave 29 = .ok (.iastore, 1) := by decide +kernel
theorem dM_canHave_30 : decode cM_canHave 30 = .ok (.iinc 2 1, 3) := by decide +kernel
theorem dM_canHave_33 : decode cM_canHave 33 = .ok (.goto (-31), 3) := by decide +kernel
theorem dM_canHave_36 : decode cM_canHave 36 = .ok (.iconst 1, 1) := by decide +kernel
theorem dM_canHave_37 : decode cM_canHave 37 = .ok (.istore_n 2, 1) := by decide +kernel
theorem dM_canHave_38 : decode cM_canHave 38 = .ok (.iload_n 2, 1) := by decide +kernel
theorem dM_canHave_39 : decode cM_canHave 39 = .ok (.bipush 6, 2) := by decide +kernel
theorem dM_canHave_41 : decode cM_canHave 41 = .ok (.if_icmp .ge 87, 3) := by decide +kernel
theorem dM_canHave_44 : decode cM_canHave 44 = .ok (.iconst 0, 1) := by decide +kernel
theorem dM_canHave_45 : decode cM_canHave 45 = .ok (.istore_n 3, 1) := by decide +kernel
theorem dM_canHave_46 : decode cM_canHave 46 = .ok (.iload_n 3, 1) := by decide +kernel
theorem dM_canHave_47 : decode cM_canHave 47 = .ok (.aload_n 0, 1) := by decide +kernel
theorem dM_canHave_48 : decode cM_canHave 48 = .ok (.getfield 81, 3) := by decide +kernel
theorem dM_canHave_51 : decode cM_canHave 51 = .ok (.if_icmp .ge 71, 3) := by decide +kernel
theorem dM_canHave_54 : decode cM_canHave 54 = .ok (.iload_n 1, 1) := by decide +kernel
theorem dM_canHave_55 : decode cM_canHave 55 = .ok (.iload_n 3, 1) := by decide +kernel
theorem dM_canHave_56 : decode cM_canHave 56 = .ok (.invokestatic 177, 3) := by decide +kernel
theorem dM_canHave_59 : decode cM_canHave 59 = .ok (.ifCond .eq 57, 3) := by decide +kernel
theorem dM_canHave_62 : decode cM_canHave 62 = .ok (.aload_n 0, 1) := by decide +kernel
theorem dM_canHave_63 : decode cM_canHave 63 = .ok (.getfield 37, 3) := by decide +kernel
theorem dM_canHave_66 : decode cM_canHave 66 = .ok (.iload_n 3, 1) := by decide +kernel
theorem dM_canHave_67 : decode cM_canHave 67 = .ok (.iaload, 1) := by decide +kernel
theorem dM_canHave_68 : decode cM_canHave 68 = .ok (.iload_n 2, 1) := by decide +kernel
theorem dM_canHave_69 : decode cM_canHave 69 = .ok (.if_icmp .eq 6, 3) := by decide +kernel
theorem dM_canHave_72 : decode cM_canHave 72 = .ok (.goto 44, 3) := by decide +kernel
theorem dM_canHave_75 : decode cM_canHave 75 = .ok (.aload_n 0, 1) := by decide +kernel
theorem dM_canHave_76 : decode cM_canHave 76 = .ok (.getfield 70, 3) := by decide +kernel
theorem dM_canHave_79 : decode cM_canHave 79 = .ok (.iload_n 2, 1) := by decide +kernel
theorem dM_canHave_80 : decode cM_canHave 80 = .ok (.iaload, 1) := by decide +kernel
theorem dM_canHave_81 : decode cM_canHave 81 = .ok (.ifCond .le 7, 3) := by decide +kernel
theorem dM_canHave_84 : decode cM_canHave 84 = .ok (.iload_n 2, 1) := by decide +kernel
theorem dM_canHave_85 : decode cM_canHave 85 = .ok (.goto 6, 3) := by decide +kernel
theorem dM_canHave_88 : decode cM_canHave 88 = .ok (.iload_n 2, 1) := by decide +kernel
theorem dM_canHave_89 : decode cM_canHave 89 = .ok (.iconst 1, 1) := by decide +kernel
theorem dM_canHave_90 : decode cM_canHave 90 = .ok (.iadd, 1) := by decide +kernel
theorem dM_canHave_91 : decode cM_canHave 91 = .ok (.istore 4, 2) := by decide +kernel
theorem dM_canHave_93 : decode cM_canHave 93 = .ok (.aload_n 0, 1) := by decide +kernel
theorem dM_canHave_94 : decode cM_canHave 94 = .ok (.getfield 70, 3) := by decide +kernel
theorem dM_canHave_97 : decode cM_canHave 97 = .ok (.iload 4, 2) := by decide +kernel
theorem dM_canHave_99 : decode cM_canHave 99 = .ok (.iaload, 1) := by decide +kernel
theorem dM_canHave_100 : decode cM_canHave 100 = .ok (.ifCond .ne 5, 3) := by decide +kernel
theorem dM_canHave_103 : decode cM_canHave 103 = .ok (.iconst 0, 1) := by decide +kernel
theorem dM_canHave_104 : decode cM_canHave 104 = .ok (.ireturn, 1) := by decide +kernel
theorem dM_canHave_105 : decode cM_canHave 105 = .ok (.aload_n 0, 1) := by decide +kernel
theorem dM_canHave_106 : decode cM_canHave 106 = .ok (.getfield 70, 3) := by decide +kernel
theorem dM_canHave_109 : decode cM_canHave 109 = .ok (.iload 4, 2) := by decide +kernel
theorem dM_canHave_111 : decode cM_canHave 111 = .ok (.dup2, 1) := by decide +kernel
theorem dM_canHave_112 : decode cM_canHave 112 = .ok (.iaload, 1) := by decide +kernel
theorem dM_canHave_113 : decode cM_canHave 113 = .ok (.iconst 1, 1) := by decide +kernel
theorem dM_canHave_114 : decode cM_canHave 114 = .ok (.isub, 1) := by decide +kernel
theorem dM_canHave_115 : decode cM_canHave 115 = .ok (.iastore, 1) := by decide +kernel
theorem dM_canHave_116 : decode cM_canHave 116 = .ok (.iinc 3 1, 3) := by decide +kernel
theorem dM_canHave_119 : decode cM_canHave 119 = .ok (.goto (-73), 3) := by decide +kernel
theorem dM_canHave_122 : decode cM_canHave 122 = .ok (.iinc 2 1, 3) := by decide +kernel
theorem dM_canHave_125 : decode cM_canHave 125 = .ok (.goto (-87), 3) := by decide +kernel
theorem dM_canHave_128 : decode cM_canHave 128 = .ok (.iconst 1, 1) := by decide +kernel
theorem dM_canHave_129 : decode cM_canHave 129 = .ok (.ireturn, 1) := by decide +kernel
theorem dM_canPass_0 : decode cM_canPass 0 = .ok (.aload_n 0, 1) := by decide +kernel
theorem dM_canPass_1 : decode cM_canPass 1 = .ok (.getfield 28, 3) := by decide +kernel
theorem dM_canPass_4 : decode cM_canPass 4 = .ok (.iload_n 2, 1) := by decide +kernel
theorem dM_canPass_5 : decode cM_canPass 5 = .ok (.iaload, 1) := by decide +kernel
theorem dM_canPass_6 : decode cM_canPass 6 = .ok (.ifCond .ne 37, 3) := by decide +kernel
theorem dM_canPass_9 : decode cM_canPass 9 = .ok (.aload_n 0, 1) := by decide +kernel
theorem dM_canPass_10 : decode cM_canPass 10 = .ok (.getfield 34, 3) := by decide +kernel
theorem dM_canPass_13 : decode cM_canPass 13 = .ok (.iload_n 1, 1) := by decide +kernel
theorem dM_canPass_14 : decode cM_canPass 14 = .ok (.iaload, 1) := by decide +kernel
theorem dM_canPass_15 : decode cM_canPass 15 = .ok (.aload_n 0, 1) := by decide +kernel
theorem dM_canPass_16 : decode cM_canPass 16 = .ok (.getfield 16, 3) := by decide +kernel
theorem dM_canPass_19 : decode cM_canPass 19 = .ok (.iload_n 2, 1) := by decide +kernel
theorem dM_canPass_20 : decode cM_canPass 20 = .ok (.iaload, 1) := by decide +kernel
theorem dM_canPass_21 : decode cM_canPass 21 = .ok (.if_icmp .eq 18, 3) := by decide +kernel
theorem dM_canPass_24 : decode cM_canPass 24 = .ok (.aload_n 0, 1) := by decide +kernel
theorem dM_canPass_25 : decode cM_canPass 25 = .ok (.getfield 34, 3) := by decide +kernel
theorem dM_canPass_28 : decode cM_canPass 28 = .ok (.iload_n 1, 1) := by decide +kernel
theorem dM_canPass_29 : decode cM_canPass 29 = .ok (.iaload, 1) := by decide +kernel
theorem dM_canPass_30 : decode cM_canPass 30 = .ok (.aload_n 0, 1) := by decide +kernel
theorem dM_canPass_31 : decode cM_canPass 31 = .ok (.getfield 19, 3) := by decide +kernel
theorem dM_canPass_34 : decode cM_canPass 34 = .ok (.iload_n 2, 1) := by decide +kernel
theorem dM_canPass_35 : decode cM_canPass 35 = .ok (.iaload, 1) := by decide +kernel
theorem dM_canPass_36 : decode cM_canPass 36 = .ok (.if_icmp .ne 7, 3) := by decide +kernel
theorem dM_canPass_39 : decode cM_canPass 39 = .ok (.iconst 1, 1) := by decide +kernel
theorem dM_canPass_40 : decode cM_canPass 40 = .ok (.goto 4, 3) := by decide +kernel
theorem dM_canPass_43 : decode cM_canPass 43 = .ok (.iconst 0, 1) := by decide +kernel
theorem dM_canPass_44 : decode cM_canPass 44 = .ok (.ireturn, 1) := by decide +kernel
theorem dM_clear_0 : decode cM_clear 0 = .ok (.aload_n 0, 1) := by decide +kernel
theorem dM_clear_1 : decode cM_clear 1 = .ok (.getfield 192, 3) := by decide +kernel
theorem dM_clear_4 : decode cM_clear 4 = .ok (.istore_n 1, 1) := by decide +kernel
theorem dM_clear_5 : decode cM_clear 5 = .ok (.aload_n 0, 1) := by decide +kernel
theorem dM_clear_6 : decode cM_clear 6 = .ok (.iconst 0, 1) := by decide +kernel
theorem dM_clear_7 : decode cM_clear 7 = .ok (.putfield 192, 3) := by decide +kernel
theorem dM_clear_10 : decode cM_clear 10 = .ok (.iload_n 1, 1) := by decide +kernel
theorem dM_clear_11 : decode cM_clear 11 = .ok (.ireturn, 1) := by decide +kernel
theorem dM_count_0 : decode cM_count 0 = .ok (.iconst 0, 1) := by decide +kernel
theorem dM_count_1 : decode cM_count 1 = .ok (.istore_n 2, 1) := by decide +kernel
theorem dM_count_2 : decode cM_count 2 = .ok (.iload_n 1, 1) := by decide +kernel
theorem dM_count_3 : decode cM_count 3 = .ok (.tableswitch 125 0 7 #[45, 50, 55, 60, 85, 110, 115, 120], 45) := by decide +kernel
theorem dM_count_48 : decode cM_count 48 = .ok (.aload_n 0, 1) := by decide +kernel
theorem dM_count_49 : decode cM_count 49 = .ok (.getfield 77, 3) := by decide +kernel
theorem dM_count_52 : decode cM_count 52 = .ok (.ireturn, 1) := by decide +kernel
theorem dM_count_53 : decode cM_count 53 = .ok (.aload_n 0, 1) := by decide +kernel
theorem dM_count_54 : decode cM_count 54 = .ok (.getfield 81, 3) := by decide +kernel
theorem dM_count_57 : decode cM_count 57 = .ok (.ireturn, 1) := by decide +kernel
theorem dM_count_58 : decode cM_count 58 = .ok (.aload_n 0, 1) := by decide +kernel
theorem dM_count_59 : decode cM_count 59 = .ok (.getfield 146, 3) := by decide +kernel
theorem dM_count_62 : decode cM_count 62 = .ok (.ireturn, 1) := by decide +kernel
theorem dM_count_63 : decode cM_count 63 = .ok (.iconst 0, 1) := by decide +kernel
theorem dM_count_64 : decode cM_count 64 = .ok (.istore_n 3, 1) := by decide +kernel
theorem dM_count_65 : decode cM_count 65 = .ok (.iload_n 3, 1) := by decide +kernel
theorem dM_count_66 : decode cM_count 66 = .ok (.bipush 6, 2) := by decide +kernel
theorem dM_count_68 : decode cM_count 68 = .ok (.if_icmp .ge 18, 3) := by decide +kernel
theorem dM_count_71 : decode cM_count 71 = .ok (.iload_n 2, 1) := by decide +kernel
theorem dM_count_72 : decode cM_count 72 = .ok (.aload_n 0, 1) := by decide +kernel
theorem dM_count_73 : decode cM_count 73 = .ok (.getfield 7, 3) := by decide +kernel
theorem dM_count_76 : decode cM_count 76 = .ok (.iload_n 3, 1) := by decide +kernel
theorem dM_count_77 : decode cM_count 77 = .ok (.iaload, 1) := by decide +kernel
theorem dM_count_78 : decode cM_count 78 = .ok (.iadd, 1) := by decide +kernel
theorem dM_count_79 : decode cM_count 79 = .ok (.istore_n 2, 1) := by decide +kernel
theorem dM_count_80 : decode cM_count 80 = .ok (.iinc 3 1, 3) := by decide +kernel
theorem dM_count_83 : decode cM_count 83 = .ok (.goto (-18), 3) := by decide +kernel
theorem dM_count_86 : decode cM_count 86 = .ok (.iload_n 2, 1) := by decide +kernel
theorem dM_count_87 : decode cM_count 87 = .ok (.ireturn, 1) := by decide +kernel
theorem dM_count_88 : decode cM_count 88 = .ok (.iconst 0, 1) := by decide +kernel
theorem dM_count_89 : decode cM_count 89 = .ok (.istore_n 3, 1) := by decide +kernel
theorem dM_count_90 : decode cM_count 90 = .ok (.iload_n 3, 1) := by decide +kernel
theorem dM_count_91 : decode cM_count 91 = .ok (.bipush 6, 2) := by decide +kernel
theorem dM_count_93 : decode cM_count 93 = .ok (.if_icmp .ge 18, 3) := by decide +kernel
theorem dM_count_96 : decode cM_count 96 = .ok (.iload_n 2, 1) := by decide +kernel
theorem dM_count_97 : decode cM_count 97 = .ok (.aload_n 0, 1) := by decide +kernel
theorem dM_count_98 : decode cM_count 98 = .ok (.getfield 13, 3) := by decide +kernel
theorem dM_count_101 : decode cM_count 101 = .ok (.iload_n 3, 1) := by decide +kernel
theorem dM_count_102 : decode cM_count 102 = .ok (.iaload, 1) := by decide +kernel
theorem dM_count_103 : decode cM_count 103 = .ok (.iadd, 1) := by decide +kernel
theorem dM_count_104 : decode cM_count 104 = .ok (.istore_n 2, 1) := by decide +kernel
theorem dM_count_105 : decode cM_count 105 = .ok (.iinc 3 1, 3) := by decide +kernel
theorem dM_count_108 : decode cM_count 108 = .ok (.goto (-18), 3) := by decide +kernel
theorem dM_count_111 : decode cM_count 111 = .ok (.iload_n 2, 1) := by decide +kernel
theorem dM_count_112 : decode cM_count 112 = .ok (.ireturn, 1) := by decide +kernel
theorem dM_count_113 : decode cM_count 113 = .ok (.aload_n 0, 1) := by decide +kernel
theorem dM_count_114 : decode cM_count 114 = .ok (.getfield 149, 3) := by decide +kernel
theorem dM_count_117 : decode cM_count 117 = .ok (.ireturn, 1) := by decide +kernel
theorem dM_count_118 : decode cM_count 118 = .ok (.aload_n 0, 1) := by decide +kernel
theorem dM_count_119 : decode cM_count 119 = .ok (.getfield 192, 3) := by decide +kernel
theorem dM_count_122 : decode cM_count 122 = .ok (.ireturn, 1) := by decide +kernel
theorem dM_count_123 : decode cM_count 123 = .ok (.aload_n 0, 1) := by decide +kernel
theorem dM_count_124 : decode cM_count 124 = .ok (.getfield 88, 3) := by decide +kernel
theorem dM_count_127 : decode cM_count 127 = .ok (.ireturn, 1) := by decide +kernel
theorem dM_count_128 : decode cM_count 128 = .ok (.iload_n 1, 1) := by decide +kernel
theorem dM_count_129 : decode cM_count 129 = .ok (.bipush 11, 2) := by decide +kernel
theorem dM_count_131 : decode cM_count 131 = .ok (.bipush 16, 2) := by decide +kernel
theorem dM_count_133 : decode cM_count 133 = .ok (.invokestatic 73, 3) := by decide +kernel
theorem dM_count_136 : decode cM_count 136 = .ok (.ifCond .eq 15, 3) := by decide +kernel
theorem dM_count_139 : decode cM_count 139 = .ok (.aload_n 0, 1) := by decide +kernel
theorem dM_count_140 : decode cM_count 140 = .ok (.getfield 55, 3) := by decide +kernel
theorem dM_count_143 : decode cM_count 143 = .ok (.iload_n 1, 1) := by decide +kernel
theorem dM_count_144 : decode cM_count 144 = .ok (.bipush 10, 2) := by decide +kernel
theorem dM_count_146 : decode cM_count 146 = .ok (.isub, 1) := by decide +kernel
theorem dM_count_147 : decode cM_count 147 = .ok (.iaload, 1) := by decide +kernel
theorem dM_count_148 : decode cM_count 148 = .ok (.goto 5, 3) := by decide +kernel
theorem dM_count_151 : decode cM_count 151 = .ok (.bipush (-9), 2) := by decide +kernel
theorem dM_count_153 : decode cM_count 153 = .ok (.ireturn, 1) := by decide +kernel
theorem dM_ends_0 : decode cM_ends 0 = .ok (.aload_n 0, 1) := by decide +kernel
theorem dM_ends_1 : decode cM_ends 1 = .ok (.invokevirtual 198, 3) := by decide +kernel
theorem dM_ends_4 : decode cM_ends 4 = .ok (.pop, 1) := by decide +kernel
theorem dM_ends_5 : decode cM_ends 5 = .ok (.aload_n 0, 1) := by decide +kernel
theorem dM_ends_6 : decode cM_ends 6 = .ok (.getfield 49, 3) := by decide +kernel
theorem dM_ends_9 : decode cM_ends 9 = .ok (.iconst 0, 1) := by decide +kernel
theorem dM_ends_10 : decode cM_ends 10 = .ok (.iaload, 1) := by decide +kernel
theorem dM_ends_11 : decode cM_ends 11 = .ok (.ireturn, 1) := by decide +kernel
theorem dM_errands_0 : decode cM_errands 0 = .ok (.iload_n 1, 1) := by decide +kernel
theorem dM_errands_1 : decode cM_errands 1 = .ok (.invokestatic 170, 3) := by decide +kernel
theorem dM_errands_4 : decode cM_errands 4 = .ok (.ifCond .eq 13, 3) := by decide +kernel
theorem dM_errands_7 : decode cM_errands 7 = .ok (.iload_n 2, 1) := by decide +kernel
theorem dM_errands_8 : decode cM_errands 8 = .ok (.iconst 0, 1) := by decide +kernel
theorem dM_errands_9 : decode cM_errands 9 = .ok (.bipush 127, 2) := by decide +kernel
theorem dM_errands_11 : decode cM_errands 11 = .ok (.invokestatic 73, 3) := by decide +kernel
theorem dM_errands_14 : decode cM_errands 14 = .ok (.ifCond .ne 9, 3) := by decide +kernel
theorem dM_errands_17 : decode cM_errands 17 = .ok (.aload_n 0, 1) := by decide +kernel
theorem dM_errands_18 : decode cM_errands 18 = .ok (.iconst (-1), 1) := by decide +kernel
theorem dM_errands_19 : decode cM_errands 19 = .ok (.invokevirtual 84, 3) := by decide +kernel
theorem dM_errands_22 : decode cM_errands 22 = .ok (.ireturn, 1) := by decide +kernel
theorem dM_errands_23 : decode cM_errands 23 = .ok (.iconst 0, 1) := by decide +kernel
theorem dM_errands_24 : decode cM_errands 24 = .ok (.istore_n 3, 1) := by decide +kernel
theorem dM_errands_25 : decode cM_errands 25 = .ok (.iload_n 3, 1) := by decide +kernel
theorem dM_errands_26 : decode cM_errands 26 = .ok (.sipush 896, 3) := by decide +kernel
theorem dM_errands_29 : decode cM_errands 29 = .ok (.if_icmp .ge 18, 3) := by decide +kernel
theorem dM_errands_32 : decode cM_errands 32 = .ok (.aload_n 0, 1) := by decide +kernel
theorem dM_errands_33 : decode cM_errands 33 = .ok (.getfield 67, 3) := by decide +kernel
theorem dM_errands_36 : decode cM_errands 36 = .ok (.iload_n 3, 1) := by decide +kernel
theorem dM_errands_37 : decode cM_errands 37 = .ok (.sipush 10000, 3) := by decide +kernel
theorem dM_errands_40 : decode cM_errands 40 = .ok (.iastore, 1) := by decide +kernel
theorem dM_errands_41 : decode cM_errands 41 = .ok (.iinc 3 1, 3) := by decide +kernel
theorem dM_errands_44 : decode cM_errands 44 = .ok (.goto (-19), 3) := by decide +kernel
theorem dM_errands_47 : decode cM_errands 47 = .ok (.aload_n 0, 1) := by decide +kernel
theorem dM_errands_48 : decode cM_errands 48 = .ok (.getfield 67, 3) := by decide +kernel
theorem dM_errands_51 : decode cM_errands 51 = .ok (.bipush 7, 2) := by decide +kernel
theorem dM_errands_53 : decode cM_errands 53 = .ok (.iconst 1, 1) := by decide +kernel
theorem dM_errands_54 : decode cM_errands 54 = .ok (.iload_n 1, 1) := by decide +kernel
theorem dM_errands_55 : decode cM_errands 55 = .ok (.ishl, 1) := by decide +kernel
theorem dM_errands_56 : decode cM_errands 56 = .ok (.imul, 1) := by decide +kernel
theorem dM_errands_57 : decode cM_errands 57 = .ok (.iload_n 1, 1) := by decide +kernel
theorem dM_errands_58 : decode cM_errands 58 = .ok (.iadd, 1) := by decide +kernel
theorem dM_errands_59 : decode cM_errands 59 = .ok (.iconst 0, 1) := by decide +kernel
theorem dM_errands_60 : decode cM_errands 60 = .ok (.iastore, 1) := by decide +kernel
theorem dM_errands_61 : decode cM_errands 61 = .ok (.sipush 10000, 3) := by decide +kernel
theorem dM_errands_64 : decode cM_errands 64 = .ok (.istore_n 3, 1) := by decide +kernel
theorem dM_errands_65 : decode cM_errands 65 = .ok (.iconst 0, 1) := by decide +kernel
theorem dM_errands_66 : decode cM_errands 66 = .ok (.istore 4, 2) := by decide +kernel
theorem dM_errands_68 : decode cM_errands 68 = .ok (.iload 4, 2) := by decide +kernel
theorem dM_errands_70 : decode cM_errands 70 = .ok (.sipush 128, 3) := by decide +kernel
theorem dM_errands_73 : decode cM_errands 73 = .ok (.if_icmp .ge 141, 3) := by decide +kernel
theorem dM_errands_76 : decode cM_errands 76 = .ok (.iconst 0, 1) := by decide +kernel
theorem dM_errands_77 : decode cM_errands 77 = .ok (.istore 5, 2) := by decide +kernel
theorem dM_errands_79 : decode cM_errands 79 = .ok (.iload 5, 2) := by decide +kernel
theorem dM_errands_81 : decode cM_errands 81 = .ok (.bipush 7, 2) := by decide +kernel
theorem dM_errands_83 : decode cM_errands 83 = .ok (.if_icmp .ge 125, 3) := by decide +kernel
theorem dM_errands_86 : decode cM_errands 86 = .ok (.aload_n 0, 1) := by decide +kernel
theorem dM_errands_87 : decode cM_errands 87 = .ok (.getfield 67, 3) := by decide +kernel
theorem dM_errands_90 : decode cM_errands 90 = .ok (.bipush 7, 2) := by decide +kernel
theorem dM_errands_92 : decode cM_errands 92 = .ok (.iload 4, 2) := by decide +kernel
theorem dM_errands_94 : decode cM_errands 94 = .ok (.imul, 1) := by decide +kernel
theorem dM_errands_95 : decode cM_errands 95 = .ok (.iload 5, 2) := by decide +kernel
theorem dM_errands_97 : decode cM_errands 97 = .ok (.iadd, 1) := by decide +kernel
theorem dM_errands_98 : decode cM_errands 98 = .ok (.iaload, 1) := by decide +kernel
theorem dM_errands_99 : decode cM_errands 99 = .ok (.istore 6, 2) := by decide +kernel
theorem dM_errands_101 : decode cM_errands 101 = .ok (.iload 6, 2) := by decide +kernel
theorem dM_errands_103 : decode cM_errands 103 = .ok (.sipush 10000, 3) := by decide +kernel
theorem dM_errands_106 : decode cM_errands 106 = .ok (.if_icmp .lt 6, 3) := by decide +kernel
theorem dM_errands_109 : decode cM_errands 109 = .ok (.goto 93, 3) := by decide +kernel
theorem dM_errands_112 : decode cM_errands 112 = .ok (.iload_n 2, 1) := by decide +kernel
theorem dM_errands_113 : decode cM_errands 113 = .ok (.iload 4, 2) := by decide +kernel
theorem dM_errands_115 : decode cM_errands 115 = .ok (.iconst (-1), 1) := by decide +kernel
theorem dM_errands_116 : decode cM_errands 116 = .ok (.ixor, 1) := by decide +kernel
theorem dM_errands_117 : decode cM_errands 117 = .ok (.iand, 1) := by decide +kernel
theorem dM_errands_118 : decode cM_errands 118 = .ok (.ifCond .ne 10, 3) := by decide +kernel
theorem dM_errands_121 : decode cM_errands 121 = .ok (.iload_n 3, 1) := by decide +kernel
theorem dM_errands_122 : decode cM_errands 122 = .ok (.iload 6, 2) := by decide +kernel
theorem dM_errands_124 : decode cM_errands 124 = .ok (.invokestatic 98, 3) := by decide +kernel
theorem dM_errands_127 : decode cM_errands 127 = .ok (.istore_n 3, 1) := by decide +kernel
theorem dM_errands_128 : decode cM_errands 128 = .ok (.aload_n 0, 1) := by decide +kernel
theorem dM_errands_129 : decode cM_errands 129 = .ok (.iload 5, 2) := by decide +kernel
theorem dM_errands_131 : decode cM_errands 131 = .ok (.invokevirtual 173, 3) := by decide +kernel
theorem dM_errands_134 : decode cM_errands 134 = .ok (.iconst 0, 1) := by decide +kernel
theorem dM_errands_135 : decode cM_errands 135 = .ok (.istore 7, 2) := by decide +kernel
theorem dM_errands_137 : decode cM_errands 137 = .ok (.iload 7, 2) := by decide +kernel
theorem dM_errands_139 : decode cM_errands 139 = .ok (.bipush 7, 2) := by decide +kernel
theorem dM_errands_141 : decode cM_errands 141 = .ok (.if_icmp .ge 61, 3) := by decide +kernel
theorem dM_errands_144 : decode cM_errands 144 = .ok (.bipush 7, 2) := by decide +kernel
theorem dM_errands_146 : decode cM_errands 146 = .ok (.iload 4, 2) := by decide +kernel
theorem dM_errands_148 : decode cM_errands 148 = .ok (.iconst 1, 1) := by decide +kernel
theorem dM_errands_149 : decode cM_errands 149 = .ok (.iload 7, 2) := by decide +kernel
theorem dM_errands_151 : decode cM_errands 151 = .ok (.ishl, 1) := by decide +kernel
theorem dM_errands_152 : decode cM_errands 152 = .ok (.ior, 1) := by decide +kernel
theorem dM_errands_153 : decode cM_errands 153 = .ok (.imul, 1) := by decide +kernel
theorem dM_errands_154 : decode cM_errands 154 = .ok (.iload 7, 2) := by decide +kernel
theorem dM_errands_156 : decode cM_errands 156 = .ok (.iadd, 1) := by decide +kernel
theorem dM_errands_157 : decode cM_errands 157 = .ok (.istore 8, 2) := by decide +kernel
theorem dM_errands_159 : decode cM_errands 159 = .ok (.iload 4, 2) := by decide +kernel
theorem dM_errands_161 : decode cM_errands 161 = .ok (.iload 7, 2) := by decide +kernel
theorem dM_errands_163 : decode cM_errands 163 = .ok (.invokestatic 177, 3) := by decide +kernel
theorem dM_errands_166 : decode cM_errands 166 = .ok (.ifCond .ne 30, 3) := by decide +kernel
theorem dM_errands_169 : decode cM_errands 169 = .ok (.aload_n 0, 1) := by decide +kernel
theorem dM_errands_170 : decode cM_errands 170 = .ok (.getfield 67, 3) := by decide +kernel
theorem dM_errands_173 : decode cM_errands 173 = .ok (.iload 8, 2) := by decide +kernel
theorem dM_errands_175 : decode cM_errands 175 = .ok (.aload_n 0, 1) := by decide +kernel
theorem dM_errands_176 : decode cM_errands 176 = .ok (.getfield 67, 3) := by decide +kernel
theorem dM_errands_179 : decode cM_errands 179 = .ok (.iload 8, 2) := by decide +kernel
theorem dM_errands_181 : decode cM_errands 181 = .ok (.iaload, 1) := by decide +kernel
theorem dM_errands_182 : decode cM_errands 182 = .ok (.iload 6, 2) := by decide +kernel
theorem dM_errands_184 : decode cM_errands 184 = .ok (.aload_n 0, 1) := by decide +kernel
theorem dM_errands_185 : decode cM_errands 185 = .ok (.getfield 64, 3) := by decide +kernel
theorem dM_errands_188 : decode cM_errands 188 = .ok (.iload 7, 2) := by decide +kernel
theorem dM_errands_190 : decode cM_errands 190 = .ok (.iaload, 1) := by decide +kernel
theorem dM_errands_191 : decode cM_errands 191 = .ok (.iadd, 1) := by decide +kernel
theorem dM_errands_192 : decode cM_errands 192 = .ok (.invokestatic 98, 3) := by decide +kernel
theorem dM_errands_195 : decode cM_errands 195 = .ok (.iastore, 1) := by decide +kernel
theorem dM_errands_196 : decode cM_errands 196 = .ok (.iinc 7 1, 3) := by decide +kernel
theorem dM_errands_199 : decode cM_errands 199 = .ok (.goto (-62), 3) := by decide +kernel
theorem dM_errands_202 : decode cM_errands 202 = .ok (.iinc 5 1, 3) := by decide +kernel
theorem dM_errands_205 : decode cM_errands 205 = .ok (.goto (-126), 3) := by decide +kernel
theorem dM_errands_208 : decode cM_errands 208 = .ok (.iinc 4 1, 3) := by decide +kernel
theorem dM_errands_211 : decode cM_errands 211 = .ok (.goto (-143), 3) := by decide +kernel
theorem dM_errands_214 : decode cM_errands 214 = .ok (.iload_n 3, 1) := by decide +kernel
theorem dM_errands_215 : decode cM_errands 215 = .ok (.sipush 10000, 3) := by decide +kernel
theorem dM_errands_218 : decode cM_errands 218 = .ok (.if_icmp .ge 7, 3) := by decide +kernel
theorem dM_errands_221 : decode cM_errands 221 = .ok (.iload_n 3, 1) := by decide +kernel
theorem dM_errands_222 : decode cM_errands 222 = .ok (.goto 5, 3) := by decide +kernel
theorem dM_errands_225 : decode cM_errands 225 = .ok (.bipush (-9), 2) := by decide +kernel
theorem dM_errands_227 : decode cM_errands 227 = .ok (.ireturn, 1) := by decide +kernel
theorem dM_farthest_0 : decode cM_farthest 0 = .ok (.iload_n 1, 1) := by decide +kernel
theorem dM_farthest_1 : decode cM_farthest 1 = .ok (.iconst 0, 1) := by decide +kernel
theorem dM_farthest_2 : decode cM_farthest 2 = .ok (.iconst 1, 1) := by decide +kernel
theorem dM_farthest_3 : decode cM_farthest 3 = .ok (.invokestatic 73, 3) := by decide +kernel
theorem dM_farthest_6 : decode cM_farthest 6 = .ok (.ifCond .ne 10, 3) := by decide +kernel
theorem dM_farthest_9 : decode cM_farthest 9 = .ok (.aload_n 0, 1) := by decide +kernel
theorem dM_farthest_10 : decode cM_farthest 10 = .ok (.bipush (-2), 2) := by decide +kernel
theorem dM_farthest_12 : decode cM_farthest 12 = .ok (.invokevirtual 84, 3) := by decide +kernel
theorem dM_farthest_15 : decode cM_farthest 15 = .ok (.ireturn, 1) := by decide +kernel
theorem dM_farthest_16 : decode cM_farthest 16 = .ok (.aload_n 0, 1) := by decide +kernel
theorem dM_farthest_17 : decode cM_farthest 17 = .ok (.bipush 6, 2) := by decide +kernel
theorem dM_farthest_19 : decode cM_farthest 19 = .ok (.invokevirtual 173, 3) := by decide +kernel
theorem dM_farthest_22 : decode cM_farthest 22 = .ok (.bipush (-9), 2) := by decide +kernel
theorem dM_farthest_24 : decode cM_farthest 24 = .ok (.istore_n 2, 1) := by decide +kernel
theorem dM_farthest_25 : decode cM_farthest 25 = .ok (.iconst 0, 1) := by decide +kernel
theorem dM_farthest_26 : decode cM_farthest 26 = .ok (.istore_n 3, 1) := by decide +kernel
theorem dM_farthest_27 : decode cM_farthest 27 = .ok (.iload_n 3, 1) := by decide +kernel
theorem dM_farthest_28 : decode cM_farthest 28 = .ok (.bipush 6, 2) := by decide +kernel
theorem dM_farthest_30 : decode cM_farthest 30 = .ok (.if_icmp .ge 42, 3) := by decide +kernel
theorem dM_farthest_33 : decode cM_farthest 33 = .ok (.aload_n 0, 1) := by decide +kernel
theorem dM_farthest_34 : decode cM_farthest 34 = .ok (.getfield 64, 3) := by decide +kernel
theorem dM_farthest_37 : decode cM_farthest 37 = .ok (.iload_n 3, 1) := by decide +kernel
theorem dM_farthest_38 : decode cM_farthest 38 = .ok (.iaload, 1) := by decide +kernel
theorem dM_farthest_39 : decode cM_farthest 39 = .ok (.sipush 10000, 3) := by decide +kernel
theorem dM_farthest_42 : decode cM_farthest 42 = .ok (.if_icmp .ge 24, 3) := by decide +kernel
theorem dM_farthest_45 : decode cM_farthest 45 = .ok (.iload_n 2, 1) := by decide +kernel
theorem dM_farthest_46 : decode cM_farthest 46 = .ok (.ifCond .lt 18, 3) := by decide +kernel
theorem dM_farthest_49 : decode cM_farthest 49 = .ok (.aload_n 0, 1) := by decide +kernel
theorem dM_farthest_50 : decode cM_farthest 50 = .ok (.getfield 64, 3) := by decide +kernel
theorem dM_farthest_53 : decode cM_farthest 53 = .ok (.iload_n 3, 1) := by decide +kernel
theorem dM_farthest_54 : decode cM_farthest 54 = .ok (.iaload, 1) := by decide +kernel
theorem dM_farthest_55 : decode cM_farthest 55 = .ok (.aload_n 0, 1) := by decide +kernel
theorem dM_farthest_56 : decode cM_farthest 56 = .ok (.getfield 64, 3) := by decide +kernel
theorem dM_farthest_59 : decode cM_farthest 59 = .ok (.iload_n 2, 1) := by decide +kernel
theorem dM_farthest_60 : decode cM_farthest 60 = .ok (.iaload, 1) := by decide +kernel
theorem dM_farthest_61 : decode cM_farthest 61 = .ok (.if_icmp .le 5, 3) := by decide +kernel
theorem dM_farthest_64 : decode cM_farthest 64 = .ok (.iload_n 3, 1) := by decide +kernel
theorem dM_farthest_65 : decode cM_farthest 65 = .ok (.istore_n 2, 1) := by decide +kernel
theorem dM_farthest_66 : decode cM_farthest 66 = .ok (.iinc 3 1, 3) := by decide +kernel
theorem dM_farthest_69 : decode cM_farthest 69 = .ok (.goto (-42), 3) := by decide +kernel
theorem dM_farthest_72 : decode cM_farthest 72 = .ok (.iload_n 2, 1) := by decide +kernel
theorem dM_farthest_73 : decode cM_farthest 73 = .ok (.ifCond .lt 7, 3) := by decide +kernel
theorem dM_farthest_76 : decode cM_farthest 76 = .ok (.iload_n 1, 1) := by decide +kernel
theorem dM_farthest_77 : decode cM_farthest 77 = .ok (.ifCond .ne 7, 3) := by decide +kernel
theorem dM_farthest_80 : decode cM_farthest 80 = .ok (.iload_n 2, 1) := by decide +kernel
theorem dM_farthest_81 : decode cM_farthest 81 = .ok (.goto 9, 3) := by decide +kernel
theorem dM_farthest_84 : decode cM_farthest 84 = .ok (.aload_n 0, 1) := by decide +kernel
theorem dM_farthest_85 : decode cM_farthest 85 = .ok (.getfield 64, 3) := by decide +kernel
theorem dM_farthest_88 : decode cM_farthest 88 = .ok (.iload_n 2, 1) := by decide +kernel
theorem dM_farthest_89 : decode cM_farthest 89 = .ok (.iaload, 1) := by decide +kernel
theorem dM_farthest_90 : decode cM_farthest 90 = .ok (.ireturn, 1) := by decide +kernel
theorem dM_fitted_0 : decode cM_fitted 0 = .ok (.aload_n 0, 1) := by decide +kernel
theorem dM_fitted_1 : decode cM_fitted 1 = .ok (.getfield 81, 3) := by decide +kernel
theorem dM_fitted_4 : decode cM_fitted 4 = .ok (.aload_n 0, 1) := by decide +kernel
theorem dM_fitted_5 : decode cM_fitted 5 = .ok (.invokevirtual 180, 3) := by decide +kernel
theorem dM_fitted_8 : decode cM_fitted 8 = .ok (.invokestatic 184, 3) := by decide +kernel
theorem dM_fitted_11 : decode cM_fitted 11 = .ok (.isub, 1) := by decide +kernel
theorem dM_fitted_12 : decode cM_fitted 12 = .ok (.ireturn, 1) := by decide +kernel
theorem dM_gasps_0 : decode cM_gasps 0 = .ok (.iload_n 1, 1) := by decide +kernel
theorem dM_gasps_1 : decode cM_gasps 1 = .ok (.ifCond .ge 10, 3) := by decide +kernel
theorem dM_gasps_4 : decode cM_gasps 4 = .ok (.aload_n 0, 1) := by decide +kernel
theorem dM_gasps_5 : decode cM_gasps 5 = .ok (.bipush (-4), 2) := by decide +kernel
theorem dM_gasps_7 : decode cM_gasps 7 = .ok (.invokevirtual 84, 3) := by decide +kernel
theorem dM_gasps_10 : decode cM_gasps 10 = .ok (.ireturn, 1) := by decide +kernel
theorem dM_gasps_11 : decode cM_gasps 11 = .ok (.iload_n 1, 1) := by decide +kernel
theorem dM_gasps_12 : decode cM_gasps 12 = .ok (.bipush 99, 2) := by decide +kernel
theorem dM_gasps_14 : decode cM_gasps 14 = .ok (.if_icmp .le 10, 3) := by decide +kernel
theorem dM_gasps_17 : decode cM_gasps 17 = .ok (.aload_n 0, 1) := by decide +kernel
theorem dM_gasps_18 : decode cM_gasps 18 = .ok (.bipush (-6), 2) := by decide +kernel
theorem dM_gasps_20 : decode cM_gasps 20 = .ok (.invokevirtual 84, 3) := by decide +kernel
theorem dM_gasps_23 : decode cM_gasps 23 = .ok (.ireturn, 1) := by decide +kernel
theorem dM_gasps_24 : decode cM_gasps 24 = .ok (.aload_n 0, 1) := by decide +kernel
theorem dM_gasps_25 : decode cM_gasps 25 = .ok (.aload_n 0, 1) := by decide +kernel
theorem dM_gasps_26 : decode cM_gasps 26 = .ok (.getfield 61, 3) := by decide +kernel
theorem dM_gasps_29 : decode cM_gasps 29 = .ok (.invokevirtual 130, 3) := by decide +kernel
theorem dM_gasps_32 : decode cM_gasps 32 = .ok (.aload_n 0, 1) := by decide +kernel
theorem dM_gasps_33 : decode cM_gasps 33 = .ok (.iload_n 1, 1) := by decide +kernel
theorem dM_gasps_34 : decode cM_gasps 34 = .ok (.invokevirtual 161, 3) := by decide +kernel
theorem dM_gasps_37 : decode cM_gasps 37 = .ok (.istore_n 2, 1) := by decide +kernel
theorem dM_gasps_38 : decode cM_gasps 38 = .ok (.aload_n 0, 1) := by decide +kernel
theorem dM_gasps_39 : decode cM_gasps 39 = .ok (.aload_n 0, 1) := by decide +kernel
theorem dM_gasps_40 : decode cM_gasps 40 = .ok (.getfield 61, 3) := by decide +kernel
theorem dM_gasps_43 : decode cM_gasps 43 = .ok (.invokevirtual 134, 3) := by decide +kernel
theorem dM_gasps_46 : decode cM_gasps 46 = .ok (.iload_n 2, 1) := by decide +kernel
theorem dM_gasps_47 : decode cM_gasps 47 = .ok (.ireturn, 1) := by decide +kernel
theorem dM_gauges_0 : decode cM_gauges 0 = .ok (.iload_n 1, 1) := by decide +kernel
theorem dM_gauges_1 : decode cM_gauges 1 = .ok (.ifCond .ge 10, 3) := by decide +kernel
theorem dM_gauges_4 : decode cM_gauges 4 = .ok (.aload_n 0, 1) := by decide +kernel
theorem dM_gauges_5 : decode cM_gauges 5 = .ok (.bipush (-4), 2) := by decide +kernel
theorem dM_gauges_7 : decode cM_gauges 7 = .ok (.invokevirtual 84, 3) := by decide +kernel
theorem dM_gauges_10 : decode cM_gauges 10 = .ok (.ireturn, 1) := by decide +kernel
theorem dM_gauges_11 : decode cM_gauges 11 = .ok (.iload_n 1, 1) := by decide +kernel
theorem dM_gauges_12 : decode cM_gauges 12 = .ok (.bipush 99, 2) := by decide +kernel
theorem dM_gauges_14 : decode cM_gauges 14 = .ok (.if_icmp .le 10, 3) := by decide +kernel
theorem dM_gauges_17 : decode cM_gauges 17 = .ok (.aload_n 0, 1) := by decide +kernel
theorem dM_gauges_18 : decode cM_gauges 18 = .ok (.bipush (-6), 2) := by decide +kernel
theorem dM_gauges_20 : decode cM_gauges 20 = .ok (.invokevirtual 84, 3) := by decide +kernel
theorem dM_gauges_23 : decode cM_gauges 23 = .ok (.ireturn, 1) := by decide +kernel
theorem dM_gauges_24 : decode cM_gauges 24 = .ok (.iload_n 2, 1) := by decide +kernel
theorem dM_gauges_25 : decode cM_gauges 25 = .ok (.iconst 0, 1) := by decide +kernel
theorem dM_gauges_26 : decode cM_gauges 26 = .ok (.iconst 2, 1) := by decide +kernel
theorem dM_gauges_27 : decode cM_gauges 27 = .ok (.invokestatic 73, 3) := by decide +kernel
theorem dM_gauges_30 : decode cM_gauges 30 = .ok (.ifCond .ne 10, 3) := by decide +kernel
theorem dM_gauges_33 : decode cM_gauges 33 = .ok (.aload_n 0, 1) := by decide +kernel
theorem dM_gauges_34 : decode cM_gauges 34 = .ok (.bipush (-2), 2) := by decide +kernel
theorem dM_gauges_36 : decode cM_gauges 36 = .ok (.invokevirtual 84, 3) := by decide +kernel
theorem dM_gauges_39 : decode cM_gauges 39 = .ok (.ireturn, 1) := by decide +kernel
theorem dM_gauges_40 : decode cM_gauges 40 = .ok (.aload_n 0, 1) := by decide +kernel
theorem dM_gauges_41 : decode cM_gauges 41 = .ok (.getfield 192, 3) := by decide +kernel
theorem dM_gauges_44 : decode cM_gauges 44 = .ok (.bipush 6, 2) := by decide +kernel
theorem dM_gauges_46 : decode cM_gauges 46 = .ok (.if_icmp .eq 10, 3) := by decide +kernel
theorem dM_gauges_49 : decode cM_gauges 49 = .ok (.aload_n 0, 1) := by decide +kernel
theorem dM_gauges_50 : decode cM_gauges 50 = .ok (.bipush (-3), 2) := by decide +kernel
theorem dM_gauges_52 : decode cM_gauges 52 = .ok (.invokevirtual 84, 3) := by decide +kernel
theorem dM_gauges_55 : decode cM_gauges 55 = .ok (.ireturn, 1) := by decide +kernel
theorem dM_gauges_56 : decode cM_gauges 56 = .ok (.iload_n 2, 1) := by decide +kernel
theorem dM_gauges_57 : decode cM_gauges 57 = .ok (.iconst 2, 1) := by decide +kernel
theorem dM_gauges_58 : decode cM_gauges 58 = .ok (.if_icmp .ne 17, 3) := by decide +kernel
theorem dM_gauges_61 : decode cM_gauges 61 = .ok (.aload_n 0, 1) := by decide +kernel
theorem dM_gauges_62 : decode cM_gauges 62 = .ok (.iload_n 1, 1) := by decide +kernel
theorem dM_gauges_63 : decode cM_gauges 63 = .ok (.invokevirtual 195, 3) := by decide +kernel
theorem dM_gauges_66 : decode cM_gauges 66 = .ok (.ifCond .eq 7, 3) := by decide +kernel
theorem dM_gauges_69 : decode cM_gauges 69 = .ok (.iconst 1, 1) := by decide +kernel
theorem dM_gauges_70 : decode cM_gauges 70 = .ok (.goto 4, 3) := by decide +kernel
theorem dM_gauges_73 : decode cM_gauges 73 = .ok (.iconst 0, 1) := by decide +kernel
theorem dM_gauges_74 : decode cM_gauges 74 = .ok (.ireturn, 1) := by decide +kernel
theorem dM_gauges_75 : decode cM_gauges 75 = .ok (.iconst 0, 1) := by decide +kernel
theorem dM_gauges_76 : decode cM_gauges 76 = .ok (.istore_n 3, 1) := by decide +kernel
theorem dM_gauges_77 : decode cM_gauges 77 = .ok (.bipush (-9), 2) := by decide +kernel
theorem dM_gauges_79 : decode cM_gauges 79 = .ok (.istore 4, 2) := by decide +kernel
theorem dM_gauges_81 : decode cM_gauges 81 = .ok (.iconst 0, 1) := by decide +kernel
theorem dM_gauges_82 : decode cM_gauges 82 = .ok (.istore 5, 2) := by decide +kernel
theorem dM_gauges_84 : decode cM_gauges 84 = .ok (.iload 5, 2) := by decide +kernel
theorem dM_gauges_86 : decode cM_gauges 86 = .ok (.bipush 6, 2) := by decide +kernel
theorem dM_gauges_88 : decode cM_gauges 88 = .ok (.if_icmp .ge 97, 3) := by decide +kernel
theorem dM_gauges_91 : decode cM_gauges 91 = .ok (.aload_n 0, 1) := by decide +kernel
theorem dM_gauges_92 : decode cM_gauges 92 = .ok (.getfield 13, 3) := by decide +kernel
theorem dM_gauges_95 : decode cM_gauges 95 = .ok (.iload 5, 2) := by decide +kernel
theorem dM_gauges_97 : decode cM_gauges 97 = .ok (.iaload, 1) := by decide +kernel
theorem dM_gauges_98 : decode cM_gauges 98 = .ok (.istore 6, 2) := by decide +kernel
theorem dM_gauges_100 : decode cM_gauges 100 = .ok (.iconst 0, 1) := by decide +kernel
theorem dM_gauges_101 : decode cM_gauges 101 = .ok (.istore 7, 2) := by decide +kernel
theorem dM_gauges_103 : decode cM_gauges 103 = .ok (.iload 7, 2) := by decide +kernel
theorem dM_gauges_105 : decode cM_gauges 105 = .ok (.bipush 10, 2) := by decide +kernel
theorem dM_gauges_107 : decode cM_gauges 107 = .ok (.if_icmp .ge 72, 3) := by decide +kernel
theorem dM_gauges_110 : decode cM_gauges 110 = .ok (.iload 7, 2) := by decide +kernel
theorem dM_gauges_112 : decode cM_gauges 112 = .ok (.iload 6, 2) := by decide +kernel
theorem dM_gauges_114 : decode cM_gauges 114 = .ok (.if_icmp .ne 6, 3) := by decide +kernel
theorem dM_gauges_117 : decode cM_gauges 117 = .ok (.goto 56, 3) := by decide +kernel
theorem dM_gauges_120 : decode cM_gauges 120 = .ok (.aload_n 0, 1) := by decide +kernel
theorem dM_gauges_121 : decode cM_gauges 121 = .ok (.getfield 13, 3) := by decide +kernel
theorem dM_gauges_124 : decode cM_gauges 124 = .ok (.iload 5, 2) := by decide +kernel
theorem dM_gauges_126 : decode cM_gauges 126 = .ok (.iload 7, 2) := by decide +kernel
theorem dM_gauges_128 : decode cM_gauges 128 = .ok (.iastore, 1) := by decide +kernel
theorem dM_gauges_129 : decode cM_gauges 129 = .ok (.aload_n 0, 1) := by decide +kernel
theorem dM_gauges_130 : decode cM_gauges 130 = .ok (.iload_n 1, 1) := by decide +kernel
theorem dM_gauges_131 : decode cM_gauges 131 = .ok (.invokevirtual 195, 3) := by decide +kernel
theorem dM_gauges_134 : decode cM_gauges 134 = .ok (.istore 8, 2) := by decide +kernel
theorem dM_gauges_136 : decode cM_gauges 136 = .ok (.aload_n 0, 1) := by decide +kernel
theorem dM_gauges_137 : decode cM_gauges 137 = .ok (.getfield 13, 3) := by decide +kernel
theorem dM_gauges_140 : decode cM_gauges 140 = .ok (.iload 5, 2) := by decide +kernel
theorem dM_gauges_142 : decode cM_gauges 142 = .ok (.iload 6, 2) := by decide +kernel
theorem dM_gauges_144 : decode cM_gauges 144 = .ok (.iastore, 1) := by decide +kernel
theorem dM_gauges_145 : decode cM_gauges 145 = .ok (.iload 8, 2) := by decide +kernel
theorem dM_gauges_147 : decode cM_gauges 147 = .ok (.ifCond .ne 6, 3) := by decide +kernel
theorem dM_gauges_150 : decode cM_gauges 150 = .ok (.goto 23, 3) := by decide +kernel
theorem dM_gauges_153 : decode cM_gauges 153 = .ok (.iinc 3 1, 3) := by decide +kernel
theorem dM_gauges_156 : decode cM_gauges 156 = .ok (.iload 4, 2) := by decide +kernel
theorem dM_gauges_158 : decode cM_gauges 158 = .ok (.bipush (-9), 2) := by decide +kernel
theorem dM_gauges_160 : decode cM_gauges 160 = .ok (.if_icmp .ne 13, 3) := by decide +kernel
theorem dM_gauges_163 : decode cM_gauges 163 = .ok (.bipush 10, 2) := by decide +kernel
theorem dM_gauges_165 : decode cM_gauges 165 = .ok (.iload 5, 2) := by decide +kernel
theorem dM_gauges_167 : decode cM_gauges 167 = .ok (.imul, 1) := by decide +kernel
theorem dM_gauges_168 : decode cM_gauges 168 = .ok (.iload 7, 2) := by decide +kernel
theorem dM_gauges_170 : decode cM_gauges 170 = .ok (.iadd, 1) := by decide +kernel
theorem dM_gauges_171 : decode cM_gauges 171 = .ok (.istore 4, 2) := by decide +kernel
theorem dM_gauges_173 : decode cM_gauges 173 = .ok (.iinc 7 1, 3) := by decide +kernel
theorem dM_gauges_176 : decode cM_gauges 176 = .ok (.goto (-73), 3) := by decide +kernel
theorem dM_gauges_179 : decode cM_gauges 179 = .ok (.iinc 5 1, 3) := by decide +kernel
theorem dM_gauges_182 : decode cM_gauges 182 = .ok (.goto (-98), 3) := by decide +kernel
theorem dM_gauges_185 : decode cM_gauges 185 = .ok (.iload_n 2, 1) := by decide +kernel
theorem dM_gauges_186 : decode cM_gauges 186 = .ok (.ifCond .ne 7, 3) := by decide +kernel
theorem dM_gauges_189 : decode cM_gauges 189 = .ok (.iload_n 3, 1) := by decide +kernel
theorem dM_gauges_190 : decode cM_gauges 190 = .ok (.goto 5, 3) := by decide +kernel
theorem dM_gauges_193 : decode cM_gauges 193 = .ok (.iload 4, 2) := by decide +kernel
theorem dM_gauges_195 : decode cM_gauges 195 = .ok (.ireturn, 1) := by decide +kernel
theorem dM_goBy_0 : decode cM_goBy 0 = .ok (.iconst 0, 1) := by decide +kernel
theorem dM_goBy_1 : decode cM_goBy 1 = .ok (.istore_n 2, 1) := by decide +kernel
theorem dM_goBy_2 : decode cM_goBy 2 = .ok (.iconst 0, 1) := by decide +kernel
theorem dM_goBy_3 : decode cM_goBy 3 = .ok (.istore_n 3, 1) := by decide +kernel
theorem dM_goBy_4 : decode cM_goBy 4 = .ok (.iload_n 3, 1) := by decide +kernel
theorem dM_goBy_5 : decode cM_goBy 5 = .ok (.iload_n 1, 1) := by decide +kernel
theorem dM_goBy_6 : decode cM_goBy 6 = .ok (.if_icmp .ge 136, 3) := by decide +kernel
theorem dM_goBy_9 : decode cM_goBy 9 = .ok (.iconst 0, 1) := by decide +kernel
theorem dM_goBy_10 : decode cM_goBy 10 = .ok (.istore 4, 2) := by decide +kernel
theorem dM_goBy_12 : decode cM_goBy 12 = .ok (.iload 4, 2) := by decide +kernel
theorem dM_goBy_14 : decode cM_goBy 14 = .ok (.bipush 6, 2) := by decide +kernel
theorem dM_goBy_16 : decode cM_goBy 16 = .ok (.if_icmp .ge 60, 3) := by decide +kernel
theorem dM_goBy_19 : decode cM_goBy 19 = .ok (.aload_n 0, 1) := by decide +kernel
theorem dM_goBy_20 : decode cM_goBy 20 = .ok (.getfield 7, 3) := by decide +kernel
theorem dM_goBy_23 : decode cM_goBy 23 = .ok (.iload 4, 2) := by decide +kernel
theorem dM_goBy_25 : decode cM_goBy 25 = .ok (.iaload, 1) := by decide +kernel
theorem dM_goBy_26 : decode cM_goBy 26 = .ok (.aload_n 0, 1) := by decide +kernel
theorem dM_goBy_27 : decode cM_goBy 27 = .ok (.getfield 13, 3) := by decide +kernel
theorem dM_goBy_30 : decode cM_goBy 30 = .ok (.iload 4, 2) := by decide +kernel
theorem dM_goBy_32 : decode cM_goBy 32 = .ok (.iaload, 1) := by decide +kernel
theorem dM_goBy_33 : decode cM_goBy 33 = .ok (.isub, 1) := by decide +kernel
theorem dM_goBy_34 : decode cM_goBy 34 = .ok (.aload_n 0, 1) := by decide +kernel
theorem dM_goBy_35 : decode cM_goBy 35 = .ok (.iload 4, 2) := by decide +kernel
theorem dM_goBy_37 : decode cM_goBy 37 = .ok (.invokevirtual 143, 3) := by decide +kernel
theorem dM_goBy_40 : decode cM_goBy 40 = .ok (.isub, 1) := by decide +kernel
theorem dM_goBy_41 : decode cM_goBy 41 = .ok (.istore 5, 2) := by decide +kernel
theorem dM_goBy_43 : decode cM_goBy 43 = .ok (.iload 5, 2) := by decide +kernel
theorem dM_goBy_45 : decode cM_goBy 45 = .ok (.ifCond .ge 12, 3) := by decide +kernel
theorem dM_goBy_48 : decode cM_goBy 48 = .ok (.iload_n 2, 1) := by decide +kernel
theorem dM_goBy_49 : decode cM_goBy 49 = .ok (.aload_n 0, 1) := by decide +kernel
theorem dM_goBy_50 : decode cM_goBy 50 = .ok (.iload 4, 2) := by decide +kernel
theorem dM_goBy_52 : decode cM_goBy 52 = .ok (.invokevirtual 137, 3) := by decide +kernel
theorem dM_goBy_55 : decode cM_goBy 55 = .ok (.iadd, 1) := by decide +kernel
theorem dM_goBy_56 : decode cM_goBy 56 = .ok (.istore_n 2, 1) := by decide +kernel
theorem dM_goBy_57 : decode cM_goBy 57 = .ok (.aload_n 0, 1) := by decide +kernel
theorem dM_goBy_58 : decode cM_goBy 58 = .ok (.getfield 7, 3) := by decide +kernel
theorem dM_goBy_61 : decode cM_goBy 61 = .ok (.iload 4, 2) := by decide +kernel
theorem dM_goBy_63 : decode cM_goBy 63 = .ok (.iconst 0, 1) := by decide +kernel
theorem dM_goBy_64 : decode cM_goBy 64 = .ok (.iload 5, 2) := by decide +kernel
theorem dM_goBy_66 : decode cM_goBy 66 = .ok (.invokestatic 104, 3) := by decide +kernel
theorem dM_goBy_69 : decode cM_goBy 69 = .ok (.iastore, 1) := by decide +kernel
theorem dM_goBy_70 : decode cM_goBy 70 = .ok (.iinc 4 1, 3) := by decide +kernel
theorem dM_goBy_73 : decode cM_goBy 73 = .ok (.goto (-61), 3) := by decide +kernel
theorem dM_goBy_76 : decode cM_goBy 76 = .ok (.iconst 0, 1) := by decide +kernel
theorem dM_goBy_77 : decode cM_goBy 77 = .ok (.istore 4, 2) := by decide +kernel
theorem dM_goBy_79 : decode cM_goBy 79 = .ok (.iload 4, 2) := by decide +kernel
theorem dM_goBy_81 : decode cM_goBy 81 = .ok (.aload_n 0, 1) := by decide +kernel
theorem dM_goBy_82 : decode cM_goBy 82 = .ok (.getfield 81, 3) := by decide +kernel
theorem dM_goBy_85 : decode cM_goBy 85 = .ok (.if_icmp .ge 51, 3) := by decide +kernel
theorem dM_goBy_88 : decode cM_goBy 88 = .ok (.aload_n 0, 1) := by decide +kernel
theorem dM_goBy_89 : decode cM_goBy 89 = .ok (.getfield 34, 3) := by decide +kernel
theorem dM_goBy_92 : decode cM_goBy 92 = .ok (.iload 4, 2) := by decide +kernel
theorem dM_goBy_94 : decode cM_goBy 94 = .ok (.iaload, 1) := by decide +kernel
theorem dM_goBy_95 : decode cM_goBy 95 = .ok (.bipush 6, 2) := by decide +kernel
theorem dM_goBy_97 : decode cM_goBy 97 = .ok (.if_icmp .eq 6, 3) := by decide +kernel
theorem dM_goBy_100 : decode cM_goBy 100 = .ok (.goto 30, 3) := by decide +kernel
theorem dM_goBy_103 : decode cM_goBy 103 = .ok (.aload_n 0, 1) := by decide +kernel
theorem dM_goBy_104 : decode cM_goBy 104 = .ok (.getfield 40, 3) := by decide +kernel
theorem dM_goBy_107 : decode cM_goBy 107 = .ok (.iload 4, 2) := by decide +kernel
theorem dM_goBy_109 : decode cM_goBy 109 = .ok (.iaload, 1) := by decide +kernel
theorem dM_goBy_110 : decode cM_goBy 110 = .ok (.ifCond .ne 9, 3) := by decide +kernel
theorem dM_goBy_113 : decode cM_goBy 113 = .ok (.iinc 2 1, 3) := by decide +kernel
theorem dM_goBy_116 : decode cM_goBy 116 = .ok (.goto 14, 3) := by decide +kernel
theorem dM_goBy_119 : decode cM_goBy 119 = .ok (.aload_n 0, 1) := by decide +kernel
theorem dM_goBy_120 : decode cM_goBy 120 = .ok (.getfield 40, 3) := by decide +kernel
theorem dM_goBy_123 : decode cM_goBy 123 = .ok (.iload 4, 2) := by decide +kernel
theorem dM_goBy_125 : decode cM_goBy 125 = .ok (.dup2, 1) := by decide +kernel
theorem dM_goBy_126 : decode cM_goBy 126 = .ok (.iaload, 1) := by decide +kernel
theorem dM_goBy_127 : decode cM_goBy 127 = .ok (.iconst 1, 1) := by decide +kernel
theorem dM_goBy_128 : decode cM_goBy 128 = .ok (.isub, 1) := by decide +kernel
theorem dM_goBy_129 : decode cM_goBy 129 = .ok (.iastore, 1) := by decide +kernel
theorem dM_goBy_130 : decode cM_goBy 130 = .ok (.iinc 4 1, 3) := by decide +kernel
theorem dM_goBy_133 : decode cM_goBy 133 = .ok (.goto (-54), 3) := by decide +kernel
theorem dM_goBy_136 : decode cM_goBy 136 = .ok (.iinc 3 1, 3) := by decide +kernel
theorem dM_goBy_139 : decode cM_goBy 139 = .ok (.goto (-135), 3) := by decide +kernel
theorem dM_goBy_142 : decode cM_goBy 142 = .ok (.aload_n 0, 1) := by decide +kernel
theorem dM_goBy_143 : decode cM_goBy 143 = .ok (.dup, 1) := by decide +kernel
theorem dM_goBy_144 : decode cM_goBy 144 = .ok (.getfield 146, 3) := by decide +kernel
theorem dM_goBy_147 : decode cM_goBy 147 = .ok (.iload_n 1, 1) := by decide +kernel
theorem dM_goBy_148 : decode cM_goBy 148 = .ok (.iadd, 1) := by decide +kernel
theorem dM_goBy_149 : decode cM_goBy 149 = .ok (.putfield 146, 3) := by decide +kernel
theorem dM_goBy_152 : decode cM_goBy 152 = .ok (.aload_n 0, 1) := by decide +kernel
theorem dM_goBy_153 : decode cM_goBy 153 = .ok (.dup, 1) := by decide +kernel
theorem dM_goBy_154 : decode cM_goBy 154 = .ok (.getfield 149, 3) := by decide +kernel
theorem dM_goBy_157 : decode cM_goBy 157 = .ok (.iload_n 2, 1) := by decide +kernel
theorem dM_goBy_158 : decode cM_goBy 158 = .ok (.iadd, 1) := by decide +kernel
theorem dM_goBy_159 : decode cM_goBy 159 = .ok (.putfield 149, 3) := by decide +kernel
theorem dM_goBy_162 : decode cM_goBy 162 = .ok (.iload_n 2, 1) := by decide +kernel
theorem dM_goBy_163 : decode cM_goBy 163 = .ok (.ireturn, 1) := by decide +kernel
theorem dM_has_0 : decode cM_has 0 = .ok (.iload_n 0, 1) := by decide +kernel
theorem dM_has_1 : decode cM_has 1 = .ok (.iload_n 1, 1) := by decide +kernel
theorem dM_has_2 : decode cM_has 2 = .ok (.ishr, 1) := by decide +kernel
theorem dM_has_3 : decode cM_has 3 = .ok (.iconst 1, 1) := by decide +kernel
theorem dM_has_4 : decode cM_has 4 = .ok (.iand, 1) := by decide +kernel
theorem dM_has_5 : decode cM_has 5 = .ok (.iconst 1, 1) := by decide +kernel
theorem dM_has_6 : decode cM_has 6 = .ok (.if_icmp .ne 7, 3) := by decide +kernel
theorem dM_has_9 : decode cM_has 9 = .ok (.iconst 1, 1) := by decide +kernel
theorem dM_has_10 : decode cM_has 10 = .ok (.goto 4, 3) := by decide +kernel
theorem dM_has_13 : decode cM_has 13 = .ok (.iconst 0, 1) := by decide +kernel
theorem dM_has_14 : decode cM_has 14 = .ok (.ireturn, 1) := by decide +kernel
theorem dM_image_0 : decode cM_image 0 = .ok (.aload_n 0, 1) := by decide +kernel
theorem dM_image_1 : decode cM_image 1 = .ok (.iconst 1, 1) := by decide +kernel
theorem dM_image_2 : decode cM_image 2 = .ok (.putfield 204, 3) := by decide +kernel
theorem dM_image_5 : decode cM_image 5 = .ok (.aload_n 0, 1) := by decide +kernel
theorem dM_image_6 : decode cM_image 6 = .ok (.aload_n 0, 1) := by decide +kernel
theorem dM_image_7 : decode cM_image 7 = .ok (.getfield 58, 3) := by decide +kernel
theorem dM_image_10 : decode cM_image 10 = .ok (.invokevirtual 130, 3) := by decide +kernel
theorem dM_image_13 : decode cM_image 13 = .ok (.aload_n 0, 1) := by decide +kernel
theorem dM_image_14 : decode cM_image 14 = .ok (.getfield 146, 3) := by decide +kernel
theorem dM_image_17 : decode cM_image 17 = .ok (.ireturn, 1) := by decide +kernel
theorem dM_is_0 : decode cM_is 0 = .ok (.aload_n 0, 1) := by decide +kernel
theorem dM_is_1 : decode cM_is 1 = .ok (.getfield 91, 3) := by decide +kernel
theorem dM_is_4 : decode cM_is 4 = .ok (.aload_n 0, 1) := by decide +kernel
theorem dM_is_5 : decode cM_is 5 = .ok (.getfield 88, 3) := by decide +kernel
theorem dM_is_8 : decode cM_is 8 = .ok (.if_icmp .eq 16, 3) := by decide +kernel
theorem dM_is_11 : decode cM_is 11 = .ok (.aload_n 0, 1) := by decide +kernel
theorem dM_is_12 : decode cM_is 12 = .ok (.getfield 46, 3) := by decide +kernel
theorem dM_is_15 : decode cM_is 15 = .ok (.aload_n 0, 1) := by decide +kernel
theorem dM_is_16 : decode cM_is 16 = .ok (.getfield 91, 3) := by decide +kernel
theorem dM_is_19 : decode cM_is 19 = .ok (.iaload, 1) := by decide +kernel
theorem dM_is_20 : decode cM_is 20 = .ok (.iload_n 1, 1) := by decide +kernel
theorem dM_is_21 : decode cM_is 21 = .ok (.if_icmp .eq 5, 3) := by decide +kernel
theorem dM_is_24 : decode cM_is 24 = .ok (.iconst 0, 1) := by decide +kernel
theorem dM_is_25 : decode cM_is 25 = .ok (.ireturn, 1) := by decide +kernel
theorem dM_is_26 : decode cM_is 26 = .ok (.aload_n 0, 1) := by decide +kernel
theorem dM_is_27 : decode cM_is 27 = .ok (.dup, 1) := by decide +kernel
theorem dM_is_28 : decode cM_is 28 = .ok (.getfield 91, 3) := by decide +kernel
theorem dM_is_31 : decode cM_is 31 = .ok (.iconst 1, 1) := by decide +kernel
theorem dM_is_32 : decode cM_is 32 = .ok (.iadd, 1) := by decide +kernel
theorem dM_is_33 : decode cM_is 33 = .ok (.putfield 91, 3) := by decide +kernel
theorem dM_is_36 : decode cM_is 36 = .ok (.iconst 1, 1) := by decide +kernel
theorem dM_is_37 : decode cM_is 37 = .ok (.ireturn, 1) := by decide +kernel
theorem dM_isDigit_0 : decode cM_isDigit 0 = .ok (.aload_n 0, 1) := by decide +kernel
theorem dM_isDigit_1 : decode cM_isDigit 1 = .ok (.getfield 91, 3) := by decide +kernel
theorem dM_isDigit_4 : decode cM_isDigit 4 = .ok (.aload_n 0, 1) := by decide +kernel
theorem dM_isDigit_5 : decode cM_isDigit 5 = .ok (.getfield 88, 3) := by decide +kernel
theorem dM_isDigit_8 : decode cM_isDigit 8 = .ok (.if_icmp .ge 35, 3) := by decide +kernel
theorem dM_isDigit_11 : decode cM_isDigit 11 = .ok (.aload_n 0, 1) := by decide +kernel
theorem dM_isDigit_12 : decode cM_isDigit 12 = .ok (.getfield 46, 3) := by decide +kernel
theorem dM_isDigit_15 : decode cM_isDigit 15 = .ok (.aload_n 0, 1) := by decide +kernel
theorem dM_isDigit_16 : decode cM_isDigit 16 = .ok (.getfield 91, 3) := by decide +kernel
theorem dM_isDigit_19 : decode cM_isDigit 19 = .ok (.iaload, 1) := by decide +kernel
theorem dM_isDigit_20 : decode cM_isDigit 20 = .ok (.bipush 48, 2) := by decide +kernel
theorem dM_isDigit_22 : decode cM_isDigit 22 = .ok (.if_icmp .lt 21, 3) := by decide +kernel
theorem dM_isDigit_25 : decode cM_isDigit 25 = .ok (.aload_n 0, 1) := by decide +kernel
theorem dM_isDigit_26 : decode cM_isDigit 26 = .ok (.getfield 46, 3) := by decide +kernel
theorem dM_isDigit_29 : decode cM_isDigit 29 = .ok (.aload_n 0, 1) := by decide +kernel
theorem dM_isDigit_30 : decode cM_isDigit 30 = .ok (.getfield 91, 3) := by decide +kernel
theorem dM_isDigit_33 : decode cM_isDigit 33 = .ok (.iaload, 1) := by decide +kernel
theorem dM_isDigit_34 : decode cM_isDigit 34 = .ok (.bipush 57, 2) := by decide +kernel
theorem dM_isDigit_36 : decode cM_isDigit 36 = .ok (.if_icmp .gt 7, 3) := by decide +kernel
theorem dM_isDigit_39 : decode cM_isDigit 39 = .ok (.iconst 1, 1) := by decide +kernel
theorem dM_isDigit_40 : decode cM_isDigit 40 = .ok (.goto 4, 3) := by decide +kernel
theorem dM_isDigit_43 : decode cM_isDigit 43 = .ok (.iconst 0, 1) := by decide +kernel
theorem dM_isDigit_44 : decode cM_isDigit 44 = .ok (.ireturn, 1) := by decide +kernel
theorem dM_isLock_0 : decode cM_isLock 0 = .ok (.iload_n 1, 1) := by decide +kernel
theorem dM_isLock_1 : decode cM_isLock 1 = .ok (.iconst 0, 1) := by decide +kernel
theorem dM_isLock_2 : decode cM_isLock 2 = .ok (.aload_n 0, 1) := by decide +kernel
theorem dM_isLock_3 : decode cM_isLock 3 = .ok (.getfield 77, 3) := by decide +kernel
theorem dM_isLock_6 : decode cM_isLock 6 = .ok (.iconst 1, 1) := by decide +kernel
theorem dM_isLock_7 : decode cM_isLock 7 = .ok (.isub, 1) := by decide +kernel
theorem dM_isLock_8 : decode cM_isLock 8 = .ok (.invokestatic 73, 3) := by decide +kernel
theorem dM_isLock_11 : decode cM_isLock 11 = .ok (.ireturn, 1) := by decide +kernel
theorem dM_isOne_0 : decode cM_isOne 0 = .ok (.iload_n 1, 1) := by decide +kernel
theorem dM_isOne_1 : decode cM_isOne 1 = .ok (.iconst 0, 1) := by decide +kernel
theorem dM_isOne_2 : decode cM_isOne 2 = .ok (.aload_n 0, 1) := by decide +kernel
theorem dM_isOne_3 : decode cM_isOne 3 = .ok (.getfield 81, 3) := by decide +kernel
theorem dM_isOne_6 : decode cM_isOne 6 = .ok (.iconst 1, 1) := by decide +kernel
theorem dM_isOne_7 : decode cM_isOne 7 = .ok (.isub, 1) := by decide +kernel
theorem dM_isOne_8 : decode cM_isOne 8 = .ok (.invokestatic 73, 3) := by decide +kernel
theorem dM_isOne_11 : decode cM_isOne 11 = .ok (.ireturn, 1) := by decide +kernel
theorem dM_isPlace_0 : decode cM_isPlace 0 = .ok (.iload_n 0, 1) := by decide +kernel
theorem dM_isPlace_1 : decode cM_isPlace 1 = .ok (.iconst 0, 1) := by decide +kernel
theorem dM_isPlace_2 : decode cM_isPlace 2 = .ok (.bipush 6, 2) := by decide +kernel
theorem dM_isPlace_4 : decode cM_isPlace 4 = .ok (.invokestatic 73, 3) := by decide +kernel
theorem dM_isPlace_7 : decode cM_isPlace 7 = .ok (.ireturn, 1) := by decide +kernel
theorem dM_isRoom_0 : decode cM_isRoom 0 = .ok (.iload_n 0, 1) := by decide +kernel
theorem dM_isRoom_1 : decode cM_isRoom 1 = .ok (.iconst 0, 1) := by decide +kernel
theorem dM_isRoom_2 : decode cM_isRoom 2 = .ok (.iconst 5, 1) := by decide +kernel
theorem dM_isRoom_3 : decode cM_isRoom 3 = .ok (.invokestatic 73, 3) := by decide +kernel
theorem dM_isRoom_6 : decode cM_isRoom 6 = .ok (.ireturn, 1) := by decide +kernel
theorem dM_isSo_0 : decode cM_isSo 0 = .ok (.aload_n 0, 1) := by decide +kernel
theorem dM_isSo_1 : decode cM_isSo 1 = .ok (.aload_n 0, 1) := by decide +kernel
theorem dM_isSo_2 : decode cM_isSo 2 = .ok (.getfield 61, 3) := by decide +kernel
theorem dM_isSo_5 : decode cM_isSo 5 = .ok (.invokevirtual 130, 3) := by decide +kernel
theorem dM_isSo_8 : decode cM_isSo 8 = .ok (.aload_n 0, 1) := by decide +kernel
theorem dM_isSo_9 : decode cM_isSo 9 = .ok (.iload_n 1, 1) := by decide +kernel
theorem dM_isSo_10 : decode cM_isSo 10 = .ok (.invokevirtual 161, 3) := by decide +kernel
theorem dM_isSo_13 : decode cM_isSo 13 = .ok (.pop, 1) := by decide +kernel
theorem dM_isSo_14 : decode cM_isSo 14 = .ok (.iconst 1, 1) := by decide +kernel
theorem dM_isSo_15 : decode cM_isSo 15 = .ok (.istore_n 2, 1) := by decide +kernel
theorem dM_isSo_16 : decode cM_isSo 16 = .ok (.iconst 0, 1) := by decide +kernel
theorem dM_isSo_17 : decode cM_isSo 17 = .ok (.istore_n 3, 1) := by decide +kernel
theorem dM_isSo_18 : decode cM_isSo 18 = .ok (.iload_n 3, 1) := by decide +kernel
theorem dM_isSo_19 : decode cM_isSo 19 = .ok (.bipush 6, 2) := by decide +kernel
theorem dM_isSo_21 : decode cM_isSo 21 = .ok (.if_icmp .ge 26, 3) := by decide +kernel
theorem dM_isSo_24 : decode cM_isSo 24 = .ok (.aload_n 0, 1) := by decide +kernel
theorem dM_isSo_25 : decode cM_isSo 25 = .ok (.getfield 7, 3) := by decide +kernel
theorem dM_isSo_28 : decode cM_isSo 28 = .ok (.iload_n 3, 1) := by decide +kernel
theorem dM_isSo_29 : decode cM_isSo 29 = .ok (.iaload, 1) := by decide +kernel
theorem dM_isSo_30 : decode cM_isSo 30 = .ok (.aload_n 0, 1) := by decide +kernel
theorem dM_isSo_31 : decode cM_isSo 31 = .ok (.getfield 52, 3) := by decide +kernel
theorem dM_isSo_34 : decode cM_isSo 34 = .ok (.iload_n 3, 1) := by decide +kernel
theorem dM_isSo_35 : decode cM_isSo 35 = .ok (.iaload, 1) := by decide +kernel
theorem dM_isSo_36 : decode cM_isSo 36 = .ok (.if_icmp .eq 5, 3) := by decide +kernel
theorem dM_isSo_39 : decode cM_isSo 39 = .ok (.iconst 0, 1) := by decide +kernel
theorem dM_isSo_40 : decode cM_isSo 40 = .ok (.istore_n 2, 1) := by decide +kernel
theorem dM_isSo_41 : decode cM_isSo 41 = .ok (.iinc 3 1, 3) := by decide +kernel
theorem dM_isSo_44 : decode cM_isSo 44 = .ok (.goto (-26), 3) := by decide +kernel
theorem dM_isSo_47 : decode cM_isSo 47 = .ok (.aload_n 0, 1) := by decide +kernel
theorem dM_isSo_48 : decode cM_isSo 48 = .ok (.aload_n 0, 1) := by decide +kernel
theorem dM_isSo_49 : decode cM_isSo 49 = .ok (.getfield 61, 3) := by decide +kernel
theorem dM_isSo_52 : decode cM_isSo 52 = .ok (.invokevirtual 134, 3) := by decide +kernel
theorem dM_isSo_55 : decode cM_isSo 55 = .ok (.iload_n 2, 1) := by decide +kernel
theorem dM_isSo_56 : decode cM_isSo 56 = .ok (.ireturn, 1) := by decide +kernel
theorem dM_judge_0 : decode cM_judge 0 = .ok (.aload_n 0, 1) := by decide +kernel
theorem dM_judge_1 : decode cM_judge 1 = .ok (.invokevirtual 198, 3) := by decide +kernel
theorem dM_judge_4 : decode cM_judge 4 = .ok (.istore_n 1, 1) := by decide +kernel
theorem dM_judge_5 : decode cM_judge 5 = .ok (.iload_n 1, 1) := by decide +kernel
theorem dM_judge_6 : decode cM_judge 6 = .ok (.aload_n 0, 1) := by decide +kernel
theorem dM_judge_7 : decode cM_judge 7 = .ok (.getfield 192, 3) := by decide +kernel
theorem dM_judge_10 : decode cM_judge 10 = .ok (.if_icmp .ge 7, 3) := by decide +kernel
theorem dM_judge_13 : decode cM_judge 13 = .ok (.iload_n 1, 1) := by decide +kernel
theorem dM_judge_14 : decode cM_judge 14 = .ok (.goto 5, 3) := by decide +kernel
theorem dM_judge_17 : decode cM_judge 17 = .ok (.bipush (-9), 2) := by decide +kernel
theorem dM_judge_19 : decode cM_judge 19 = .ok (.ireturn, 1) := by decide +kernel
theorem dM_judged_0 : decode cM_judged 0 = .ok (.aload_n 0, 1) := by decide +kernel
theorem dM_judged_1 : decode cM_judged 1 = .ok (.aload_n 0, 1) := by decide +kernel
theorem dM_judged_2 : decode cM_judged 2 = .ok (.getfield 61, 3) := by decide +kernel
theorem dM_judged_5 : decode cM_judged 5 = .ok (.invokevirtual 130, 3) := by decide +kernel
theorem dM_judged_8 : decode cM_judged 8 = .ok (.aload_n 0, 1) := by decide +kernel
theorem dM_judged_9 : decode cM_judged 9 = .ok (.getfield 49, 3) := by decide +kernel
theorem dM_judged_12 : decode cM_judged 12 = .ok (.iconst 0, 1) := by decide +kernel
theorem dM_judged_13 : decode cM_judged 13 = .ok (.iconst 0, 1) := by decide +kernel
theorem dM_judged_14 : decode cM_judged 14 = .ok (.iastore, 1) := by decide +kernel
theorem dM_judged_15 : decode cM_judged 15 = .ok (.iconst 0, 1) := by decide +kernel
theorem dM_judged_16 : decode cM_judged 16 = .ok (.istore_n 1, 1) := by decide +kernel
theorem dM_judged_17 : decode cM_judged 17 = .ok (.iload_n 1, 1) := by decide +kernel
theorem dM_judged_18 : decode cM_judged 18 = .ok (.aload_n 0, 1) := by decide +kernel
theorem dM_judged_19 : decode cM_judged 19 = .ok (.getfield 192, 3) := by decide +kernel
theorem dM_judged_22 : decode cM_judged 22 = .ok (.if_icmp .ge 97, 3) := by decide +kernel
theorem dM_judged_25 : decode cM_judged 25 = .ok (.aload_n 0, 1) := by decide +kernel
theorem dM_judged_26 : decode cM_judged 26 = .ok (.aload_n 0, 1) := by decide +kernel
theorem dM_judged_27 : decode cM_judged 27 = .ok (.getfield 52, 3) := by decide +kernel
theorem dM_judged_30 : decode cM_judged 30 = .ok (.iload_n 1, 1) := by decide +kernel
theorem dM_judged_31 : decode cM_judged 31 = .ok (.iaload, 1) := by decide +kernel
theorem dM_judged_32 : decode cM_judged 32 = .ok (.bipush 10, 2) := by decide +kernel
theorem dM_judged_34 : decode cM_judged 34 = .ok (.idiv, 1) := by decide +kernel
theorem dM_judged_35 : decode cM_judged 35 = .ok (.invokevirtual 158, 3) := by decide +kernel
theorem dM_judged_38 : decode cM_judged 38 = .ok (.ifCond .eq 81, 3) := by decide +kernel
theorem dM_judged_41 : decode cM_judged 41 = .ok (.aload_n 0, 1) := by decide +kernel
theorem dM_judged_42 : decode cM_judged 42 = .ok (.aload_n 0, 1) := by decide +kernel
theorem dM_judged_43 : decode cM_judged 43 = .ok (.getfield 52, 3) := by decide +kernel
theorem dM_judged_46 : decode cM_judged 46 = .ok (.iload_n 1, 1) := by decide +kernel
theorem dM_judged_47 : decode cM_judged 47 = .ok (.iaload, 1) := by decide +kernel
theorem dM_judged_48 : decode cM_judged 48 = .ok (.bipush 10, 2) := by decide +kernel
theorem dM_judged_50 : decode cM_judged 50 = .ok (.irem, 1) := by decide +kernel
theorem dM_judged_51 : decode cM_judged 51 = .ok (.invokevirtual 155, 3) := by decide +kernel
theorem dM_judged_54 : decode cM_judged 54 = .ok (.ifCond .eq 65, 3) := by decide +kernel
theorem dM_judged_57 : decode cM_judged 57 = .ok (.aload_n 0, 1) := by decide +kernel
theorem dM_judged_58 : decode cM_judged 58 = .ok (.aload_n 0, 1) := by decide +kernel
theorem dM_judged_59 : decode cM_judged 59 = .ok (.getfield 52, 3) := by decide +kernel
theorem dM_judged_62 : decode cM_judged 62 = .ok (.iload_n 1, 1) := by decide +kernel
theorem dM_judged_63 : decode cM_judged 63 = .ok (.iaload, 1) := by decide +kernel
theorem dM_judged_64 : decode cM_judged 64 = .ok (.bipush 10, 2) := by decide +kernel
theorem dM_judged_66 : decode cM_judged 66 = .ok (.idiv, 1) := by decide +kernel
theorem dM_judged_67 : decode cM_judged 67 = .ok (.aload_n 0, 1) := by decide +kernel
theorem dM_judged_68 : decode cM_judged 68 = .ok (.getfield 52, 3) := by decide +kernel
theorem dM_judged_71 : decode cM_judged 71 = .ok (.iload_n 1, 1) := by decide +kernel
theorem dM_judged_72 : decode cM_judged 72 = .ok (.iaload, 1) := by decide +kernel
theorem dM_judged_73 : decode cM_judged 73 = .ok (.bipush 10, 2) := by decide +kernel
theorem dM_judged_75 : decode cM_judged 75 = .ok (.irem, 1) := by decide +kernel
theorem dM_judged_76 : decode cM_judged 76 = .ok (.invokevirtual 164, 3) := by decide +kernel
theorem dM_judged_79 : decode cM_judged 79 = .ok (.ifCond .eq 40, 3) := by decide +kernel
theorem dM_judged_82 : decode cM_judged 82 = .ok (.aload_n 0, 1) := by decide +kernel
theorem dM_judged_83 : decode cM_judged 83 = .ok (.getfield 49, 3) := by decide +kernel
theorem dM_judged_86 : decode cM_judged 86 = .ok (.iconst 0, 1) := by decide +kernel
theorem dM_judged_87 : decode cM_judged 87 = .ok (.dup2, 1) := by decide +kernel
theorem dM_judged_88 : decode cM_judged 88 = .ok (.iaload, 1) := by decide +kernel
theorem dM_judged_89 : decode cM_judged 89 = .ok (.aload_n 0, 1) := by decide +kernel
theorem dM_judged_90 : decode cM_judged 90 = .ok (.aload_n 0, 1) := by decide +kernel
theorem dM_judged_91 : decode cM_judged 91 = .ok (.getfield 52, 3) := by decide +kernel
theorem dM_judged_94 : decode cM_judged 94 = .ok (.iload_n 1, 1) := by decide +kernel
theorem dM_judged_95 : decode cM_judged 95 = .ok (.iaload, 1) := by decide +kernel
theorem dM_judged_96 : decode cM_judged 96 = .ok (.bipush 10, 2) := by decide +kernel
theorem dM_judged_98 : decode cM_judged 98 = .ok (.idiv, 1) := by decide +kernel
theorem dM_judged_99 : decode cM_judged 99 = .ok (.aload_n 0, 1) := by decide +kernel
theorem dM_judged_100 : decode cM_judged 100 = .ok (.getfield 52, 3) := by decide +kernel
theorem dM_judged_103 : decode cM_judged 103 = .ok (.iload_n 1, 1) := by decide +kernel
theorem dM_judged_104 : decode cM_judged 104 = .ok (.iaload, 1) := by decide +kernel
theorem dM_judged_105 : decode cM_judged 105 = .ok (.bipush 10, 2) := by decide +kernel
theorem dM_judged_107 : decode cM_judged 107 = .ok (.irem, 1) := by decide +kernel
theorem dM_judged_108 : decode cM_judged 108 = .ok (.invokevirtual 167, 3) := by decide +kernel
theorem dM_judged_111 : decode cM_judged 111 = .ok (.iadd, 1) := by decide +kernel
theorem dM_judged_112 : decode cM_judged 112 = .ok (.iastore, 1) := by decide +kernel
theorem dM_judged_113 : decode cM_judged 113 = .ok (.iinc 1 1, 3) := by decide +kernel
theorem dM_judged_116 : decode cM_judged 116 = .ok (.goto (-99), 3) := by decide +kernel
theorem dM_judged_119 : decode cM_judged 119 = .ok (.aload_n 0, 1) := by decide +kernel
theorem dM_judged_120 : decode cM_judged 120 = .ok (.aload_n 0, 1) := by decide +kernel
theorem dM_judged_121 : decode cM_judged 121 = .ok (.getfield 61, 3) := by decide +kernel
theorem dM_judged_124 : decode cM_judged 124 = .ok (.invokevirtual 134, 3) := by decide +kernel
theorem dM_judged_127 : decode cM_judged 127 = .ok (.iload_n 1, 1) := by decide +kernel
theorem dM_judged_128 : decode cM_judged 128 = .ok (.ireturn, 1) := by decide +kernel
theorem dM_keep_0 : decode cM_keep 0 = .ok (.iconst 0, 1) := by decide +kernel
theorem dM_keep_1 : decode cM_keep 1 = .ok (.istore_n 2, 1) := by decide +kernel
theorem dM_keep_2 : decode cM_keep 2 = .ok (.iload_n 2, 1) := by decide +kernel
theorem dM_keep_3 : decode cM_keep 3 = .ok (.bipush 6, 2) := by decide +kernel
theorem dM_keep_5 : decode cM_keep 5 = .ok (.if_icmp .ge 42, 3) := by decide +kernel
theorem dM_keep_8 : decode cM_keep 8 = .ok (.aload_n 1, 1) := by decide +kernel
theorem dM_keep_9 : decode cM_keep 9 = .ok (.iload_n 2, 1) := by decide +kernel
theorem dM_keep_10 : decode cM_keep 10 = .ok (.aload_n 0, 1) := by decide +kernel
theorem dM_keep_11 : decode cM_keep 11 = .ok (.getfield 7, 3) := by decide +kernel
theorem dM_keep_14 : decode cM_keep 14 = .ok (.iload_n 2, 1) := by decide +kernel
theorem dM_keep_15 : decode cM_keep 15 = .ok (.iaload, 1) := by decide +kernel
theorem dM_keep_16 : decode cM_keep 16 = .ok (.iastore, 1) := by decide +kernel
theorem dM_keep_17 : decode cM_keep 17 = .ok (.aload_n 1, 1) := by decide +kernel
theorem dM_keep_18 : decode cM_keep 18 = .ok (.bipush 6, 2) := by decide +kernel
theorem dM_keep_20 : decode cM_keep 20 = .ok (.iload_n 2, 1) := by decide +kernel
theorem dM_keep_21 : decode cM_keep 21 = .ok (.iadd, 1) := by decide +kernel
theorem dM_keep_22 : decode cM_keep 22 = .ok (.aload_n 0, 1) := by decide +kernel
theorem dM_keep_23 : decode cM_keep 23 = .ok (.getfield 13, 3) := by decide +kernel
theorem dM_keep_26 : decode cM_keep 26 = .ok (.iload_n 2, 1) := by decide +kernel
theorem dM_keep_27 : decode cM_keep 27 = .ok (.iaload, 1) := by decide +kernel
theorem dM_keep_28 : decode cM_keep 28 = .ok (.iastore, 1) := by decide +kernel
theorem dM_keep_29 : decode cM_keep 29 = .ok (.aload_n 1, 1) := by decide +kernel
theorem dM_keep_30 : decode cM_keep 30 = .ok (.bipush 67, 2) := by decide +kernel
theorem dM_keep_32 : decode cM_keep 32 = .ok (.iload_n 2, 1) := by decide +kernel
theorem dM_keep_33 : decode cM_keep 33 = .ok (.iadd, 1) := by decide +kernel
theorem dM_keep_34 : decode cM_keep 34 = .ok (.aload_n 0, 1) := by decide +kernel
theorem dM_keep_35 : decode cM_keep 35 = .ok (.getfield 43, 3) := by decide +kernel
theorem dM_keep_38 : decode cM_keep 38 = .ok (.iload_n 2, 1) := by decide +kernel
theorem dM_keep_39 : decode cM_keep 39 = .ok (.iaload, 1) := by decide +kernel
theorem dM_keep_40 : decode cM_keep 40 = .ok (.iastore, 1) := by decide +kernel
theorem dM_keep_41 : decode cM_keep 41 = .ok (.iinc 2 1, 3) := by decide +kernel
theorem dM_keep_44 : decode cM_keep 44 = .ok (.goto (-42), 3) := by decide +kernel
theorem dM_keep_47 : decode cM_keep 47 = .ok (.iconst 0, 1) := by decide +kernel
theorem dM_keep_48 : decode cM_keep 48 = .ok (.istore_n 2, 1) := by decide +kernel
theorem dM_keep_49 : decode cM_keep 49 = .ok (.iload_n 2, 1) := by decide +kernel
theorem dM_keep_50 : decode cM_keep 50 = .ok (.bipush 7, 2) := by decide +kernel
theorem dM_keep_52 : decode cM_keep 52 = .ok (.if_icmp .ge 69, 3) := by decide +kernel
theorem dM_keep_55 : decode cM_keep 55 = .ok (.aload_n 1, 1) := by decide +kernel
theorem dM_keep_56 : decode cM_keep 56 = .ok (.bipush 12, 2) := by decide +kernel
theorem dM_keep_58 : decode cM_keep 58 = .ok (.iload_n 2, 1) := by decide +kernel
theorem dM_keep_59 : decode cM_keep 59 = .ok (.iadd, 1) := by decide +kernel
theorem dM_keep_60 : decode cM_keep 60 = .ok (.aload_n 0, 1) := by decide +kernel
theorem dM_keep_61 : decode cM_keep 61 = .ok (.getfield 16, 3) := by decide +kernel
theorem dM_keep_64 : decode cM_keep 64 = .ok (.iload_n 2, 1) := by decide +kernel
theorem dM_keep_65 : decode cM_keep 65 = .ok (.iaload, 1) := by decide +kernel
theorem dM_keep_66 : decode cM_keep 66 = .ok (.iastore, 1) := by decide +kernel
theorem dM_keep_67 : decode cM_keep 67 = .ok (.aload_n 1, 1) := by decide +kernel
theorem dM_keep_68 : decode cM_keep 68 = .ok (.bipush 19, 2) := by decide +kernel
theorem dM_keep_70 : decode cM_keep 70 = .ok (.iload_n 2, 1) := by decide +kernel
theorem dM_keep_71 : decode cM_keep 71 = .ok (.iadd, 1) := by decide +kernel
theorem dM_keep_72 : decode cM_keep 72 = .ok (.aload_n 0, 1) := by decide +kernel
theorem dM_keep_73 : decode cM_keep 73 = .ok (.getfield 19, 3) := by decide +kernel
theorem dM_keep_76 : decode cM_keep 76 = .ok (.iload_n 2, 1) := by decide +kernel
theorem dM_keep_77 : decode cM_keep 77 = .ok (.iaload, 1) := by decide +kernel
theorem dM_keep_78 : decode cM_keep 78 = .ok (.iastore, 1) := by decide +kernel
theorem dM_keep_79 : decode cM_keep 79 = .ok (.aload_n 1, 1) := by decide +kernel
theorem dM_keep_80 : decode cM_keep 80 = .ok (.bipush 26, 2) := by decide +kernel
theorem dM_keep_82 : decode cM_keep 82 = .ok (.iload_n 2, 1) := by decide +kernel
theorem dM_keep_83 : decode cM_keep 83 = .ok (.iadd, 1) := by decide +kernel
theorem dM_keep_84 : decode cM_keep 84 = .ok (.aload_n 0, 1) := by decide +kernel
theorem dM_keep_85 : decode cM_keep 85 = .ok (.getfield 22, 3) := by decide +kernel
theorem dM_keep_88 : decode cM_keep 88 = .ok (.iload_n 2, 1) := by decide +kernel
theorem dM_keep_89 : decode cM_keep 89 = .ok (.iaload, 1) := by decide +kernel
theorem dM_keep_90 : decode cM_keep 90 = .ok (.iastore, 1) := by decide +kernel
theorem dM_keep_91 : decode cM_keep 91 = .ok (.aload_n 1, 1) := by decide +kernel
theorem dM_keep_92 : decode cM_keep 92 = .ok (.bipush 33, 2) := by decide +kernel
theorem dM_keep_94 : decode cM_keep 94 = .ok (.iload_n 2, 1) := by decide +kernel
theorem dM_keep_95 : decode cM_keep 95 = .ok (.iadd, 1) := by decide +kernel
theorem dM_keep_96 : decode cM_keep 96 = .ok (.aload_n 0, 1) := by decide +kernel
theorem dM_keep_97 : decode cM_keep 97 = .ok (.getfield 25, 3) := by decide +kernel
theorem dM_keep_100 : decode cM_keep 100 = .ok (.iload_n 2, 1) := by decide +kernel
theorem dM_keep_101 : decode cM_keep 101 = .ok (.iaload, 1) := by decide +kernel
theorem dM_keep_102 : decode cM_keep 102 = .ok (.iastore, 1) := by decide +kernel
theorem dM_keep_103 : decode cM_keep 103 = .ok (.aload_n 1, 1) := by decide +kernel
theorem dM_keep_104 : decode cM_keep 104 = .ok (.bipush 40, 2) := by decide +kernel
theorem dM_keep_106 : decode cM_keep 106 = .ok (.iload_n 2, 1) := by decide +kernel
theorem dM_keep_107 : decode cM_keep 107 = .ok (.iadd, 1) := by decide +kernel
theorem dM_keep_108 : decode cM_keep 108 = .ok (.aload_n 0, 1) := by decide +kernel
theorem dM_keep_109 : decode cM_keep 109 = .ok (.getfield 28, 3) := by decide +kernel
theorem dM_keep_112 : decode cM_keep 112 = .ok (.iload_n 2, 1) := by decide +kernel
theorem dM_keep_113 : decode cM_keep 113 = .ok (.iaload, 1) := by decide +kernel
theorem dM_keep_114 : decode cM_keep 114 = .ok (.iastore, 1) := by decide +kernel
theorem dM_keep_115 : decode cM_keep 115 = .ok (.iinc 2 1, 3) := by decide +kernel
theorem dM_keep_118 : decode cM_keep 118 = .ok (.goto (-69), 3) := by decide +kernel
theorem dM_keep_121 : decode cM_keep 121 = .ok (.iconst 0, 1) := by decide +kernel
theorem dM_keep_122 : decode cM_keep 122 = .ok (.istore_n 2, 1) := by decide +kernel
theorem dM_keep_123 : decode cM_keep 123 = .ok (.iload_n 2, 1) := by decide +kernel
theorem dM_keep_124 : decode cM_keep 124 = .ok (.iconst 5, 1) := by decide +kernel
theorem dM_keep_125 : decode cM_keep 125 = .ok (.if_icmp .ge 57, 3) := by decide +kernel
theorem dM_keep_128 : decode cM_keep 128 = .ok (.aload_n 1, 1) := by decide +kernel
theorem dM_keep_129 : decode cM_keep 129 = .ok (.bipush 47, 2) := by decide +kernel
theorem dM_keep_131 : decode cM_keep 131 = .ok (.iload_n 2, 1) := by decide +kernel
theorem dM_keep_132 : decode cM_keep 132 = .ok (.iadd, 1) := by decide +kernel
theorem dM_keep_133 : decode cM_keep 133 = .ok (.aload_n 0, 1) := by decide +kernel
theorem dM_keep_134 : decode cM_keep 134 = .ok (.getfield 31, 3) := by decide +kernel
theorem dM_keep_137 : decode cM_keep 137 = .ok (.iload_n 2, 1) := by decide +kernel
theorem dM_keep_138 : decode cM_keep 138 = .ok (.iaload, 1) := by decide +kernel
theorem dM_keep_139 : decode cM_keep 139 = .ok (.iastore, 1) := by decide +kernel
theorem dM_keep_140 : decode cM_keep 140 = .ok (.aload_n 1, 1) := by decide +kernel
theorem dM_keep_141 : decode cM_keep 141 = .ok (.bipush 52, 2) := by decide +kernel
theorem dM_keep_143 : decode cM_keep 143 = .ok (.iload_n 2, 1) := by decide +kernel
theorem dM_keep_144 : decode cM_keep 144 = .ok (.iadd, 1) := by decide +kernel
theorem dM_keep_145 : decode cM_keep 145 = .ok (.aload_n 0, 1) := by decide +kernel
theorem dM_keep_146 : decode cM_keep 146 = .ok (.getfield 34, 3) := by decide +kernel
theorem dM_keep_149 : decode cM_keep 149 = .ok (.iload_n 2, 1) := by decide +kernel
theorem dM_keep_150 : decode cM_keep 150 = .ok (.iaload, 1) := by decide +kernel
theorem dM_keep_151 : decode cM_keep 151 = .ok (.iastore, 1) := by decide +kernel
theorem dM_keep_152 : decode cM_keep 152 = .ok (.aload_n 1, 1) := by decide +kernel
theorem dM_keep_153 : decode cM_keep 153 = .ok (.bipush 57, 2) := by decide +kernel
theorem dM_keep_155 : decode cM_keep 155 = .ok (.iload_n 2, 1) := by decide +kernel
theorem dM_keep_156 : decode cM_keep 156 = .ok (.iadd, 1) := by decide +kernel
theorem dM_keep_157 : decode cM_keep 157 = .ok (.aload_n 0, 1) := by decide +kernel
theorem dM_keep_158 : decode cM_keep 158 = .ok (.getfield 37, 3) := by decide +kernel
theorem dM_keep_161 : decode cM_keep 161 = .ok (.iload_n 2, 1) := by decide +kernel
theorem dM_keep_162 : decode cM_keep 162 = .ok (.iaload, 1) := by decide +kernel
theorem dM_keep_163 : decode cM_keep 163 = .ok (.iastore, 1) := by decide +kernel
theorem dM_keep_164 : decode cM_keep 164 = .ok (.aload_n 1, 1) := by decide +kernel
theorem dM_keep_165 : decode cM_keep 165 = .ok (.bipush 62, 2) := by decide +kernel
theorem dM_keep_167 : decode cM_keep 167 = .ok (.iload_n 2, 1) := by decide +kernel
theorem dM_keep_168 : decode cM_keep 168 = .ok (.iadd, 1) := by decide +kernel
theorem dM_keep_169 : decode cM_keep 169 = .ok (.aload_n 0, 1) := by decide +kernel
theorem dM_keep_170 : decode cM_keep 170 = .ok (.getfield 40, 3) := by decide +kernel
theorem dM_keep_173 : decode cM_keep 173 = .ok (.iload_n 2, 1) := by decide +kernel
theorem dM_keep_174 : decode cM_keep 174 = .ok (.iaload, 1) := by decide +kernel
theorem dM_keep_175 : decode cM_keep 175 = .ok (.iastore, 1) := by decide +kernel
theorem dM_keep_176 : decode cM_keep 176 = .ok (.iinc 2 1, 3) := by decide +kernel
theorem dM_keep_179 : decode cM_keep 179 = .ok (.goto (-56), 3) := by decide +kernel
theorem dM_keep_182 : decode cM_keep 182 = .ok (.aload_n 1, 1) := by decide +kernel
theorem dM_keep_183 : decode cM_keep 183 = .ok (.bipush 73, 2) := by decide +kernel
theorem dM_keep_185 : decode cM_keep 185 = .ok (.aload_n 0, 1) := by decide +kernel
theorem dM_keep_186 : decode cM_keep 186 = .ok (.getfield 77, 3) := by decide +kernel
theorem dM_keep_189 : decode cM_keep 189 = .ok (.iastore, 1) := by decide +kernel
theorem dM_keep_190 : decode cM_keep 190 = .ok (.aload_n 1, 1) := by decide +kernel
theorem dM_keep_191 : decode cM_keep 191 = .ok (.bipush 74, 2) := by decide +kernel
theorem dM_keep_193 : decode cM_keep 193 = .ok (.aload_n 0, 1) := by decide +kernel
theorem dM_keep_194 : decode cM_keep 194 = .ok (.getfield 81, 3) := by decide +kernel
theorem dM_keep_197 : decode cM_keep 197 = .ok (.iastore, 1) := by decide +kernel
theorem dM_keep_198 : decode cM_keep 198 = .ok (.aload_n 1, 1) := by decide +kernel
theorem dM_keep_199 : decode cM_keep 199 = .ok (.bipush 75, 2) := by decide +kernel
theorem dM_keep_201 : decode cM_keep 201 = .ok (.aload_n 0, 1) := by decide +kernel
theorem dM_keep_202 : decode cM_keep 202 = .ok (.getfield 146, 3) := by decide +kernel
theorem dM_keep_205 : decode cM_keep 205 = .ok (.iastore, 1) := by decide +kernel
theorem dM_keep_206 : decode cM_keep 206 = .ok (.aload_n 1, 1) := by decide +kernel
theorem dM_keep_207 : decode cM_keep 207 = .ok (.bipush 76, 2) := by decide +kernel
theorem dM_keep_209 : decode cM_keep 209 = .ok (.aload_n 0, 1) := by decide +kernel
theorem dM_keep_210 : decode cM_keep 210 = .ok (.getfield 149, 3) := by decide +kernel
theorem dM_keep_213 : decode cM_keep 213 = .ok (.iastore, 1) := by decide +kernel
theorem dM_keep_214 : decode cM_keep 214 = .ok (.return_, 1) := by decide +kernel
theorem dM_leak_0 : decode cM_leak 0 = .ok (.iload_n 1, 1) := by decide +kernel
theorem dM_leak_1 : decode cM_leak 1 = .ok (.invokestatic 152, 3) := by decide +kernel
theorem dM_leak_4 : decode cM_leak 4 = .ok (.ifCond .ne 9, 3) := by decide +kernel
theorem dM_leak_7 : decode cM_leak 7 = .ok (.aload_n 0, 1) := by decide +kernel
theorem dM_leak_8 : decode cM_leak 8 = .ok (.iconst (-1), 1) := by decide +kernel
theorem dM_leak_9 : decode cM_leak 9 = .ok (.invokevirtual 84, 3) := by decide +kernel
theorem dM_leak_12 : decode cM_leak 12 = .ok (.ireturn, 1) := by decide +kernel
theorem dM_leak_13 : decode cM_leak 13 = .ok (.iload_n 2, 1) := by decide +kernel
theorem dM_leak_14 : decode cM_leak 14 = .ok (.ifCond .ge 10, 3) := by decide +kernel
theorem dM_leak_17 : decode cM_leak 17 = .ok (.aload_n 0, 1) := by decide +kernel
theorem dM_leak_18 : decode cM_leak 18 = .ok (.bipush (-4), 2) := by decide +kernel
theorem dM_leak_20 : decode cM_leak 20 = .ok (.invokevirtual 84, 3) := by decide +kernel
theorem dM_leak_23 : decode cM_leak 23 = .ok (.ireturn, 1) := by decide +kernel
theorem dM_leak_24 : decode cM_leak 24 = .ok (.iload_n 2, 1) := by decide +kernel
theorem dM_leak_25 : decode cM_leak 25 = .ok (.bipush 9, 2) := by decide +kernel
theorem dM_leak_27 : decode cM_leak 27 = .ok (.if_icmp .le 10, 3) := by decide +kernel
theorem dM_leak_30 : decode cM_leak 30 = .ok (.aload_n 0, 1) := by decide +kernel
theorem dM_leak_31 : decode cM_leak 31 = .ok (.bipush (-6), 2) := by decide +kernel
theorem dM_leak_33 : decode cM_leak 33 = .ok (.invokevirtual 84, 3) := by decide +kernel
theorem dM_leak_36 : decode cM_leak 36 = .ok (.ireturn, 1) := by decide +kernel
theorem dM_leak_37 : decode cM_leak 37 = .ok (.aload_n 0, 1) := by decide +kernel
theorem dM_leak_38 : decode cM_leak 38 = .ok (.getfield 13, 3) := by decide +kernel
theorem dM_leak_41 : decode cM_leak 41 = .ok (.iload_n 1, 1) := by decide +kernel
theorem dM_leak_42 : decode cM_leak 42 = .ok (.iaload, 1) := by decide +kernel
theorem dM_leak_43 : decode cM_leak 43 = .ok (.istore_n 3, 1) := by decide +kernel
theorem dM_leak_44 : decode cM_leak 44 = .ok (.aload_n 0, 1) := by decide +kernel
theorem dM_leak_45 : decode cM_leak 45 = .ok (.getfield 13, 3) := by decide +kernel
theorem dM_leak_48 : decode cM_leak 48 = .ok (.iload_n 1, 1) := by decide +kernel
theorem dM_leak_49 : decode cM_leak 49 = .ok (.iload_n 2, 1) := by decide +kernel
theorem dM_leak_50 : decode cM_leak 50 = .ok (.iastore, 1) := by decide +kernel
theorem dM_leak_51 : decode cM_leak 51 = .ok (.iload_n 3, 1) := by decide +kernel
theorem dM_leak_52 : decode cM_leak 52 = .ok (.ireturn, 1) := by decide +kernel
theorem dM_letter_0 : decode cM_letter 0 = .ok (.iload_n 1, 1) := by decide +kernel
theorem dM_letter_1 : decode cM_letter 1 = .ok (.ifCond .ge 10, 3) := by decide +kernel
theorem dM_letter_4 : decode cM_letter 4 = .ok (.aload_n 0, 1) := by decide +kernel
theorem dM_letter_5 : decode cM_letter 5 = .ok (.bipush (-4), 2) := by decide +kernel
theorem dM_letter_7 : decode cM_letter 7 = .ok (.invokevirtual 84, 3) := by decide +kernel
theorem dM_letter_10 : decode cM_letter 10 = .ok (.ireturn, 1) := by decide +kernel
theorem dM_letter_11 : decode cM_letter 11 = .ok (.iload_n 1, 1) := by decide +kernel
theorem dM_letter_12 : decode cM_letter 12 = .ok (.sipush 255, 3) := by decide +kernel
theorem dM_letter_15 : decode cM_letter 15 = .ok (.if_icmp .gt 12, 3) := by decide +kernel
theorem dM_letter_18 : decode cM_letter 18 = .ok (.aload_n 0, 1) := by decide +kernel
theorem dM_letter_19 : decode cM_letter 19 = .ok (.getfield 88, 3) := by decide +kernel
theorem dM_letter_22 : decode cM_letter 22 = .ok (.bipush 96, 2) := by decide +kernel
theorem dM_letter_24 : decode cM_letter 24 = .ok (.if_icmp .ne 10, 3) := by decide +kernel
theorem dM_letter_27 : decode cM_letter 27 = .ok (.aload_n 0, 1) := by decide +kernel
theorem dM_letter_28 : decode cM_letter 28 = .ok (.bipush (-6), 2) := by decide +kernel
theorem dM_letter_30 : decode cM_letter 30 = .ok (.invokevirtual 84, 3) := by decide +kernel
theorem dM_letter_33 : decode cM_letter 33 = .ok (.ireturn, 1) := by decide +kernel
theorem dM_letter_34 : decode cM_letter 34 = .ok (.aload_n 0, 1) := by decide +kernel
theorem dM_letter_35 : decode cM_letter 35 = .ok (.getfield 46, 3) := by decide +kernel
theorem dM_letter_38 : decode cM_letter 38 = .ok (.aload_n 0, 1) := by decide +kernel
theorem dM_letter_39 : decode cM_letter 39 = .ok (.dup, 1) := by decide +kernel
theorem dM_letter_40 : decode cM_letter 40 = .ok (.getfield 88, 3) := by decide +kernel
theorem dM_letter_43 : decode cM_letter 43 = .ok (.dup_x1, 1) := by decide +kernel
theorem dM_letter_44 : decode cM_letter 44 = .ok (.iconst 1, 1) := by decide +kernel
theorem dM_letter_45 : decode cM_letter 45 = .ok (.iadd, 1) := by decide +kernel
theorem dM_letter_46 : decode cM_letter 46 = .ok (.putfield 88, 3) := by decide +kernel
theorem dM_letter_49 : decode cM_letter 49 = .ok (.iload_n 1, 1) := by decide +kernel
theorem dM_letter_50 : decode cM_letter 50 = .ok (.iastore, 1) := by decide +kernel
theorem dM_letter_51 : decode cM_letter 51 = .ok (.aload_n 0, 1) := by decide +kernel
theorem dM_letter_52 : decode cM_letter 52 = .ok (.getfield 88, 3) := by decide +kernel
theorem dM_letter_55 : decode cM_letter 55 = .ok (.ireturn, 1) := by decide +kernel
theorem dM_lock_0 : decode cM_lock 0 = .ok (.aload_n 0, 1) := by decide +kernel
theorem dM_lock_1 : decode cM_lock 1 = .ok (.iload_n 1, 1) := by decide +kernel
theorem dM_lock_2 : decode cM_lock 2 = .ok (.invokevirtual 155, 3) := by decide +kernel
theorem dM_lock_5 : decode cM_lock 5 = .ok (.ifCond .ne 9, 3) := by decide +kernel
theorem dM_lock_8 : decode cM_lock 8 = .ok (.aload_n 0, 1) := by decide +kernel
theorem dM_lock_9 : decode cM_lock 9 = .ok (.iconst (-1), 1) := by decide +kernel
theorem dM_lock_10 : decode cM_lock 10 = .ok (.invokevirtual 84, 3) := by decide +kernel
theorem dM_lock_13 : decode cM_lock 13 = .ok (.ireturn, 1) := by decide +kernel
theorem dM_lock_14 : decode cM_lock 14 = .ok (.iload_n 2, 1) := by decide +kernel
theorem dM_lock_15 : decode cM_lock 15 = .ok (.tableswitch 68 0 4 #[33, 40, 47, 54, 61], 33) := by decide +kernel
theorem dM_lock_48 : decode cM_lock 48 = .ok (.aload_n 0, 1) := by decide +kernel
theorem dM_lock_49 : decode cM_lock 49 = .ok (.getfield 16, 3) := by decide +kernel
theorem dM_lock_52 : decode cM_lock 52 = .ok (.iload_n 1, 1) := by decide +kernel
theorem dM_lock_53 : decode cM_lock 53 = .ok (.iaload, 1) := by decide +kernel
theorem dM_lock_54 : decode cM_lock 54 = .ok (.ireturn, 1) := by decide +kernel
theorem dM_lock_55 : decode cM_lock 55 = .ok (.aload_n 0, 1) := by decide +kernel
theorem dM_lock_56 : decode cM_lock 56 = .ok (.getfield 19, 3) := by decide +kernel
theorem dM_lock_59 : decode cM_lock 59 = .ok (.iload_n 1, 1) := by decide +kernel
theorem dM_lock_60 : decode cM_lock 60 = .ok (.iaload, 1) := by decide +kernel
theorem dM_lock_61 : decode cM_lock 61 = .ok (.ireturn, 1) := by decide +kernel
theorem dM_lock_62 : decode cM_lock 62 = .ok (.aload_n 0, 1) := by decide +kernel
theorem dM_lock_63 : decode cM_lock 63 = .ok (.getfield 22, 3) := by decide +kernel
theorem dM_lock_66 : decode cM_lock 66 = .ok (.iload_n 1, 1) := by decide +kernel
theorem dM_lock_67 : decode cM_lock 67 = .ok (.iaload, 1) := by decide +kernel
theorem dM_lock_68 : decode cM_lock 68 = .ok (.ireturn, 1) := by decide +kernel
theorem dM_lock_69 : decode cM_lock 69 = .ok (.aload_n 0, 1) := by decide +kernel
theorem dM_lock_70 : decode cM_lock 70 = .ok (.getfield 25, 3) := by decide +kernel
theorem dM_lock_73 : decode cM_lock 73 = .ok (.iload_n 1, 1) := by decide +kernel
theorem dM_lock_74 : decode cM_lock 74 = .ok (.iaload, 1) := by decide +kernel
theorem dM_lock_75 : decode cM_lock 75 = .ok (.ireturn, 1) := by decide +kernel
theorem dM_lock_76 : decode cM_lock 76 = .ok (.aload_n 0, 1) := by decide +kernel
theorem dM_lock_77 : decode cM_lock 77 = .ok (.getfield 28, 3) := by decide +kernel
theorem dM_lock_80 : decode cM_lock 80 = .ok (.iload_n 1, 1) := by decide +kernel
theorem dM_lock_81 : decode cM_lock 81 = .ok (.iaload, 1) := by decide +kernel
theorem dM_lock_82 : decode cM_lock 82 = .ok (.ireturn, 1) := by decide +kernel
theorem dM_lock_83 : decode cM_lock 83 = .ok (.aload_n 0, 1) := by decide +kernel
theorem dM_lock_84 : decode cM_lock 84 = .ok (.bipush (-2), 2) := by decide +kernel
theorem dM_lock_86 : decode cM_lock 86 = .ok (.invokevirtual 84, 3) := by decide +kernel
theorem dM_lock_89 : decode cM_lock 89 = .ok (.ireturn, 1) := by decide +kernel
theorem dM_minutes_0 : decode cM_minutes 0 = .ok (.iload_n 1, 1) := by decide +kernel
theorem dM_minutes_1 : decode cM_minutes 1 = .ok (.iconst 1, 1) := by decide +kernel
theorem dM_minutes_2 : decode cM_minutes 2 = .ok (.if_icmp .ge 10, 3) := by decide +kernel
theorem dM_minutes_5 : decode cM_minutes 5 = .ok (.aload_n 0, 1) := by decide +kernel
theorem dM_minutes_6 : decode cM_minutes 6 = .ok (.bipush (-4), 2) := by decide +kernel
theorem dM_minutes_8 : decode cM_minutes 8 = .ok (.invokevirtual 84, 3) := by decide +kernel
theorem dM_minutes_11 : decode cM_minutes 11 = .ok (.ireturn, 1) := by decide +kernel
theorem dM_minutes_12 : decode cM_minutes 12 = .ok (.iload_n 1, 1) := by decide +kernel
theorem dM_minutes_13 : decode cM_minutes 13 = .ok (.bipush 99, 2) := by decide +kernel
theorem dM_minutes_15 : decode cM_minutes 15 = .ok (.if_icmp .gt 15, 3) := by decide +kernel
theorem dM_minutes_18 : decode cM_minutes 18 = .ok (.aload_n 0, 1) := by decide +kernel
theorem dM_minutes_19 : decode cM_minutes 19 = .ok (.getfield 146, 3) := by decide +kernel
theorem dM_minutes_22 : decode cM_minutes 22 = .ok (.iload_n 1, 1) := by decide +kernel
theorem dM_minutes_23 : decode cM_minutes 23 = .ok (.iadd, 1) := by decide +kernel
theorem dM_minutes_24 : decode cM_minutes 24 = .ok (.sipush 999, 3) := by decide +kernel
theorem dM_minutes_27 : decode cM_minutes 27 = .ok (.if_icmp .le 12, 3) := by decide +kernel
theorem dM_minutes_30 : decode cM_minutes 30 = .ok (.aload_n 0, 1) := by decide +kernel
theorem dM_minutes_31 : decode cM_minutes 31 = .ok (.bipush (-6), 2) := by decide +kernel
theorem dM_minutes_33 : decode cM_minutes 33 = .ok (.invokevirtual 84, 3) := by decide +kernel
theorem dM_minutes_36 : decode cM_minutes 36 = .ok (.goto 8, 3) := by decide +kernel
theorem dM_minutes_39 : decode cM_minutes 39 = .ok (.aload_n 0, 1) := by decide +kernel
theorem dM_minutes_40 : decode cM_minutes 40 = .ok (.iload_n 1, 1) := by decide +kernel
theorem dM_minutes_41 : decode cM_minutes 41 = .ok (.invokevirtual 161, 3) := by decide +kernel
theorem dM_minutes_44 : decode cM_minutes 44 = .ok (.ireturn, 1) := by decide +kernel
theorem dM_more_0 : decode cM_more 0 = .ok (.iload_n 1, 1) := by decide +kernel
theorem dM_more_1 : decode cM_more 1 = .ok (.iconst 0, 1) := by decide +kernel
theorem dM_more_2 : decode cM_more 2 = .ok (.iconst 1, 1) := by decide +kernel
theorem dM_more_3 : decode cM_more 3 = .ok (.invokestatic 73, 3) := by decide +kernel
theorem dM_more_6 : decode cM_more 6 = .ok (.ifCond .ne 10, 3) := by decide +kernel
theorem dM_more_9 : decode cM_more 9 = .ok (.aload_n 0, 1) := by decide +kernel
theorem dM_more_10 : decode cM_more 10 = .ok (.bipush (-2), 2) := by decide +kernel
theorem dM_more_12 : decode cM_more 12 = .ok (.invokevirtual 84, 3) := by decide +kernel
theorem dM_more_15 : decode cM_more 15 = .ok (.ireturn, 1) := by decide +kernel
theorem dM_more_16 : decode cM_more 16 = .ok (.bipush (-9), 2) := by decide +kernel
theorem dM_more_18 : decode cM_more 18 = .ok (.istore_n 2, 1) := by decide +kernel
theorem dM_more_19 : decode cM_more 19 = .ok (.sipush 10000, 3) := by decide +kernel
theorem dM_more_22 : decode cM_more 22 = .ok (.istore_n 3, 1) := by decide +kernel
theorem dM_more_23 : decode cM_more 23 = .ok (.iconst 0, 1) := by decide +kernel
theorem dM_more_24 : decode cM_more 24 = .ok (.istore 4, 2) := by decide +kernel
theorem dM_more_26 : decode cM_more 26 = .ok (.iload 4, 2) := by decide +kernel
theorem dM_more_28 : decode cM_more 28 = .ok (.bipush 7, 2) := by decide +kernel
theorem dM_more_30 : decode cM_more 30 = .ok (.if_icmp .ge 108, 3) := by decide +kernel
theorem dM_more_33 : decode cM_more 33 = .ok (.iload 4, 2) := by decide +kernel
theorem dM_more_35 : decode cM_more 35 = .ok (.iconst 1, 1) := by decide +kernel
theorem dM_more_36 : decode cM_more 36 = .ok (.iadd, 1) := by decide +kernel
theorem dM_more_37 : decode cM_more 37 = .ok (.istore 5, 2) := by decide +kernel
theorem dM_more_39 : decode cM_more 39 = .ok (.iload 5, 2) := by decide +kernel
theorem dM_more_41 : decode cM_more 41 = .ok (.bipush 7, 2) := by decide +kernel
theorem dM_more_43 : decode cM_more 43 = .ok (.if_icmp .ge 89, 3) := by decide +kernel
theorem dM_more_46 : decode cM_more 46 = .ok (.aload_n 0, 1) := by decide +kernel
theorem dM_more_47 : decode cM_more 47 = .ok (.iload 4, 2) := by decide +kernel
theorem dM_more_49 : decode cM_more 49 = .ok (.iload 5, 2) := by decide +kernel
theorem dM_more_51 : decode cM_more 51 = .ok (.iconst 0, 1) := by decide +kernel
theorem dM_more_52 : decode cM_more 52 = .ok (.iconst 1, 1) := by decide +kernel
theorem dM_more_53 : decode cM_more 53 = .ok (.invokevirtual 115, 3) := by decide +kernel
theorem dM_more_56 : decode cM_more 56 = .ok (.aload_n 0, 1) := by decide +kernel
theorem dM_more_57 : decode cM_more 57 = .ok (.bipush 6, 2) := by decide +kernel
theorem dM_more_59 : decode cM_more 59 = .ok (.invokevirtual 173, 3) := by decide +kernel
theorem dM_more_62 : decode cM_more 62 = .ok (.aload_n 0, 1) := by decide +kernel
theorem dM_more_63 : decode cM_more 63 = .ok (.dup, 1) := by decide +kernel
theorem dM_more_64 : decode cM_more 64 = .ok (.getfield 77, 3) := by decide +kernel
theorem dM_more_67 : decode cM_more 67 = .ok (.iconst 1, 1) := by decide +kernel
theorem dM_more_68 : decode cM_more 68 = .ok (.isub, 1) := by decide +kernel
theorem dM_more_69 : decode cM_more 69 = .ok (.putfield 77, 3) := by decide +kernel
theorem dM_more_72 : decode cM_more 72 = .ok (.iconst 0, 1) := by decide +kernel
theorem dM_more_73 : decode cM_more 73 = .ok (.istore 6, 2) := by decide +kernel
theorem dM_more_75 : decode cM_more 75 = .ok (.iconst 0, 1) := by decide +kernel
theorem dM_more_76 : decode cM_more 76 = .ok (.istore 7, 2) := by decide +kernel
theorem dM_more_78 : decode cM_more 78 = .ok (.iload 7, 2) := by decide +kernel
theorem dM_more_80 : decode cM_more 80 = .ok (.bipush 6, 2) := by decide +kernel
theorem dM_more_82 : decode cM_more 82 = .ok (.if_icmp .ge 23, 3) := by decide +kernel
theorem dM_more_85 : decode cM_more 85 = .ok (.iload 6, 2) := by decide +kernel
theorem dM_more_87 : decode cM_more 87 = .ok (.aload_n 0, 1) := by decide +kernel
theorem dM_more_88 : decode cM_more 88 = .ok (.getfield 64, 3) := by decide +kernel
theorem dM_more_91 : decode cM_more 91 = .ok (.iload 7, 2) := by decide +kernel
theorem dM_more_93 : decode cM_more 93 = .ok (.iaload, 1) := by decide +kernel
theorem dM_more_94 : decode cM_more 94 = .ok (.invokestatic 104, 3) := by decide +kernel
theorem dM_more_97 : decode cM_more 97 = .ok (.istore 6, 2) := by decide +kernel
theorem dM_more_99 : decode cM_more 99 = .ok (.iinc 7 1, 3) := by decide +kernel
theorem dM_more_102 : decode cM_more 102 = .ok (.goto (-24), 3) := by decide +kernel
theorem dM_more_105 : decode cM_more 105 = .ok (.iload 6, 2) := by decide +kernel
theorem dM_more_107 : decode cM_more 107 = .ok (.iload_n 3, 1) := by decide +kernel
theorem dM_more_108 : decode cM_more 108 = .ok (.if_icmp .lt 6, 3) := by decide +kernel
theorem dM_more_111 : decode cM_more 111 = .ok (.goto 15, 3) := by decide +kernel
theorem dM_more_114 : decode cM_more 114 = .ok (.iload 6, 2) := by decide +kernel
theorem dM_more_116 : decode cM_more 116 = .ok (.istore_n 3, 1) := by decide +kernel
theorem dM_more_117 : decode cM_more 117 = .ok (.bipush 10, 2) := by decide +kernel
theorem dM_more_119 : decode cM_more 119 = .ok (.iload 4, 2) := by decide +kernel
theorem dM_more_121 : decode cM_more 121 = .ok (.imul, 1) := by decide +kernel
theorem dM_more_122 : decode cM_more 122 = .ok (.iload 5, 2) := by decide +kernel
theorem dM_more_124 : decode cM_more 124 = .ok (.iadd, 1) := by decide +kernel
theorem dM_more_125 : decode cM_more 125 = .ok (.istore_n 2, 1) := by decide +kernel
theorem dM_more_126 : decode cM_more 126 = .ok (.iinc 5 1, 3) := by decide +kernel
theorem dM_more_129 : decode cM_more 129 = .ok (.goto (-90), 3) := by decide +kernel
theorem dM_more_132 : decode cM_more 132 = .ok (.iinc 4 1, 3) := by decide +kernel
theorem dM_more_135 : decode cM_more 135 = .ok (.goto (-109), 3) := by decide +kernel
theorem dM_more_138 : decode cM_more 138 = .ok (.iload_n 2, 1) := by decide +kernel
theorem dM_more_139 : decode cM_more 139 = .ok (.ifCond .lt 7, 3) := by decide +kernel
theorem dM_more_142 : decode cM_more 142 = .ok (.iload_n 1, 1) := by decide +kernel
theorem dM_more_143 : decode cM_more 143 = .ok (.ifCond .ne 7, 3) := by decide +kernel
theorem dM_more_146 : decode cM_more 146 = .ok (.iload_n 2, 1) := by decide +kernel
theorem dM_more_147 : decode cM_more 147 = .ok (.goto 4, 3) := by decide +kernel
theorem dM_more_150 : decode cM_more 150 = .ok (.iload_n 3, 1) := by decide +kernel
theorem dM_more_151 : decode cM_more 151 = .ok (.ireturn, 1) := by decide +kernel
theorem dM_newLock_0 : decode cM_newLock 0 = .ok (.aload_n 0, 1) := by decide +kernel
theorem dM_newLock_1 : decode cM_newLock 1 = .ok (.getfield 16, 3) := by decide +kernel
theorem dM_newLock_4 : decode cM_newLock 4 = .ok (.aload_n 0, 1) := by decide +kernel
theorem dM_newLock_5 : decode cM_newLock 5 = .ok (.getfield 77, 3) := by decide +kernel
theorem dM_newLock_8 : decode cM_newLock 8 = .ok (.iload_n 1, 1) := by decide +kernel
theorem dM_newLock_9 : decode cM_newLock 9 = .ok (.iload_n 2, 1) := by decide +kernel
theorem dM_newLock_10 : decode cM_newLock 10 = .ok (.invokestatic 98, 3) := by decide +kernel
theorem dM_newLock_13 : decode cM_newLock 13 = .ok (.iastore, 1) := by decide +kernel
theorem dM_newLock_14 : decode cM_newLock 14 = .ok (.aload_n 0, 1) := by decide +kernel
theorem dM_newLock_15 : decode cM_newLock 15 = .ok (.getfield 19, 3) := by decide +kernel
theorem dM_newLock_18 : decode cM_newLock 18 = .ok (.aload_n 0, 1) := by decide +kernel
theorem dM_newLock_19 : decode cM_newLock 19 = .ok (.getfield 77, 3) := by decide +kernel
theorem dM_newLock_22 : decode cM_newLock 22 = .ok (.iload_n 1, 1) := by decide +kernel
theorem dM_newLock_23 : decode cM_newLock 23 = .ok (.iload_n 2, 1) := by decide +kernel
theorem dM_newLock_24 : decode cM_newLock 24 = .ok (.invokestatic 104, 3) := by decide +kernel
theorem dM_newLock_27 : decode cM_newLock 27 = .ok (.iastore, 1) := by decide +kernel
theorem dM_newLock_28 : decode cM_newLock 28 = .ok (.aload_n 0, 1) := by decide +kernel
theorem dM_newLock_29 : decode cM_newLock 29 = .ok (.getfield 22, 3) := by decide +kernel
theorem dM_newLock_32 : decode cM_newLock 32 = .ok (.aload_n 0, 1) := by decide +kernel
theorem dM_newLock_33 : decode cM_newLock 33 = .ok (.getfield 77, 3) := by decide +kernel
theorem dM_newLock_36 : decode cM_newLock 36 = .ok (.iload_n 3, 1) := by decide +kernel
theorem dM_newLock_37 : decode cM_newLock 37 = .ok (.iastore, 1) := by decide +kernel
theorem dM_newLock_38 : decode cM_newLock 38 = .ok (.aload_n 0, 1) := by decide +kernel
theorem dM_newLock_39 : decode cM_newLock 39 = .ok (.getfield 25, 3) := by decide +kernel
theorem dM_newLock_42 : decode cM_newLock 42 = .ok (.aload_n 0, 1) := by decide +kernel
theorem dM_newLock_43 : decode cM_newLock 43 = .ok (.getfield 77, 3) := by decide +kernel
theorem dM_newLock_46 : decode cM_newLock 46 = .ok (.iload 4, 2) := by decide +kernel
theorem dM_newLock_48 : decode cM_newLock 48 = .ok (.iastore, 1) := by decide +kernel
theorem dM_newLock_49 : decode cM_newLock 49 = .ok (.aload_n 0, 1) := by decide +kernel
theorem dM_newLock_50 : decode cM_newLock 50 = .ok (.getfield 28, 3) := by decide +kernel
theorem dM_newLock_53 : decode cM_newLock 53 = .ok (.aload_n 0, 1) := by decide +kernel
theorem dM_newLock_54 : decode cM_newLock 54 = .ok (.dup, 1) := by decide +kernel
theorem dM_newLock_55 : decode cM_newLock 55 = .ok (.getfield 77, 3) := by decide +kernel
theorem dM_newLock_58 : decode cM_newLock 58 = .ok (.dup_x1, 1) := by decide +kernel
theorem dM_newLock_59 : decode cM_newLock 59 = .ok (.iconst 1, 1) := by decide +kernel
theorem dM_newLock_60 : decode cM_newLock 60 = .ok (.iadd, 1) := by decide +kernel
theorem dM_newLock_61 : decode cM_newLock 61 = .ok (.putfield 77, 3) := by decide +kernel
theorem dM_newLock_64 : decode cM_newLock 64 = .ok (.iconst 0, 1) := by decide +kernel
theorem dM_newLock_65 : decode cM_newLock 65 = .ok (.iastore, 1) := by decide +kernel
theorem dM_newLock_66 : decode cM_newLock 66 = .ok (.return_, 1) := by decide +kernel
theorem dM_no_0 : decode cM_no 0 = .ok (.aload_n 0, 1) := by decide +kernel
theorem dM_no_1 : decode cM_no 1 = .ok (.getfield 55, 3) := by decide +kernel
theorem dM_no_4 : decode cM_no 4 = .ok (.iload_n 1, 1) := by decide +kernel
theorem dM_no_5 : decode cM_no 5 = .ok (.ineg, 1) := by decide +kernel
theorem dM_no_6 : decode cM_no 6 = .ok (.dup2, 1) := by decide +kernel
theorem dM_no_7 : decode cM_no 7 = .ok (.iaload, 1) := by decide +kernel
theorem dM_no_8 : decode cM_no 8 = .ok (.iconst 1, 1) := by decide +kernel
theorem dM_no_9 : decode cM_no 9 = .ok (.iadd, 1) := by decide +kernel
theorem dM_no_10 : decode cM_no 10 = .ok (.iastore, 1) := by decide +kernel
theorem dM_no_11 : decode cM_no 11 = .ok (.iload_n 1, 1) := by decide +kernel
theorem dM_no_12 : decode cM_no 12 = .ok (.ireturn, 1) := by decide +kernel
theorem dM_number_0 : decode cM_number 0 = .ok (.aload_n 0, 1) := by decide +kernel
theorem dM_number_1 : decode cM_number 1 = .ok (.invokevirtual 94, 3) := by decide +kernel
theorem dM_number_4 : decode cM_number 4 = .ok (.ifCond .ne 5, 3) := by decide +kernel
theorem dM_number_7 : decode cM_number 7 = .ok (.iconst 0, 1) := by decide +kernel
theorem dM_number_8 : decode cM_number 8 = .ok (.ireturn, 1) := by decide +kernel
theorem dM_number_9 : decode cM_number 9 = .ok (.aload_n 0, 1) := by decide +kernel
theorem dM_number_10 : decode cM_number 10 = .ok (.getfield 49, 3) := by decide +kernel
theorem dM_number_13 : decode cM_number 13 = .ok (.iload_n 1, 1) := by decide +kernel
theorem dM_number_14 : decode cM_number 14 = .ok (.iconst 0, 1) := by decide +kernel
theorem dM_number_15 : decode cM_number 15 = .ok (.iastore, 1) := by decide +kernel
theorem dM_number_16 : decode cM_number 16 = .ok (.iconst 0, 1) := by decide +kernel
theorem dM_number_17 : decode cM_number 17 = .ok (.istore_n 3, 1) := by decide +kernel
theorem dM_number_18 : decode cM_number 18 = .ok (.iload_n 3, 1) := by decide +kernel
theorem dM_number_19 : decode cM_number 19 = .ok (.iload_n 2, 1) := by decide +kernel
theorem dM_number_20 : decode cM_number 20 = .ok (.if_icmp .ge 51, 3) := by decide +kernel
theorem dM_number_23 : decode cM_number 23 = .ok (.aload_n 0, 1) := by decide +kernel
theorem dM_number_24 : decode cM_number 24 = .ok (.invokevirtual 94, 3) := by decide +kernel
theorem dM_number_27 : decode cM_number 27 = .ok (.ifCond .eq 44, 3) := by decide +kernel
theorem dM_number_30 : decode cM_number 30 = .ok (.aload_n 0, 1) := by decide +kernel
theorem dM_number_31 : decode cM_number 31 = .ok (.getfield 49, 3) := by decide +kernel
theorem dM_number_34 : decode cM_number 34 = .ok (.iload_n 1, 1) := by decide +kernel
theorem dM_number_35 : decode cM_number 35 = .ok (.bipush 10, 2) := by decide +kernel
theorem dM_number_37 : decode cM_number 37 = .ok (.aload_n 0, 1) := by decide +kernel
theorem dM_number_38 : decode cM_number 38 = .ok (.getfield 49, 3) := by decide +kernel
theorem dM_number_41 : decode cM_number 41 = .ok (.iload_n 1, 1) := by decide +kernel
theorem dM_number_42 : decode cM_number 42 = .ok (.iaload, 1) := by decide +kernel
theorem dM_number_43 : decode cM_number 43 = .ok (.imul, 1) := by decide +kernel
theorem dM_number_44 : decode cM_number 44 = .ok (.aload_n 0, 1) := by decide +kernel
theorem dM_number_45 : decode cM_number 45 = .ok (.getfield 46, 3) := by decide +kernel
theorem dM_number_48 : decode cM_number 48 = .ok (.aload_n 0, 1) := by decide +kernel
theorem dM_number_49 : decode cM_number 49 = .ok (.dup, 1) := by decide +kernel
theorem dM_number_50 : decode cM_number 50 = .ok (.getfield 91, 3) := by decide +kernel
theorem dM_number_53 : decode cM_number 53 = .ok (.dup_x1, 1) := by decide +kernel
theorem dM_number_54 : decode cM_number 54 = .ok (.iconst 1, 1) := by decide +kernel
theorem dM_number_55 : decode cM_number 55 = .ok (.iadd, 1) := by decide +kernel
theorem dM_number_56 : decode cM_number 56 = .ok (.putfield 91, 3) := by decide +kernel
theorem dM_number_59 : decode cM_number 59 = .ok (.iaload, 1) := by decide +kernel
theorem dM_number_60 : decode cM_number 60 = .ok (.iadd, 1) := by decide +kernel
theorem dM_number_61 : decode cM_number 61 = .ok (.bipush 48, 2) := by decide +kernel
theorem dM_number_63 : decode cM_number 63 = .ok (.isub, 1) := by decide +kernel
theorem dM_number_64 : decode cM_number 64 = .ok (.iastore, 1) := by decide +kernel
theorem dM_number_65 : decode cM_number 65 = .ok (.iinc 3 1, 3) := by decide +kernel
theorem dM_number_68 : decode cM_number 68 = .ok (.goto (-50), 3) := by decide +kernel
theorem dM_number_71 : decode cM_number 71 = .ok (.iconst 1, 1) := by decide +kernel
theorem dM_number_72 : decode cM_number 72 = .ok (.ireturn, 1) := by decide +kernel
theorem dM_on_0 : decode cM_on 0 = .ok (.aload_n 0, 1) := by decide +kernel
theorem dM_on_1 : decode cM_on 1 = .ok (.getfield 204, 3) := by decide +kernel
theorem dM_on_4 : decode cM_on 4 = .ok (.ifCond .ne 10, 3) := by decide +kernel
theorem dM_on_7 : decode cM_on 7 = .ok (.aload_n 0, 1) := by decide +kernel
theorem dM_on_8 : decode cM_on 8 = .ok (.bipush (-3), 2) := by decide +kernel
theorem dM_on_10 : decode cM_on 10 = .ok (.invokevirtual 84, 3) := by decide +kernel
theorem dM_on_13 : decode cM_on 13 = .ok (.ireturn, 1) := by decide +kernel
theorem dM_on_14 : decode cM_on 14 = .ok (.aload_n 0, 1) := by decide +kernel
theorem dM_on_15 : decode cM_on 15 = .ok (.aload_n 0, 1) := by decide +kernel
theorem dM_on_16 : decode cM_on 16 = .ok (.getfield 58, 3) := by decide +kernel
theorem dM_on_19 : decode cM_on 19 = .ok (.invokevirtual 134, 3) := by decide +kernel
theorem dM_on_22 : decode cM_on 22 = .ok (.aload_n 0, 1) := by decide +kernel
theorem dM_on_23 : decode cM_on 23 = .ok (.getfield 146, 3) := by decide +kernel
theorem dM_on_26 : decode cM_on 26 = .ok (.ireturn, 1) := by decide +kernel
theorem dM_open_0 : decode cM_open 0 = .ok (.aload_n 0, 1) := by decide +kernel
theorem dM_open_1 : decode cM_open 1 = .ok (.iload_n 1, 1) := by decide +kernel
theorem dM_open_2 : decode cM_open 2 = .ok (.invokevirtual 155, 3) := by decide +kernel
theorem dM_open_5 : decode cM_open 5 = .ok (.ifCond .ne 9, 3) := by decide +kernel
theorem dM_open_8 : decode cM_open 8 = .ok (.aload_n 0, 1) := by decide +kernel
theorem dM_open_9 : decode cM_open 9 = .ok (.iconst (-1), 1) := by decide +kernel
theorem dM_open_10 : decode cM_open 10 = .ok (.invokevirtual 84, 3) := by decide +kernel
theorem dM_open_13 : decode cM_open 13 = .ok (.ireturn, 1) := by decide +kernel
theorem dM_open_14 : decode cM_open 14 = .ok (.iload_n 2, 1) := by decide +kernel
theorem dM_open_15 : decode cM_open 15 = .ok (.iconst 0, 1) := by decide +kernel
theorem dM_open_16 : decode cM_open 16 = .ok (.iconst 2, 1) := by decide +kernel
theorem dM_open_17 : decode cM_open 17 = .ok (.invokestatic 73, 3) := by decide +kernel
theorem dM_open_20 : decode cM_open 20 = .ok (.ifCond .ne 10, 3) := by decide +kernel
theorem dM_open_23 : decode cM_open 23 = .ok (.aload_n 0, 1) := by decide +kernel
theorem dM_open_24 : decode cM_open 24 = .ok (.bipush (-2), 2) := by decide +kernel
theorem dM_open_26 : decode cM_open 26 = .ok (.invokevirtual 84, 3) := by decide +kernel
theorem dM_open_29 : decode cM_open 29 = .ok (.ireturn, 1) := by decide +kernel
theorem dM_open_30 : decode cM_open 30 = .ok (.aload_n 0, 1) := by decide +kernel
theorem dM_open_31 : decode cM_open 31 = .ok (.getfield 28, 3) := by decide +kernel
theorem dM_open_34 : decode cM_open 34 = .ok (.iload_n 1, 1) := by decide +kernel
theorem dM_open_35 : decode cM_open 35 = .ok (.iaload, 1) := by decide +kernel
theorem dM_open_36 : decode cM_open 36 = .ok (.istore_n 3, 1) := by decide +kernel
theorem dM_open_37 : decode cM_open 37 = .ok (.iload_n 2, 1) := by decide +kernel
theorem dM_open_38 : decode cM_open 38 = .ok (.ifCond .le 19, 3) := by decide +kernel
theorem dM_open_41 : decode cM_open 41 = .ok (.iload_n 3, 1) := by decide +kernel
theorem dM_open_42 : decode cM_open 42 = .ok (.ifCond .le 15, 3) := by decide +kernel
theorem dM_open_45 : decode cM_open 45 = .ok (.iload_n 3, 1) := by decide +kernel
theorem dM_open_46 : decode cM_open 46 = .ok (.iload_n 2, 1) := by decide +kernel
theorem dM_open_47 : decode cM_open 47 = .ok (.if_icmp .eq 10, 3) := by decide +kernel
theorem dM_open_50 : decode cM_open 50 = .ok (.aload_n 0, 1) := by decide +kernel
theorem dM_open_51 : decode cM_open 51 = .ok (.bipush (-3), 2) := by decide +kernel
theorem dM_open_53 : decode cM_open 53 = .ok (.invokevirtual 84, 3) := by decide +kernel
theorem dM_open_56 : decode cM_open 56 = .ok (.ireturn, 1) := by decide +kernel
theorem dM_open_57 : decode cM_open 57 = .ok (.aload_n 0, 1) := by decide +kernel
theorem dM_open_58 : decode cM_open 58 = .ok (.getfield 28, 3) := by decide +kernel
theorem dM_open_61 : decode cM_open 61 = .ok (.iload_n 1, 1) := by decide +kernel
theorem dM_open_62 : decode cM_open 62 = .ok (.iload_n 2, 1) := by decide +kernel
theorem dM_open_63 : decode cM_open 63 = .ok (.iastore, 1) := by decide +kernel
theorem dM_open_64 : decode cM_open 64 = .ok (.iload_n 3, 1) := by decide +kernel
theorem dM_open_65 : decode cM_open 65 = .ok (.ireturn, 1) := by decide +kernel
theorem dM_out_0 : decode cM_out 0 = .ok (.aload_n 0, 1) := by decide +kernel
theorem dM_out_1 : decode cM_out 1 = .ok (.aload_n 0, 1) := by decide +kernel
theorem dM_out_2 : decode cM_out 2 = .ok (.getfield 61, 3) := by decide +kernel
theorem dM_out_5 : decode cM_out 5 = .ok (.invokevirtual 130, 3) := by decide +kernel
theorem dM_out_8 : decode cM_out 8 = .ok (.iconst 1, 1) := by decide +kernel
theorem dM_out_9 : decode cM_out 9 = .ok (.istore_n 1, 1) := by decide +kernel
theorem dM_out_10 : decode cM_out 10 = .ok (.iload_n 1, 1) := by decide +kernel
theorem dM_out_11 : decode cM_out 11 = .ok (.bipush 100, 2) := by decide +kernel
theorem dM_out_13 : decode cM_out 13 = .ok (.if_icmp .ge 17, 3) := by decide +kernel
theorem dM_out_16 : decode cM_out 16 = .ok (.aload_n 0, 1) := by decide +kernel
theorem dM_out_17 : decode cM_out 17 = .ok (.iconst 1, 1) := by decide +kernel
theorem dM_out_18 : decode cM_out 18 = .ok (.invokevirtual 161, 3) := by decide +kernel
theorem dM_out_21 : decode cM_out 21 = .ok (.ifCond .ne 9, 3) := by decide +kernel
theorem dM_out_24 : decode cM_out 24 = .ok (.iinc 1 1, 3) := by decide +kernel
theorem dM_out_27 : decode cM_out 27 = .ok (.goto (-17), 3) := by decide +kernel
theorem dM_out_30 : decode cM_out 30 = .ok (.aload_n 0, 1) := by decide +kernel
theorem dM_out_31 : decode cM_out 31 = .ok (.aload_n 0, 1) := by decide +kernel
theorem dM_out_32 : decode cM_out 32 = .ok (.getfield 61, 3) := by decide +kernel
theorem dM_out_35 : decode cM_out 35 = .ok (.invokevirtual 134, 3) := by decide +kernel
theorem dM_out_38 : decode cM_out 38 = .ok (.iload_n 1, 1) := by decide +kernel
theorem dM_out_39 : decode cM_out 39 = .ok (.bipush 100, 2) := by decide +kernel
theorem dM_out_41 : decode cM_out 41 = .ok (.if_icmp .ge 7, 3) := by decide +kernel
theorem dM_out_44 : decode cM_out 44 = .ok (.iload_n 1, 1) := by decide +kernel
theorem dM_out_45 : decode cM_out 45 = .ok (.goto 5, 3) := by decide +kernel
theorem dM_out_48 : decode cM_out 48 = .ok (.bipush (-9), 2) := by decide +kernel
theorem dM_out_50 : decode cM_out 50 = .ok (.ireturn, 1) := by decide +kernel
theorem dM_pass_0 : decode cM_pass 0 = .ok (.aload_n 0, 1) := by decide +kernel
theorem dM_pass_1 : decode cM_pass 1 = .ok (.getfield 34, 3) := by decide +kernel
theorem dM_pass_4 : decode cM_pass 4 = .ok (.iload_n 1, 1) := by decide +kernel
theorem dM_pass_5 : decode cM_pass 5 = .ok (.aload_n 0, 1) := by decide +kernel
theorem dM_pass_6 : decode cM_pass 6 = .ok (.getfield 16, 3) := by decide +kernel
theorem dM_pass_9 : decode cM_pass 9 = .ok (.iload_n 2, 1) := by decide +kernel
theorem dM_pass_10 : decode cM_pass 10 = .ok (.iaload, 1) := by decide +kernel
theorem dM_pass_11 : decode cM_pass 11 = .ok (.aload_n 0, 1) := by decide +kernel
theorem dM_pass_12 : decode cM_pass 12 = .ok (.getfield 19, 3) := by decide +kernel
theorem dM_pass_15 : decode cM_pass 15 = .ok (.iload_n 2, 1) := by decide +kernel
theorem dM_pass_16 : decode cM_pass 16 = .ok (.iaload, 1) := by decide +kernel
theorem dM_pass_17 : decode cM_pass 17 = .ok (.iadd, 1) := by decide +kernel
theorem dM_pass_18 : decode cM_pass 18 = .ok (.aload_n 0, 1) := by decide +kernel
theorem dM_pass_19 : decode cM_pass 19 = .ok (.getfield 34, 3) := by decide +kernel
theorem dM_pass_22 : decode cM_pass 22 = .ok (.iload_n 1, 1) := by decide +kernel
theorem dM_pass_23 : decode cM_pass 23 = .ok (.iaload, 1) := by decide +kernel
theorem dM_pass_24 : decode cM_pass 24 = .ok (.isub, 1) := by decide +kernel
theorem dM_pass_25 : decode cM_pass 25 = .ok (.iastore, 1) := by decide +kernel
theorem dM_pass_26 : decode cM_pass 26 = .ok (.aload_n 0, 1) := by decide +kernel
theorem dM_pass_27 : decode cM_pass 27 = .ok (.getfield 19, 3) := by decide +kernel
theorem dM_pass_30 : decode cM_pass 30 = .ok (.iload_n 2, 1) := by decide +kernel
theorem dM_pass_31 : decode cM_pass 31 = .ok (.iaload, 1) := by decide +kernel
theorem dM_pass_32 : decode cM_pass 32 = .ok (.bipush 6, 2) := by decide +kernel
theorem dM_pass_34 : decode cM_pass 34 = .ok (.if_icmp .ne 36, 3) := by decide +kernel
theorem dM_pass_37 : decode cM_pass 37 = .ok (.aload_n 0, 1) := by decide +kernel
theorem dM_pass_38 : decode cM_pass 38 = .ok (.getfield 7, 3) := by decide +kernel
theorem dM_pass_41 : decode cM_pass 41 = .ok (.aload_n 0, 1) := by decide +kernel
theorem dM_pass_42 : decode cM_pass 42 = .ok (.getfield 16, 3) := by decide +kernel
theorem dM_pass_45 : decode cM_pass 45 = .ok (.iload_n 2, 1) := by decide +kernel
theorem dM_pass_46 : decode cM_pass 46 = .ok (.iaload, 1) := by decide +kernel
theorem dM_pass_47 : decode cM_pass 47 = .ok (.iconst 0, 1) := by decide +kernel
theorem dM_pass_48 : decode cM_pass 48 = .ok (.aload_n 0, 1) := by decide +kernel
theorem dM_pass_49 : decode cM_pass 49 = .ok (.getfield 7, 3) := by decide +kernel
theorem dM_pass_52 : decode cM_pass 52 = .ok (.aload_n 0, 1) := by decide +kernel
theorem dM_pass_53 : decode cM_pass 53 = .ok (.getfield 16, 3) := by decide +kernel
theorem dM_pass_56 : decode cM_pass 56 = .ok (.iload_n 2, 1) := by decide +kernel
theorem dM_pass_57 : decode cM_pass 57 = .ok (.iaload, 1) := by decide +kernel
theorem dM_pass_58 : decode cM_pass 58 = .ok (.iaload, 1) := by decide +kernel
theorem dM_pass_59 : decode cM_pass 59 = .ok (.aload_n 0, 1) := by decide +kernel
theorem dM_pass_60 : decode cM_pass 60 = .ok (.getfield 22, 3) := by decide +kernel
theorem dM_pass_63 : decode cM_pass 63 = .ok (.iload_n 2, 1) := by decide +kernel
theorem dM_pass_64 : decode cM_pass 64 = .ok (.iaload, 1) := by decide +kernel
theorem dM_pass_65 : decode cM_pass 65 = .ok (.isub, 1) := by decide +kernel
theorem dM_pass_66 : decode cM_pass 66 = .ok (.invokestatic 104, 3) := by decide +kernel
theorem dM_pass_69 : decode cM_pass 69 = .ok (.iastore, 1) := by decide +kernel
theorem dM_pass_70 : decode cM_pass 70 = .ok (.aload_n 0, 1) := by decide +kernel
theorem dM_pass_71 : decode cM_pass 71 = .ok (.aload_n 0, 1) := by decide +kernel
theorem dM_pass_72 : decode cM_pass 72 = .ok (.getfield 25, 3) := by decide +kernel
theorem dM_pass_75 : decode cM_pass 75 = .ok (.iload_n 2, 1) := by decide +kernel
theorem dM_pass_76 : decode cM_pass 76 = .ok (.iaload, 1) := by decide +kernel
theorem dM_pass_77 : decode cM_pass 77 = .ok (.invokevirtual 161, 3) := by decide +kernel
theorem dM_pass_80 : decode cM_pass 80 = .ok (.ireturn, 1) := by decide +kernel
theorem dM_passes_0 : decode cM_passes 0 = .ok (.aload_n 0, 1) := by decide +kernel
theorem dM_passes_1 : decode cM_passes 1 = .ok (.iload_n 1, 1) := by decide +kernel
theorem dM_passes_2 : decode cM_passes 2 = .ok (.invokevirtual 158, 3) := by decide +kernel
theorem dM_passes_5 : decode cM_passes 5 = .ok (.ifCond .eq 11, 3) := by decide +kernel
theorem dM_passes_8 : decode cM_passes 8 = .ok (.aload_n 0, 1) := by decide +kernel
theorem dM_passes_9 : decode cM_passes 9 = .ok (.iload_n 2, 1) := by decide +kernel
theorem dM_passes_10 : decode cM_passes 10 = .ok (.invokevirtual 155, 3) := by decide +kernel
theorem dM_passes_13 : decode cM_passes 13 = .ok (.ifCond .ne 9, 3) := by decide +kernel
theorem dM_passes_16 : decode cM_passes 16 = .ok (.aload_n 0, 1) := by decide +kernel
theorem dM_passes_17 : decode cM_passes 17 = .ok (.iconst (-1), 1) := by decide +kernel
theorem dM_passes_18 : decode cM_passes 18 = .ok (.invokevirtual 84, 3) := by decide +kernel
theorem dM_passes_21 : decode cM_passes 21 = .ok (.ireturn, 1) := by decide +kernel
theorem dM_passes_22 : decode cM_passes 22 = .ok (.aload_n 0, 1) := by decide +kernel
theorem dM_passes_23 : decode cM_passes 23 = .ok (.iload_n 1, 1) := by decide +kernel
theorem dM_passes_24 : decode cM_passes 24 = .ok (.iload_n 2, 1) := by decide +kernel
theorem dM_passes_25 : decode cM_passes 25 = .ok (.invokevirtual 164, 3) := by decide +kernel
theorem dM_passes_28 : decode cM_passes 28 = .ok (.ifCond .ne 10, 3) := by decide +kernel
theorem dM_passes_31 : decode cM_passes 31 = .ok (.aload_n 0, 1) := by decide +kernel
theorem dM_passes_32 : decode cM_passes 32 = .ok (.bipush (-3), 2) := by decide +kernel
theorem dM_passes_34 : decode cM_passes 34 = .ok (.invokevirtual 84, 3) := by decide +kernel
theorem dM_passes_37 : decode cM_passes 37 = .ok (.ireturn, 1) := by decide +kernel
theorem dM_passes_38 : decode cM_passes 38 = .ok (.aload_n 0, 1) := by decide +kernel
theorem dM_passes_39 : decode cM_passes 39 = .ok (.getfield 146, 3) := by decide +kernel
theorem dM_passes_42 : decode cM_passes 42 = .ok (.aload_n 0, 1) := by decide +kernel
theorem dM_passes_43 : decode cM_passes 43 = .ok (.getfield 25, 3) := by decide +kernel
theorem dM_passes_46 : decode cM_passes 46 = .ok (.iload_n 2, 1) := by decide +kernel
theorem dM_passes_47 : decode cM_passes 47 = .ok (.iaload, 1) := by decide +kernel
theorem dM_passes_48 : decode cM_passes 48 = .ok (.iadd, 1) := by decide +kernel
theorem dM_passes_49 : decode cM_passes 49 = .ok (.sipush 999, 3) := by decide +kernel
theorem dM_passes_52 : decode cM_passes 52 = .ok (.if_icmp .le 10, 3) := by decide +kernel
theorem dM_passes_55 : decode cM_passes 55 = .ok (.aload_n 0, 1) := by decide +kernel
theorem dM_passes_56 : decode cM_passes 56 = .ok (.bipush (-6), 2) := by decide +kernel
theorem dM_passes_58 : decode cM_passes 58 = .ok (.invokevirtual 84, 3) := by decide +kernel
theorem dM_passes_61 : decode cM_passes 61 = .ok (.ireturn, 1) := by decide +kernel
theorem dM_passes_62 : decode cM_passes 62 = .ok (.aload_n 0, 1) := by decide +kernel
theorem dM_passes_63 : decode cM_passes 63 = .ok (.iload_n 1, 1) := by decide +kernel
theorem dM_passes_64 : decode cM_passes 64 = .ok (.iload_n 2, 1) := by decide +kernel
theorem dM_passes_65 : decode cM_passes 65 = .ok (.invokevirtual 167, 3) := by decide +kernel
theorem dM_passes_68 : decode cM_passes 68 = .ok (.pop, 1) := by decide +kernel
theorem dM_passes_69 : decode cM_passes 69 = .ok (.aload_n 0, 1) := by decide +kernel
theorem dM_passes_70 : decode cM_passes 70 = .ok (.getfield 34, 3) := by decide +kernel
theorem dM_passes_73 : decode cM_passes 73 = .ok (.iload_n 1, 1) := by decide +kernel
theorem dM_passes_74 : decode cM_passes 74 = .ok (.iaload, 1) := by decide +kernel
theorem dM_passes_75 : decode cM_passes 75 = .ok (.ireturn, 1) := by decide +kernel
theorem dM_person_0 : decode cM_person 0 = .ok (.aload_n 0, 1) := by decide +kernel
theorem dM_person_1 : decode cM_person 1 = .ok (.iload_n 1, 1) := by decide +kernel
theorem dM_person_2 : decode cM_person 2 = .ok (.invokevirtual 158, 3) := by decide +kernel
theorem dM_person_5 : decode cM_person 5 = .ok (.ifCond .ne 9, 3) := by decide +kernel
theorem dM_person_8 : decode cM_person 8 = .ok (.aload_n 0, 1) := by decide +kernel
theorem dM_person_9 : decode cM_person 9 = .ok (.iconst (-1), 1) := by decide +kernel
theorem dM_person_10 : decode cM_person 10 = .ok (.invokevirtual 84, 3) := by decide +kernel
theorem dM_person_13 : decode cM_person 13 = .ok (.ireturn, 1) := by decide +kernel
theorem dM_person_14 : decode cM_person 14 = .ok (.iload_n 2, 1) := by decide +kernel
theorem dM_person_15 : decode cM_person 15 = .ok (.tableswitch 67 0 4 #[33, 40, 47, 54, 61], 33) := by decide +kernel
theorem dM_person_48 : decode cM_person 48 = .ok (.aload_n 0, 1) := by decide +kernel
theorem dM_person_49 : decode cM_person 49 = .ok (.getfield 31, 3) := by decide +kernel
theorem dM_person_52 : decode cM_person 52 = .ok (.iload_n 1, 1) := by decide +kernel
theorem dM_person_53 : decode cM_person 53 = .ok (.iaload, 1) := by decide +kernel
theorem dM_person_54 : decode cM_person 54 = .ok (.ireturn, 1) := by decide +kernel
theorem dM_person_55 : decode cM_person 55 = .ok (.aload_n 0, 1) := by decide +kernel
theorem dM_person_56 : decode cM_person 56 = .ok (.getfield 34, 3) := by decide +kernel
theorem dM_person_59 : decode cM_person 59 = .ok (.iload_n 1, 1) := by decide +kernel
theorem dM_person_60 : decode cM_person 60 = .ok (.iaload, 1) := by decide +kernel
theorem dM_person_61 : decode cM_person 61 = .ok (.ireturn, 1) := by decide +kernel
theorem dM_person_62 : decode cM_person 62 = .ok (.aload_n 0, 1) := by decide +kernel
theorem dM_person_63 : decode cM_person 63 = .ok (.getfield 37, 3) := by decide +kernel
theorem dM_person_66 : decode cM_person 66 = .ok (.iload_n 1, 1) := by decide +kernel
theorem dM_person_67 : decode cM_person 67 = .ok (.iaload, 1) := by decide +kernel
theorem dM_person_68 : decode cM_person 68 = .ok (.ireturn, 1) := by decide +kernel
theorem dM_person_69 : decode cM_person 69 = .ok (.aload_n 0, 1) := by decide +kernel
theorem dM_person_70 : decode cM_person 70 = .ok (.getfield 40, 3) := by decide +kernel
theorem dM_person_73 : decode cM_person 73 = .ok (.iload_n 1, 1) := by decide +kernel
theorem dM_person_74 : decode cM_person 74 = .ok (.iaload, 1) := by decide +kernel
theorem dM_person_75 : decode cM_person 75 = .ok (.ireturn, 1) := by decide +kernel
theorem dM_person_76 : decode cM_person 76 = .ok (.aload_n 0, 1) := by decide +kernel
theorem dM_person_77 : decode cM_person 77 = .ok (.iload_n 1, 1) := by decide +kernel
theorem dM_person_78 : decode cM_person 78 = .ok (.invokevirtual 140, 3) := by decide +kernel
theorem dM_person_81 : decode cM_person 81 = .ok (.ireturn, 1) := by decide +kernel
theorem dM_person_82 : decode cM_person 82 = .ok (.aload_n 0, 1) := by decide +kernel
theorem dM_person_83 : decode cM_person 83 = .ok (.bipush (-2), 2) := by decide +kernel
theorem dM_person_85 : decode cM_person 85 = .ok (.invokevirtual 84, 3) := by decide +kernel
theorem dM_person_88 : decode cM_person 88 = .ok (.ireturn, 1) := by decide +kernel
theorem dM_room_0 : decode cM_room 0 = .ok (.iload_n 1, 1) := by decide +kernel
theorem dM_room_1 : decode cM_room 1 = .ok (.invokestatic 152, 3) := by decide +kernel
theorem dM_room_4 : decode cM_room 4 = .ok (.ifCond .ne 9, 3) := by decide +kernel
theorem dM_room_7 : decode cM_room 7 = .ok (.aload_n 0, 1) := by decide +kernel
theorem dM_room_8 : decode cM_room 8 = .ok (.iconst (-1), 1) := by decide +kernel
theorem dM_room_9 : decode cM_room 9 = .ok (.invokevirtual 84, 3) := by decide +kernel
theorem dM_room_12 : decode cM_room 12 = .ok (.ireturn, 1) := by decide +kernel
theorem dM_room_13 : decode cM_room 13 = .ok (.iload_n 2, 1) := by decide +kernel
theorem dM_room_14 : decode cM_room 14 = .ok (.tableswitch 56 0 3 #[30, 37, 44, 50], 30) := by decide +kernel
theorem dM_room_44 : decode cM_room 44 = .ok (.aload_n 0, 1) := by decide +kernel
theorem dM_room_45 : decode cM_room 45 = .ok (.getfield 7, 3) := by decide +kernel
theorem dM_room_48 : decode cM_room 48 = .ok (.iload_n 1, 1) := by decide +kernel
theorem dM_room_49 : decode cM_room 49 = .ok (.iaload, 1) := by decide +kernel
theorem dM_room_50 : decode cM_room 50 = .ok (.ireturn, 1) := by decide +kernel
theorem dM_room_51 : decode cM_room 51 = .ok (.aload_n 0, 1) := by decide +kernel
theorem dM_room_52 : decode cM_room 52 = .ok (.getfield 13, 3) := by decide +kernel
theorem dM_room_55 : decode cM_room 55 = .ok (.iload_n 1, 1) := by decide +kernel
theorem dM_room_56 : decode cM_room 56 = .ok (.iaload, 1) := by decide +kernel
theorem dM_room_57 : decode cM_room 57 = .ok (.ireturn, 1) := by decide +kernel
theorem dM_room_58 : decode cM_room 58 = .ok (.aload_n 0, 1) := by decide +kernel
theorem dM_room_59 : decode cM_room 59 = .ok (.iload_n 1, 1) := by decide +kernel
theorem dM_room_60 : decode cM_room 60 = .ok (.invokevirtual 137, 3) := by decide +kernel
theorem dM_room_63 : decode cM_room 63 = .ok (.ireturn, 1) := by decide +kernel
theorem dM_room_64 : decode cM_room 64 = .ok (.aload_n 0, 1) := by decide +kernel
theorem dM_room_65 : decode cM_room 65 = .ok (.iload_n 1, 1) := by decide +kernel
theorem dM_room_66 : decode cM_room 66 = .ok (.invokevirtual 143, 3) := by decide +kernel
theorem dM_room_69 : decode cM_room 69 = .ok (.ireturn, 1) := by decide +kernel
theorem dM_room_70 : decode cM_room 70 = .ok (.aload_n 0, 1) := by decide +kernel
theorem dM_room_71 : decode cM_room 71 = .ok (.bipush (-2), 2) := by decide +kernel
theorem dM_room_73 : decode cM_room 73 = .ok (.invokevirtual 84, 3) := by decide +kernel
theorem dM_room_76 : decode cM_room 76 = .ok (.ireturn, 1) := by decide +kernel
theorem dM_row_0 : decode cM_row 0 = .ok (.iload_n 1, 1) := by decide +kernel
theorem dM_row_1 : decode cM_row 1 = .ok (.ifCond .ge 10, 3) := by decide +kernel
theorem dM_row_4 : decode cM_row 4 = .ok (.aload_n 0, 1) := by decide +kernel
theorem dM_row_5 : decode cM_row 5 = .ok (.bipush (-4), 2) := by decide +kernel
theorem dM_row_7 : decode cM_row 7 = .ok (.invokevirtual 84, 3) := by decide +kernel
theorem dM_row_10 : decode cM_row 10 = .ok (.ireturn, 1) := by decide +kernel
theorem dM_row_11 : decode cM_row 11 = .ok (.iload_n 1, 1) := by decide +kernel
theorem dM_row_12 : decode cM_row 12 = .ok (.sipush 999, 3) := by decide +kernel
theorem dM_row_15 : decode cM_row 15 = .ok (.if_icmp .gt 12, 3) := by decide +kernel
theorem dM_row_18 : decode cM_row 18 = .ok (.aload_n 0, 1) := by decide +kernel
theorem dM_row_19 : decode cM_row 19 = .ok (.getfield 192, 3) := by decide +kernel
theorem dM_row_22 : decode cM_row 22 = .ok (.bipush 12, 2) := by decide +kernel
theorem dM_row_24 : decode cM_row 24 = .ok (.if_icmp .ne 10, 3) := by decide +kernel
theorem dM_row_27 : decode cM_row 27 = .ok (.aload_n 0, 1) := by decide +kernel
theorem dM_row_28 : decode cM_row 28 = .ok (.bipush (-6), 2) := by decide +kernel
theorem dM_row_30 : decode cM_row 30 = .ok (.invokevirtual 84, 3) := by decide +kernel
theorem dM_row_33 : decode cM_row 33 = .ok (.ireturn, 1) := by decide +kernel
theorem dM_row_34 : decode cM_row 34 = .ok (.aload_n 0, 1) := by decide +kernel
theorem dM_row_35 : decode cM_row 35 = .ok (.getfield 52, 3) := by decide +kernel
theorem dM_row_38 : decode cM_row 38 = .ok (.aload_n 0, 1) := by decide +kernel
theorem dM_row_39 : decode cM_row 39 = .ok (.dup, 1) := by decide +kernel
theorem dM_row_40 : decode cM_row 40 = .ok (.getfield 192, 3) := by decide +kernel
theorem dM_row_43 : decode cM_row 43 = .ok (.dup_x1, 1) := by decide +kernel
theorem dM_row_44 : decode cM_row 44 = .ok (.iconst 1, 1) := by decide +kernel
theorem dM_row_45 : decode cM_row 45 = .ok (.iadd, 1) := by decide +kernel
theorem dM_row_46 : decode cM_row 46 = .ok (.putfield 192, 3) := by decide +kernel
theorem dM_row_49 : decode cM_row 49 = .ok (.iload_n 1, 1) := by decide +kernel
theorem dM_row_50 : decode cM_row 50 = .ok (.iastore, 1) := by decide +kernel
theorem dM_row_51 : decode cM_row 51 = .ok (.aload_n 0, 1) := by decide +kernel
theorem dM_row_52 : decode cM_row 52 = .ok (.getfield 192, 3) := by decide +kernel
theorem dM_row_55 : decode cM_row 55 = .ok (.ireturn, 1) := by decide +kernel
theorem dM_seeds_0 : decode cM_seeds 0 = .ok (.iload_n 1, 1) := by decide +kernel
theorem dM_seeds_1 : decode cM_seeds 1 = .ok (.iconst 1, 1) := by decide +kernel
theorem dM_seeds_2 : decode cM_seeds 2 = .ok (.if_icmp .ge 10, 3) := by decide +kernel
theorem dM_seeds_5 : decode cM_seeds 5 = .ok (.aload_n 0, 1) := by decide +kernel
theorem dM_seeds_6 : decode cM_seeds 6 = .ok (.bipush (-4), 2) := by decide +kernel
theorem dM_seeds_8 : decode cM_seeds 8 = .ok (.invokevirtual 84, 3) := by decide +kernel
theorem dM_seeds_11 : decode cM_seeds 11 = .ok (.ireturn, 1) := by decide +kernel
theorem dM_seeds_12 : decode cM_seeds 12 = .ok (.iload_n 1, 1) := by decide +kernel
theorem dM_seeds_13 : decode cM_seeds 13 = .ok (.bipush 30, 2) := by decide +kernel
theorem dM_seeds_15 : decode cM_seeds 15 = .ok (.if_icmp .le 10, 3) := by decide +kernel
theorem dM_seeds_18 : decode cM_seeds 18 = .ok (.aload_n 0, 1) := by decide +kernel
theorem dM_seeds_19 : decode cM_seeds 19 = .ok (.bipush (-6), 2) := by decide +kernel
theorem dM_seeds_21 : decode cM_seeds 21 = .ok (.invokevirtual 84, 3) := by decide +kernel
theorem dM_seeds_24 : decode cM_seeds 24 = .ok (.ireturn, 1) := by decide +kernel
theorem dM_seeds_25 : decode cM_seeds 25 = .ok (.aload_n 0, 1) := by decide +kernel
theorem dM_seeds_26 : decode cM_seeds 26 = .ok (.getfield 81, 3) := by decide +kernel
theorem dM_seeds_29 : decode cM_seeds 29 = .ok (.ifCond .eq 10, 3) := by decide +kernel
theorem dM_seeds_32 : decode cM_seeds 32 = .ok (.aload_n 0, 1) := by decide +kernel
theorem dM_seeds_33 : decode cM_seeds 33 = .ok (.getfield 77, 3) := by decide +kernel
theorem dM_seeds_36 : decode cM_seeds 36 = .ok (.ifCond .ne 10, 3) := by decide +kernel
theorem dM_seeds_39 : decode cM_seeds 39 = .ok (.aload_n 0, 1) := by decide +kernel
theorem dM_seeds_40 : decode cM_seeds 40 = .ok (.bipush (-3), 2) := by decide +kernel
theorem dM_seeds_42 : decode cM_seeds 42 = .ok (.invokevirtual 84, 3) := by decide +kernel
theorem dM_seeds_45 : decode cM_seeds 45 = .ok (.ireturn, 1) := by decide +kernel
theorem dM_seeds_46 : decode cM_seeds 46 = .ok (.aload_n 0, 1) := by decide +kernel
theorem dM_seeds_47 : decode cM_seeds 47 = .ok (.aload_n 0, 1) := by decide +kernel
theorem dM_seeds_48 : decode cM_seeds 48 = .ok (.getfield 61, 3) := by decide +kernel
theorem dM_seeds_51 : decode cM_seeds 51 = .ok (.invokevirtual 130, 3) := by decide +kernel
theorem dM_seeds_54 : decode cM_seeds 54 = .ok (.iload_n 2, 1) := by decide +kernel
theorem dM_seeds_55 : decode cM_seeds 55 = .ok (.istore_n 3, 1) := by decide +kernel
theorem dM_seeds_56 : decode cM_seeds 56 = .ok (.iconst 0, 1) := by decide +kernel
theorem dM_seeds_57 : decode cM_seeds 57 = .ok (.istore 4, 2) := by decide +kernel
theorem dM_seeds_59 : decode cM_seeds 59 = .ok (.iconst 0, 1) := by decide +kernel
theorem dM_seeds_60 : decode cM_seeds 60 = .ok (.istore 5, 2) := by decide +kernel
theorem dM_seeds_62 : decode cM_seeds 62 = .ok (.iload 5, 2) := by decide +kernel
theorem dM_seeds_64 : decode cM_seeds 64 = .ok (.iload_n 1, 1) := by decide +kernel
theorem dM_seeds_65 : decode cM_seeds 65 = .ok (.if_icmp .ge 81, 3) := by decide +kernel
theorem dM_seeds_68 : decode cM_seeds 68 = .ok (.iload_n 3, 1) := by decide +kernel
theorem dM_seeds_69 : decode cM_seeds 69 = .ok (.ldc 201, 2) := by decide +kernel
theorem dM_seeds_71 : decode cM_seeds 71 = .ok (.imul, 1) := by decide +kernel
theorem dM_seeds_72 : decode cM_seeds 72 = .ok (.ldc 202, 2) := by decide +kernel
theorem dM_seeds_74 : decode cM_seeds 74 = .ok (.iadd, 1) := by decide +kernel
theorem dM_seeds_75 : decode cM_seeds 75 = .ok (.istore_n 3, 1) := by decide +kernel
theorem dM_seeds_76 : decode cM_seeds 76 = .ok (.iload_n 3, 1) := by decide +kernel
theorem dM_seeds_77 : decode cM_seeds 77 = .ok (.ldc 203, 2) := by decide +kernel
theorem dM_seeds_79 : decode cM_seeds 79 = .ok (.iand, 1) := by decide +kernel
theorem dM_seeds_80 : decode cM_seeds 80 = .ok (.sipush 256, 3) := by decide +kernel
theorem dM_seeds_83 : decode cM_seeds 83 = .ok (.idiv, 1) := by decide +kernel
theorem dM_seeds_84 : decode cM_seeds 84 = .ok (.aload_n 0, 1) := by decide +kernel
theorem dM_seeds_85 : decode cM_seeds 85 = .ok (.getfield 81, 3) := by decide +kernel
theorem dM_seeds_88 : decode cM_seeds 88 = .ok (.irem, 1) := by decide +kernel
theorem dM_seeds_89 : decode cM_seeds 89 = .ok (.istore 6, 2) := by decide +kernel
theorem dM_seeds_91 : decode cM_seeds 91 = .ok (.iload_n 3, 1) := by decide +kernel
theorem dM_seeds_92 : decode cM_seeds 92 = .ok (.ldc 201, 2) := by decide +kernel
theorem dM_seeds_94 : decode cM_seeds 94 = .ok (.imul, 1) := by decide +kernel
theorem dM_seeds_95 : decode cM_seeds 95 = .ok (.ldc 202, 2) := by decide +kernel
theorem dM_seeds_97 : decode cM_seeds 97 = .ok (.iadd, 1) := by decide +kernel
theorem dM_seeds_98 : decode cM_seeds 98 = .ok (.istore_n 3, 1) := by decide +kernel
theorem dM_seeds_99 : decode cM_seeds 99 = .ok (.iload_n 3, 1) := by decide +kernel
theorem dM_seeds_100 : decode cM_seeds 100 = .ok (.ldc 203, 2) := by decide +kernel
theorem dM_seeds_102 : decode cM_seeds 102 = .ok (.iand, 1) := by decide +kernel
theorem dM_seeds_103 : decode cM_seeds 103 = .ok (.sipush 256, 3) := by decide +kernel
theorem dM_seeds_106 : decode cM_seeds 106 = .ok (.idiv, 1) := by decide +kernel
theorem dM_seeds_107 : decode cM_seeds 107 = .ok (.aload_n 0, 1) := by decide +kernel
theorem dM_seeds_108 : decode cM_seeds 108 = .ok (.getfield 77, 3) := by decide +kernel
theorem dM_seeds_111 : decode cM_seeds 111 = .ok (.irem, 1) := by decide +kernel
theorem dM_seeds_112 : decode cM_seeds 112 = .ok (.istore 7, 2) := by decide +kernel
theorem dM_seeds_114 : decode cM_seeds 114 = .ok (.aload_n 0, 1) := by decide +kernel
theorem dM_seeds_115 : decode cM_seeds 115 = .ok (.iload 6, 2) := by decide +kernel
theorem dM_seeds_117 : decode cM_seeds 117 = .ok (.iload 7, 2) := by decide +kernel
theorem dM_seeds_119 : decode cM_seeds 119 = .ok (.invokevirtual 164, 3) := by decide +kernel
theorem dM_seeds_122 : decode cM_seeds 122 = .ok (.ifCond .ne 6, 3) := by decide +kernel
theorem dM_seeds_125 : decode cM_seeds 125 = .ok (.goto 15, 3) := by decide +kernel
theorem dM_seeds_128 : decode cM_seeds 128 = .ok (.aload_n 0, 1) := by decide +kernel
theorem dM_seeds_129 : decode cM_seeds 129 = .ok (.iload 6, 2) := by decide +kernel
theorem dM_seeds_131 : decode cM_seeds 131 = .ok (.iload 7, 2) := by decide +kernel
theorem dM_seeds_133 : decode cM_seeds 133 = .ok (.invokevirtual 167, 3) := by decide +kernel
theorem dM_seeds_136 : decode cM_seeds 136 = .ok (.pop, 1) := by decide +kernel
theorem dM_seeds_137 : decode cM_seeds 137 = .ok (.iinc 4 1, 3) := by decide +kernel
theorem dM_seeds_140 : decode cM_seeds 140 = .ok (.iinc 5 1, 3) := by decide +kernel
theorem dM_seeds_143 : decode cM_seeds 143 = .ok (.goto (-81), 3) := by decide +kernel
theorem dM_seeds_146 : decode cM_seeds 146 = .ok (.aload_n 0, 1) := by decide +kernel
theorem dM_seeds_147 : decode cM_seeds 147 = .ok (.aload_n 0, 1) := by decide +kernel
theorem dM_seeds_148 : decode cM_seeds 148 = .ok (.getfield 61, 3) := by decide +kernel
theorem dM_seeds_151 : decode cM_seeds 151 = .ok (.invokevirtual 134, 3) := by decide +kernel
theorem dM_seeds_154 : decode cM_seeds 154 = .ok (.iload 4, 2) := by decide +kernel
theorem dM_seeds_156 : decode cM_seeds 156 = .ok (.ireturn, 1) := by decide +kernel
theorem dM_soonest_0 : decode cM_soonest 0 = .ok (.iload_n 1, 1) := by decide +kernel
theorem dM_soonest_1 : decode cM_soonest 1 = .ok (.invokestatic 170, 3) := by decide +kernel
theorem dM_soonest_4 : decode cM_soonest 4 = .ok (.ifCond .ne 9, 3) := by decide +kernel
theorem dM_soonest_7 : decode cM_soonest 7 = .ok (.aload_n 0, 1) := by decide +kernel
theorem dM_soonest_8 : decode cM_soonest 8 = .ok (.iconst (-1), 1) := by decide +kernel
theorem dM_soonest_9 : decode cM_soonest 9 = .ok (.invokevirtual 84, 3) := by decide +kernel
theorem dM_soonest_12 : decode cM_soonest 12 = .ok (.ireturn, 1) := by decide +kernel
theorem dM_soonest_13 : decode cM_soonest 13 = .ok (.aload_n 0, 1) := by decide +kernel
theorem dM_soonest_14 : decode cM_soonest 14 = .ok (.iload_n 1, 1) := by decide +kernel
theorem dM_soonest_15 : decode cM_soonest 15 = .ok (.invokevirtual 173, 3) := by decide +kernel
theorem dM_soonest_18 : decode cM_soonest 18 = .ok (.sipush 10000, 3) := by decide +kernel
theorem dM_soonest_21 : decode cM_soonest 21 = .ok (.istore_n 2, 1) := by decide +kernel
theorem dM_soonest_22 : decode cM_soonest 22 = .ok (.iconst 0, 1) := by decide +kernel
theorem dM_soonest_23 : decode cM_soonest 23 = .ok (.istore_n 3, 1) := by decide +kernel
theorem dM_soonest_24 : decode cM_soonest 24 = .ok (.iload_n 3, 1) := by decide +kernel
theorem dM_soonest_25 : decode cM_soonest 25 = .ok (.bipush 6, 2) := by decide +kernel
theorem dM_soonest_27 : decode cM_soonest 27 = .ok (.if_icmp .ge 20, 3) := by decide +kernel
theorem dM_soonest_30 : decode cM_soonest 30 = .ok (.iload_n 2, 1) := by decide +kernel
theorem dM_soonest_31 : decode cM_soonest 31 = .ok (.aload_n 0, 1) := by decide +kernel
theorem dM_soonest_32 : decode cM_soonest 32 = .ok (.getfield 64, 3) := by decide +kernel
theorem dM_soonest_35 : decode cM_soonest 35 = .ok (.iload_n 3, 1) := by decide +kernel
theorem dM_soonest_36 : decode cM_soonest 36 = .ok (.iaload, 1) := by decide +kernel
theorem dM_soonest_37 : decode cM_soonest 37 = .ok (.invokestatic 98, 3) := by decide +kernel
theorem dM_soonest_40 : decode cM_soonest 40 = .ok (.istore_n 2, 1) := by decide +kernel
theorem dM_soonest_41 : decode cM_soonest 41 = .ok (.iinc 3 1, 3) := by decide +kernel
theorem dM_soonest_44 : decode cM_soonest 44 = .ok (.goto (-20), 3) := by decide +kernel
theorem dM_soonest_47 : decode cM_soonest 47 = .ok (.iload_n 2, 1) := by decide +kernel
theorem dM_soonest_48 : decode cM_soonest 48 = .ok (.sipush 10000, 3) := by decide +kernel
theorem dM_soonest_51 : decode cM_soonest 51 = .ok (.if_icmp .ge 7, 3) := by decide +kernel
theorem dM_soonest_54 : decode cM_soonest 54 = .ok (.iload_n 2, 1) := by decide +kernel
theorem dM_soonest_55 : decode cM_soonest 55 = .ok (.goto 5, 3) := by decide +kernel
theorem dM_soonest_58 : decode cM_soonest 58 = .ok (.bipush (-9), 2) := by decide +kernel
theorem dM_soonest_60 : decode cM_soonest 60 = .ok (.ireturn, 1) := by decide +kernel
theorem dM_statement_0 : decode cM_statement 0 = .ok (.aload_n 0, 1) := by decide +kernel
theorem dM_statement_1 : decode cM_statement 1 = .ok (.bipush 114, 2) := by decide +kernel
theorem dM_statement_3 : decode cM_statement 3 = .ok (.invokevirtual 107, 3) := by decide +kernel
theorem dM_statement_6 : decode cM_statement 6 = .ok (.ifCond .eq 69, 3) := by decide +kernel
theorem dM_statement_9 : decode cM_statement 9 = .ok (.aload_n 0, 1) := by decide +kernel
theorem dM_statement_10 : decode cM_statement 10 = .ok (.iconst 0, 1) := by decide +kernel
theorem dM_statement_11 : decode cM_statement 11 = .ok (.iconst 1, 1) := by decide +kernel
theorem dM_statement_12 : decode cM_statement 12 = .ok (.invokevirtual 111, 3) := by decide +kernel
theorem dM_statement_15 : decode cM_statement 15 = .ok (.ifCond .eq 21, 3) := by decide +kernel
theorem dM_statement_18 : decode cM_statement 18 = .ok (.aload_n 0, 1) := by decide +kernel
theorem dM_statement_19 : decode cM_statement 19 = .ok (.bipush 44, 2) := by decide +kernel
theorem dM_statement_21 : decode cM_statement 21 = .ok (.invokevirtual 107, 3) := by decide +kernel
theorem dM_statement_24 : decode cM_statement 24 = .ok (.ifCond .eq 12, 3) := by decide +kernel
theorem dM_statement_27 : decode cM_statement 27 = .ok (.aload_n 0, 1) := by decide +kernel
theorem dM_statement_28 : decode cM_statement 28 = .ok (.iconst 1, 1) := by decide +kernel
theorem dM_statement_29 : decode cM_statement 29 = .ok (.iconst 3, 1) := by decide +kernel
theorem dM_statement_30 : decode cM_statement 30 = .ok (.invokevirtual 111, 3) := by decide +kernel
theorem dM_statement_33 : decode cM_statement 33 = .ok (.ifCond .ne 5, 3) := by decide +kernel
theorem dM_statement_36 : decode cM_statement 36 = .ok (.iconst (-1), 1) := by decide +kernel
theorem dM_statement_37 : decode cM_statement 37 = .ok (.ireturn, 1) := by decide +kernel
theorem dM_statement_38 : decode cM_statement 38 = .ok (.iload_n 1, 1) := by decide +kernel
theorem dM_statement_39 : decode cM_statement 39 = .ok (.ifCond .ne 5, 3) := by decide +kernel
theorem dM_statement_42 : decode cM_statement 42 = .ok (.iconst 1, 1) := by decide +kernel
theorem dM_statement_43 : decode cM_statement 43 = .ok (.ireturn, 1) := by decide +kernel
theorem dM_statement_44 : decode cM_statement 44 = .ok (.aload_n 0, 1) := by decide +kernel
theorem dM_statement_45 : decode cM_statement 45 = .ok (.getfield 49, 3) := by decide +kernel
theorem dM_statement_48 : decode cM_statement 48 = .ok (.iconst 0, 1) := by decide +kernel
theorem dM_statement_49 : decode cM_statement 49 = .ok (.iaload, 1) := by decide +kernel
theorem dM_statement_50 : decode cM_statement 50 = .ok (.iconst 5, 1) := by decide +kernel
theorem dM_statement_51 : decode cM_statement 51 = .ok (.if_icmp .le 5, 3) := by decide +kernel
theorem dM_statement_54 : decode cM_statement 54 = .ok (.iconst 0, 1) := by decide +kernel
theorem dM_statement_55 : decode cM_statement 55 = .ok (.ireturn, 1) := by decide +kernel
theorem dM_statement_56 : decode cM_statement 56 = .ok (.aload_n 0, 1) := by decide +kernel
theorem dM_statement_57 : decode cM_statement 57 = .ok (.getfield 7, 3) := by decide +kernel
theorem dM_statement_60 : decode cM_statement 60 = .ok (.aload_n 0, 1) := by decide +kernel
theorem dM_statement_61 : decode cM_statement 61 = .ok (.getfield 49, 3) := by decide +kernel
theorem dM_statement_64 : decode cM_statement 64 = .ok (.iconst 0, 1) := by decide +kernel
theorem dM_statement_65 : decode cM_statement 65 = .ok (.iaload, 1) := by decide +kernel
theorem dM_statement_66 : decode cM_statement 66 = .ok (.aload_n 0, 1) := by decide +kernel
theorem dM_statement_67 : decode cM_statement 67 = .ok (.getfield 49, 3) := by decide +kernel
theorem dM_statement_70 : decode cM_statement 70 = .ok (.iconst 1, 1) := by decide +kernel
theorem dM_statement_71 : decode cM_statement 71 = .ok (.iaload, 1) := by decide +kernel
theorem dM_statement_72 : decode cM_statement 72 = .ok (.iastore, 1) := by decide +kernel
theorem dM_statement_73 : decode cM_statement 73 = .ok (.iconst 1, 1) := by decide +kernel
theorem dM_statement_74 : decode cM_statement 74 = .ok (.ireturn, 1) := by decide +kernel
theorem dM_statement_75 : decode cM_statement 75 = .ok (.aload_n 0, 1) := by decide +kernel
theorem dM_statement_76 : decode cM_statement 76 = .ok (.bipush 107, 2) := by decide +kernel
theorem dM_statement_78 : decode cM_statement 78 = .ok (.invokevirtual 107, 3) := by decide +kernel
theorem dM_statement_81 : decode cM_statement 81 = .ok (.ifCond .eq 60, 3) := by decide +kernel
theorem dM_statement_84 : decode cM_statement 84 = .ok (.aload_n 0, 1) := by decide +kernel
theorem dM_statement_85 : decode cM_statement 85 = .ok (.iconst 0, 1) := by decide +kernel
theorem dM_statement_86 : decode cM_statement 86 = .ok (.iconst 1, 1) := by decide +kernel
theorem dM_statement_87 : decode cM_statement 87 = .ok (.invokevirtual 111, 3) := by decide +kernel
theorem dM_statement_90 : decode cM_statement 90 = .ok (.ifCond .eq 12, 3) := by decide +kernel
theorem dM_statement_93 : decode cM_statement 93 = .ok (.aload_n 0, 1) := by decide +kernel
theorem dM_statement_94 : decode cM_statement 94 = .ok (.iconst 1, 1) := by decide +kernel
theorem dM_statement_95 : decode cM_statement 95 = .ok (.iconst 1, 1) := by decide +kernel
theorem dM_statement_96 : decode cM_statement 96 = .ok (.invokevirtual 111, 3) := by decide +kernel
theorem dM_statement_99 : decode cM_statement 99 = .ok (.ifCond .ne 5, 3) := by decide +kernel
theorem dM_statement_102 : decode cM_statement 102 = .ok (.iconst (-1), 1) := by decide +kernel
theorem dM_statement_103 : decode cM_statement 103 = .ok (.ireturn, 1) := by decide +kernel
theorem dM_statement_104 : decode cM_statement 104 = .ok (.iload_n 1, 1) := by decide +kernel
theorem dM_statement_105 : decode cM_statement 105 = .ok (.ifCond .ne 5, 3) := by decide +kernel
theorem dM_statement_108 : decode cM_statement 108 = .ok (.iconst 1, 1) := by decide +kernel
theorem dM_statement_109 : decode cM_statement 109 = .ok (.ireturn, 1) := by decide +kernel
theorem dM_statement_110 : decode cM_statement 110 = .ok (.aload_n 0, 1) := by decide +kernel
theorem dM_statement_111 : decode cM_statement 111 = .ok (.getfield 49, 3) := by decide +kernel
theorem dM_statement_114 : decode cM_statement 114 = .ok (.iconst 0, 1) := by decide +kernel
theorem dM_statement_115 : decode cM_statement 115 = .ok (.iaload, 1) := by decide +kernel
theorem dM_statement_116 : decode cM_statement 116 = .ok (.iconst 5, 1) := by decide +kernel
theorem dM_statement_117 : decode cM_statement 117 = .ok (.if_icmp .le 5, 3) := by decide +kernel
theorem dM_statement_120 : decode cM_statement 120 = .ok (.iconst 0, 1) := by decide +kernel
theorem dM_statement_121 : decode cM_statement 121 = .ok (.ireturn, 1) := by decide +kernel
theorem dM_statement_122 : decode cM_statement 122 = .ok (.aload_n 0, 1) := by decide +kernel
theorem dM_statement_123 : decode cM_statement 123 = .ok (.getfield 13, 3) := by decide +kernel
theorem dM_statement_126 : decode cM_statement 126 = .ok (.aload_n 0, 1) := by decide +kernel
theorem dM_statement_127 : decode cM_statement 127 = .ok (.getfield 49, 3) := by decide +kernel
theorem dM_statement_130 : decode cM_statement 130 = .ok (.iconst 0, 1) := by decide +kernel
theorem dM_statement_131 : decode cM_statement 131 = .ok (.iaload, 1) := by decide +kernel
theorem dM_statement_132 : decode cM_statement 132 = .ok (.aload_n 0, 1) := by decide +kernel
theorem dM_statement_133 : decode cM_statement 133 = .ok (.getfield 49, 3) := by decide +kernel
theorem dM_statement_136 : decode cM_statement 136 = .ok (.iconst 1, 1) := by decide +kernel
theorem dM_statement_137 : decode cM_statement 137 = .ok (.iaload, 1) := by decide +kernel
theorem dM_statement_138 : decode cM_statement 138 = .ok (.iastore, 1) := by decide +kernel
theorem dM_statement_139 : decode cM_statement 139 = .ok (.iconst 1, 1) := by decide +kernel
theorem dM_statement_140 : decode cM_statement 140 = .ok (.ireturn, 1) := by decide +kernel
theorem dM_statement_141 : decode cM_statement 141 = .ok (.aload_n 0, 1) := by decide +kernel
theorem dM_statement_142 : decode cM_statement 142 = .ok (.bipush 108, 2) := by decide +kernel
theorem dM_statement_144 : decode cM_statement 144 = .ok (.invokevirtual 107, 3) := by decide +kernel
theorem dM_statement_147 : decode cM_statement 147 = .ok (.ifCond .eq 120, 3) := by decide +kernel
theorem dM_statement_150 : decode cM_statement 150 = .ok (.iconst 0, 1) := by decide +kernel
theorem dM_statement_151 : decode cM_statement 151 = .ok (.istore_n 2, 1) := by decide +kernel
theorem dM_statement_152 : decode cM_statement 152 = .ok (.iload_n 2, 1) := by decide +kernel
theorem dM_statement_153 : decode cM_statement 153 = .ok (.iconst 4, 1) := by decide +kernel
theorem dM_statement_154 : decode cM_statement 154 = .ok (.if_icmp .ge 20, 3) := by decide +kernel
theorem dM_statement_157 : decode cM_statement 157 = .ok (.aload_n 0, 1) := by decide +kernel
theorem dM_statement_158 : decode cM_statement 158 = .ok (.iload_n 2, 1) := by decide +kernel
theorem dM_statement_159 : decode cM_statement 159 = .ok (.iconst 1, 1) := by decide +kernel
theorem dM_statement_160 : decode cM_statement 160 = .ok (.invokevirtual 111, 3) := by decide +kernel
theorem dM_statement_163 : decode cM_statement 163 = .ok (.ifCond .ne 5, 3) := by decide +kernel
theorem dM_statement_166 : decode cM_statement 166 = .ok (.iconst (-1), 1) := by decide +kernel
theorem dM_statement_167 : decode cM_statement 167 = .ok (.ireturn, 1) := by decide +kernel
theorem dM_statement_168 : decode cM_statement 168 = .ok (.iinc 2 1, 3) := by decide +kernel
theorem dM_statement_171 : decode cM_statement 171 = .ok (.goto (-19), 3) := by decide +kernel
theorem dM_statement_174 : decode cM_statement 174 = .ok (.iload_n 1, 1) := by decide +kernel
theorem dM_statement_175 : decode cM_statement 175 = .ok (.ifCond .ne 5, 3) := by decide +kernel
theorem dM_statement_178 : decode cM_statement 178 = .ok (.iconst 1, 1) := by decide +kernel
theorem dM_statement_179 : decode cM_statement 179 = .ok (.ireturn, 1) := by decide +kernel
theorem dM_statement_180 : decode cM_statement 180 = .ok (.aload_n 0, 1) := by decide +kernel
theorem dM_statement_181 : decode cM_statement 181 = .ok (.getfield 49, 3) := by decide +kernel
theorem dM_statement_184 : decode cM_statement 184 = .ok (.iconst 0, 1) := by decide +kernel
theorem dM_statement_185 : decode cM_statement 185 = .ok (.iaload, 1) := by decide +kernel
theorem dM_statement_186 : decode cM_statement 186 = .ok (.bipush 6, 2) := by decide +kernel
theorem dM_statement_188 : decode cM_statement 188 = .ok (.if_icmp .gt 47, 3) := by decide +kernel
theorem dM_statement_191 : decode cM_statement 191 = .ok (.aload_n 0, 1) := by decide +kernel
theorem dM_statement_192 : decode cM_statement 192 = .ok (.getfield 49, 3) := by decide +kernel
theorem dM_statement_195 : decode cM_statement 195 = .ok (.iconst 1, 1) := by decide +kernel
theorem dM_statement_196 : decode cM_statement 196 = .ok (.iaload, 1) := by decide +kernel
theorem dM_statement_197 : decode cM_statement 197 = .ok (.bipush 6, 2) := by decide +kernel
theorem dM_statement_199 : decode cM_statement 199 = .ok (.if_icmp .gt 36, 3) := by decide +kernel
theorem dM_statement_202 : decode cM_statement 202 = .ok (.aload_n 0, 1) := by decide +kernel
theorem dM_statement_203 : decode cM_statement 203 = .ok (.getfield 49, 3) := by decide +kernel
theorem dM_statement_206 : decode cM_statement 206 = .ok (.iconst 0, 1) := by decide +kernel
theorem dM_statement_207 : decode cM_statement 207 = .ok (.iaload, 1) := by decide +kernel
theorem dM_statement_208 : decode cM_statement 208 = .ok (.aload_n 0, 1) := by decide +kernel
theorem dM_statement_209 : decode cM_statement 209 = .ok (.getfield 49, 3) := by decide +kernel
theorem dM_statement_212 : decode cM_statement 212 = .ok (.iconst 1, 1) := by decide +kernel
theorem dM_statement_213 : decode cM_statement 213 = .ok (.iaload, 1) := by decide +kernel
theorem dM_statement_214 : decode cM_statement 214 = .ok (.if_icmp .eq 21, 3) := by decide +kernel
theorem dM_statement_217 : decode cM_statement 217 = .ok (.aload_n 0, 1) := by decide +kernel
theorem dM_statement_218 : decode cM_statement 218 = .ok (.getfield 49, 3) := by decide +kernel
theorem dM_statement_221 : decode cM_statement 221 = .ok (.iconst 3, 1) := by decide +kernel
theorem dM_statement_222 : decode cM_statement 222 = .ok (.iaload, 1) := by decide +kernel
theorem dM_statement_223 : decode cM_statement 223 = .ok (.ifCond .eq 12, 3) := by decide +kernel
theorem dM_statement_226 : decode cM_statement 226 = .ok (.aload_n 0, 1) := by decide +kernel
theorem dM_statement_227 : decode cM_statement 227 = .ok (.getfield 77, 3) := by decide +kernel
theorem dM_statement_230 : decode cM_statement 230 = .ok (.bipush 7, 2) := by decide +kernel
theorem dM_statement_232 : decode cM_statement 232 = .ok (.if_icmp .ne 5, 3) := by decide +kernel
theorem dM_statement_235 : decode cM_statement 235 = .ok (.iconst 0, 1) := by decide +kernel
theorem dM_statement_236 : decode cM_statement 236 = .ok (.ireturn, 1) := by decide +kernel
theorem dM_statement_237 : decode cM_statement 237 = .ok (.aload_n 0, 1) := by decide +kernel
theorem dM_statement_238 : decode cM_statement 238 = .ok (.aload_n 0, 1) := by decide +kernel
theorem dM_statement_239 : decode cM_statement 239 = .ok (.getfield 49, 3) := by decide +kernel
theorem dM_statement_242 : decode cM_statement 242 = .ok (.iconst 0, 1) := by decide +kernel
theorem dM_statement_243 : decode cM_statement 243 = .ok (.iaload, 1) := by decide +kernel
theorem dM_statement_244 : decode cM_statement 244 = .ok (.aload_n 0, 1) := by decide +kernel
theorem dM_statement_245 : decode cM_statement 245 = .ok (.getfield 49, 3) := by decide +kernel
theorem dM_statement_248 : decode cM_statement 248 = .ok (.iconst 1, 1) := by decide +kernel
theorem dM_statement_249 : decode cM_statement 249 = .ok (.iaload, 1) := by decide +kernel
theorem dM_statement_250 : decode cM_statement 250 = .ok (.aload_n 0, 1) := by decide +kernel
theorem dM_statement_251 : decode cM_statement 251 = .ok (.getfield 49, 3) := by decide +kernel
theorem dM_statement_254 : decode cM_statement 254 = .ok (.iconst 2, 1) := by decide +kernel
theorem dM_statement_255 : decode cM_statement 255 = .ok (.iaload, 1) := by decide +kernel
theorem dM_statement_256 : decode cM_statement 256 = .ok (.aload_n 0, 1) := by decide +kernel
theorem dM_statement_257 : decode cM_statement 257 = .ok (.getfield 49, 3) := by decide +kernel
theorem dM_statement_260 : decode cM_statement 260 = .ok (.iconst 3, 1) := by decide +kernel
theorem dM_statement_261 : decode cM_statement 261 = .ok (.iaload, 1) := by decide +kernel
theorem dM_statement_262 : decode cM_statement 262 = .ok (.invokevirtual 115, 3) := by decide +kernel
theorem dM_statement_265 : decode cM_statement 265 = .ok (.iconst 1, 1) := by decide +kernel
theorem dM_statement_266 : decode cM_statement 266 = .ok (.ireturn, 1) := by decide +kernel
theorem dM_statement_267 : decode cM_statement 267 = .ok (.aload_n 0, 1) := by decide +kernel
theorem dM_statement_268 : decode cM_statement 268 = .ok (.bipush 112, 2) := by decide +kernel
theorem dM_statement_270 : decode cM_statement 270 = .ok (.invokevirtual 107, 3) := by decide +kernel
theorem dM_statement_273 : decode cM_statement 273 = .ok (.ifCond .eq 204, 3) := by decide +kernel
theorem dM_statement_276 : decode cM_statement 276 = .ok (.aload_n 0, 1) := by decide +kernel
theorem dM_statement_277 : decode cM_statement 277 = .ok (.getfield 91, 3) := by decide +kernel
theorem dM_statement_280 : decode cM_statement 280 = .ok (.aload_n 0, 1) := by decide +kernel
theorem dM_statement_281 : decode cM_statement 281 = .ok (.getfield 88, 3) := by decide +kernel
theorem dM_statement_284 : decode cM_statement 284 = .ok (.if_icmp .ge 32, 3) := by decide +kernel
theorem dM_statement_287 : decode cM_statement 287 = .ok (.aload_n 0, 1) := by decide +kernel
theorem dM_statement_288 : decode cM_statement 288 = .ok (.getfield 46, 3) := by decide +kernel
theorem dM_statement_291 : decode cM_statement 291 = .ok (.aload_n 0, 1) := by decide +kernel
theorem dM_statement_292 : decode cM_statement 292 = .ok (.getfield 91, 3) := by decide +kernel
theorem dM_statement_295 : decode cM_statement 295 = .ok (.iaload, 1) := by decide +kernel
theorem dM_statement_296 : decode cM_statement 296 = .ok (.ifCond .le 20, 3) := by decide +kernel
theorem dM_statement_299 : decode cM_statement 299 = .ok (.ldc 119, 2) := by decide +kernel
theorem dM_statement_301 : decode cM_statement 301 = .ok (.aload_n 0, 1) := by decide +kernel
theorem dM_statement_302 : decode cM_statement 302 = .ok (.getfield 46, 3) := by decide +kernel
theorem dM_statement_305 : decode cM_statement 305 = .ok (.aload_n 0, 1) := by decide +kernel
theorem dM_statement_306 : decode cM_statement 306 = .ok (.getfield 91, 3) := by decide +kernel
theorem dM_statement_309 : decode cM_statement 309 = .ok (.iaload, 1) := by decide +kernel
theorem dM_statement_310 : decode cM_statement 310 = .ok (.invokevirtual 121, 3) := by decide +kernel
theorem dM_statement_313 : decode cM_statement 313 = .ok (.goto 4, 3) := by decide +kernel
theorem dM_statement_316 : decode cM_statement 316 = .ok (.iconst (-1), 1) := by decide +kernel
theorem dM_statement_317 : decode cM_statement 317 = .ok (.istore_n 2, 1) := by decide +kernel
theorem dM_statement_318 : decode cM_statement 318 = .ok (.iload_n 2, 1) := by decide +kernel
theorem dM_statement_319 : decode cM_statement 319 = .ok (.ifCond .ge 5, 3) := by decide +kernel
theorem dM_statement_322 : decode cM_statement 322 = .ok (.iconst (-1), 1) := by decide +kernel
theorem dM_statement_323 : decode cM_statement 323 = .ok (.ireturn, 1) := by decide +kernel
theorem dM_statement_324 : decode cM_statement 324 = .ok (.aload_n 0, 1) := by decide +kernel
theorem dM_statement_325 : decode cM_statement 325 = .ok (.dup, 1) := by decide +kernel
theorem dM_statement_326 : decode cM_statement 326 = .ok (.getfield 91, 3) := by decide +kernel
theorem dM_statement_329 : decode cM_statement 329 = .ok (.iconst 1, 1) := by decide +kernel
theorem dM_statement_330 : decode cM_statement 330 = .ok (.iadd, 1) := by decide +kernel
theorem dM_statement_331 : decode cM_statement 331 = .ok (.putfield 91, 3) := by decide +kernel
theorem dM_statement_334 : decode cM_statement 334 = .ok (.aload_n 0, 1) := by decide +kernel
theorem dM_statement_335 : decode cM_statement 335 = .ok (.iconst 0, 1) := by decide +kernel
theorem dM_statement_336 : decode cM_statement 336 = .ok (.iconst 1, 1) := by decide +kernel
theorem dM_statement_337 : decode cM_statement 337 = .ok (.invokevirtual 111, 3) := by decide +kernel
theorem dM_statement_340 : decode cM_statement 340 = .ok (.ifCond .eq 30, 3) := by decide +kernel
theorem dM_statement_343 : decode cM_statement 343 = .ok (.aload_n 0, 1) := by decide +kernel
theorem dM_statement_344 : decode cM_statement 344 = .ok (.iconst 1, 1) := by decide +kernel
theorem dM_statement_345 : decode cM_statement 345 = .ok (.iconst 1, 1) := by decide +kernel
theorem dM_statement_346 : decode cM_statement 346 = .ok (.invokevirtual 111, 3) := by decide +kernel
theorem dM_statement_349 : decode cM_statement 349 = .ok (.ifCond .eq 21, 3) := by decide +kernel
theorem dM_statement_352 : decode cM_statement 352 = .ok (.aload_n 0, 1) := by decide +kernel
theorem dM_statement_353 : decode cM_statement 353 = .ok (.bipush 44, 2) := by decide +kernel
theorem dM_statement_355 : decode cM_statement 355 = .ok (.invokevirtual 107, 3) := by decide +kernel
theorem dM_statement_358 : decode cM_statement 358 = .ok (.ifCond .eq 12, 3) := by decide +kernel
theorem dM_statement_361 : decode cM_statement 361 = .ok (.aload_n 0, 1) := by decide +kernel
theorem dM_statement_362 : decode cM_statement 362 = .ok (.iconst 2, 1) := by decide +kernel
theorem dM_statement_363 : decode cM_statement 363 = .ok (.iconst 2, 1) := by decide +kernel
theorem dM_statement_364 : decode cM_statement 364 = .ok (.invokevirtual 111, 3) := by decide +kernel
theorem dM_statement_367 : decode cM_statement 367 = .ok (.ifCond .ne 5, 3) := by decide +kernel
theorem dM_statement_370 : decode cM_statement 370 = .ok (.iconst (-1), 1) := by decide +kernel
theorem dM_statement_371 : decode cM_statement 371 = .ok (.ireturn, 1) := by decide +kernel
theorem dM_statement_372 : decode cM_statement 372 = .ok (.iload_n 1, 1) := by decide +kernel
theorem dM_statement_373 : decode cM_statement 373 = .ok (.ifCond .ne 5, 3) := by decide +kernel
theorem dM_statement_376 : decode cM_statement 376 = .ok (.iconst 1, 1) := by decide +kernel
theorem dM_statement_377 : decode cM_statement 377 = .ok (.ireturn, 1) := by decide +kernel
theorem dM_statement_378 : decode cM_statement 378 = .ok (.aload_n 0, 1) := by decide +kernel
theorem dM_statement_379 : decode cM_statement 379 = .ok (.getfield 49, 3) := by decide +kernel
theorem dM_statement_382 : decode cM_statement 382 = .ok (.iconst 0, 1) := by decide +kernel
theorem dM_statement_383 : decode cM_statement 383 = .ok (.iaload, 1) := by decide +kernel
theorem dM_statement_384 : decode cM_statement 384 = .ok (.bipush 6, 2) := by decide +kernel
theorem dM_statement_386 : decode cM_statement 386 = .ok (.if_icmp .gt 25, 3) := by decide +kernel
theorem dM_statement_389 : decode cM_statement 389 = .ok (.aload_n 0, 1) := by decide +kernel
theorem dM_statement_390 : decode cM_statement 390 = .ok (.getfield 49, 3) := by decide +kernel
theorem dM_statement_393 : decode cM_statement 393 = .ok (.iconst 1, 1) := by decide +kernel
theorem dM_statement_394 : decode cM_statement 394 = .ok (.iaload, 1) := by decide +kernel
theorem dM_statement_395 : decode cM_statement 395 = .ok (.iconst 1, 1) := by decide +kernel
theorem dM_statement_396 : decode cM_statement 396 = .ok (.iconst 5, 1) := by decide +kernel
theorem dM_statement_397 : decode cM_statement 397 = .ok (.invokestatic 73, 3) := by decide +kernel
theorem dM_statement_400 : decode cM_statement 400 = .ok (.ifCond .eq 11, 3) := by decide +kernel
theorem dM_statement_403 : decode cM_statement 403 = .ok (.aload_n 0, 1) := by decide +kernel
theorem dM_statement_404 : decode cM_statement 404 = .ok (.getfield 81, 3) := by decide +kernel
theorem dM_statement_407 : decode cM_statement 407 = .ok (.iconst 5, 1) := by decide +kernel
theorem dM_statement_408 : decode cM_statement 408 = .ok (.if_icmp .ne 5, 3) := by decide +kernel
theorem dM_statement_411 : decode cM_statement 411 = .ok (.iconst 0, 1) := by decide +kernel
theorem dM_statement_412 : decode cM_statement 412 = .ok (.ireturn, 1) := by decide +kernel
theorem dM_statement_413 : decode cM_statement 413 = .ok (.aload_n 0, 1) := by decide +kernel
theorem dM_statement_414 : decode cM_statement 414 = .ok (.getfield 31, 3) := by decide +kernel
theorem dM_statement_417 : decode cM_statement 417 = .ok (.aload_n 0, 1) := by decide +kernel
theorem dM_statement_418 : decode cM_statement 418 = .ok (.getfield 81, 3) := by decide +kernel
theorem dM_statement_421 : decode cM_statement 421 = .ok (.iload_n 2, 1) := by decide +kernel
theorem dM_statement_422 : decode cM_statement 422 = .ok (.iastore, 1) := by decide +kernel
theorem dM_statement_423 : decode cM_statement 423 = .ok (.aload_n 0, 1) := by decide +kernel
theorem dM_statement_424 : decode cM_statement 424 = .ok (.getfield 34, 3) := by decide +kernel
theorem dM_statement_427 : decode cM_statement 427 = .ok (.aload_n 0, 1) := by decide +kernel
theorem dM_statement_428 : decode cM_statement 428 = .ok (.getfield 81, 3) := by decide +kernel
theorem dM_statement_431 : decode cM_statement 431 = .ok (.aload_n 0, 1) := by decide +kernel
theorem dM_statement_432 : decode cM_statement 432 = .ok (.getfield 49, 3) := by decide +kernel
theorem dM_statement_435 : decode cM_statement 435 = .ok (.iconst 0, 1) := by decide +kernel
theorem dM_statement_436 : decode cM_statement 436 = .ok (.iaload, 1) := by decide +kernel
theorem dM_statement_437 : decode cM_statement 437 = .ok (.iastore, 1) := by decide +kernel
theorem dM_statement_438 : decode cM_statement 438 = .ok (.aload_n 0, 1) := by decide +kernel
theorem dM_statement_439 : decode cM_statement 439 = .ok (.getfield 37, 3) := by decide +kernel
theorem dM_statement_442 : decode cM_statement 442 = .ok (.aload_n 0, 1) := by decide +kernel
theorem dM_statement_443 : decode cM_statement 443 = .ok (.getfield 81, 3) := by decide +kernel
theorem dM_statement_446 : decode cM_statement 446 = .ok (.aload_n 0, 1) := by decide +kernel
theorem dM_statement_447 : decode cM_statement 447 = .ok (.getfield 49, 3) := by decide +kernel
theorem dM_statement_450 : decode cM_statement 450 = .ok (.iconst 1, 1) := by decide +kernel
theorem dM_statement_451 : decode cM_statement 451 = .ok (.iaload, 1) := by decide +kernel
theorem dM_statement_452 : decode cM_statement 452 = .ok (.iastore, 1) := by decide +kernel
theorem dM_statement_453 : decode cM_statement 453 = .ok (.aload_n 0, 1) := by decide +kernel
theorem dM_statement_454 : decode cM_statement 454 = .ok (.getfield 40, 3) := by decide +kernel
theorem dM_statement_457 : decode cM_statement 457 = .ok (.aload_n 0, 1) := by decide +kernel
theorem dM_statement_458 : decode cM_statement 458 = .ok (.dup, 1) := by decide +kernel
theorem dM_statement_459 : decode cM_statement 459 = .ok (.getfield 81, 3) := by decide +kernel
theorem dM_statement_462 : decode cM_statement 462 = .ok (.dup_x1, 1) := by decide +kernel
theorem dM_statement_463 : decode cM_statement 463 = .ok (.iconst 1, 1) := by decide +kernel
theorem dM_statement_464 : decode cM_statement 464 = .ok (.iadd, 1) := by decide +kernel
theorem dM_statement_465 : decode cM_statement 465 = .ok (.putfield 81, 3) := by decide +kernel
theorem dM_statement_468 : decode cM_statement 468 = .ok (.aload_n 0, 1) := by decide +kernel
theorem dM_statement_469 : decode cM_statement 469 = .ok (.getfield 49, 3) := by decide +kernel
theorem dM_statement_472 : decode cM_statement 472 = .ok (.iconst 2, 1) := by decide +kernel
theorem dM_statement_473 : decode cM_statement 473 = .ok (.iaload, 1) := by decide +kernel
theorem dM_statement_474 : decode cM_statement 474 = .ok (.iastore, 1) := by decide +kernel
theorem dM_statement_475 : decode cM_statement 475 = .ok (.iconst 1, 1) := by decide +kernel
theorem dM_statement_476 : decode cM_statement 476 = .ok (.ireturn, 1) := by decide +kernel
theorem dM_statement_477 : decode cM_statement 477 = .ok (.aload_n 0, 1) := by decide +kernel
theorem dM_statement_478 : decode cM_statement 478 = .ok (.bipush 115, 2) := by decide +kernel
theorem dM_statement_480 : decode cM_statement 480 = .ok (.invokevirtual 107, 3) := by decide +kernel
theorem dM_statement_483 : decode cM_statement 483 = .ok (.ifCond .eq 21, 3) := by decide +kernel
theorem dM_statement_486 : decode cM_statement 486 = .ok (.aload_n 0, 1) := by decide +kernel
theorem dM_statement_487 : decode cM_statement 487 = .ok (.iconst 0, 1) := by decide +kernel
theorem dM_statement_488 : decode cM_statement 488 = .ok (.iconst 1, 1) := by decide +kernel
theorem dM_statement_489 : decode cM_statement 489 = .ok (.invokevirtual 111, 3) := by decide +kernel
theorem dM_statement_492 : decode cM_statement 492 = .ok (.ifCond .eq 12, 3) := by decide +kernel
theorem dM_statement_495 : decode cM_statement 495 = .ok (.aload_n 0, 1) := by decide +kernel
theorem dM_statement_496 : decode cM_statement 496 = .ok (.iconst 1, 1) := by decide +kernel
theorem dM_statement_497 : decode cM_statement 497 = .ok (.iconst 1, 1) := by decide +kernel
theorem dM_statement_498 : decode cM_statement 498 = .ok (.invokevirtual 111, 3) := by decide +kernel
theorem dM_statement_501 : decode cM_statement 501 = .ok (.ifCond .ne 5, 3) := by decide +kernel
theorem dM_statement_504 : decode cM_statement 504 = .ok (.iconst (-1), 1) := by decide +kernel
theorem dM_statement_505 : decode cM_statement 505 = .ok (.ireturn, 1) := by decide +kernel
theorem dM_statement_506 : decode cM_statement 506 = .ok (.iload_n 1, 1) := by decide +kernel
theorem dM_statement_507 : decode cM_statement 507 = .ok (.ifCond .ne 5, 3) := by decide +kernel
theorem dM_statement_510 : decode cM_statement 510 = .ok (.iconst 1, 1) := by decide +kernel
theorem dM_statement_511 : decode cM_statement 511 = .ok (.ireturn, 1) := by decide +kernel
theorem dM_statement_512 : decode cM_statement 512 = .ok (.aload_n 0, 1) := by decide +kernel
theorem dM_statement_513 : decode cM_statement 513 = .ok (.getfield 49, 3) := by decide +kernel
theorem dM_statement_516 : decode cM_statement 516 = .ok (.iconst 0, 1) := by decide +kernel
theorem dM_statement_517 : decode cM_statement 517 = .ok (.iaload, 1) := by decide +kernel
theorem dM_statement_518 : decode cM_statement 518 = .ok (.iconst 1, 1) := by decide +kernel
theorem dM_statement_519 : decode cM_statement 519 = .ok (.iconst 5, 1) := by decide +kernel
theorem dM_statement_520 : decode cM_statement 520 = .ok (.invokestatic 73, 3) := by decide +kernel
theorem dM_statement_523 : decode cM_statement 523 = .ok (.ifCond .eq 13, 3) := by decide +kernel
theorem dM_statement_526 : decode cM_statement 526 = .ok (.aload_n 0, 1) := by decide +kernel
theorem dM_statement_527 : decode cM_statement 527 = .ok (.getfield 49, 3) := by decide +kernel
theorem dM_statement_530 : decode cM_statement 530 = .ok (.iconst 1, 1) := by decide +kernel
theorem dM_statement_531 : decode cM_statement 531 = .ok (.iaload, 1) := by decide +kernel
theorem dM_statement_532 : decode cM_statement 532 = .ok (.iconst 5, 1) := by decide +kernel
theorem dM_statement_533 : decode cM_statement 533 = .ok (.if_icmp .le 5, 3) := by decide +kernel
theorem dM_statement_536 : decode cM_statement 536 = .ok (.iconst 0, 1) := by decide +kernel
theorem dM_statement_537 : decode cM_statement 537 = .ok (.ireturn, 1) := by decide +kernel
theorem dM_statement_538 : decode cM_statement 538 = .ok (.aload_n 0, 1) := by decide +kernel
theorem dM_statement_539 : decode cM_statement 539 = .ok (.getfield 43, 3) := by decide +kernel
theorem dM_statement_542 : decode cM_statement 542 = .ok (.aload_n 0, 1) := by decide +kernel
theorem dM_statement_543 : decode cM_statement 543 = .ok (.getfield 49, 3) := by decide +kernel
theorem dM_statement_546 : decode cM_statement 546 = .ok (.iconst 0, 1) := by decide +kernel
theorem dM_statement_547 : decode cM_statement 547 = .ok (.iaload, 1) := by decide +kernel
theorem dM_statement_548 : decode cM_statement 548 = .ok (.aload_n 0, 1) := by decide +kernel
theorem dM_statement_549 : decode cM_statement 549 = .ok (.getfield 49, 3) := by decide +kernel
theorem dM_statement_552 : decode cM_statement 552 = .ok (.iconst 1, 1) := by decide +kernel
theorem dM_statement_553 : decode cM_statement 553 = .ok (.iaload, 1) := by decide +kernel
theorem dM_statement_554 : decode cM_statement 554 = .ok (.iastore, 1) := by decide +kernel
theorem dM_statement_555 : decode cM_statement 555 = .ok (.iconst 1, 1) := by decide +kernel
theorem dM_statement_556 : decode cM_statement 556 = .ok (.ireturn, 1) := by decide +kernel
theorem dM_there_0 : decode cM_there 0 = .ok (.iconst 0, 1) := by decide +kernel
theorem dM_there_1 : decode cM_there 1 = .ok (.istore_n 2, 1) := by decide +kernel
theorem dM_there_2 : decode cM_there 2 = .ok (.iconst 0, 1) := by decide +kernel
theorem dM_there_3 : decode cM_there 3 = .ok (.istore_n 3, 1) := by decide +kernel
theorem dM_there_4 : decode cM_there 4 = .ok (.iload_n 3, 1) := by decide +kernel
theorem dM_there_5 : decode cM_there 5 = .ok (.aload_n 0, 1) := by decide +kernel
theorem dM_there_6 : decode cM_there 6 = .ok (.getfield 81, 3) := by decide +kernel
theorem dM_there_9 : decode cM_there 9 = .ok (.if_icmp .ge 22, 3) := by decide +kernel
theorem dM_there_12 : decode cM_there 12 = .ok (.aload_n 0, 1) := by decide +kernel
theorem dM_there_13 : decode cM_there 13 = .ok (.getfield 34, 3) := by decide +kernel
theorem dM_there_16 : decode cM_there 16 = .ok (.iload_n 3, 1) := by decide +kernel
theorem dM_there_17 : decode cM_there 17 = .ok (.iaload, 1) := by decide +kernel
theorem dM_there_18 : decode cM_there 18 = .ok (.iload_n 1, 1) := by decide +kernel
theorem dM_there_19 : decode cM_there 19 = .ok (.if_icmp .ne 6, 3) := by decide +kernel
theorem dM_there_22 : decode cM_there 22 = .ok (.iinc 2 1, 3) := by decide +kernel
theorem dM_there_25 : decode cM_there 25 = .ok (.iinc 3 1, 3) := by decide +kernel
theorem dM_there_28 : decode cM_there 28 = .ok (.goto (-24), 3) := by decide +kernel
theorem dM_there_31 : decode cM_there 31 = .ok (.iload_n 2, 1) := by decide +kernel
theorem dM_there_32 : decode cM_there 32 = .ok (.ireturn, 1) := by decide +kernel
theorem dM_walk_0 : decode cM_walk 0 = .ok (.iconst 0, 1) := by decide +kernel
theorem dM_walk_1 : decode cM_walk 1 = .ok (.istore_n 2, 1) := by decide +kernel
theorem dM_walk_2 : decode cM_walk 2 = .ok (.iload_n 2, 1) := by decide +kernel
theorem dM_walk_3 : decode cM_walk 3 = .ok (.bipush 7, 2) := by decide +kernel
theorem dM_walk_5 : decode cM_walk 5 = .ok (.if_icmp .ge 27, 3) := by decide +kernel
theorem dM_walk_8 : decode cM_walk 8 = .ok (.aload_n 0, 1) := by decide +kernel
theorem dM_walk_9 : decode cM_walk 9 = .ok (.getfield 64, 3) := by decide +kernel
theorem dM_walk_12 : decode cM_walk 12 = .ok (.iload_n 2, 1) := by decide +kernel
theorem dM_walk_13 : decode cM_walk 13 = .ok (.iload_n 2, 1) := by decide +kernel
theorem dM_walk_14 : decode cM_walk 14 = .ok (.iload_n 1, 1) := by decide +kernel
theorem dM_walk_15 : decode cM_walk 15 = .ok (.if_icmp .ne 7, 3) := by decide +kernel
theorem dM_walk_18 : decode cM_walk 18 = .ok (.iconst 0, 1) := by decide +kernel
theorem dM_walk_19 : decode cM_walk 19 = .ok (.goto 6, 3) := by decide +kernel
theorem dM_walk_22 : decode cM_walk 22 = .ok (.sipush 10000, 3) := by decide +kernel
theorem dM_walk_25 : decode cM_walk 25 = .ok (.iastore, 1) := by decide +kernel
theorem dM_walk_26 : decode cM_walk 26 = .ok (.iinc 2 1, 3) := by decide +kernel
theorem dM_walk_29 : decode cM_walk 29 = .ok (.goto (-27), 3) := by decide +kernel
theorem dM_walk_32 : decode cM_walk 32 = .ok (.iconst 0, 1) := by decide +kernel
theorem dM_walk_33 : decode cM_walk 33 = .ok (.istore_n 2, 1) := by decide +kernel
theorem dM_walk_34 : decode cM_walk 34 = .ok (.iload_n 2, 1) := by decide +kernel
theorem dM_walk_35 : decode cM_walk 35 = .ok (.bipush 7, 2) := by decide +kernel
theorem dM_walk_37 : decode cM_walk 37 = .ok (.if_icmp .ge 111, 3) := by decide +kernel
theorem dM_walk_40 : decode cM_walk 40 = .ok (.iconst 0, 1) := by decide +kernel
theorem dM_walk_41 : decode cM_walk 41 = .ok (.istore_n 3, 1) := by decide +kernel
theorem dM_walk_42 : decode cM_walk 42 = .ok (.iload_n 3, 1) := by decide +kernel
theorem dM_walk_43 : decode cM_walk 43 = .ok (.aload_n 0, 1) := by decide +kernel
theorem dM_walk_44 : decode cM_walk 44 = .ok (.getfield 77, 3) := by decide +kernel
theorem dM_walk_47 : decode cM_walk 47 = .ok (.if_icmp .ge 95, 3) := by decide +kernel
theorem dM_walk_50 : decode cM_walk 50 = .ok (.aload_n 0, 1) := by decide +kernel
theorem dM_walk_51 : decode cM_walk 51 = .ok (.getfield 64, 3) := by decide +kernel
theorem dM_walk_54 : decode cM_walk 54 = .ok (.aload_n 0, 1) := by decide +kernel
theorem dM_walk_55 : decode cM_walk 55 = .ok (.getfield 16, 3) := by decide +kernel
theorem dM_walk_58 : decode cM_walk 58 = .ok (.iload_n 3, 1) := by decide +kernel
theorem dM_walk_59 : decode cM_walk 59 = .ok (.iaload, 1) := by decide +kernel
theorem dM_walk_60 : decode cM_walk 60 = .ok (.aload_n 0, 1) := by decide +kernel
theorem dM_walk_61 : decode cM_walk 61 = .ok (.getfield 64, 3) := by decide +kernel
theorem dM_walk_64 : decode cM_walk 64 = .ok (.aload_n 0, 1) := by decide +kernel
theorem dM_walk_65 : decode cM_walk 65 = .ok (.getfield 16, 3) := by decide +kernel
theorem dM_walk_68 : decode cM_walk 68 = .ok (.iload_n 3, 1) := by decide +kernel
theorem dM_walk_69 : decode cM_walk 69 = .ok (.iaload, 1) := by decide +kernel
theorem dM_walk_70 : decode cM_walk 70 = .ok (.iaload, 1) := by decide +kernel
theorem dM_walk_71 : decode cM_walk 71 = .ok (.aload_n 0, 1) := by decide +kernel
theorem dM_walk_72 : decode cM_walk 72 = .ok (.getfield 64, 3) := by decide +kernel
theorem dM_walk_75 : decode cM_walk 75 = .ok (.aload_n 0, 1) := by decide +kernel
theorem dM_walk_76 : decode cM_walk 76 = .ok (.getfield 19, 3) := by decide +kernel
theorem dM_walk_79 : decode cM_walk 79 = .ok (.iload_n 3, 1) := by decide +kernel
theorem dM_walk_80 : decode cM_walk 80 = .ok (.iaload, 1) := by decide +kernel
theorem dM_walk_81 : decode cM_walk 81 = .ok (.iaload, 1) := by decide +kernel
theorem dM_walk_82 : decode cM_walk 82 = .ok (.aload_n 0, 1) := by decide +kernel
theorem dM_walk_83 : decode cM_walk 83 = .ok (.getfield 25, 3) := by decide +kernel
theorem dM_walk_86 : decode cM_walk 86 = .ok (.iload_n 3, 1) := by decide +kernel
theorem dM_walk_87 : decode cM_walk 87 = .ok (.iaload, 1) := by decide +kernel
theorem dM_walk_88 : decode cM_walk 88 = .ok (.iadd, 1) := by decide +kernel
theorem dM_walk_89 : decode cM_walk 89 = .ok (.invokestatic 98, 3) := by decide +kernel
theorem dM_walk_92 : decode cM_walk 92 = .ok (.iastore, 1) := by decide +kernel
theorem dM_walk_93 : decode cM_walk 93 = .ok (.aload_n 0, 1) := by decide +kernel
theorem dM_walk_94 : decode cM_walk 94 = .ok (.getfield 64, 3) := by decide +kernel
theorem dM_walk_97 : decode cM_walk 97 = .ok (.aload_n 0, 1) := by decide +kernel
theorem dM_walk_98 : decode cM_walk 98 = .ok (.getfield 19, 3) := by decide +kernel
theorem dM_walk_101 : decode cM_walk 101 = .ok (.iload_n 3, 1) := by decide +kernel
theorem dM_walk_102 : decode cM_walk 102 = .ok (.iaload, 1) := by decide +kernel
theorem dM_walk_103 : decode cM_walk 103 = .ok (.aload_n 0, 1) := by decide +kernel
theorem dM_walk_104 : decode cM_walk 104 = .ok (.getfield 64, 3) := by decide +kernel
theorem dM_walk_107 : decode cM_walk 107 = .ok (.aload_n 0, 1) := by decide +kernel
theorem dM_walk_108 : decode cM_walk 108 = .ok (.getfield 19, 3) := by decide +kernel
theorem dM_walk_111 : decode cM_walk 111 = .ok (.iload_n 3, 1) := by decide +kernel
theorem dM_walk_112 : decode cM_walk 112 = .ok (.iaload, 1) := by decide +kernel
theorem dM_walk_113 : decode cM_walk 113 = .ok (.iaload, 1) := by decide +kernel
theorem dM_walk_114 : decode cM_walk 114 = .ok (.aload_n 0, 1) := by decide +kernel
theorem dM_walk_115 : decode cM_walk 115 = .ok (.getfield 64, 3) := by decide +kernel
theorem dM_walk_118 : decode cM_walk 118 = .ok (.aload_n 0, 1) := by decide +kernel
theorem dM_walk_119 : decode cM_walk 119 = .ok (.getfield 16, 3) := by decide +kernel
theorem dM_walk_122 : decode cM_walk 122 = .ok (.iload_n 3, 1) := by decide +kernel
theorem dM_walk_123 : decode cM_walk 123 = .ok (.iaload, 1) := by decide +kernel
theorem dM_walk_124 : decode cM_walk 124 = .ok (.iaload, 1) := by decide +kernel
theorem dM_walk_125 : decode cM_walk 125 = .ok (.aload_n 0, 1) := by decide +kernel
theorem dM_walk_126 : decode cM_walk 126 = .ok (.getfield 25, 3) := by decide +kernel
theorem dM_walk_129 : decode cM_walk 129 = .ok (.iload_n 3, 1) := by decide +kernel
theorem dM_walk_130 : decode cM_walk 130 = .ok (.iaload, 1) := by decide +kernel
theorem dM_walk_131 : decode cM_walk 131 = .ok (.iadd, 1) := by decide +kernel
theorem dM_walk_132 : decode cM_walk 132 = .ok (.invokestatic 98, 3) := by decide +kernel
theorem dM_walk_135 : decode cM_walk 135 = .ok (.iastore, 1) := by decide +kernel
theorem dM_walk_136 : decode cM_walk 136 = .ok (.iinc 3 1, 3) := by decide +kernel
theorem dM_walk_139 : decode cM_walk 139 = .ok (.goto (-97), 3) := by decide +kernel
theorem dM_walk_142 : decode cM_walk 142 = .ok (.iinc 2 1, 3) := by decide +kernel
theorem dM_walk_145 : decode cM_walk 145 = .ok (.goto (-111), 3) := by decide +kernel
theorem dM_walk_148 : decode cM_walk 148 = .ok (.return_, 1) := by decide +kernel
theorem dM_way_0 : decode cM_way 0 = .ok (.iload_n 1, 1) := by decide +kernel
theorem dM_way_1 : decode cM_way 1 = .ok (.invokestatic 170, 3) := by decide +kernel
theorem dM_way_4 : decode cM_way 4 = .ok (.ifCond .eq 10, 3) := by decide +kernel
theorem dM_way_7 : decode cM_way 7 = .ok (.iload_n 2, 1) := by decide +kernel
theorem dM_way_8 : decode cM_way 8 = .ok (.invokestatic 170, 3) := by decide +kernel
theorem dM_way_11 : decode cM_way 11 = .ok (.ifCond .ne 9, 3) := by decide +kernel
theorem dM_way_14 : decode cM_way 14 = .ok (.aload_n 0, 1) := by decide +kernel
theorem dM_way_15 : decode cM_way 15 = .ok (.iconst (-1), 1) := by decide +kernel
theorem dM_way_16 : decode cM_way 16 = .ok (.invokevirtual 84, 3) := by decide +kernel
theorem dM_way_19 : decode cM_way 19 = .ok (.ireturn, 1) := by decide +kernel
theorem dM_way_20 : decode cM_way 20 = .ok (.aload_n 0, 1) := by decide +kernel
theorem dM_way_21 : decode cM_way 21 = .ok (.iload_n 1, 1) := by decide +kernel
theorem dM_way_22 : decode cM_way 22 = .ok (.invokevirtual 173, 3) := by decide +kernel
theorem dM_way_25 : decode cM_way 25 = .ok (.aload_n 0, 1) := by decide +kernel
theorem dM_way_26 : decode cM_way 26 = .ok (.getfield 64, 3) := by decide +kernel
theorem dM_way_29 : decode cM_way 29 = .ok (.iload_n 2, 1) := by decide +kernel
theorem dM_way_30 : decode cM_way 30 = .ok (.iaload, 1) := by decide +kernel
theorem dM_way_31 : decode cM_way 31 = .ok (.sipush 10000, 3) := by decide +kernel
theorem dM_way_34 : decode cM_way 34 = .ok (.if_icmp .ge 12, 3) := by decide +kernel
theorem dM_way_37 : decode cM_way 37 = .ok (.aload_n 0, 1) := by decide +kernel
theorem dM_way_38 : decode cM_way 38 = .ok (.getfield 64, 3) := by decide +kernel
theorem dM_way_41 : decode cM_way 41 = .ok (.iload_n 2, 1) := by decide +kernel
theorem dM_way_42 : decode cM_way 42 = .ok (.iaload, 1) := by decide +kernel
theorem dM_way_43 : decode cM_way 43 = .ok (.goto 5, 3) := by decide +kernel
theorem dM_way_46 : decode cM_way 46 = .ok (.bipush (-9), 2) := by decide +kernel
theorem dM_way_48 : decode cM_way 48 = .ok (.ireturn, 1) := by decide +kernel
theorem dM_within_0 : decode cM_within 0 = .ok (.iload_n 0, 1) := by decide +kernel
theorem dM_within_1 : decode cM_within 1 = .ok (.iload_n 1, 1) := by decide +kernel
theorem dM_within_2 : decode cM_within 2 = .ok (.if_icmp .lt 12, 3) := by decide +kernel
theorem dM_within_5 : decode cM_within 5 = .ok (.iload_n 0, 1) := by decide +kernel
theorem dM_within_6 : decode cM_within 6 = .ok (.iload_n 2, 1) := by decide +kernel
theorem dM_within_7 : decode cM_within 7 = .ok (.if_icmp .gt 7, 3) := by decide +kernel
theorem dM_within_10 : decode cM_within 10 = .ok (.iconst 1, 1) := by decide +kernel
theorem dM_within_11 : decode cM_within 11 = .ok (.goto 4, 3) := by decide +kernel
theorem dM_within_14 : decode cM_within 14 = .ok (.iconst 0, 1) := by decide +kernel
theorem dM_within_15 : decode cM_within 15 = .ok (.ireturn, 1) := by decide +kernel
