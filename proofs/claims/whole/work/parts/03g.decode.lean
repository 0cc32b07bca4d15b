theorem dX11_mint_103 : decode cX11_mint 103 = .ok (.aload_n 0, 1) := by decide +kernel
theorem dX11_mint_104 : decode cX11_mint 104 = .ok (.getfield 31, 3) := by decide +kernel
theorem dX11_mint_107 : decode cX11_mint 107 = .ok (.aload_n 0, 1) := by decide +kernel
theorem dX11_mint_108 : decode cX11_mint 108 = .ok (.getfield 9, 3) := by decide +kernel
theorem dX11_mint_111 : decode cX11_mint 111 = .ok (.invokestatic 335, 3) := by decide +kernel
theorem dX11_mint_114 : decode cX11_mint 114 = .ok (.aload_n 0, 1) := by decide +kernel
theorem dX11_mint_115 : decode cX11_mint 115 = .ok (.getfield 34, 3) := by decide +kernel
theorem dX11_mint_118 : decode cX11_mint 118 = .ok (.aload_n 0, 1) := by decide +kernel
theorem dX11_mint_119 : decode cX11_mint 119 = .ok (.getfield 13, 3) := by decide +kernel
theorem dX11_mint_122 : decode cX11_mint 122 = .ok (.invokestatic 335, 3) := by decide +kernel
theorem dX11_mint_125 : decode cX11_mint 125 = .ok (.aload_n 0, 1) := by decide +kernel
theorem dX11_mint_126 : decode cX11_mint 126 = .ok (.getfield 37, 3) := by decide +kernel
theorem dX11_mint_129 : decode cX11_mint 129 = .ok (.aload_n 0, 1) := by decide +kernel
theorem dX11_mint_130 : decode cX11_mint 130 = .ok (.getfield 16, 3) := by decide +kernel
theorem dX11_mint_133 : decode cX11_mint 133 = .ok (.invokestatic 335, 3) := by decide +kernel
theorem dX11_mint_136 : decode cX11_mint 136 = .ok (.aload_n 0, 1) := by decide +kernel
theorem dX11_mint_137 : decode cX11_mint 137 = .ok (.getfield 40, 3) := by decide +kernel
theorem dX11_mint_140 : decode cX11_mint 140 = .ok (.aload_n 0, 1) := by decide +kernel
theorem dX11_mint_141 : decode cX11_mint 141 = .ok (.getfield 19, 3) := by decide +kernel
theorem dX11_mint_144 : decode cX11_mint 144 = .ok (.invokestatic 335, 3) := by decide +kernel
theorem dX11_mint_147 : decode cX11_mint 147 = .ok (.aload_n 0, 1) := by decide +kernel
theorem dX11_mint_148 : decode cX11_mint 148 = .ok (.getfield 43, 3) := by decide +kernel
theorem dX11_mint_151 : decode cX11_mint 151 = .ok (.aload_n 0, 1) := by decide +kernel
theorem dX11_mint_152 : decode cX11_mint 152 = .ok (.getfield 22, 3) := by decide +kernel
theorem dX11_mint_155 : decode cX11_mint 155 = .ok (.invokestatic 335, 3) := by decide +kernel
theorem dX11_mint_158 : decode cX11_mint 158 = .ok (.aload_n 0, 1) := by decide +kernel
theorem dX11_mint_159 : decode cX11_mint 159 = .ok (.getfield 46, 3) := by decide +kernel
theorem dX11_mint_162 : decode cX11_mint 162 = .ok (.aload_n 0, 1) := by decide +kernel
theorem dX11_mint_163 : decode cX11_mint 163 = .ok (.getfield 25, 3) := by decide +kernel
theorem dX11_mint_166 : decode cX11_mint 166 = .ok (.invokestatic 335, 3) := by decide +kernel
theorem dX11_mint_169 : decode cX11_mint 169 = .ok (.aload_n 0, 1) := by decide +kernel
theorem dX11_mint_170 : decode cX11_mint 170 = .ok (.getfield 49, 3) := by decide +kernel
theorem dX11_mint_173 : decode cX11_mint 173 = .ok (.aload_n 0, 1) := by decide +kernel
theorem dX11_mint_174 : decode cX11_mint 174 = .ok (.getfield 28, 3) := by decide +kernel
theorem dX11_mint_177 : decode cX11_mint 177 = .ok (.invokestatic 335, 3) := by decide +kernel
theorem dX11_mint_180 : decode cX11_mint 180 = .ok (.iconst 0, 1) := by decide +kernel
theorem dX11_mint_181 : decode cX11_mint 181 = .ok (.istore_n 3, 1) := by decide +kernel
theorem dX11_mint_182 : decode cX11_mint 182 = .ok (.iload_n 3, 1) := by decide +kernel
theorem dX11_mint_183 : decode cX11_mint 183 = .ok (.bipush 12, 2) := by decide +kernel
theorem dX11_mint_185 : decode cX11_mint 185 = .ok (.if_icmp .ge 23, 3) := by decide +kernel
theorem dX11_mint_188 : decode cX11_mint 188 = .ok (.aload_n 0, 1) := by decide +kernel
theorem dX11_mint_189 : decode cX11_mint 189 = .ok (.getfield 52, 3) := by decide +kernel
theorem dX11_mint_192 : decode cX11_mint 192 = .ok (.iload_n 3, 1) := by decide +kernel
theorem dX11_mint_193 : decode cX11_mint 193 = .ok (.iconst 0, 1) := by decide +kernel
theorem dX11_mint_194 : decode cX11_mint 194 = .ok (.iastore, 1) := by decide +kernel
theorem dX11_mint_195 : decode cX11_mint 195 = .ok (.aload_n 0, 1) := by decide +kernel
theorem dX11_mint_196 : decode cX11_mint 196 = .ok (.getfield 55, 3) := by decide +kernel
theorem dX11_mint_199 : decode cX11_mint 199 = .ok (.iload_n 3, 1) := by decide +kernel
theorem dX11_mint_200 : decode cX11_mint 200 = .ok (.iconst 0, 1) := by decide +kernel
theorem dX11_mint_201 : decode cX11_mint 201 = .ok (.iastore, 1) := by decide +kernel
theorem dX11_mint_202 : decode cX11_mint 202 = .ok (.iinc 3 1, 3) := by decide +kernel
theorem dX11_mint_205 : decode cX11_mint 205 = .ok (.goto (-23), 3) := by decide +kernel
theorem dX11_mint_208 : decode cX11_mint 208 = .ok (.aload_n 0, 1) := by decide +kernel
theorem dX11_mint_209 : decode cX11_mint 209 = .ok (.getfield 9, 3) := by decide +kernel
theorem dX11_mint_212 : decode cX11_mint 212 = .ok (.iconst 4, 1) := by decide +kernel
theorem dX11_mint_213 : decode cX11_mint 213 = .ok (.iconst 0, 1) := by decide +kernel
theorem dX11_mint_214 : decode cX11_mint 214 = .ok (.iastore, 1) := by decide +kernel
theorem dX11_mint_215 : decode cX11_mint 215 = .ok (.aload_n 0, 1) := by decide +kernel
theorem dX11_mint_216 : decode cX11_mint 216 = .ok (.getfield 9, 3) := by decide +kernel
theorem dX11_mint_219 : decode cX11_mint 219 = .ok (.iconst 5, 1) := by decide +kernel
theorem dX11_mint_220 : decode cX11_mint 220 = .ok (.iconst 0, 1) := by decide +kernel
theorem dX11_mint_221 : decode cX11_mint 221 = .ok (.iastore, 1) := by decide +kernel
theorem dX11_mint_222 : decode cX11_mint 222 = .ok (.aload_n 0, 1) := by decide +kernel
theorem dX11_mint_223 : decode cX11_mint 223 = .ok (.getfield 9, 3) := by decide +kernel
theorem dX11_mint_226 : decode cX11_mint 226 = .ok (.iconst 0, 1) := by decide +kernel
theorem dX11_mint_227 : decode cX11_mint 227 = .ok (.iaload, 1) := by decide +kernel
theorem dX11_mint_228 : decode cX11_mint 228 = .ok (.ireturn, 1) := by decide +kernel
theorem dX11_lawClause_0 : decode cX11_lawClause 0 = .ok (.aload_n 0, 1) := by decide +kernel
theorem dX11_lawClause_1 : decode cX11_lawClause 1 = .ok (.invokevirtual 231, 3) := by decide +kernel
theorem dX11_lawClause_4 : decode cX11_lawClause 4 = .ok (.aload_n 0, 1) := by decide +kernel
theorem dX11_lawClause_5 : decode cX11_lawClause 5 = .ok (.getfield 211, 3) := by decide +kernel
theorem dX11_lawClause_8 : decode cX11_lawClause 8 = .ok (.istore_n 2, 1) := by decide +kernel
theorem dX11_lawClause_9 : decode cX11_lawClause 9 = .ok (.aload_n 0, 1) := by decide +kernel
theorem dX11_lawClause_10 : decode cX11_lawClause 10 = .ok (.ldc 189, 2) := by decide +kernel
theorem dX11_lawClause_12 : decode cX11_lawClause 12 = .ok (.invokevirtual 234, 3) := by decide +kernel
theorem dX11_lawClause_15 : decode cX11_lawClause 15 = .ok (.istore_n 3, 1) := by decide +kernel
theorem dX11_lawClause_16 : decode cX11_lawClause 16 = .ok (.iload_n 3, 1) := by decide +kernel
theorem dX11_lawClause_17 : decode cX11_lawClause 17 = .ok (.ifCond .ne 19, 3) := by decide +kernel
theorem dX11_lawClause_20 : decode cX11_lawClause 20 = .ok (.aload_n 0, 1) := by decide +kernel
theorem dX11_lawClause_21 : decode cX11_lawClause 21 = .ok (.ldc 188, 2) := by decide +kernel
theorem dX11_lawClause_23 : decode cX11_lawClause 23 = .ok (.invokevirtual 234, 3) := by decide +kernel
theorem dX11_lawClause_26 : decode cX11_lawClause 26 = .ok (.ifCond .ne 10, 3) := by decide +kernel
theorem dX11_lawClause_29 : decode cX11_lawClause 29 = .ok (.aload_n 0, 1) := by decide +kernel
theorem dX11_lawClause_30 : decode cX11_lawClause 30 = .ok (.iconst 0, 1) := by decide +kernel
theorem dX11_lawClause_31 : decode cX11_lawClause 31 = .ok (.iload_n 2, 1) := by decide +kernel
theorem dX11_lawClause_32 : decode cX11_lawClause 32 = .ok (.invokevirtual 247, 3) := by decide +kernel
theorem dX11_lawClause_35 : decode cX11_lawClause 35 = .ok (.return_, 1) := by decide +kernel
theorem dX11_lawClause_36 : decode cX11_lawClause 36 = .ok (.iload_n 1, 1) := by decide +kernel
theorem dX11_lawClause_37 : decode cX11_lawClause 37 = .ok (.bipush 12, 2) := by decide +kernel
theorem dX11_lawClause_39 : decode cX11_lawClause 39 = .ok (.if_icmp .ne 10, 3) := by decide +kernel
theorem dX11_lawClause_42 : decode cX11_lawClause 42 = .ok (.aload_n 0, 1) := by decide +kernel
theorem dX11_lawClause_43 : decode cX11_lawClause 43 = .ok (.iconst 4, 1) := by decide +kernel
theorem dX11_lawClause_44 : decode cX11_lawClause 44 = .ok (.iload_n 2, 1) := by decide +kernel
theorem dX11_lawClause_45 : decode cX11_lawClause 45 = .ok (.invokevirtual 247, 3) := by decide +kernel
theorem dX11_lawClause_48 : decode cX11_lawClause 48 = .ok (.return_, 1) := by decide +kernel
theorem dX11_lawClause_49 : decode cX11_lawClause 49 = .ok (.aload_n 0, 1) := by decide +kernel
theorem dX11_lawClause_50 : decode cX11_lawClause 50 = .ok (.dup, 1) := by decide +kernel
theorem dX11_lawClause_51 : decode cX11_lawClause 51 = .ok (.getfield 211, 3) := by decide +kernel
theorem dX11_lawClause_54 : decode cX11_lawClause 54 = .ok (.iload_n 3, 1) := by decide +kernel
theorem dX11_lawClause_55 : decode cX11_lawClause 55 = .ok (.ifCond .eq 8, 3) := by decide +kernel
theorem dX11_lawClause_58 : decode cX11_lawClause 58 = .ok (.bipush 8, 2) := by decide +kernel
theorem dX11_lawClause_60 : decode cX11_lawClause 60 = .ok (.goto 4, 3) := by decide +kernel
theorem dX11_lawClause_63 : decode cX11_lawClause 63 = .ok (.iconst 4, 1) := by decide +kernel
theorem dX11_lawClause_64 : decode cX11_lawClause 64 = .ok (.iadd, 1) := by decide +kernel
theorem dX11_lawClause_65 : decode cX11_lawClause 65 = .ok (.putfield 211, 3) := by decide +kernel
theorem dX11_lawClause_68 : decode cX11_lawClause 68 = .ok (.bipush 12, 2) := by decide +kernel
theorem dX11_lawClause_70 : decode cX11_lawClause 70 = .ok (.aload_n 0, 1) := by decide +kernel
theorem dX11_lawClause_71 : decode cX11_lawClause 71 = .ok (.getfield 238, 3) := by decide +kernel
theorem dX11_lawClause_74 : decode cX11_lawClause 74 = .ok (.imul, 1) := by decide +kernel
theorem dX11_lawClause_75 : decode cX11_lawClause 75 = .ok (.iload_n 1, 1) := by decide +kernel
theorem dX11_lawClause_76 : decode cX11_lawClause 76 = .ok (.iadd, 1) := by decide +kernel
theorem dX11_lawClause_77 : decode cX11_lawClause 77 = .ok (.istore 4, 2) := by decide +kernel
theorem dX11_lawClause_79 : decode cX11_lawClause 79 = .ok (.aload_n 0, 1) := by decide +kernel
theorem dX11_lawClause_80 : decode cX11_lawClause 80 = .ok (.getfield 84, 3) := by decide +kernel
theorem dX11_lawClause_83 : decode cX11_lawClause 83 = .ok (.iload 4, 2) := by decide +kernel
theorem dX11_lawClause_85 : decode cX11_lawClause 85 = .ok (.iload_n 3, 1) := by decide +kernel
theorem dX11_lawClause_86 : decode cX11_lawClause 86 = .ok (.ifCond .eq 7, 3) := by decide +kernel
theorem dX11_lawClause_89 : decode cX11_lawClause 89 = .ok (.iconst 1, 1) := by decide +kernel
theorem dX11_lawClause_90 : decode cX11_lawClause 90 = .ok (.goto 4, 3) := by decide +kernel
theorem dX11_lawClause_93 : decode cX11_lawClause 93 = .ok (.iconst 0, 1) := by decide +kernel
theorem dX11_lawClause_94 : decode cX11_lawClause 94 = .ok (.iastore, 1) := by decide +kernel
theorem dX11_lawClause_95 : decode cX11_lawClause 95 = .ok (.aload_n 0, 1) := by decide +kernel
theorem dX11_lawClause_96 : decode cX11_lawClause 96 = .ok (.getfield 87, 3) := by decide +kernel
theorem dX11_lawClause_99 : decode cX11_lawClause 99 = .ok (.iload 4, 2) := by decide +kernel
theorem dX11_lawClause_101 : decode cX11_lawClause 101 = .ok (.aload_n 0, 1) := by decide +kernel
theorem dX11_lawClause_102 : decode cX11_lawClause 102 = .ok (.getfield 241, 3) := by decide +kernel
theorem dX11_lawClause_105 : decode cX11_lawClause 105 = .ok (.iastore, 1) := by decide +kernel
theorem dX11_lawClause_106 : decode cX11_lawClause 106 = .ok (.aload_n 0, 1) := by decide +kernel
theorem dX11_lawClause_107 : decode cX11_lawClause 107 = .ok (.invokevirtual 276, 3) := by decide +kernel
theorem dX11_lawClause_110 : decode cX11_lawClause 110 = .ok (.aload_n 0, 1) := by decide +kernel
theorem dX11_lawClause_111 : decode cX11_lawClause 111 = .ok (.getfield 90, 3) := by decide +kernel
theorem dX11_lawClause_114 : decode cX11_lawClause 114 = .ok (.iload 4, 2) := by decide +kernel
theorem dX11_lawClause_116 : decode cX11_lawClause 116 = .ok (.aload_n 0, 1) := by decide +kernel
theorem dX11_lawClause_117 : decode cX11_lawClause 117 = .ok (.getfield 241, 3) := by decide +kernel
theorem dX11_lawClause_120 : decode cX11_lawClause 120 = .ok (.iastore, 1) := by decide +kernel
theorem dX11_lawClause_121 : decode cX11_lawClause 121 = .ok (.aload_n 0, 1) := by decide +kernel
theorem dX11_lawClause_122 : decode cX11_lawClause 122 = .ok (.getfield 208, 3) := by decide +kernel
theorem dX11_lawClause_125 : decode cX11_lawClause 125 = .ok (.ifCond .ne 17, 3) := by decide +kernel
theorem dX11_lawClause_128 : decode cX11_lawClause 128 = .ok (.aload_n 0, 1) := by decide +kernel
theorem dX11_lawClause_129 : decode cX11_lawClause 129 = .ok (.ldc_w 339, 3) := by decide +kernel
theorem dX11_lawClause_132 : decode cX11_lawClause 132 = .ok (.invokevirtual 341, 3) := by decide +kernel
theorem dX11_lawClause_135 : decode cX11_lawClause 135 = .ok (.ifCond .eq 7, 3) := by decide +kernel
theorem dX11_lawClause_138 : decode cX11_lawClause 138 = .ok (.aload_n 0, 1) := by decide +kernel
theorem dX11_lawClause_139 : decode cX11_lawClause 139 = .ok (.invokevirtual 344, 3) := by decide +kernel
theorem dX11_lawClause_142 : decode cX11_lawClause 142 = .ok (.aload_n 0, 1) := by decide +kernel
theorem dX11_lawClause_143 : decode cX11_lawClause 143 = .ok (.getfield 93, 3) := by decide +kernel
theorem dX11_lawClause_146 : decode cX11_lawClause 146 = .ok (.iload 4, 2) := by decide +kernel
theorem dX11_lawClause_148 : decode cX11_lawClause 148 = .ok (.aload_n 0, 1) := by decide +kernel
theorem dX11_lawClause_149 : decode cX11_lawClause 149 = .ok (.getfield 241, 3) := by decide +kernel
theorem dX11_lawClause_152 : decode cX11_lawClause 152 = .ok (.iastore, 1) := by decide +kernel
theorem dX11_lawClause_153 : decode cX11_lawClause 153 = .ok (.return_, 1) := by decide +kernel
theorem dX11_law_0 : decode cX11_law 0 = .ok (.aload_n 0, 1) := by decide +kernel
theorem dX11_law_1 : decode cX11_law 1 = .ok (.getfield 347, 3) := by decide +kernel
theorem dX11_law_4 : decode cX11_law 4 = .ok (.bipush 6, 2) := by decide +kernel
theorem dX11_law_6 : decode cX11_law 6 = .ok (.if_icmp .ne 5, 3) := by decide +kernel
theorem dX11_law_9 : decode cX11_law 9 = .ok (.iconst (-1), 1) := by decide +kernel
theorem dX11_law_10 : decode cX11_law 10 = .ok (.ireturn, 1) := by decide +kernel
theorem dX11_law_11 : decode cX11_law 11 = .ok (.aload_n 0, 1) := by decide +kernel
theorem dX11_law_12 : decode cX11_law 12 = .ok (.aload_n 0, 1) := by decide +kernel
theorem dX11_law_13 : decode cX11_law 13 = .ok (.getfield 347, 3) := by decide +kernel
theorem dX11_law_16 : decode cX11_law 16 = .ok (.putfield 238, 3) := by decide +kernel
theorem dX11_law_19 : decode cX11_law 19 = .ok (.aload_n 0, 1) := by decide +kernel
theorem dX11_law_20 : decode cX11_law 20 = .ok (.invokevirtual 326, 3) := by decide +kernel
theorem dX11_law_23 : decode cX11_law 23 = .ok (.iconst 0, 1) := by decide +kernel
theorem dX11_law_24 : decode cX11_law 24 = .ok (.istore_n 1, 1) := by decide +kernel
theorem dX11_law_25 : decode cX11_law 25 = .ok (.iconst 1, 1) := by decide +kernel
theorem dX11_law_26 : decode cX11_law 26 = .ok (.istore_n 2, 1) := by decide +kernel
theorem dX11_law_27 : decode cX11_law 27 = .ok (.iload_n 2, 1) := by decide +kernel
theorem dX11_law_28 : decode cX11_law 28 = .ok (.ifCond .eq 19, 3) := by decide +kernel
theorem dX11_law_31 : decode cX11_law 31 = .ok (.aload_n 0, 1) := by decide +kernel
theorem dX11_law_32 : decode cX11_law 32 = .ok (.iload_n 1, 1) := by decide +kernel
theorem dX11_law_33 : decode cX11_law 33 = .ok (.invokevirtual 350, 3) := by decide +kernel
theorem dX11_law_36 : decode cX11_law 36 = .ok (.iinc 1 1, 3) := by decide +kernel
theorem dX11_law_39 : decode cX11_law 39 = .ok (.aload_n 0, 1) := by decide +kernel
theorem dX11_law_40 : decode cX11_law 40 = .ok (.invokevirtual 332, 3) := by decide +kernel
theorem dX11_law_43 : decode cX11_law 43 = .ok (.istore_n 2, 1) := by decide +kernel
theorem dX11_law_44 : decode cX11_law 44 = .ok (.goto (-17), 3) := by decide +kernel
theorem dX11_law_47 : decode cX11_law 47 = .ok (.aload_n 0, 1) := by decide +kernel
theorem dX11_law_48 : decode cX11_law 48 = .ok (.iconst 0, 1) := by decide +kernel
theorem dX11_law_49 : decode cX11_law 49 = .ok (.putfield 181, 3) := by decide +kernel
theorem dX11_law_52 : decode cX11_law 52 = .ok (.aload_n 0, 1) := by decide +kernel
theorem dX11_law_53 : decode cX11_law 53 = .ok (.getfield 81, 3) := by decide +kernel
theorem dX11_law_56 : decode cX11_law 56 = .ok (.aload_n 0, 1) := by decide +kernel
theorem dX11_law_57 : decode cX11_law 57 = .ok (.getfield 238, 3) := by decide +kernel
theorem dX11_law_60 : decode cX11_law 60 = .ok (.iload_n 1, 1) := by decide +kernel
theorem dX11_law_61 : decode cX11_law 61 = .ok (.iastore, 1) := by decide +kernel
theorem dX11_law_62 : decode cX11_law 62 = .ok (.aload_n 0, 1) := by decide +kernel
theorem dX11_law_63 : decode cX11_law 63 = .ok (.dup, 1) := by decide +kernel
theorem dX11_law_64 : decode cX11_law 64 = .ok (.getfield 347, 3) := by decide +kernel
theorem dX11_law_67 : decode cX11_law 67 = .ok (.aload_n 0, 1) := by decide +kernel
theorem dX11_law_68 : decode cX11_law 68 = .ok (.getfield 208, 3) := by decide +kernel
theorem dX11_law_71 : decode cX11_law 71 = .ok (.ifCond .ne 7, 3) := by decide +kernel
theorem dX11_law_74 : decode cX11_law 74 = .ok (.iconst 1, 1) := by decide +kernel
theorem dX11_law_75 : decode cX11_law 75 = .ok (.goto 4, 3) := by decide +kernel
theorem dX11_law_78 : decode cX11_law 78 = .ok (.iconst 0, 1) := by decide +kernel
theorem dX11_law_79 : decode cX11_law 79 = .ok (.iadd, 1) := by decide +kernel
theorem dX11_law_80 : decode cX11_law 80 = .ok (.putfield 347, 3) := by decide +kernel
theorem dX11_law_83 : decode cX11_law 83 = .ok (.aload_n 0, 1) := by decide +kernel
theorem dX11_law_84 : decode cX11_law 84 = .ok (.getfield 208, 3) := by decide +kernel
theorem dX11_law_87 : decode cX11_law 87 = .ok (.ifCond .le 13, 3) := by decide +kernel
theorem dX11_law_90 : decode cX11_law 90 = .ok (.bipush (-2), 2) := by decide +kernel
theorem dX11_law_92 : decode cX11_law 92 = .ok (.aload_n 0, 1) := by decide +kernel
theorem dX11_law_93 : decode cX11_law 93 = .ok (.getfield 208, 3) := by decide +kernel
theorem dX11_law_96 : decode cX11_law 96 = .ok (.isub, 1) := by decide +kernel
theorem dX11_law_97 : decode cX11_law 97 = .ok (.goto 9, 3) := by decide +kernel
theorem dX11_law_100 : decode cX11_law 100 = .ok (.aload_n 0, 1) := by decide +kernel
theorem dX11_law_101 : decode cX11_law 101 = .ok (.getfield 347, 3) := by decide +kernel
theorem dX11_law_104 : decode cX11_law 104 = .ok (.iconst 1, 1) := by decide +kernel
theorem dX11_law_105 : decode cX11_law 105 = .ok (.isub, 1) := by decide +kernel
theorem dX11_law_106 : decode cX11_law 106 = .ok (.ireturn, 1) := by decide +kernel
theorem dX11_isLaw_0 : decode cX11_isLaw 0 = .ok (.iload_n 1, 1) := by decide +kernel
theorem dX11_isLaw_1 : decode cX11_isLaw 1 = .ok (.i2l, 1) := by decide +kernel
theorem dX11_isLaw_2 : decode cX11_isLaw 2 = .ok (.lconst 0, 1) := by decide +kernel
theorem dX11_isLaw_3 : decode cX11_isLaw 3 = .ok (.aload_n 0, 1) := by decide +kernel
theorem dX11_isLaw_4 : decode cX11_isLaw 4 = .ok (.getfield 347, 3) := by decide +kernel
theorem dX11_isLaw_7 : decode cX11_isLaw 7 = .ok (.iconst 1, 1) := by decide +kernel
theorem dX11_isLaw_8 : decode cX11_isLaw 8 = .ok (.isub, 1) := by decide +kernel
theorem dX11_isLaw_9 : decode cX11_isLaw 9 = .ok (.i2l, 1) := by decide +kernel
theorem dX11_isLaw_10 : decode cX11_isLaw 10 = .ok (.invokestatic 171, 3) := by decide +kernel
theorem dX11_isLaw_13 : decode cX11_isLaw 13 = .ok (.ireturn, 1) := by decide +kernel
theorem dX11_truth_0 : decode cX11_truth 0 = .ok (.iload_n 0, 1) := by decide +kernel
theorem dX11_truth_1 : decode cX11_truth 1 = .ok (.ifCond .eq 7, 3) := by decide +kernel
theorem dX11_truth_4 : decode cX11_truth 4 = .ok (.lconst 1, 1) := by decide +kernel
theorem dX11_truth_5 : decode cX11_truth 5 = .ok (.goto 4, 3) := by decide +kernel
theorem dX11_truth_8 : decode cX11_truth 8 = .ok (.lconst 0, 1) := by decide +kernel
theorem dX11_truth_9 : decode cX11_truth 9 = .ok (.lreturn, 1) := by decide +kernel
theorem dX11_both_0 : decode cX11_both 0 = .ok (.iload_n 0, 1) := by decide +kernel
theorem dX11_both_1 : decode cX11_both 1 = .ok (.tableswitch 190 2 15 #[71, 75, 111, 126, 141, 156, 171, 190, 186, 190, 190, 79, 83, 97], 71) := by decide +kernel
theorem dX11_both_72 : decode cX11_both 72 = .ok (.lload_n 1, 1) := by decide +kernel
theorem dX11_both_73 : decode cX11_both 73 = .ok (.lload_n 3, 1) := by decide +kernel
theorem dX11_both_74 : decode cX11_both 74 = .ok (.ladd, 1) := by decide +kernel
theorem dX11_both_75 : decode cX11_both 75 = .ok (.lreturn, 1) := by decide +kernel
theorem dX11_both_76 : decode cX11_both 76 = .ok (.lload_n 1, 1) := by decide +kernel
theorem dX11_both_77 : decode cX11_both 77 = .ok (.lload_n 3, 1) := by decide +kernel
theorem dX11_both_78 : decode cX11_both 78 = .ok (.lsub, 1) := by decide +kernel
theorem dX11_both_79 : decode cX11_both 79 = .ok (.lreturn, 1) := by decide +kernel
theorem dX11_both_80 : decode cX11_both 80 = .ok (.lload_n 1, 1) := by decide +kernel
theorem dX11_both_81 : decode cX11_both 81 = .ok (.lload_n 3, 1) := by decide +kernel
theorem dX11_both_82 : decode cX11_both 82 = .ok (.lmul, 1) := by decide +kernel
theorem dX11_both_83 : decode cX11_both 83 = .ok (.lreturn, 1) := by decide +kernel
theorem dX11_both_84 : decode cX11_both 84 = .ok (.lload_n 3, 1) := by decide +kernel
theorem dX11_both_85 : decode cX11_both 85 = .ok (.lconst 0, 1) := by decide +kernel
theorem dX11_both_86 : decode cX11_both 86 = .ok (.lcmp, 1) := by decide +kernel
theorem dX11_both_87 : decode cX11_both 87 = .ok (.ifCond .ne 7, 3) := by decide +kernel
theorem dX11_both_90 : decode cX11_both 90 = .ok (.lconst 0, 1) := by decide +kernel
theorem dX11_both_91 : decode cX11_both 91 = .ok (.goto 6, 3) := by decide +kernel
theorem dX11_both_94 : decode cX11_both 94 = .ok (.lload_n 1, 1) := by decide +kernel
theorem dX11_both_95 : decode cX11_both 95 = .ok (.lload_n 3, 1) := by decide +kernel
theorem dX11_both_96 : decode cX11_both 96 = .ok (.ldiv, 1) := by decide +kernel
theorem dX11_both_97 : decode cX11_both 97 = .ok (.lreturn, 1) := by decide +kernel
theorem dX11_both_98 : decode cX11_both 98 = .ok (.lload_n 3, 1) := by decide +kernel
theorem dX11_both_99 : decode cX11_both 99 = .ok (.lconst 0, 1) := by decide +kernel
theorem dX11_both_100 : decode cX11_both 100 = .ok (.lcmp, 1) := by decide +kernel
theorem dX11_both_101 : decode cX11_both 101 = .ok (.ifCond .ne 7, 3) := by decide +kernel
theorem dX11_both_104 : decode cX11_both 104 = .ok (.lconst 0, 1) := by decide +kernel
theorem dX11_both_105 : decode cX11_both 105 = .ok (.goto 6, 3) := by decide +kernel
theorem dX11_both_108 : decode cX11_both 108 = .ok (.lload_n 1, 1) := by decide +kernel
theorem dX11_both_109 : decode cX11_both 109 = .ok (.lload_n 3, 1) := by decide +kernel
theorem dX11_both_110 : decode cX11_both 110 = .ok (.lrem, 1) := by decide +kernel
theorem dX11_both_111 : decode cX11_both 111 = .ok (.lreturn, 1) := by decide +kernel
theorem dX11_both_112 : decode cX11_both 112 = .ok (.lload_n 1, 1) := by decide +kernel
theorem dX11_both_113 : decode cX11_both 113 = .ok (.lload_n 3, 1) := by decide +kernel
theorem dX11_both_114 : decode cX11_both 114 = .ok (.lcmp, 1) := by decide +kernel
theorem dX11_both_115 : decode cX11_both 115 = .ok (.ifCond .ge 7, 3) := by decide +kernel
theorem dX11_both_118 : decode cX11_both 118 = .ok (.iconst 1, 1) := by decide +kernel
theorem dX11_both_119 : decode cX11_both 119 = .ok (.goto 4, 3) := by decide +kernel
theorem dX11_both_122 : decode cX11_both 122 = .ok (.iconst 0, 1) := by decide +kernel
theorem dX11_both_123 : decode cX11_both 123 = .ok (.invokestatic 353, 3) := by decide +kernel
theorem dX11_both_126 : decode cX11_both 126 = .ok (.lreturn, 1) := by decide +kernel
theorem dX11_both_127 : decode cX11_both 127 = .ok (.lload_n 1, 1) := by decide +kernel
theorem dX11_both_128 : decode cX11_both 128 = .ok (.lload_n 3, 1) := by decide +kernel
theorem dX11_both_129 : decode cX11_both 129 = .ok (.lcmp, 1) := by decide +kernel
theorem dX11_both_130 : decode cX11_both 130 = .ok (.ifCond .gt 7, 3) := by decide +kernel
theorem dX11_both_133 : decode cX11_both 133 = .ok (.iconst 1, 1) := by decide +kernel
theorem dX11_both_134 : decode cX11_both 134 = .ok (.goto 4, 3) := by decide +kernel
theorem dX11_both_137 : decode cX11_both 137 = .ok (.iconst 0, 1) := by decide +kernel
theorem dX11_both_138 : decode cX11_both 138 = .ok (.invokestatic 353, 3) := by decide +kernel
theorem dX11_both_141 : decode cX11_both 141 = .ok (.lreturn, 1) := by decide +kernel
theorem dX11_both_142 : decode cX11_both 142 = .ok (.lload_n 1, 1) := by decide +kernel
theorem dX11_both_143 : decode cX11_both 143 = .ok (.lload_n 3, 1) := by decide +kernel
theorem dX11_both_144 : decode cX11_both 144 = .ok (.lcmp, 1) := by decide +kernel
theorem dX11_both_145 : decode cX11_both 145 = .ok (.ifCond .ne 7, 3) := by decide +kernel
theorem dX11_both_148 : decode cX11_both 148 = .ok (.iconst 1, 1) := by decide +kernel
theorem dX11_both_149 : decode cX11_both 149 = .ok (.goto 4, 3) := by decide +kernel
theorem dX11_both_152 : decode cX11_both 152 = .ok (.iconst 0, 1) := by decide +kernel
theorem dX11_both_153 : decode cX11_both 153 = .ok (.invokestatic 353, 3) := by decide +kernel
theorem dX11_both_156 : decode cX11_both 156 = .ok (.lreturn, 1) := by decide +kernel
theorem dX11_both_157 : decode cX11_both 157 = .ok (.lload_n 1, 1) := by decide +kernel
theorem dX11_both_158 : decode cX11_both 158 = .ok (.lload_n 3, 1) := by decide +kernel
theorem dX11_both_159 : decode cX11_both 159 = .ok (.lcmp, 1) := by decide +kernel
theorem dX11_both_160 : decode cX11_both 160 = .ok (.ifCond .lt 7, 3) := by decide +kernel
theorem dX11_both_163 : decode cX11_both 163 = .ok (.iconst 1, 1) := by decide +kernel
theorem dX11_both_164 : decode cX11_both 164 = .ok (.goto 4, 3) := by decide +kernel
theorem dX11_both_167 : decode cX11_both 167 = .ok (.iconst 0, 1) := by decide +kernel
theorem dX11_both_168 : decode cX11_both 168 = .ok (.invokestatic 353, 3) := by decide +kernel
theorem dX11_both_171 : decode cX11_both 171 = .ok (.lreturn, 1) := by decide +kernel
theorem dX11_both_172 : decode cX11_both 172 = .ok (.lload_n 1, 1) := by decide +kernel
theorem dX11_both_173 : decode cX11_both 173 = .ok (.lload_n 3, 1) := by decide +kernel
theorem dX11_both_174 : decode cX11_both 174 = .ok (.lcmp, 1) := by decide +kernel
theorem dX11_both_175 : decode cX11_both 175 = .ok (.ifCond .le 7, 3) := by decide +kernel
theorem dX11_both_178 : decode cX11_both 178 = .ok (.iconst 1, 1) := by decide +kernel
theorem dX11_both_179 : decode cX11_both 179 = .ok (.goto 4, 3) := by decide +kernel
theorem dX11_both_182 : decode cX11_both 182 = .ok (.iconst 0, 1) := by decide +kernel
theorem dX11_both_183 : decode cX11_both 183 = .ok (.invokestatic 353, 3) := by decide +kernel
theorem dX11_both_186 : decode cX11_both 186 = .ok (.lreturn, 1) := by decide +kernel
theorem dX11_both_187 : decode cX11_both 187 = .ok (.lload_n 1, 1) := by decide +kernel
theorem dX11_both_188 : decode cX11_both 188 = .ok (.lload_n 3, 1) := by decide +kernel
theorem dX11_both_189 : decode cX11_both 189 = .ok (.land, 1) := by decide +kernel
theorem dX11_both_190 : decode cX11_both 190 = .ok (.lreturn, 1) := by decide +kernel
theorem dX11_both_191 : decode cX11_both 191 = .ok (.lload_n 1, 1) := by decide +kernel
theorem dX11_both_192 : decode cX11_both 192 = .ok (.lload_n 3, 1) := by decide +kernel
theorem dX11_both_193 : decode cX11_both 193 = .ok (.lor, 1) := by decide +kernel
theorem dX11_both_194 : decode cX11_both 194 = .ok (.lreturn, 1) := by decide +kernel
theorem dX11_answer_0 : decode cX11_answer 0 = .ok (.iconst 0, 1) := by decide +kernel
theorem dX11_answer_1 : decode cX11_answer 1 = .ok (.istore 4, 2) := by decide +kernel
theorem dX11_answer_3 : decode cX11_answer 3 = .ok (.iload_n 2, 1) := by decide +kernel
theorem dX11_answer_4 : decode cX11_answer 4 = .ok (.istore 5, 2) := by decide +kernel
theorem dX11_answer_6 : decode cX11_answer 6 = .ok (.iload 5, 2) := by decide +kernel
theorem dX11_answer_8 : decode cX11_answer 8 = .ok (.iload_n 3, 1) := by decide +kernel
theorem dX11_answer_9 : decode cX11_answer 9 = .ok (.if_icmp .ge 144, 3) := by decide +kernel
theorem dX11_answer_12 : decode cX11_answer 12 = .ok (.aload_n 0, 1) := by decide +kernel
theorem dX11_answer_13 : decode cX11_answer 13 = .ok (.getfield 75, 3) := by decide +kernel
theorem dX11_answer_16 : decode cX11_answer 16 = .ok (.sipush 300, 3) := by decide +kernel
theorem dX11_answer_19 : decode cX11_answer 19 = .ok (.iload_n 1, 1) := by decide +kernel
theorem dX11_answer_20 : decode cX11_answer 20 = .ok (.imul, 1) := by decide +kernel
theorem dX11_answer_21 : decode cX11_answer 21 = .ok (.iload 5, 2) := by decide +kernel
theorem dX11_answer_23 : decode cX11_answer 23 = .ok (.iadd, 1) := by decide +kernel
theorem dX11_answer_24 : decode cX11_answer 24 = .ok (.iaload, 1) := by decide +kernel
theorem dX11_answer_25 : decode cX11_answer 25 = .ok (.istore 6, 2) := by decide +kernel
theorem dX11_answer_27 : decode cX11_answer 27 = .ok (.aload_n 0, 1) := by decide +kernel
theorem dX11_answer_28 : decode cX11_answer 28 = .ok (.getfield 78, 3) := by decide +kernel
theorem dX11_answer_31 : decode cX11_answer 31 = .ok (.sipush 300, 3) := by decide +kernel
theorem dX11_answer_34 : decode cX11_answer 34 = .ok (.iload_n 1, 1) := by decide +kernel
theorem dX11_answer_35 : decode cX11_answer 35 = .ok (.imul, 1) := by decide +kernel
theorem dX11_answer_36 : decode cX11_answer 36 = .ok (.iload 5, 2) := by decide +kernel
theorem dX11_answer_38 : decode cX11_answer 38 = .ok (.iadd, 1) := by decide +kernel
theorem dX11_answer_39 : decode cX11_answer 39 = .ok (.iaload, 1) := by decide +kernel
theorem dX11_answer_40 : decode cX11_answer 40 = .ok (.istore 7, 2) := by decide +kernel
theorem dX11_answer_42 : decode cX11_answer 42 = .ok (.iload 6, 2) := by decide +kernel
theorem dX11_answer_44 : decode cX11_answer 44 = .ok (.ifCond .eq 9, 3) := by decide +kernel
theorem dX11_answer_47 : decode cX11_answer 47 = .ok (.iload 6, 2) := by decide +kernel
theorem dX11_answer_49 : decode cX11_answer 49 = .ok (.iconst 1, 1) := by decide +kernel
theorem dX11_answer_50 : decode cX11_answer 50 = .ok (.if_icmp .ne 34, 3) := by decide +kernel
theorem dX11_answer_53 : decode cX11_answer 53 = .ok (.aload_n 0, 1) := by decide +kernel
theorem dX11_answer_54 : decode cX11_answer 54 = .ok (.getfield 103, 3) := by decide +kernel
theorem dX11_answer_57 : decode cX11_answer 57 = .ok (.iload 4, 2) := by decide +kernel
theorem dX11_answer_59 : decode cX11_answer 59 = .ok (.iload 6, 2) := by decide +kernel
theorem dX11_answer_61 : decode cX11_answer 61 = .ok (.ifCond .ne 9, 3) := by decide +kernel
theorem dX11_answer_64 : decode cX11_answer 64 = .ok (.iload 7, 2) := by decide +kernel
theorem dX11_answer_66 : decode cX11_answer 66 = .ok (.i2l, 1) := by decide +kernel
theorem dX11_answer_67 : decode cX11_answer 67 = .ok (.goto 10, 3) := by decide +kernel
theorem dX11_answer_70 : decode cX11_answer 70 = .ok (.aload_n 0, 1) := by decide +kernel
theorem dX11_answer_71 : decode cX11_answer 71 = .ok (.getfield 99, 3) := by decide +kernel
theorem dX11_answer_74 : decode cX11_answer 74 = .ok (.iload 7, 2) := by decide +kernel
theorem dX11_answer_76 : decode cX11_answer 76 = .ok (.laload, 1) := by decide +kernel
theorem dX11_answer_77 : decode cX11_answer 77 = .ok (.lastore, 1) := by decide +kernel
theorem dX11_answer_78 : decode cX11_answer 78 = .ok (.iinc 4 1, 3) := by decide +kernel
theorem dX11_answer_81 : decode cX11_answer 81 = .ok (.goto 66, 3) := by decide +kernel
theorem dX11_answer_84 : decode cX11_answer 84 = .ok (.iload 6, 2) := by decide +kernel
theorem dX11_answer_86 : decode cX11_answer 86 = .ok (.bipush 9, 2) := by decide +kernel
theorem dX11_answer_88 : decode cX11_answer 88 = .ok (.if_icmp .ne 26, 3) := by decide +kernel
theorem dX11_answer_91 : decode cX11_answer 91 = .ok (.aload_n 0, 1) := by decide +kernel
theorem dX11_answer_92 : decode cX11_answer 92 = .ok (.getfield 103, 3) := by decide +kernel
theorem dX11_answer_95 : decode cX11_answer 95 = .ok (.iload 4, 2) := by decide +kernel
theorem dX11_answer_97 : decode cX11_answer 97 = .ok (.iconst 1, 1) := by decide +kernel
theorem dX11_answer_98 : decode cX11_answer 98 = .ok (.isub, 1) := by decide +kernel
theorem dX11_answer_99 : decode cX11_answer 99 = .ok (.lconst 1, 1) := by decide +kernel
theorem dX11_answer_100 : decode cX11_answer 100 = .ok (.aload_n 0, 1) := by decide +kernel
theorem dX11_answer_101 : decode cX11_answer 101 = .ok (.getfield 103, 3) := by decide +kernel
theorem dX11_answer_104 : decode cX11_answer 104 = .ok (.iload 4, 2) := by decide +kernel
theorem dX11_answer_106 : decode cX11_answer 106 = .ok (.iconst 1, 1) := by decide +kernel
theorem dX11_answer_107 : decode cX11_answer 107 = .ok (.isub, 1) := by decide +kernel
theorem dX11_answer_108 : decode cX11_answer 108 = .ok (.laload, 1) := by decide +kernel
theorem dX11_answer_109 : decode cX11_answer 109 = .ok (.lsub, 1) := by decide +kernel
theorem dX11_answer_110 : decode cX11_answer 110 = .ok (.lastore, 1) := by decide +kernel
theorem dX11_answer_111 : decode cX11_answer 111 = .ok (.goto 36, 3) := by decide +kernel
theorem dX11_answer_114 : decode cX11_answer 114 = .ok (.iinc 4 (-1), 3) := by decide +kernel
theorem dX11_answer_117 : decode cX11_answer 117 = .ok (.aload_n 0, 1) := by decide +kernel
theorem dX11_answer_118 : decode cX11_answer 118 = .ok (.getfield 103, 3) := by decide +kernel
theorem dX11_answer_121 : decode cX11_answer 121 = .ok (.iload 4, 2) := by decide +kernel
theorem dX11_answer_123 : decode cX11_answer 123 = .ok (.iconst 1, 1) := by decide +kernel
theorem dX11_answer_124 : decode cX11_answer 124 = .ok (.isub, 1) := by decide +kernel
theorem dX11_answer_125 : decode cX11_answer 125 = .ok (.iload 6, 2) := by decide +kernel
theorem dX11_answer_127 : decode cX11_answer 127 = .ok (.aload_n 0, 1) := by decide +kernel
theorem dX11_answer_128 : decode cX11_answer 128 = .ok (.getfield 103, 3) := by decide +kernel
theorem dX11_answer_131 : decode cX11_answer 131 = .ok (.iload 4, 2) := by decide +kernel
theorem dX11_answer_133 : decode cX11_answer 133 = .ok (.iconst 1, 1) := by decide +kernel
theorem dX11_answer_134 : decode cX11_answer 134 = .ok (.isub, 1) := by decide +kernel
theorem dX11_answer_135 : decode cX11_answer 135 = .ok (.laload, 1) := by decide +kernel
theorem dX11_answer_136 : decode cX11_answer 136 = .ok (.aload_n 0, 1) := by decide +kernel
theorem dX11_answer_137 : decode cX11_answer 137 = .ok (.getfield 103, 3) := by decide +kernel
theorem dX11_answer_140 : decode cX11_answer 140 = .ok (.iload 4, 2) := by decide +kernel
theorem dX11_answer_142 : decode cX11_answer 142 = .ok (.laload, 1) := by decide +kernel
theorem dX11_answer_143 : decode cX11_answer 143 = .ok (.invokestatic 357, 3) := by decide +kernel
theorem dX11_answer_146 : decode cX11_answer 146 = .ok (.lastore, 1) := by decide +kernel
theorem dX11_answer_147 : decode cX11_answer 147 = .ok (.iinc 5 1, 3) := by decide +kernel
theorem dX11_answer_150 : decode cX11_answer 150 = .ok (.goto (-144), 3) := by decide +kernel
theorem dX11_answer_153 : decode cX11_answer 153 = .ok (.aload_n 0, 1) := by decide +kernel
theorem dX11_answer_154 : decode cX11_answer 154 = .ok (.getfield 103, 3) := by decide +kernel
theorem dX11_answer_157 : decode cX11_answer 157 = .ok (.iconst 0, 1) := by decide +kernel
theorem dX11_answer_158 : decode cX11_answer 158 = .ok (.laload, 1) := by decide +kernel
theorem dX11_answer_159 : decode cX11_answer 159 = .ok (.lreturn, 1) := by decide +kernel
theorem dX11_cracks_0 : decode cX11_cracks 0 = .ok (.aload_n 0, 1) := by decide +kernel
theorem dX11_cracks_1 : decode cX11_cracks 1 = .ok (.getfield 55, 3) := by decide +kernel
theorem dX11_cracks_4 : decode cX11_cracks 4 = .ok (.iload_n 1, 1) := by decide +kernel
theorem dX11_cracks_5 : decode cX11_cracks 5 = .ok (.iaload, 1) := by decide +kernel
theorem dX11_cracks_6 : decode cX11_cracks 6 = .ok (.aload_n 0, 1) := by decide +kernel
theorem dX11_cracks_7 : decode cX11_cracks 7 = .ok (.getfield 22, 3) := by decide +kernel
theorem dX11_cracks_10 : decode cX11_cracks 10 = .ok (.iload_n 1, 1) := by decide +kernel
theorem dX11_cracks_11 : decode cX11_cracks 11 = .ok (.iaload, 1) := by decide +kernel
theorem dX11_cracks_12 : decode cX11_cracks 12 = .ok (.idiv, 1) := by decide +kernel
theorem dX11_cracks_13 : decode cX11_cracks 13 = .ok (.ireturn, 1) := by decide +kernel
theorem dX11_loudest_0 : decode cX11_loudest 0 = .ok (.iconst 0, 1) := by decide +kernel
theorem dX11_loudest_1 : decode cX11_loudest 1 = .ok (.istore_n 2, 1) := by decide +kernel
theorem dX11_loudest_2 : decode cX11_loudest 2 = .ok (.iconst 0, 1) := by decide +kernel
theorem dX11_loudest_3 : decode cX11_loudest 3 = .ok (.istore_n 3, 1) := by decide +kernel
theorem dX11_loudest_4 : decode cX11_loudest 4 = .ok (.iload_n 3, 1) := by decide +kernel
theorem dX11_loudest_5 : decode cX11_loudest 5 = .ok (.aload_n 0, 1) := by decide +kernel
theorem dX11_loudest_6 : decode cX11_loudest 6 = .ok (.getfield 9, 3) := by decide +kernel
theorem dX11_loudest_9 : decode cX11_loudest 9 = .ok (.iconst 0, 1) := by decide +kernel
theorem dX11_loudest_10 : decode cX11_loudest 10 = .ok (.iaload, 1) := by decide +kernel
theorem dX11_loudest_11 : decode cX11_loudest 11 = .ok (.if_icmp .ge 38, 3) := by decide +kernel
theorem dX11_loudest_14 : decode cX11_loudest 14 = .ok (.iload_n 1, 1) := by decide +kernel
theorem dX11_loudest_15 : decode cX11_loudest 15 = .ok (.iload_n 3, 1) := by decide +kernel
theorem dX11_loudest_16 : decode cX11_loudest 16 = .ok (.invokestatic 177, 3) := by decide +kernel
theorem dX11_loudest_19 : decode cX11_loudest 19 = .ok (.ifCond .eq 22, 3) := by decide +kernel
theorem dX11_loudest_22 : decode cX11_loudest 22 = .ok (.aload_n 0, 1) := by decide +kernel
theorem dX11_loudest_23 : decode cX11_loudest 23 = .ok (.getfield 16, 3) := by decide +kernel
theorem dX11_loudest_26 : decode cX11_loudest 26 = .ok (.iload_n 3, 1) := by decide +kernel
theorem dX11_loudest_27 : decode cX11_loudest 27 = .ok (.iaload, 1) := by decide +kernel
theorem dX11_loudest_28 : decode cX11_loudest 28 = .ok (.iload_n 2, 1) := by decide +kernel
theorem dX11_loudest_29 : decode cX11_loudest 29 = .ok (.if_icmp .le 12, 3) := by decide +kernel
theorem dX11_loudest_32 : decode cX11_loudest 32 = .ok (.aload_n 0, 1) := by decide +kernel
theorem dX11_loudest_33 : decode cX11_loudest 33 = .ok (.getfield 16, 3) := by decide +kernel
theorem dX11_loudest_36 : decode cX11_loudest 36 = .ok (.iload_n 3, 1) := by decide +kernel
theorem dX11_loudest_37 : decode cX11_loudest 37 = .ok (.iaload, 1) := by decide +kernel
theorem dX11_loudest_38 : decode cX11_loudest 38 = .ok (.goto 4, 3) := by decide +kernel
theorem dX11_loudest_41 : decode cX11_loudest 41 = .ok (.iload_n 2, 1) := by decide +kernel
theorem dX11_loudest_42 : decode cX11_loudest 42 = .ok (.istore_n 2, 1) := by decide +kernel
theorem dX11_loudest_43 : decode cX11_loudest 43 = .ok (.iinc 3 1, 3) := by decide +kernel
theorem dX11_loudest_46 : decode cX11_loudest 46 = .ok (.goto (-42), 3) := by decide +kernel
theorem dX11_loudest_49 : decode cX11_loudest 49 = .ok (.iload_n 2, 1) := by decide +kernel
theorem dX11_loudest_50 : decode cX11_loudest 50 = .ok (.ireturn, 1) := by decide +kernel
theorem dX11_asks_0 : decode cX11_asks 0 = .ok (.aload_n 0, 1) := by decide +kernel
theorem dX11_asks_1 : decode cX11_asks 1 = .ok (.getfield 99, 3) := by decide +kernel
theorem dX11_asks_4 : decode cX11_asks 4 = .ok (.iconst 0, 1) := by decide +kernel
theorem dX11_asks_5 : decode cX11_asks 5 = .ok (.aload_n 0, 1) := by decide +kernel
theorem dX11_asks_6 : decode cX11_asks 6 = .ok (.getfield 13, 3) := by decide +kernel
theorem dX11_asks_9 : decode cX11_asks 9 = .ok (.iload_n 3, 1) := by decide +kernel
theorem dX11_asks_10 : decode cX11_asks 10 = .ok (.iaload, 1) := by decide +kernel
theorem dX11_asks_11 : decode cX11_asks 11 = .ok (.i2l, 1) := by decide +kernel
theorem dX11_asks_12 : decode cX11_asks 12 = .ok (.lastore, 1) := by decide +kernel
theorem dX11_asks_13 : decode cX11_asks 13 = .ok (.aload_n 0, 1) := by decide +kernel
theorem dX11_asks_14 : decode cX11_asks 14 = .ok (.getfield 99, 3) := by decide +kernel
theorem dX11_asks_17 : decode cX11_asks 17 = .ok (.iconst 1, 1) := by decide +kernel
theorem dX11_asks_18 : decode cX11_asks 18 = .ok (.aload_n 0, 1) := by decide +kernel
theorem dX11_asks_19 : decode cX11_asks 19 = .ok (.getfield 16, 3) := by decide +kernel
theorem dX11_asks_22 : decode cX11_asks 22 = .ok (.iload_n 3, 1) := by decide +kernel
theorem dX11_asks_23 : decode cX11_asks 23 = .ok (.iaload, 1) := by decide +kernel
theorem dX11_asks_24 : decode cX11_asks 24 = .ok (.i2l, 1) := by decide +kernel
theorem dX11_asks_25 : decode cX11_asks 25 = .ok (.lastore, 1) := by decide +kernel
theorem dX11_asks_26 : decode cX11_asks 26 = .ok (.aload_n 0, 1) := by decide +kernel
theorem dX11_asks_27 : decode cX11_asks 27 = .ok (.getfield 99, 3) := by decide +kernel
theorem dX11_asks_30 : decode cX11_asks 30 = .ok (.iconst 2, 1) := by decide +kernel
theorem dX11_asks_31 : decode cX11_asks 31 = .ok (.aload_n 0, 1) := by decide +kernel
theorem dX11_asks_32 : decode cX11_asks 32 = .ok (.getfield 19, 3) := by decide +kernel
theorem dX11_asks_35 : decode cX11_asks 35 = .ok (.iload_n 3, 1) := by decide +kernel
theorem dX11_asks_36 : decode cX11_asks 36 = .ok (.iaload, 1) := by decide +kernel
theorem dX11_asks_37 : decode cX11_asks 37 = .ok (.i2l, 1) := by decide +kernel
theorem dX11_asks_38 : decode cX11_asks 38 = .ok (.lastore, 1) := by decide +kernel
theorem dX11_asks_39 : decode cX11_asks 39 = .ok (.aload_n 0, 1) := by decide +kernel
theorem dX11_asks_40 : decode cX11_asks 40 = .ok (.getfield 99, 3) := by decide +kernel
theorem dX11_asks_43 : decode cX11_asks 43 = .ok (.iconst 3, 1) := by decide +kernel
theorem dX11_asks_44 : decode cX11_asks 44 = .ok (.aload_n 0, 1) := by decide +kernel
theorem dX11_asks_45 : decode cX11_asks 45 = .ok (.getfield 55, 3) := by decide +kernel
theorem dX11_asks_48 : decode cX11_asks 48 = .ok (.iload_n 3, 1) := by decide +kernel
theorem dX11_asks_49 : decode cX11_asks 49 = .ok (.iaload, 1) := by decide +kernel
theorem dX11_asks_50 : decode cX11_asks 50 = .ok (.i2l, 1) := by decide +kernel
theorem dX11_asks_51 : decode cX11_asks 51 = .ok (.lastore, 1) := by decide +kernel
theorem dX11_asks_52 : decode cX11_asks 52 = .ok (.aload_n 0, 1) := by decide +kernel
theorem dX11_asks_53 : decode cX11_asks 53 = .ok (.getfield 99, 3) := by decide +kernel
theorem dX11_asks_56 : decode cX11_asks 56 = .ok (.iconst 4, 1) := by decide +kernel
theorem dX11_asks_57 : decode cX11_asks 57 = .ok (.aload_n 0, 1) := by decide +kernel
theorem dX11_asks_58 : decode cX11_asks 58 = .ok (.iload_n 3, 1) := by decide +kernel
theorem dX11_asks_59 : decode cX11_asks 59 = .ok (.invokevirtual 361, 3) := by decide +kernel
theorem dX11_asks_62 : decode cX11_asks 62 = .ok (.i2l, 1) := by decide +kernel
theorem dX11_asks_63 : decode cX11_asks 63 = .ok (.lastore, 1) := by decide +kernel
theorem dX11_asks_64 : decode cX11_asks 64 = .ok (.aload_n 0, 1) := by decide +kernel
theorem dX11_asks_65 : decode cX11_asks 65 = .ok (.getfield 99, 3) := by decide +kernel
theorem dX11_asks_68 : decode cX11_asks 68 = .ok (.iconst 5, 1) := by decide +kernel
theorem dX11_asks_69 : decode cX11_asks 69 = .ok (.iload_n 3, 1) := by decide +kernel
theorem dX11_asks_70 : decode cX11_asks 70 = .ok (.i2l, 1) := by decide +kernel
theorem dX11_asks_71 : decode cX11_asks 71 = .ok (.lastore, 1) := by decide +kernel
theorem dX11_asks_72 : decode cX11_asks 72 = .ok (.aload_n 0, 1) := by decide +kernel
theorem dX11_asks_73 : decode cX11_asks 73 = .ok (.getfield 99, 3) := by decide +kernel
theorem dX11_asks_76 : decode cX11_asks 76 = .ok (.bipush 6, 2) := by decide +kernel
theorem dX11_asks_78 : decode cX11_asks 78 = .ok (.aload_n 0, 1) := by decide +kernel
theorem dX11_asks_79 : decode cX11_asks 79 = .ok (.getfield 25, 3) := by decide +kernel
theorem dX11_asks_82 : decode cX11_asks 82 = .ok (.iload_n 1, 1) := by decide +kernel
theorem dX11_asks_83 : decode cX11_asks 83 = .ok (.iaload, 1) := by decide +kernel
theorem dX11_asks_84 : decode cX11_asks 84 = .ok (.i2l, 1) := by decide +kernel
theorem dX11_asks_85 : decode cX11_asks 85 = .ok (.lastore, 1) := by decide +kernel
theorem dX11_asks_86 : decode cX11_asks 86 = .ok (.aload_n 0, 1) := by decide +kernel
theorem dX11_asks_87 : decode cX11_asks 87 = .ok (.getfield 99, 3) := by decide +kernel
theorem dX11_asks_90 : decode cX11_asks 90 = .ok (.bipush 7, 2) := by decide +kernel
theorem dX11_asks_92 : decode cX11_asks 92 = .ok (.aload_n 0, 1) := by decide +kernel
theorem dX11_asks_93 : decode cX11_asks 93 = .ok (.getfield 28, 3) := by decide +kernel
theorem dX11_asks_96 : decode cX11_asks 96 = .ok (.iload_n 1, 1) := by decide +kernel
theorem dX11_asks_97 : decode cX11_asks 97 = .ok (.iaload, 1) := by decide +kernel
theorem dX11_asks_98 : decode cX11_asks 98 = .ok (.i2l, 1) := by decide +kernel
theorem dX11_asks_99 : decode cX11_asks 99 = .ok (.lastore, 1) := by decide +kernel
theorem dX11_asks_100 : decode cX11_asks 100 = .ok (.aload_n 0, 1) := by decide +kernel
theorem dX11_asks_101 : decode cX11_asks 101 = .ok (.getfield 99, 3) := by decide +kernel
theorem dX11_asks_104 : decode cX11_asks 104 = .ok (.bipush 8, 2) := by decide +kernel
theorem dX11_asks_106 : decode cX11_asks 106 = .ok (.iload_n 2, 1) := by decide +kernel
theorem dX11_asks_107 : decode cX11_asks 107 = .ok (.invokestatic 363, 3) := by decide +kernel
theorem dX11_asks_110 : decode cX11_asks 110 = .ok (.i2l, 1) := by decide +kernel
theorem dX11_asks_111 : decode cX11_asks 111 = .ok (.lastore, 1) := by decide +kernel
theorem dX11_asks_112 : decode cX11_asks 112 = .ok (.aload_n 0, 1) := by decide +kernel
theorem dX11_asks_113 : decode cX11_asks 113 = .ok (.getfield 99, 3) := by decide +kernel
theorem dX11_asks_116 : decode cX11_asks 116 = .ok (.bipush 9, 2) := by decide +kernel
theorem dX11_asks_118 : decode cX11_asks 118 = .ok (.aload_n 0, 1) := by decide +kernel
theorem dX11_asks_119 : decode cX11_asks 119 = .ok (.iload_n 2, 1) := by decide +kernel
theorem dX11_asks_120 : decode cX11_asks 120 = .ok (.invokevirtual 366, 3) := by decide +kernel
theorem dX11_asks_123 : decode cX11_asks 123 = .ok (.i2l, 1) := by decide +kernel
theorem dX11_asks_124 : decode cX11_asks 124 = .ok (.lastore, 1) := by decide +kernel
theorem dX11_asks_125 : decode cX11_asks 125 = .ok (.return_, 1) := by decide +kernel
theorem dX11_sound_0 : decode cX11_sound 0 = .ok (.bipush 12, 2) := by decide +kernel
theorem dX11_sound_2 : decode cX11_sound 2 = .ok (.iload_n 1, 1) := by decide +kernel
theorem dX11_sound_3 : decode cX11_sound 3 = .ok (.imul, 1) := by decide +kernel
theorem dX11_sound_4 : decode cX11_sound 4 = .ok (.istore_n 3, 1) := by decide +kernel
theorem dX11_sound_5 : decode cX11_sound 5 = .ok (.iload_n 3, 1) := by decide +kernel
theorem dX11_sound_6 : decode cX11_sound 6 = .ok (.bipush 12, 2) := by decide +kernel
theorem dX11_sound_8 : decode cX11_sound 8 = .ok (.iload_n 1, 1) := by decide +kernel
theorem dX11_sound_9 : decode cX11_sound 9 = .ok (.imul, 1) := by decide +kernel
theorem dX11_sound_10 : decode cX11_sound 10 = .ok (.aload_n 0, 1) := by decide +kernel
theorem dX11_sound_11 : decode cX11_sound 11 = .ok (.getfield 81, 3) := by decide +kernel
theorem dX11_sound_14 : decode cX11_sound 14 = .ok (.iload_n 1, 1) := by decide +kernel
theorem dX11_sound_15 : decode cX11_sound 15 = .ok (.iaload, 1) := by decide +kernel
theorem dX11_sound_16 : decode cX11_sound 16 = .ok (.iadd, 1) := by decide +kernel
theorem dX11_sound_17 : decode cX11_sound 17 = .ok (.if_icmp .ge 74, 3) := by decide +kernel
theorem dX11_sound_20 : decode cX11_sound 20 = .ok (.aload_n 0, 1) := by decide +kernel
theorem dX11_sound_21 : decode cX11_sound 21 = .ok (.getfield 84, 3) := by decide +kernel
theorem dX11_sound_24 : decode cX11_sound 24 = .ok (.iload_n 3, 1) := by decide +kernel
theorem dX11_sound_25 : decode cX11_sound 25 = .ok (.iaload, 1) := by decide +kernel
theorem dX11_sound_26 : decode cX11_sound 26 = .ok (.iload_n 2, 1) := by decide +kernel
theorem dX11_sound_27 : decode cX11_sound 27 = .ok (.if_icmp .ne 58, 3) := by decide +kernel
theorem dX11_sound_30 : decode cX11_sound 30 = .ok (.aload_n 0, 1) := by decide +kernel
theorem dX11_sound_31 : decode cX11_sound 31 = .ok (.getfield 90, 3) := by decide +kernel
theorem dX11_sound_34 : decode cX11_sound 34 = .ok (.iload_n 3, 1) := by decide +kernel
theorem dX11_sound_35 : decode cX11_sound 35 = .ok (.iaload, 1) := by decide +kernel
theorem dX11_sound_36 : decode cX11_sound 36 = .ok (.aload_n 0, 1) := by decide +kernel
theorem dX11_sound_37 : decode cX11_sound 37 = .ok (.getfield 93, 3) := by decide +kernel
theorem dX11_sound_40 : decode cX11_sound 40 = .ok (.iload_n 3, 1) := by decide +kernel
theorem dX11_sound_41 : decode cX11_sound 41 = .ok (.iaload, 1) := by decide +kernel
theorem dX11_sound_42 : decode cX11_sound 42 = .ok (.if_icmp .eq 25, 3) := by decide +kernel
theorem dX11_sound_45 : decode cX11_sound 45 = .ok (.aload_n 0, 1) := by decide +kernel
theorem dX11_sound_46 : decode cX11_sound 46 = .ok (.iload_n 1, 1) := by decide +kernel
theorem dX11_sound_47 : decode cX11_sound 47 = .ok (.aload_n 0, 1) := by decide +kernel
theorem dX11_sound_48 : decode cX11_sound 48 = .ok (.getfield 90, 3) := by decide +kernel
theorem dX11_sound_51 : decode cX11_sound 51 = .ok (.iload_n 3, 1) := by decide +kernel
theorem dX11_sound_52 : decode cX11_sound 52 = .ok (.iaload, 1) := by decide +kernel
theorem dX11_sound_53 : decode cX11_sound 53 = .ok (.aload_n 0, 1) := by decide +kernel
theorem dX11_sound_54 : decode cX11_sound 54 = .ok (.getfield 93, 3) := by decide +kernel
theorem dX11_sound_57 : decode cX11_sound 57 = .ok (.iload_n 3, 1) := by decide +kernel
theorem dX11_sound_58 : decode cX11_sound 58 = .ok (.iaload, 1) := by decide +kernel
theorem dX11_sound_59 : decode cX11_sound 59 = .ok (.invokevirtual 368, 3) := by decide +kernel
theorem dX11_sound_62 : decode cX11_sound 62 = .ok (.lconst 1, 1) := by decide +kernel
theorem dX11_sound_63 : decode cX11_sound 63 = .ok (.lcmp, 1) := by decide +kernel
theorem dX11_sound_64 : decode cX11_sound 64 = .ok (.ifCond .ne 21, 3) := by decide +kernel
theorem dX11_sound_67 : decode cX11_sound 67 = .ok (.aload_n 0, 1) := by decide +kernel
theorem dX11_sound_68 : decode cX11_sound 68 = .ok (.iload_n 1, 1) := by decide +kernel
theorem dX11_sound_69 : decode cX11_sound 69 = .ok (.aload_n 0, 1) := by decide +kernel
theorem dX11_sound_70 : decode cX11_sound 70 = .ok (.getfield 87, 3) := by decide +kernel
theorem dX11_sound_73 : decode cX11_sound 73 = .ok (.iload_n 3, 1) := by decide +kernel
theorem dX11_sound_74 : decode cX11_sound 74 = .ok (.iaload, 1) := by decide +kernel
theorem dX11_sound_75 : decode cX11_sound 75 = .ok (.aload_n 0, 1) := by decide +kernel
theorem dX11_sound_76 : decode cX11_sound 76 = .ok (.getfield 90, 3) := by decide +kernel
theorem dX11_sound_79 : decode cX11_sound 79 = .ok (.iload_n 3, 1) := by decide +kernel
theorem dX11_sound_80 : decode cX11_sound 80 = .ok (.iaload, 1) := by decide +kernel
theorem dX11_sound_81 : decode cX11_sound 81 = .ok (.invokevirtual 368, 3) := by decide +kernel
theorem dX11_sound_84 : decode cX11_sound 84 = .ok (.lreturn, 1) := by decide +kernel
theorem dX11_sound_85 : decode cX11_sound 85 = .ok (.iinc 3 1, 3) := by decide +kernel
theorem dX11_sound_88 : decode cX11_sound 88 = .ok (.goto (-83), 3) := by decide +kernel
theorem dX11_sound_91 : decode cX11_sound 91 = .ok (.iload_n 2, 1) := by decide +kernel
theorem dX11_sound_92 : decode cX11_sound 92 = .ok (.ifCond .ne 20, 3) := by decide +kernel
theorem dX11_sound_95 : decode cX11_sound 95 = .ok (.aload_n 0, 1) := by decide +kernel
theorem dX11_sound_96 : decode cX11_sound 96 = .ok (.getfield 99, 3) := by decide +kernel
theorem dX11_sound_99 : decode cX11_sound 99 = .ok (.iconst 0, 1) := by decide +kernel
theorem dX11_sound_100 : decode cX11_sound 100 = .ok (.laload, 1) := by decide +kernel
theorem dX11_sound_101 : decode cX11_sound 101 = .ok (.aload_n 0, 1) := by decide +kernel
theorem dX11_sound_102 : decode cX11_sound 102 = .ok (.getfield 99, 3) := by decide +kernel
theorem dX11_sound_105 : decode cX11_sound 105 = .ok (.bipush 6, 2) := by decide +kernel
theorem dX11_sound_107 : decode cX11_sound 107 = .ok (.laload, 1) := by decide +kernel
theorem dX11_sound_108 : decode cX11_sound 108 = .ok (.lsub, 1) := by decide +kernel
theorem dX11_sound_109 : decode cX11_sound 109 = .ok (.goto 17, 3) := by decide +kernel
theorem dX11_sound_112 : decode cX11_sound 112 = .ok (.aload_n 0, 1) := by decide +kernel
theorem dX11_sound_113 : decode cX11_sound 113 = .ok (.getfield 99, 3) := by decide +kernel
theorem dX11_sound_116 : decode cX11_sound 116 = .ok (.iconst 1, 1) := by decide +kernel
theorem dX11_sound_117 : decode cX11_sound 117 = .ok (.laload, 1) := by decide +kernel
theorem dX11_sound_118 : decode cX11_sound 118 = .ok (.aload_n 0, 1) := by decide +kernel
theorem dX11_sound_119 : decode cX11_sound 119 = .ok (.getfield 99, 3) := by decide +kernel
theorem dX11_sound_122 : decode cX11_sound 122 = .ok (.bipush 7, 2) := by decide +kernel
theorem dX11_sound_124 : decode cX11_sound 124 = .ok (.laload, 1) := by decide +kernel
theorem dX11_sound_125 : decode cX11_sound 125 = .ok (.lsub, 1) := by decide +kernel
theorem dX11_sound_126 : decode cX11_sound 126 = .ok (.lreturn, 1) := by decide +kernel
theorem dX11_noteNow_0 : decode cX11_noteNow 0 = .ok (.aload_n 0, 1) := by decide +kernel
theorem dX11_noteNow_1 : decode cX11_noteNow 1 = .ok (.iload_n 1, 1) := by decide +kernel
theorem dX11_noteNow_2 : decode cX11_noteNow 2 = .ok (.iconst 0, 1) := by decide +kernel
theorem dX11_noteNow_3 : decode cX11_noteNow 3 = .ok (.invokevirtual 372, 3) := by decide +kernel
theorem dX11_noteNow_6 : decode cX11_noteNow 6 = .ok (.ldc2_w 376, 3) := by decide +kernel
theorem dX11_noteNow_9 : decode cX11_noteNow 9 = .ok (.ldc2_w 378, 3) := by decide +kernel
theorem dX11_noteNow_12 : decode cX11_noteNow 12 = .ok (.invokestatic 380, 3) := by decide +kernel
theorem dX11_noteNow_15 : decode cX11_noteNow 15 = .ok (.l2i, 1) := by decide +kernel
theorem dX11_noteNow_16 : decode cX11_noteNow 16 = .ok (.ireturn, 1) := by decide +kernel
theorem dX11_strengthNow_0 : decode cX11_strengthNow 0 = .ok (.aload_n 0, 1) := by decide +kernel
theorem dX11_strengthNow_1 : decode cX11_strengthNow 1 = .ok (.iload_n 1, 1) := by decide +kernel
theorem dX11_strengthNow_2 : decode cX11_strengthNow 2 = .ok (.iconst 1, 1) := by decide +kernel
theorem dX11_strengthNow_3 : decode cX11_strengthNow 3 = .ok (.invokevirtual 372, 3) := by decide +kernel
theorem dX11_strengthNow_6 : decode cX11_strengthNow 6 = .ok (.lconst 0, 1) := by decide +kernel
theorem dX11_strengthNow_7 : decode cX11_strengthNow 7 = .ok (.ldc2_w 378, 3) := by decide +kernel
theorem dX11_strengthNow_10 : decode cX11_strengthNow 10 = .ok (.invokestatic 380, 3) := by decide +kernel
theorem dX11_strengthNow_13 : decode cX11_strengthNow 13 = .ok (.l2i, 1) := by decide +kernel
theorem dX11_strengthNow_14 : decode cX11_strengthNow 14 = .ok (.ireturn, 1) := by decide +kernel
theorem dX11_coin_0 : decode cX11_coin 0 = .ok (.aload_n 0, 1) := by decide +kernel
theorem dX11_coin_1 : decode cX11_coin 1 = .ok (.iload_n 1, 1) := by decide +kernel
theorem dX11_coin_2 : decode cX11_coin 2 = .ok (.invokevirtual 384, 3) := by decide +kernel
theorem dX11_coin_5 : decode cX11_coin 5 = .ok (.ifCond .ne 5, 3) := by decide +kernel
theorem dX11_coin_8 : decode cX11_coin 8 = .ok (.iconst (-1), 1) := by decide +kernel
theorem dX11_coin_9 : decode cX11_coin 9 = .ok (.ireturn, 1) := by decide +kernel
theorem dX11_coin_10 : decode cX11_coin 10 = .ok (.iload_n 2, 1) := by decide +kernel
theorem dX11_coin_11 : decode cX11_coin 11 = .ok (.tableswitch 89 0 6 #[41, 48, 55, 62, 69, 76, 83], 41) := by decide +kernel
theorem dX11_coin_52 : decode cX11_coin 52 = .ok (.aload_n 0, 1) := by decide +kernel
theorem dX11_coin_53 : decode cX11_coin 53 = .ok (.getfield 13, 3) := by decide +kernel
theorem dX11_coin_56 : decode cX11_coin 56 = .ok (.iload_n 1, 1) := by decide +kernel
theorem dX11_coin_57 : decode cX11_coin 57 = .ok (.iaload, 1) := by decide +kernel
theorem dX11_coin_58 : decode cX11_coin 58 = .ok (.ireturn, 1) := by decide +kernel
theorem dX11_coin_59 : decode cX11_coin 59 = .ok (.aload_n 0, 1) := by decide +kernel
theorem dX11_coin_60 : decode cX11_coin 60 = .ok (.getfield 16, 3) := by decide +kernel
theorem dX11_coin_63 : decode cX11_coin 63 = .ok (.iload_n 1, 1) := by decide +kernel
theorem dX11_coin_64 : decode cX11_coin 64 = .ok (.iaload, 1) := by decide +kernel
theorem dX11_coin_65 : decode cX11_coin 65 = .ok (.ireturn, 1) := by decide +kernel
theorem dX11_coin_66 : decode cX11_coin 66 = .ok (.aload_n 0, 1) := by decide +kernel
theorem dX11_coin_67 : decode cX11_coin 67 = .ok (.getfield 19, 3) := by decide +kernel
theorem dX11_coin_70 : decode cX11_coin 70 = .ok (.iload_n 1, 1) := by decide +kernel
theorem dX11_coin_71 : decode cX11_coin 71 = .ok (.iaload, 1) := by decide +kernel
theorem dX11_coin_72 : decode cX11_coin 72 = .ok (.ireturn, 1) := by decide +kernel
theorem dX11_coin_73 : decode cX11_coin 73 = .ok (.aload_n 0, 1) := by decide +kernel
theorem dX11_coin_74 : decode cX11_coin 74 = .ok (.getfield 22, 3) := by decide +kernel
theorem dX11_coin_77 : decode cX11_coin 77 = .ok (.iload_n 1, 1) := by decide +kernel
theorem dX11_coin_78 : decode cX11_coin 78 = .ok (.iaload, 1) := by decide +kernel
theorem dX11_coin_79 : decode cX11_coin 79 = .ok (.ireturn, 1) := by decide +kernel
theorem dX11_coin_80 : decode cX11_coin 80 = .ok (.aload_n 0, 1) := by decide +kernel
theorem dX11_coin_81 : decode cX11_coin 81 = .ok (.getfield 52, 3) := by decide +kernel
theorem dX11_coin_84 : decode cX11_coin 84 = .ok (.iload_n 1, 1) := by decide +kernel
theorem dX11_coin_85 : decode cX11_coin 85 = .ok (.iaload, 1) := by decide +kernel
theorem dX11_coin_86 : decode cX11_coin 86 = .ok (.ireturn, 1) := by decide +kernel
theorem dX11_coin_87 : decode cX11_coin 87 = .ok (.aload_n 0, 1) := by decide +kernel
theorem dX11_coin_88 : decode cX11_coin 88 = .ok (.getfield 55, 3) := by decide +kernel
theorem dX11_coin_91 : decode cX11_coin 91 = .ok (.iload_n 1, 1) := by decide +kernel
theorem dX11_coin_92 : decode cX11_coin 92 = .ok (.iaload, 1) := by decide +kernel
theorem dX11_coin_93 : decode cX11_coin 93 = .ok (.ireturn, 1) := by decide +kernel
theorem dX11_coin_94 : decode cX11_coin 94 = .ok (.aload_n 0, 1) := by decide +kernel
theorem dX11_coin_95 : decode cX11_coin 95 = .ok (.iload_n 1, 1) := by decide +kernel
theorem dX11_coin_96 : decode cX11_coin 96 = .ok (.invokevirtual 361, 3) := by decide +kernel
theorem dX11_coin_99 : decode cX11_coin 99 = .ok (.ireturn, 1) := by decide +kernel
theorem dX11_coin_100 : decode cX11_coin 100 = .ok (.iconst (-1), 1) := by decide +kernel
theorem dX11_coin_101 : decode cX11_coin 101 = .ok (.ireturn, 1) := by decide +kernel
theorem dX11_counter_0 : decode cX11_counter 0 = .ok (.aload_n 0, 1) := by decide +kernel
theorem dX11_counter_1 : decode cX11_counter 1 = .ok (.iload_n 1, 1) := by decide +kernel
theorem dX11_counter_2 : decode cX11_counter 2 = .ok (.invokevirtual 388, 3) := by decide +kernel
theorem dX11_counter_5 : decode cX11_counter 5 = .ok (.ifCond .eq 13, 3) := by decide +kernel
theorem dX11_counter_8 : decode cX11_counter 8 = .ok (.iload_n 2, 1) := by decide +kernel
theorem dX11_counter_9 : decode cX11_counter 9 = .ok (.i2l, 1) := by decide +kernel
theorem dX11_counter_10 : decode cX11_counter 10 = .ok (.lconst 0, 1) := by decide +kernel
theorem dX11_counter_11 : decode cX11_counter 11 = .ok (.lconst 1, 1) := by decide +kernel
theorem dX11_counter_12 : decode cX11_counter 12 = .ok (.invokestatic 171, 3) := by decide +kernel
theorem dX11_counter_15 : decode cX11_counter 15 = .ok (.ifCond .ne 7, 3) := by decide +kernel
theorem dX11_counter_18 : decode cX11_counter 18 = .ok (.iconst (-1), 1) := by decide +kernel
theorem dX11_counter_19 : decode cX11_counter 19 = .ok (.goto 22, 3) := by decide +kernel
theorem dX11_counter_22 : decode cX11_counter 22 = .ok (.iload_n 2, 1) := by decide +kernel
theorem dX11_counter_23 : decode cX11_counter 23 = .ok (.ifCond .ne 12, 3) := by decide +kernel
theorem dX11_counter_26 : decode cX11_counter 26 = .ok (.aload_n 0, 1) := by decide +kernel
theorem dX11_counter_27 : decode cX11_counter 27 = .ok (.getfield 25, 3) := by decide +kernel
theorem dX11_counter_30 : decode cX11_counter 30 = .ok (.iload_n 1, 1) := by decide +kernel
theorem dX11_counter_31 : decode cX11_counter 31 = .ok (.iaload, 1) := by decide +kernel
theorem dX11_counter_32 : decode cX11_counter 32 = .ok (.goto 9, 3) := by decide +kernel
theorem dX11_counter_35 : decode cX11_counter 35 = .ok (.aload_n 0, 1) := by decide +kernel
theorem dX11_counter_36 : decode cX11_counter 36 = .ok (.getfield 28, 3) := by decide +kernel
theorem dX11_counter_39 : decode cX11_counter 39 = .ok (.iload_n 1, 1) := by decide +kernel
theorem dX11_counter_40 : decode cX11_counter 40 = .ok (.iaload, 1) := by decide +kernel
theorem dX11_counter_41 : decode cX11_counter 41 = .ok (.ireturn, 1) := by decide +kernel
theorem dX11_give_0 : decode cX11_give 0 = .ok (.aload_n 0, 1) := by decide +kernel
theorem dX11_give_1 : decode cX11_give 1 = .ok (.iload_n 1, 1) := by decide +kernel
theorem dX11_give_2 : decode cX11_give 2 = .ok (.invokevirtual 384, 3) := by decide +kernel
theorem dX11_give_5 : decode cX11_give 5 = .ok (.ifCond .eq 10, 3) := by decide +kernel
theorem dX11_give_8 : decode cX11_give 8 = .ok (.iload_n 2, 1) := by decide +kernel
theorem dX11_give_9 : decode cX11_give 9 = .ok (.invokestatic 391, 3) := by decide +kernel
theorem dX11_give_12 : decode cX11_give 12 = .ok (.ifCond .ne 5, 3) := by decide +kernel
theorem dX11_give_15 : decode cX11_give 15 = .ok (.iconst (-1), 1) := by decide +kernel
theorem dX11_give_16 : decode cX11_give 16 = .ok (.ireturn, 1) := by decide +kernel
theorem dX11_give_17 : decode cX11_give 17 = .ok (.aload_n 0, 1) := by decide +kernel
theorem dX11_give_18 : decode cX11_give 18 = .ok (.getfield 52, 3) := by decide +kernel
theorem dX11_give_21 : decode cX11_give 21 = .ok (.iload_n 1, 1) := by decide +kernel
theorem dX11_give_22 : decode cX11_give 22 = .ok (.iaload, 1) := by decide +kernel
theorem dX11_give_23 : decode cX11_give 23 = .ok (.istore_n 3, 1) := by decide +kernel
theorem dX11_give_24 : decode cX11_give 24 = .ok (.aload_n 0, 1) := by decide +kernel
theorem dX11_give_25 : decode cX11_give 25 = .ok (.getfield 52, 3) := by decide +kernel
theorem dX11_give_28 : decode cX11_give 28 = .ok (.iload_n 1, 1) := by decide +kernel
theorem dX11_give_29 : decode cX11_give 29 = .ok (.iload_n 2, 1) := by decide +kernel
theorem dX11_give_30 : decode cX11_give 30 = .ok (.iastore, 1) := by decide +kernel
theorem dX11_give_31 : decode cX11_give 31 = .ok (.iload_n 3, 1) := by decide +kernel
theorem dX11_give_32 : decode cX11_give 32 = .ok (.ireturn, 1) := by decide +kernel
theorem dX11_retune_0 : decode cX11_retune 0 = .ok (.aload_n 0, 1) := by decide +kernel
theorem dX11_retune_1 : decode cX11_retune 1 = .ok (.iload_n 1, 1) := by decide +kernel
theorem dX11_retune_2 : decode cX11_retune 2 = .ok (.invokevirtual 384, 3) := by decide +kernel
theorem dX11_retune_5 : decode cX11_retune 5 = .ok (.ifCond .eq 15, 3) := by decide +kernel
theorem dX11_retune_8 : decode cX11_retune 8 = .ok (.iload_n 2, 1) := by decide +kernel
theorem dX11_retune_9 : decode cX11_retune 9 = .ok (.i2l, 1) := by decide +kernel
theorem dX11_retune_10 : decode cX11_retune 10 = .ok (.lconst 0, 1) := by decide +kernel
theorem dX11_retune_11 : decode cX11_retune 11 = .ok (.ldc2_w 394, 3) := by decide +kernel
theorem dX11_retune_14 : decode cX11_retune 14 = .ok (.invokestatic 171, 3) := by decide +kernel
theorem dX11_retune_17 : decode cX11_retune 17 = .ok (.ifCond .ne 5, 3) := by decide +kernel
theorem dX11_retune_20 : decode cX11_retune 20 = .ok (.iconst (-1), 1) := by decide +kernel
theorem dX11_retune_21 : decode cX11_retune 21 = .ok (.ireturn, 1) := by decide +kernel
theorem dX11_retune_22 : decode cX11_retune 22 = .ok (.aload_n 0, 1) := by decide +kernel
theorem dX11_retune_23 : decode cX11_retune 23 = .ok (.getfield 13, 3) := by decide +kernel
theorem dX11_retune_26 : decode cX11_retune 26 = .ok (.iload_n 1, 1) := by decide +kernel
theorem dX11_retune_27 : decode cX11_retune 27 = .ok (.iaload, 1) := by decide +kernel
theorem dX11_retune_28 : decode cX11_retune 28 = .ok (.istore_n 3, 1) := by decide +kernel
theorem dX11_retune_29 : decode cX11_retune 29 = .ok (.aload_n 0, 1) := by decide +kernel
theorem dX11_retune_30 : decode cX11_retune 30 = .ok (.getfield 13, 3) := by decide +kernel
theorem dX11_retune_33 : decode cX11_retune 33 = .ok (.iload_n 1, 1) := by decide +kernel
theorem dX11_retune_34 : decode cX11_retune 34 = .ok (.iload_n 2, 1) := by decide +kernel
theorem dX11_retune_35 : decode cX11_retune 35 = .ok (.iastore, 1) := by decide +kernel
theorem dX11_retune_36 : decode cX11_retune 36 = .ok (.iload_n 3, 1) := by decide +kernel
theorem dX11_retune_37 : decode cX11_retune 37 = .ok (.ireturn, 1) := by decide +kernel
theorem dX11_canFall_0 : decode cX11_canFall 0 = .ok (.iconst 1, 1) := by decide +kernel
theorem dX11_canFall_1 : decode cX11_canFall 1 = .ok (.istore_n 2, 1) := by decide +kernel
theorem dX11_canFall_2 : decode cX11_canFall 2 = .ok (.iconst 0, 1) := by decide +kernel
theorem dX11_canFall_3 : decode cX11_canFall 3 = .ok (.istore_n 3, 1) := by decide +kernel
theorem dX11_canFall_4 : decode cX11_canFall 4 = .ok (.iload_n 3, 1) := by decide +kernel
theorem dX11_canFall_5 : decode cX11_canFall 5 = .ok (.aload_n 0, 1) := by decide +kernel
theorem dX11_canFall_6 : decode cX11_canFall 6 = .ok (.getfield 9, 3) := by decide +kernel
theorem dX11_canFall_9 : decode cX11_canFall 9 = .ok (.iconst 0, 1) := by decide +kernel
theorem dX11_canFall_10 : decode cX11_canFall 10 = .ok (.iaload, 1) := by decide +kernel
theorem dX11_canFall_11 : decode cX11_canFall 11 = .ok (.if_icmp .ge 39, 3) := by decide +kernel
theorem dX11_canFall_14 : decode cX11_canFall 14 = .ok (.iload_n 2, 1) := by decide +kernel
theorem dX11_canFall_15 : decode cX11_canFall 15 = .ok (.ifCond .eq 27, 3) := by decide +kernel
theorem dX11_canFall_18 : decode cX11_canFall 18 = .ok (.iload_n 1, 1) := by decide +kernel
theorem dX11_canFall_19 : decode cX11_canFall 19 = .ok (.iload_n 3, 1) := by decide +kernel
theorem dX11_canFall_20 : decode cX11_canFall 20 = .ok (.invokestatic 177, 3) := by decide +kernel
theorem dX11_canFall_23 : decode cX11_canFall 23 = .ok (.ifCond .eq 15, 3) := by decide +kernel
theorem dX11_canFall_26 : decode cX11_canFall 26 = .ok (.aload_n 0, 1) := by decide +kernel
theorem dX11_canFall_27 : decode cX11_canFall 27 = .ok (.getfield 55, 3) := by decide +kernel
theorem dX11_canFall_30 : decode cX11_canFall 30 = .ok (.iload_n 3, 1) := by decide +kernel
theorem dX11_canFall_31 : decode cX11_canFall 31 = .ok (.iaload, 1) := by decide +kernel
theorem dX11_canFall_32 : decode cX11_canFall 32 = .ok (.sipush 9999, 3) := by decide +kernel
theorem dX11_canFall_35 : decode cX11_canFall 35 = .ok (.if_icmp .eq 7, 3) := by decide +kernel
theorem dX11_canFall_38 : decode cX11_canFall 38 = .ok (.iconst 1, 1) := by decide +kernel
theorem dX11_canFall_39 : decode cX11_canFall 39 = .ok (.goto 4, 3) := by decide +kernel
theorem dX11_canFall_42 : decode cX11_canFall 42 = .ok (.iconst 0, 1) := by decide +kernel
theorem dX11_canFall_43 : decode cX11_canFall 43 = .ok (.istore_n 2, 1) := by decide +kernel
theorem dX11_canFall_44 : decode cX11_canFall 44 = .ok (.iinc 3 1, 3) := by decide +kernel
theorem dX11_canFall_47 : decode cX11_canFall 47 = .ok (.goto (-43), 3) := by decide +kernel
theorem dX11_canFall_50 : decode cX11_canFall 50 = .ok (.iload_n 2, 1) := by decide +kernel
theorem dX11_canFall_51 : decode cX11_canFall 51 = .ok (.ireturn, 1) := by decide +kernel
theorem dX11_fallen_0 : decode cX11_fallen 0 = .ok (.iconst 0, 1) := by decide +kernel
theorem dX11_fallen_1 : decode cX11_fallen 1 = .ok (.istore_n 2, 1) := by decide +kernel
theorem dX11_fallen_2 : decode cX11_fallen 2 = .ok (.iload_n 2, 1) := by decide +kernel
theorem dX11_fallen_3 : decode cX11_fallen 3 = .ok (.aload_n 0, 1) := by decide +kernel
theorem dX11_fallen_4 : decode cX11_fallen 4 = .ok (.getfield 9, 3) := by decide +kernel
theorem dX11_fallen_7 : decode cX11_fallen 7 = .ok (.iconst 0, 1) := by decide +kernel
theorem dX11_fallen_8 : decode cX11_fallen 8 = .ok (.iaload, 1) := by decide +kernel
theorem dX11_fallen_9 : decode cX11_fallen 9 = .ok (.if_icmp .ge 31, 3) := by decide +kernel
theorem dX11_fallen_12 : decode cX11_fallen 12 = .ok (.aload_n 0, 1) := by decide +kernel
theorem dX11_fallen_13 : decode cX11_fallen 13 = .ok (.getfield 55, 3) := by decide +kernel
theorem dX11_fallen_16 : decode cX11_fallen 16 = .ok (.iload_n 2, 1) := by decide +kernel
theorem dX11_fallen_17 : decode cX11_fallen 17 = .ok (.dup2, 1) := by decide +kernel
theorem dX11_fallen_18 : decode cX11_fallen 18 = .ok (.iaload, 1) := by decide +kernel
theorem dX11_fallen_19 : decode cX11_fallen 19 = .ok (.iload_n 1, 1) := by decide +kernel
theorem dX11_fallen_20 : decode cX11_fallen 20 = .ok (.iload_n 2, 1) := by decide +kernel
theorem dX11_fallen_21 : decode cX11_fallen 21 = .ok (.invokestatic 177, 3) := by decide +kernel
theorem dX11_fallen_24 : decode cX11_fallen 24 = .ok (.ifCond .eq 7, 3) := by decide +kernel
theorem dX11_fallen_27 : decode cX11_fallen 27 = .ok (.iconst 1, 1) := by decide +kernel
theorem dX11_fallen_28 : decode cX11_fallen 28 = .ok (.goto 4, 3) := by decide +kernel
theorem dX11_fallen_31 : decode cX11_fallen 31 = .ok (.iconst 0, 1) := by decide +kernel
theorem dX11_fallen_32 : decode cX11_fallen 32 = .ok (.iadd, 1) := by decide +kernel
theorem dX11_fallen_33 : decode cX11_fallen 33 = .ok (.iastore, 1) := by decide +kernel
theorem dX11_fallen_34 : decode cX11_fallen 34 = .ok (.iinc 2 1, 3) := by decide +kernel
theorem dX11_fallen_37 : decode cX11_fallen 37 = .ok (.goto (-35), 3) := by decide +kernel
theorem dX11_fallen_40 : decode cX11_fallen 40 = .ok (.return_, 1) := by decide +kernel
theorem dX11_fall_0 : decode cX11_fall 0 = .ok (.aload_n 0, 1) := by decide +kernel
theorem dX11_fall_1 : decode cX11_fall 1 = .ok (.iload_n 1, 1) := by decide +kernel
theorem dX11_fall_2 : decode cX11_fall 2 = .ok (.invokevirtual 396, 3) := by decide +kernel
theorem dX11_fall_5 : decode cX11_fall 5 = .ok (.ifCond .eq 11, 3) := by decide +kernel
theorem dX11_fall_8 : decode cX11_fall 8 = .ok (.aload_n 0, 1) := by decide +kernel
theorem dX11_fall_9 : decode cX11_fall 9 = .ok (.iload_n 1, 1) := by decide +kernel
theorem dX11_fall_10 : decode cX11_fall 10 = .ok (.invokevirtual 399, 3) := by decide +kernel
theorem dX11_fall_13 : decode cX11_fall 13 = .ok (.ifCond .ne 5, 3) := by decide +kernel
theorem dX11_fall_16 : decode cX11_fall 16 = .ok (.iconst (-1), 1) := by decide +kernel
theorem dX11_fall_17 : decode cX11_fall 17 = .ok (.ireturn, 1) := by decide +kernel
theorem dX11_fall_18 : decode cX11_fall 18 = .ok (.aload_n 0, 1) := by decide +kernel
theorem dX11_fall_19 : decode cX11_fall 19 = .ok (.iload_n 1, 1) := by decide +kernel
theorem dX11_fall_20 : decode cX11_fall 20 = .ok (.invokevirtual 402, 3) := by decide +kernel
theorem dX11_fall_23 : decode cX11_fall 23 = .ok (.iload_n 1, 1) := by decide +kernel
theorem dX11_fall_24 : decode cX11_fall 24 = .ok (.invokestatic 363, 3) := by decide +kernel
theorem dX11_fall_27 : decode cX11_fall 27 = .ok (.ireturn, 1) := by decide +kernel
theorem dX11_isAsked_0 : decode cX11_isAsked 0 = .ok (.aload_n 0, 1) := by decide +kernel
theorem dX11_isAsked_1 : decode cX11_isAsked 1 = .ok (.iload_n 1, 1) := by decide +kernel
theorem dX11_isAsked_2 : decode cX11_isAsked 2 = .ok (.invokevirtual 405, 3) := by decide +kernel
theorem dX11_isAsked_5 : decode cX11_isAsked 5 = .ok (.ifCond .eq 23, 3) := by decide +kernel
theorem dX11_isAsked_8 : decode cX11_isAsked 8 = .ok (.aload_n 0, 1) := by decide +kernel
theorem dX11_isAsked_9 : decode cX11_isAsked 9 = .ok (.iload_n 2, 1) := by decide +kernel
theorem dX11_isAsked_10 : decode cX11_isAsked 10 = .ok (.invokevirtual 388, 3) := by decide +kernel
theorem dX11_isAsked_13 : decode cX11_isAsked 13 = .ok (.ifCond .eq 15, 3) := by decide +kernel
theorem dX11_isAsked_16 : decode cX11_isAsked 16 = .ok (.aload_n 0, 1) := by decide +kernel
theorem dX11_isAsked_17 : decode cX11_isAsked 17 = .ok (.iload_n 3, 1) := by decide +kernel
theorem dX11_isAsked_18 : decode cX11_isAsked 18 = .ok (.invokevirtual 396, 3) := by decide +kernel
theorem dX11_isAsked_21 : decode cX11_isAsked 21 = .ok (.ifCond .eq 7, 3) := by decide +kernel
theorem dX11_isAsked_24 : decode cX11_isAsked 24 = .ok (.iconst 1, 1) := by decide +kernel
theorem dX11_isAsked_25 : decode cX11_isAsked 25 = .ok (.goto 4, 3) := by decide +kernel
theorem dX11_isAsked_28 : decode cX11_isAsked 28 = .ok (.iconst 0, 1) := by decide +kernel
theorem dX11_isAsked_29 : decode cX11_isAsked 29 = .ok (.ireturn, 1) := by decide +kernel
theorem dX11_sounds_0 : decode cX11_sounds 0 = .ok (.aload_n 0, 1) := by decide +kernel
theorem dX11_sounds_1 : decode cX11_sounds 1 = .ok (.iload_n 1, 1) := by decide +kernel
theorem dX11_sounds_2 : decode cX11_sounds 2 = .ok (.iload_n 2, 1) := by decide +kernel
theorem dX11_sounds_3 : decode cX11_sounds 3 = .ok (.iload_n 3, 1) := by decide +kernel
theorem dX11_sounds_4 : decode cX11_sounds 4 = .ok (.invokevirtual 408, 3) := by decide +kernel
theorem dX11_sounds_7 : decode cX11_sounds 7 = .ok (.ifCond .eq 32, 3) := by decide +kernel
theorem dX11_sounds_10 : decode cX11_sounds 10 = .ok (.aload_n 0, 1) := by decide +kernel
theorem dX11_sounds_11 : decode cX11_sounds 11 = .ok (.iload 4, 2) := by decide +kernel
theorem dX11_sounds_13 : decode cX11_sounds 13 = .ok (.invokevirtual 384, 3) := by decide +kernel
theorem dX11_sounds_16 : decode cX11_sounds 16 = .ok (.ifCond .eq 23, 3) := by decide +kernel
theorem dX11_sounds_19 : decode cX11_sounds 19 = .ok (.iload_n 3, 1) := by decide +kernel
theorem dX11_sounds_20 : decode cX11_sounds 20 = .ok (.iload 4, 2) := by decide +kernel
theorem dX11_sounds_22 : decode cX11_sounds 22 = .ok (.invokestatic 177, 3) := by decide +kernel
theorem dX11_sounds_25 : decode cX11_sounds 25 = .ok (.ifCond .eq 14, 3) := by decide +kernel
theorem dX11_sounds_28 : decode cX11_sounds 28 = .ok (.iload 5, 2) := by decide +kernel
theorem dX11_sounds_30 : decode cX11_sounds 30 = .ok (.i2l, 1) := by decide +kernel
theorem dX11_sounds_31 : decode cX11_sounds 31 = .ok (.lconst 0, 1) := by decide +kernel
theorem dX11_sounds_32 : decode cX11_sounds 32 = .ok (.lconst 1, 1) := by decide +kernel
theorem dX11_sounds_33 : decode cX11_sounds 33 = .ok (.invokestatic 171, 3) := by decide +kernel
theorem dX11_sounds_36 : decode cX11_sounds 36 = .ok (.ifCond .ne 7, 3) := by decide +kernel
theorem dX11_sounds_39 : decode cX11_sounds 39 = .ok (.sipush (-20000), 3) := by decide +kernel
theorem dX11_sounds_42 : decode cX11_sounds 42 = .ok (.ireturn, 1) := by decide +kernel
theorem dX11_sounds_43 : decode cX11_sounds 43 = .ok (.aload_n 0, 1) := by decide +kernel
theorem dX11_sounds_44 : decode cX11_sounds 44 = .ok (.iload_n 2, 1) := by decide +kernel
theorem dX11_sounds_45 : decode cX11_sounds 45 = .ok (.iload_n 3, 1) := by decide +kernel
theorem dX11_sounds_46 : decode cX11_sounds 46 = .ok (.iload 4, 2) := by decide +kernel
theorem dX11_sounds_48 : decode cX11_sounds 48 = .ok (.invokevirtual 412, 3) := by decide +kernel
theorem dX11_sounds_51 : decode cX11_sounds 51 = .ok (.iload 5, 2) := by decide +kernel
theorem dX11_sounds_53 : decode cX11_sounds 53 = .ok (.ifCond .ne 11, 3) := by decide +kernel
theorem dX11_sounds_56 : decode cX11_sounds 56 = .ok (.aload_n 0, 1) := by decide +kernel
theorem dX11_sounds_57 : decode cX11_sounds 57 = .ok (.iload_n 1, 1) := by decide +kernel
theorem dX11_sounds_58 : decode cX11_sounds 58 = .ok (.invokevirtual 416, 3) := by decide +kernel
theorem dX11_sounds_61 : decode cX11_sounds 61 = .ok (.goto 8, 3) := by decide +kernel
theorem dX11_sounds_64 : decode cX11_sounds 64 = .ok (.aload_n 0, 1) := by decide +kernel
theorem dX11_sounds_65 : decode cX11_sounds 65 = .ok (.iload_n 1, 1) := by decide +kernel
theorem dX11_sounds_66 : decode cX11_sounds 66 = .ok (.invokevirtual 419, 3) := by decide +kernel
theorem dX11_sounds_69 : decode cX11_sounds 69 = .ok (.ireturn, 1) := by decide +kernel
theorem dX11_sings_0 : decode cX11_sings 0 = .ok (.iconst 0, 1) := by decide +kernel
theorem dX11_sings_1 : decode cX11_sings 1 = .ok (.istore 4, 2) := by decide +kernel
theorem dX11_sings_3 : decode cX11_sings 3 = .ok (.iconst 0, 1) := by decide +kernel
theorem dX11_sings_4 : decode cX11_sings 4 = .ok (.istore 5, 2) := by decide +kernel
theorem dX11_sings_6 : decode cX11_sings 6 = .ok (.iload 5, 2) := by decide +kernel
theorem dX11_sings_8 : decode cX11_sings 8 = .ok (.aload_n 0, 1) := by decide +kernel
theorem dX11_sings_9 : decode cX11_sings 9 = .ok (.getfield 9, 3) := by decide +kernel
theorem dX11_sings_12 : decode cX11_sings 12 = .ok (.iconst 0, 1) := by decide +kernel
theorem dX11_sings_13 : decode cX11_sings 13 = .ok (.iaload, 1) := by decide +kernel
theorem dX11_sings_14 : decode cX11_sings 14 = .ok (.if_icmp .ge 143, 3) := by decide +kernel
theorem dX11_sings_17 : decode cX11_sings 17 = .ok (.iload_n 3, 1) := by decide +kernel
theorem dX11_sings_18 : decode cX11_sings 18 = .ok (.iload 5, 2) := by decide +kernel
theorem dX11_sings_20 : decode cX11_sings 20 = .ok (.invokestatic 177, 3) := by decide +kernel
theorem dX11_sings_23 : decode cX11_sings 23 = .ok (.ifCond .eq 128, 3) := by decide +kernel
theorem dX11_sings_26 : decode cX11_sings 26 = .ok (.aload_n 0, 1) := by decide +kernel
theorem dX11_sings_27 : decode cX11_sings 27 = .ok (.iload_n 2, 1) := by decide +kernel
theorem dX11_sings_28 : decode cX11_sings 28 = .ok (.iload_n 3, 1) := by decide +kernel
theorem dX11_sings_29 : decode cX11_sings 29 = .ok (.iload 5, 2) := by decide +kernel
theorem dX11_sings_31 : decode cX11_sings 31 = .ok (.invokevirtual 412, 3) := by decide +kernel
theorem dX11_sings_34 : decode cX11_sings 34 = .ok (.aload_n 0, 1) := by decide +kernel
theorem dX11_sings_35 : decode cX11_sings 35 = .ok (.getfield 109, 3) := by decide +kernel
theorem dX11_sings_38 : decode cX11_sings 38 = .ok (.iload 5, 2) := by decide +kernel
theorem dX11_sings_40 : decode cX11_sings 40 = .ok (.aload_n 0, 1) := by decide +kernel
theorem dX11_sings_41 : decode cX11_sings 41 = .ok (.iload_n 1, 1) := by decide +kernel
theorem dX11_sings_42 : decode cX11_sings 42 = .ok (.invokevirtual 416, 3) := by decide +kernel
theorem dX11_sings_45 : decode cX11_sings 45 = .ok (.iastore, 1) := by decide +kernel
theorem dX11_sings_46 : decode cX11_sings 46 = .ok (.aload_n 0, 1) := by decide +kernel
theorem dX11_sings_47 : decode cX11_sings 47 = .ok (.getfield 112, 3) := by decide +kernel
theorem dX11_sings_50 : decode cX11_sings 50 = .ok (.iload 5, 2) := by decide +kernel
theorem dX11_sings_52 : decode cX11_sings 52 = .ok (.aload_n 0, 1) := by decide +kernel
theorem dX11_sings_53 : decode cX11_sings 53 = .ok (.iload_n 1, 1) := by decide +kernel
theorem dX11_sings_54 : decode cX11_sings 54 = .ok (.invokevirtual 419, 3) := by decide +kernel
theorem dX11_sings_57 : decode cX11_sings 57 = .ok (.iastore, 1) := by decide +kernel
theorem dX11_sings_58 : decode cX11_sings 58 = .ok (.aload_n 0, 1) := by decide +kernel
theorem dX11_sings_59 : decode cX11_sings 59 = .ok (.getfield 112, 3) := by decide +kernel
theorem dX11_sings_62 : decode cX11_sings 62 = .ok (.iload 5, 2) := by decide +kernel
theorem dX11_sings_64 : decode cX11_sings 64 = .ok (.iaload, 1) := by decide +kernel
theorem dX11_sings_65 : decode cX11_sings 65 = .ok (.ifCond .le 86, 3) := by decide +kernel
theorem dX11_sings_68 : decode cX11_sings 68 = .ok (.aload_n 0, 1) := by decide +kernel
theorem dX11_sings_69 : decode cX11_sings 69 = .ok (.getfield 112, 3) := by decide +kernel
theorem dX11_sings_72 : decode cX11_sings 72 = .ok (.iload 5, 2) := by decide +kernel
theorem dX11_sings_74 : decode cX11_sings 74 = .ok (.iaload, 1) := by decide +kernel
theorem dX11_sings_75 : decode cX11_sings 75 = .ok (.aload_n 0, 1) := by decide +kernel
theorem dX11_sings_76 : decode cX11_sings 76 = .ok (.getfield 9, 3) := by decide +kernel
theorem dX11_sings_79 : decode cX11_sings 79 = .ok (.iconst 3, 1) := by decide +kernel
theorem dX11_sings_80 : decode cX11_sings 80 = .ok (.iaload, 1) := by decide +kernel
theorem dX11_sings_81 : decode cX11_sings 81 = .ok (.if_icmp .lt 70, 3) := by decide +kernel
theorem dX11_sings_84 : decode cX11_sings 84 = .ok (.iload 4, 2) := by decide +kernel
theorem dX11_sings_86 : decode cX11_sings 86 = .ok (.istore 6, 2) := by decide +kernel
theorem dX11_sings_88 : decode cX11_sings 88 = .ok (.iload 6, 2) := by decide +kernel
theorem dX11_sings_90 : decode cX11_sings 90 = .ok (.ifCond .le 49, 3) := by decide +kernel
theorem dX11_sings_93 : decode cX11_sings 93 = .ok (.aload_n 0, 1) := by decide +kernel
theorem dX11_sings_94 : decode cX11_sings 94 = .ok (.getfield 109, 3) := by decide +kernel
theorem dX11_sings_97 : decode cX11_sings 97 = .ok (.aload_n 0, 1) := by decide +kernel
theorem dX11_sings_98 : decode cX11_sings 98 = .ok (.getfield 106, 3) := by decide +kernel
theorem dX11_sings_101 : decode cX11_sings 101 = .ok (.iload 6, 2) := by decide +kernel
theorem dX11_sings_103 : decode cX11_sings 103 = .ok (.iconst 1, 1) := by decide +kernel
theorem dX11_sings_104 : decode cX11_sings 104 = .ok (.isub, 1) := by decide +kernel
theorem dX11_sings_105 : decode cX11_sings 105 = .ok (.iaload, 1) := by decide +kernel
theorem dX11_sings_106 : decode cX11_sings 106 = .ok (.iaload, 1) := by decide +kernel
theorem dX11_sings_107 : decode cX11_sings 107 = .ok (.aload_n 0, 1) := by decide +kernel
theorem dX11_sings_108 : decode cX11_sings 108 = .ok (.getfield 109, 3) := by decide +kernel
theorem dX11_sings_111 : decode cX11_sings 111 = .ok (.iload 5, 2) := by decide +kernel
theorem dX11_sings_113 : decode cX11_sings 113 = .ok (.iaload, 1) := by decide +kernel
theorem dX11_sings_114 : decode cX11_sings 114 = .ok (.if_icmp .le 25, 3) := by decide +kernel
theorem dX11_sings_117 : decode cX11_sings 117 = .ok (.aload_n 0, 1) := by decide +kernel
theorem dX11_sings_118 : decode cX11_sings 118 = .ok (.getfield 106, 3) := by decide +kernel
theorem dX11_sings_121 : decode cX11_sings 121 = .ok (.iload 6, 2) := by decide +kernel
theorem dX11_sings_123 : decode cX11_sings 123 = .ok (.aload_n 0, 1) := by decide +kernel
theorem dX11_sings_124 : decode cX11_sings 124 = .ok (.getfield 106, 3) := by decide +kernel
theorem dX11_sings_127 : decode cX11_sings 127 = .ok (.iload 6, 2) := by decide +kernel
theorem dX11_sings_129 : decode cX11_sings 129 = .ok (.iconst 1, 1) := by decide +kernel
theorem dX11_sings_130 : decode cX11_sings 130 = .ok (.isub, 1) := by decide +kernel
theorem dX11_sings_131 : decode cX11_sings 131 = .ok (.iaload, 1) := by decide +kernel
theorem dX11_sings_132 : decode cX11_sings 132 = .ok (.iastore, 1) := by decide +kernel
theorem dX11_sings_133 : decode cX11_sings 133 = .ok (.iinc 6 (-1), 3) := by decide +kernel
theorem dX11_sings_136 : decode cX11_sings 136 = .ok (.goto (-48), 3) := by decide +kernel
theorem dX11_sings_139 : decode cX11_sings 139 = .ok (.aload_n 0, 1) := by decide +kernel
theorem dX11_sings_140 : decode cX11_sings 140 = .ok (.getfield 106, 3) := by decide +kernel
theorem dX11_sings_143 : decode cX11_sings 143 = .ok (.iload 6, 2) := by decide +kernel
theorem dX11_sings_145 : decode cX11_sings 145 = .ok (.iload 5, 2) := by decide +kernel
theorem dX11_sings_147 : decode cX11_sings 147 = .ok (.iastore, 1) := by decide +kernel
theorem dX11_sings_148 : decode cX11_sings 148 = .ok (.iinc 4 1, 3) := by decide +kernel
theorem dX11_sings_151 : decode cX11_sings 151 = .ok (.iinc 5 1, 3) := by decide +kernel
theorem dX11_sings_154 : decode cX11_sings 154 = .ok (.goto (-148), 3) := by decide +kernel
theorem dX11_sings_157 : decode cX11_sings 157 = .ok (.aload_n 0, 1) := by decide +kernel
theorem dX11_sings_158 : decode cX11_sings 158 = .ok (.iconst 0, 1) := by decide +kernel
theorem dX11_sings_159 : decode cX11_sings 159 = .ok (.putfield 422, 3) := by decide +kernel
theorem dX11_sings_162 : decode cX11_sings 162 = .ok (.iconst 0, 1) := by decide +kernel
theorem dX11_sings_163 : decode cX11_sings 163 = .ok (.istore 5, 2) := by decide +kernel
theorem dX11_sings_165 : decode cX11_sings 165 = .ok (.iload 5, 2) := by decide +kernel
theorem dX11_sings_167 : decode cX11_sings 167 = .ok (.iload 4, 2) := by decide +kernel
theorem dX11_sings_169 : decode cX11_sings 169 = .ok (.if_icmp .ge 20, 3) := by decide +kernel
theorem dX11_sings_172 : decode cX11_sings 172 = .ok (.aload_n 0, 1) := by decide +kernel
theorem dX11_sings_173 : decode cX11_sings 173 = .ok (.aload_n 0, 1) := by decide +kernel
theorem dX11_sings_174 : decode cX11_sings 174 = .ok (.getfield 106, 3) := by decide +kernel
theorem dX11_sings_177 : decode cX11_sings 177 = .ok (.iload 5, 2) := by decide +kernel
theorem dX11_sings_179 : decode cX11_sings 179 = .ok (.iaload, 1) := by decide +kernel
theorem dX11_sings_180 : decode cX11_sings 180 = .ok (.invokevirtual 425, 3) := by decide +kernel
theorem dX11_sings_183 : decode cX11_sings 183 = .ok (.iinc 5 1, 3) := by decide +kernel
theorem dX11_sings_186 : decode cX11_sings 186 = .ok (.goto (-21), 3) := by decide +kernel
theorem dX11_sings_189 : decode cX11_sings 189 = .ok (.return_, 1) := by decide +kernel
theorem dX11_tones0_0 : decode cX11_tones0 0 = .ok (.aload_n 0, 1) := by decide +kernel
theorem dX11_tones0_1 : decode cX11_tones0 1 = .ok (.getfield 422, 3) := by decide +kernel
theorem dX11_tones0_4 : decode cX11_tones0 4 = .ok (.iconst 1, 1) := by decide +kernel
theorem dX11_tones0_5 : decode cX11_tones0 5 = .ok (.isub, 1) := by decide +kernel
theorem dX11_tones0_6 : decode cX11_tones0 6 = .ok (.istore_n 2, 1) := by decide +kernel
theorem dX11_tones0_7 : decode cX11_tones0 7 = .ok (.iload_n 2, 1) := by decide +kernel
theorem dX11_tones0_8 : decode cX11_tones0 8 = .ok (.ifCond .lt 44, 3) := by decide +kernel
theorem dX11_tones0_11 : decode cX11_tones0 11 = .ok (.aload_n 0, 1) := by decide +kernel
theorem dX11_tones0_12 : decode cX11_tones0 12 = .ok (.getfield 109, 3) := by decide +kernel
theorem dX11_tones0_15 : decode cX11_tones0 15 = .ok (.iload_n 1, 1) := by decide +kernel
theorem dX11_tones0_16 : decode cX11_tones0 16 = .ok (.iaload, 1) := by decide +kernel
theorem dX11_tones0_17 : decode cX11_tones0 17 = .ok (.aload_n 0, 1) := by decide +kernel
theorem dX11_tones0_18 : decode cX11_tones0 18 = .ok (.getfield 115, 3) := by decide +kernel
theorem dX11_tones0_21 : decode cX11_tones0 21 = .ok (.iload_n 2, 1) := by decide +kernel
theorem dX11_tones0_22 : decode cX11_tones0 22 = .ok (.iaload, 1) := by decide +kernel
theorem dX11_tones0_23 : decode cX11_tones0 23 = .ok (.if_icmp .eq 25, 3) := by decide +kernel
theorem dX11_tones0_26 : decode cX11_tones0 26 = .ok (.aload_n 0, 1) := by decide +kernel
theorem dX11_tones0_27 : decode cX11_tones0 27 = .ok (.getfield 109, 3) := by decide +kernel
theorem dX11_tones0_30 : decode cX11_tones0 30 = .ok (.iload_n 1, 1) := by decide +kernel
theorem dX11_tones0_31 : decode cX11_tones0 31 = .ok (.iaload, 1) := by decide +kernel
theorem dX11_tones0_32 : decode cX11_tones0 32 = .ok (.aload_n 0, 1) := by decide +kernel
theorem dX11_tones0_33 : decode cX11_tones0 33 = .ok (.getfield 115, 3) := by decide +kernel
theorem dX11_tones0_36 : decode cX11_tones0 36 = .ok (.iload_n 2, 1) := by decide +kernel
theorem dX11_tones0_37 : decode cX11_tones0 37 = .ok (.iaload, 1) := by decide +kernel
theorem dX11_tones0_38 : decode cX11_tones0 38 = .ok (.isub, 1) := by decide +kernel
theorem dX11_tones0_39 : decode cX11_tones0 39 = .ok (.aload_n 0, 1) := by decide +kernel
theorem dX11_tones0_40 : decode cX11_tones0 40 = .ok (.getfield 9, 3) := by decide +kernel
theorem dX11_tones0_43 : decode cX11_tones0 43 = .ok (.iconst 2, 1) := by decide +kernel
theorem dX11_tones0_44 : decode cX11_tones0 44 = .ok (.iaload, 1) := by decide +kernel
theorem dX11_tones0_45 : decode cX11_tones0 45 = .ok (.if_icmp .ge 7, 3) := by decide +kernel
theorem dX11_tones0_48 : decode cX11_tones0 48 = .ok (.iconst 1, 1) := by decide +kernel
theorem dX11_tones0_49 : decode cX11_tones0 49 = .ok (.goto 4, 3) := by decide +kernel
theorem dX11_tones0_52 : decode cX11_tones0 52 = .ok (.iconst 0, 1) := by decide +kernel
theorem dX11_tones0_53 : decode cX11_tones0 53 = .ok (.istore_n 3, 1) := by decide +kernel
theorem dX11_tones0_54 : decode cX11_tones0 54 = .ok (.iload_n 3, 1) := by decide +kernel
theorem dX11_tones0_55 : decode cX11_tones0 55 = .ok (.ifCond .eq 47, 3) := by decide +kernel
theorem dX11_tones0_58 : decode cX11_tones0 58 = .ok (.aload_n 0, 1) := by decide +kernel
theorem dX11_tones0_59 : decode cX11_tones0 59 = .ok (.getfield 118, 3) := by decide +kernel
theorem dX11_tones0_62 : decode cX11_tones0 62 = .ok (.iload_n 2, 1) := by decide +kernel
theorem dX11_tones0_63 : decode cX11_tones0 63 = .ok (.dup2, 1) := by decide +kernel
theorem dX11_tones0_64 : decode cX11_tones0 64 = .ok (.iaload, 1) := by decide +kernel
theorem dX11_tones0_65 : decode cX11_tones0 65 = .ok (.aload_n 0, 1) := by decide +kernel
theorem dX11_tones0_66 : decode cX11_tones0 66 = .ok (.getfield 112, 3) := by decide +kernel
theorem dX11_tones0_69 : decode cX11_tones0 69 = .ok (.iload_n 1, 1) := by decide +kernel
theorem dX11_tones0_70 : decode cX11_tones0 70 = .ok (.iaload, 1) := by decide +kernel
theorem dX11_tones0_71 : decode cX11_tones0 71 = .ok (.iadd, 1) := by decide +kernel
theorem dX11_tones0_72 : decode cX11_tones0 72 = .ok (.iastore, 1) := by decide +kernel
theorem dX11_tones0_73 : decode cX11_tones0 73 = .ok (.aload_n 0, 1) := by decide +kernel
theorem dX11_tones0_74 : decode cX11_tones0 74 = .ok (.getfield 121, 3) := by decide +kernel
theorem dX11_tones0_77 : decode cX11_tones0 77 = .ok (.iload_n 2, 1) := by decide +kernel
theorem dX11_tones0_78 : decode cX11_tones0 78 = .ok (.iload_n 1, 1) := by decide +kernel
theorem dX11_tones0_79 : decode cX11_tones0 79 = .ok (.aload_n 0, 1) := by decide +kernel
theorem dX11_tones0_80 : decode cX11_tones0 80 = .ok (.getfield 121, 3) := by decide +kernel
theorem dX11_tones0_83 : decode cX11_tones0 83 = .ok (.iload_n 2, 1) := by decide +kernel
theorem dX11_tones0_84 : decode cX11_tones0 84 = .ok (.iaload, 1) := by decide +kernel
theorem dX11_tones0_85 : decode cX11_tones0 85 = .ok (.if_icmp .ge 7, 3) := by decide +kernel
theorem dX11_tones0_88 : decode cX11_tones0 88 = .ok (.iload_n 1, 1) := by decide +kernel
theorem dX11_tones0_89 : decode cX11_tones0 89 = .ok (.goto 9, 3) := by decide +kernel
theorem dX11_tones0_92 : decode cX11_tones0 92 = .ok (.aload_n 0, 1) := by decide +kernel
theorem dX11_tones0_93 : decode cX11_tones0 93 = .ok (.getfield 121, 3) := by decide +kernel
theorem dX11_tones0_96 : decode cX11_tones0 96 = .ok (.iload_n 2, 1) := by decide +kernel
theorem dX11_tones0_97 : decode cX11_tones0 97 = .ok (.iaload, 1) := by decide +kernel
theorem dX11_tones0_98 : decode cX11_tones0 98 = .ok (.iastore, 1) := by decide +kernel
theorem dX11_tones0_99 : decode cX11_tones0 99 = .ok (.goto 53, 3) := by decide +kernel
theorem dX11_tones0_102 : decode cX11_tones0 102 = .ok (.aload_n 0, 1) := by decide +kernel
theorem dX11_tones0_103 : decode cX11_tones0 103 = .ok (.getfield 115, 3) := by decide +kernel
theorem dX11_tones0_106 : decode cX11_tones0 106 = .ok (.aload_n 0, 1) := by decide +kernel
theorem dX11_tones0_107 : decode cX11_tones0 107 = .ok (.getfield 422, 3) := by decide +kernel
theorem dX11_tones0_110 : decode cX11_tones0 110 = .ok (.aload_n 0, 1) := by decide +kernel
theorem dX11_tones0_111 : decode cX11_tones0 111 = .ok (.getfield 109, 3) := by decide +kernel
theorem dX11_tones0_114 : decode cX11_tones0 114 = .ok (.iload_n 1, 1) := by decide +kernel
theorem dX11_tones0_115 : decode cX11_tones0 115 = .ok (.iaload, 1) := by decide +kernel
theorem dX11_tones0_116 : decode cX11_tones0 116 = .ok (.iastore, 1) := by decide +kernel
theorem dX11_tones0_117 : decode cX11_tones0 117 = .ok (.aload_n 0, 1) := by decide +kernel
theorem dX11_tones0_118 : decode cX11_tones0 118 = .ok (.getfield 118, 3) := by decide +kernel
theorem dX11_tones0_121 : decode cX11_tones0 121 = .ok (.aload_n 0, 1) := by decide +kernel
theorem dX11_tones0_122 : decode cX11_tones0 122 = .ok (.getfield 422, 3) := by decide +kernel
theorem dX11_tones0_125 : decode cX11_tones0 125 = .ok (.aload_n 0, 1) := by decide +kernel
theorem dX11_tones0_126 : decode cX11_tones0 126 = .ok (.getfield 112, 3) := by decide +kernel
theorem dX11_tones0_129 : decode cX11_tones0 129 = .ok (.iload_n 1, 1) := by decide +kernel
theorem dX11_tones0_130 : decode cX11_tones0 130 = .ok (.iaload, 1) := by decide +kernel
theorem dX11_tones0_131 : decode cX11_tones0 131 = .ok (.iastore, 1) := by decide +kernel
theorem dX11_tones0_132 : decode cX11_tones0 132 = .ok (.aload_n 0, 1) := by decide +kernel
theorem dX11_tones0_133 : decode cX11_tones0 133 = .ok (.getfield 121, 3) := by decide +kernel
theorem dX11_tones0_136 : decode cX11_tones0 136 = .ok (.aload_n 0, 1) := by decide +kernel
theorem dX11_tones0_137 : decode cX11_tones0 137 = .ok (.getfield 422, 3) := by decide +kernel
theorem dX11_tones0_140 : decode cX11_tones0 140 = .ok (.iload_n 1, 1) := by decide +kernel
theorem dX11_tones0_141 : decode cX11_tones0 141 = .ok (.iastore, 1) := by decide +kernel
theorem dX11_tones0_142 : decode cX11_tones0 142 = .ok (.aload_n 0, 1) := by decide +kernel
theorem dX11_tones0_143 : decode cX11_tones0 143 = .ok (.dup, 1) := by decide +kernel
theorem dX11_tones0_144 : decode cX11_tones0 144 = .ok (.getfield 422, 3) := by decide +kernel
theorem dX11_tones0_147 : decode cX11_tones0 147 = .ok (.iconst 1, 1) := by decide +kernel
theorem dX11_tones0_148 : decode cX11_tones0 148 = .ok (.iadd, 1) := by decide +kernel
theorem dX11_tones0_149 : decode cX11_tones0 149 = .ok (.putfield 422, 3) := by decide +kernel
theorem dX11_tones0_152 : decode cX11_tones0 152 = .ok (.return_, 1) := by decide +kernel
theorem dX11_tone_0 : decode cX11_tone 0 = .ok (.aload_n 0, 1) := by decide +kernel
theorem dX11_tone_1 : decode cX11_tone 1 = .ok (.iload_n 1, 1) := by decide +kernel
theorem dX11_tone_2 : decode cX11_tone 2 = .ok (.iload_n 2, 1) := by decide +kernel
theorem dX11_tone_3 : decode cX11_tone 3 = .ok (.iload_n 3, 1) := by decide +kernel
theorem dX11_tone_4 : decode cX11_tone 4 = .ok (.invokevirtual 408, 3) := by decide +kernel
theorem dX11_tone_7 : decode cX11_tone 7 = .ok (.ifCond .eq 21, 3) := by decide +kernel
theorem dX11_tone_10 : decode cX11_tone 10 = .ok (.iload 4, 2) := by decide +kernel
theorem dX11_tone_12 : decode cX11_tone 12 = .ok (.ifCond .lt 16, 3) := by decide +kernel
theorem dX11_tone_15 : decode cX11_tone 15 = .ok (.iload 5, 2) := by decide +kernel
theorem dX11_tone_17 : decode cX11_tone 17 = .ok (.i2l, 1) := by decide +kernel
theorem dX11_tone_18 : decode cX11_tone 18 = .ok (.lconst 0, 1) := by decide +kernel
theorem dX11_tone_19 : decode cX11_tone 19 = .ok (.ldc2_w 428, 3) := by decide +kernel
theorem dX11_tone_22 : decode cX11_tone 22 = .ok (.invokestatic 171, 3) := by decide +kernel
theorem dX11_tone_25 : decode cX11_tone 25 = .ok (.ifCond .ne 7, 3) := by decide +kernel
theorem dX11_tone_28 : decode cX11_tone 28 = .ok (.sipush (-20000), 3) := by decide +kernel
theorem dX11_tone_31 : decode cX11_tone 31 = .ok (.ireturn, 1) := by decide +kernel
theorem dX11_tone_32 : decode cX11_tone 32 = .ok (.aload_n 0, 1) := by decide +kernel
theorem dX11_tone_33 : decode cX11_tone 33 = .ok (.iload_n 1, 1) := by decide +kernel
theorem dX11_tone_34 : decode cX11_tone 34 = .ok (.iload_n 2, 1) := by decide +kernel
theorem dX11_tone_35 : decode cX11_tone 35 = .ok (.iload_n 3, 1) := by decide +kernel
theorem dX11_tone_36 : decode cX11_tone 36 = .ok (.invokevirtual 430, 3) := by decide +kernel
theorem dX11_tone_39 : decode cX11_tone 39 = .ok (.iload 4, 2) := by decide +kernel
theorem dX11_tone_41 : decode cX11_tone 41 = .ok (.aload_n 0, 1) := by decide +kernel
theorem dX11_tone_42 : decode cX11_tone 42 = .ok (.getfield 422, 3) := by decide +kernel
theorem dX11_tone_45 : decode cX11_tone 45 = .ok (.if_icmp .lt 7, 3) := by decide +kernel
theorem dX11_tone_48 : decode cX11_tone 48 = .ok (.sipush (-20000), 3) := by decide +kernel
theorem dX11_tone_51 : decode cX11_tone 51 = .ok (.ireturn, 1) := by decide +kernel
theorem dX11_tone_52 : decode cX11_tone 52 = .ok (.iload 5, 2) := by decide +kernel
theorem dX11_tone_54 : decode cX11_tone 54 = .ok (.ifCond .ne 13, 3) := by decide +kernel
theorem dX11_tone_57 : decode cX11_tone 57 = .ok (.aload_n 0, 1) := by decide +kernel
theorem dX11_tone_58 : decode cX11_tone 58 = .ok (.getfield 115, 3) := by decide +kernel
theorem dX11_tone_61 : decode cX11_tone 61 = .ok (.iload 4, 2) := by decide +kernel
theorem dX11_tone_63 : decode cX11_tone 63 = .ok (.iaload, 1) := by decide +kernel
theorem dX11_tone_64 : decode cX11_tone 64 = .ok (.goto 26, 3) := by decide +kernel
theorem dX11_tone_67 : decode cX11_tone 67 = .ok (.iload 5, 2) := by decide +kernel
theorem dX11_tone_69 : decode cX11_tone 69 = .ok (.iconst 1, 1) := by decide +kernel
theorem dX11_tone_70 : decode cX11_tone 70 = .ok (.if_icmp .ne 13, 3) := by decide +kernel
theorem dX11_tone_73 : decode cX11_tone 73 = .ok (.aload_n 0, 1) := by decide +kernel
theorem dX11_tone_74 : decode cX11_tone 74 = .ok (.getfield 118, 3) := by decide +kernel
theorem dX11_tone_77 : decode cX11_tone 77 = .ok (.iload 4, 2) := by decide +kernel
theorem dX11_tone_79 : decode cX11_tone 79 = .ok (.iaload, 1) := by decide +kernel
theorem dX11_tone_80 : decode cX11_tone 80 = .ok (.goto 10, 3) := by decide +kernel
theorem dX11_tone_83 : decode cX11_tone 83 = .ok (.aload_n 0, 1) := by decide +kernel
theorem dX11_tone_84 : decode cX11_tone 84 = .ok (.getfield 121, 3) := by decide +kernel
theorem dX11_tone_87 : decode cX11_tone 87 = .ok (.iload 4, 2) := by decide +kernel
theorem dX11_tone_89 : decode cX11_tone 89 = .ok (.iaload, 1) := by decide +kernel
theorem dX11_tone_90 : decode cX11_tone 90 = .ok (.ireturn, 1) := by decide +kernel
theorem dX11_tones_0 : decode cX11_tones 0 = .ok (.aload_n 0, 1) := by decide +kernel
theorem dX11_tones_1 : decode cX11_tones 1 = .ok (.iload_n 1, 1) := by decide +kernel
theorem dX11_tones_2 : decode cX11_tones 2 = .ok (.iload_n 2, 1) := by decide +kernel
theorem dX11_tones_3 : decode cX11_tones 3 = .ok (.iload_n 3, 1) := by decide +kernel
theorem dX11_tones_4 : decode cX11_tones 4 = .ok (.invokevirtual 408, 3) := by decide +kernel
theorem dX11_tones_7 : decode cX11_tones 7 = .ok (.ifCond .ne 5, 3) := by decide +kernel
theorem dX11_tones_10 : decode cX11_tones 10 = .ok (.iconst (-1), 1) := by decide +kernel
theorem dX11_tones_11 : decode cX11_tones 11 = .ok (.ireturn, 1) := by decide +kernel
theorem dX11_tones_12 : decode cX11_tones 12 = .ok (.aload_n 0, 1) := by decide +kernel
theorem dX11_tones_13 : decode cX11_tones 13 = .ok (.iload_n 1, 1) := by decide +kernel
theorem dX11_tones_14 : decode cX11_tones 14 = .ok (.iload_n 2, 1) := by decide +kernel
theorem dX11_tones_15 : decode cX11_tones 15 = .ok (.iload_n 3, 1) := by decide +kernel
theorem dX11_tones_16 : decode cX11_tones 16 = .ok (.invokevirtual 430, 3) := by decide +kernel
theorem dX11_tones_19 : decode cX11_tones 19 = .ok (.aload_n 0, 1) := by decide +kernel
theorem dX11_tones_20 : decode cX11_tones 20 = .ok (.getfield 422, 3) := by decide +kernel
theorem dX11_tones_23 : decode cX11_tones 23 = .ok (.ireturn, 1) := by decide +kernel
theorem dX11_keepsChord_0 : decode cX11_keepsChord 0 = .ok (.aload_n 0, 1) := by decide +kernel
theorem dX11_keepsChord_1 : decode cX11_keepsChord 1 = .ok (.iload_n 1, 1) := by decide +kernel
theorem dX11_keepsChord_2 : decode cX11_keepsChord 2 = .ok (.iload_n 2, 1) := by decide +kernel
theorem dX11_keepsChord_3 : decode cX11_keepsChord 3 = .ok (.iload_n 3, 1) := by decide +kernel
theorem dX11_keepsChord_4 : decode cX11_keepsChord 4 = .ok (.invokevirtual 430, 3) := by decide +kernel
theorem dX11_keepsChord_7 : decode cX11_keepsChord 7 = .ok (.aload_n 0, 1) := by decide +kernel
theorem dX11_keepsChord_8 : decode cX11_keepsChord 8 = .ok (.getfield 422, 3) := by decide +kernel
theorem dX11_keepsChord_11 : decode cX11_keepsChord 11 = .ok (.i2l, 1) := by decide +kernel
theorem dX11_keepsChord_12 : decode cX11_keepsChord 12 = .ok (.lstore 4, 2) := by decide +kernel
theorem dX11_keepsChord_14 : decode cX11_keepsChord 14 = .ok (.iconst 0, 1) := by decide +kernel
theorem dX11_keepsChord_15 : decode cX11_keepsChord 15 = .ok (.istore 6, 2) := by decide +kernel
theorem dX11_keepsChord_17 : decode cX11_keepsChord 17 = .ok (.iload 6, 2) := by decide +kernel
theorem dX11_keepsChord_19 : decode cX11_keepsChord 19 = .ok (.aload_n 0, 1) := by decide +kernel
theorem dX11_keepsChord_20 : decode cX11_keepsChord 20 = .ok (.getfield 422, 3) := by decide +kernel
theorem dX11_keepsChord_23 : decode cX11_keepsChord 23 = .ok (.if_icmp .ge 45, 3) := by decide +kernel
theorem dX11_keepsChord_26 : decode cX11_keepsChord 26 = .ok (.aload_n 0, 1) := by decide +kernel
theorem dX11_keepsChord_27 : decode cX11_keepsChord 27 = .ok (.getfield 128, 3) := by decide +kernel
theorem dX11_keepsChord_30 : decode cX11_keepsChord 30 = .ok (.bipush 12, 2) := by decide +kernel
theorem dX11_keepsChord_32 : decode cX11_keepsChord 32 = .ok (.iload_n 3, 1) := by decide +kernel
theorem dX11_keepsChord_33 : decode cX11_keepsChord 33 = .ok (.imul, 1) := by decide +kernel
theorem dX11_keepsChord_34 : decode cX11_keepsChord 34 = .ok (.iload 6, 2) := by decide +kernel
theorem dX11_keepsChord_36 : decode cX11_keepsChord 36 = .ok (.iadd, 1) := by decide +kernel
theorem dX11_keepsChord_37 : decode cX11_keepsChord 37 = .ok (.aload_n 0, 1) := by decide +kernel
theorem dX11_keepsChord_38 : decode cX11_keepsChord 38 = .ok (.getfield 115, 3) := by decide +kernel
theorem dX11_keepsChord_41 : decode cX11_keepsChord 41 = .ok (.iload 6, 2) := by decide +kernel
theorem dX11_keepsChord_43 : decode cX11_keepsChord 43 = .ok (.iaload, 1) := by decide +kernel
theorem dX11_keepsChord_44 : decode cX11_keepsChord 44 = .ok (.iastore, 1) := by decide +kernel
theorem dX11_keepsChord_45 : decode cX11_keepsChord 45 = .ok (.lload 4, 2) := by decide +kernel
theorem dX11_keepsChord_47 : decode cX11_keepsChord 47 = .ok (.ldc2_w 433, 3) := by decide +kernel
theorem dX11_keepsChord_50 : decode cX11_keepsChord 50 = .ok (.lmul, 1) := by decide +kernel
theorem dX11_keepsChord_51 : decode cX11_keepsChord 51 = .ok (.aload_n 0, 1) := by decide +kernel
theorem dX11_keepsChord_52 : decode cX11_keepsChord 52 = .ok (.getfield 115, 3) := by decide +kernel
theorem dX11_keepsChord_55 : decode cX11_keepsChord 55 = .ok (.iload 6, 2) := by decide +kernel
theorem dX11_keepsChord_57 : decode cX11_keepsChord 57 = .ok (.iaload, 1) := by decide +kernel
theorem dX11_keepsChord_58 : decode cX11_keepsChord 58 = .ok (.i2l, 1) := by decide +kernel
theorem dX11_keepsChord_59 : decode cX11_keepsChord 59 = .ok (.ladd, 1) := by decide +kernel
theorem dX11_keepsChord_60 : decode cX11_keepsChord 60 = .ok (.lstore 4, 2) := by decide +kernel
theorem dX11_keepsChord_62 : decode cX11_keepsChord 62 = .ok (.iinc 6 1, 3) := by decide +kernel
theorem dX11_keepsChord_65 : decode cX11_keepsChord 65 = .ok (.goto (-48), 3) := by decide +kernel
theorem dX11_keepsChord_68 : decode cX11_keepsChord 68 = .ok (.aload_n 0, 1) := by decide +kernel
theorem dX11_keepsChord_69 : decode cX11_keepsChord 69 = .ok (.getfield 124, 3) := by decide +kernel
theorem dX11_keepsChord_72 : decode cX11_keepsChord 72 = .ok (.iload_n 3, 1) := by decide +kernel
theorem dX11_keepsChord_73 : decode cX11_keepsChord 73 = .ok (.aload_n 0, 1) := by decide +kernel
theorem dX11_keepsChord_74 : decode cX11_keepsChord 74 = .ok (.getfield 422, 3) := by decide +kernel
theorem dX11_keepsChord_77 : decode cX11_keepsChord 77 = .ok (.iastore, 1) := by decide +kernel
theorem dX11_keepsChord_78 : decode cX11_keepsChord 78 = .ok (.aload_n 0, 1) := by decide +kernel
theorem dX11_keepsChord_79 : decode cX11_keepsChord 79 = .ok (.getfield 131, 3) := by decide +kernel
theorem dX11_keepsChord_82 : decode cX11_keepsChord 82 = .ok (.iload_n 3, 1) := by decide +kernel
theorem dX11_keepsChord_83 : decode cX11_keepsChord 83 = .ok (.lload 4, 2) := by decide +kernel
theorem dX11_keepsChord_85 : decode cX11_keepsChord 85 = .ok (.lastore, 1) := by decide +kernel
theorem dX11_keepsChord_86 : decode cX11_keepsChord 86 = .ok (.return_, 1) := by decide +kernel
theorem dX11_keepsAll_0 : decode cX11_keepsAll 0 = .ok (.iconst 0, 1) := by decide +kernel
theorem dX11_keepsAll_1 : decode cX11_keepsAll 1 = .ok (.istore 5, 2) := by decide +kernel
theorem dX11_keepsAll_3 : decode cX11_keepsAll 3 = .ok (.iload 5, 2) := by decide +kernel
theorem dX11_keepsAll_5 : decode cX11_keepsAll 5 = .ok (.iload_n 3, 1) := by decide +kernel
theorem dX11_keepsAll_6 : decode cX11_keepsAll 6 = .ok (.if_icmp .gt 36, 3) := by decide +kernel
theorem dX11_keepsAll_9 : decode cX11_keepsAll 9 = .ok (.iload 5, 2) := by decide +kernel
theorem dX11_keepsAll_11 : decode cX11_keepsAll 11 = .ok (.iload_n 3, 1) := by decide +kernel
theorem dX11_keepsAll_12 : decode cX11_keepsAll 12 = .ok (.iconst (-1), 1) := by decide +kernel
theorem dX11_keepsAll_13 : decode cX11_keepsAll 13 = .ok (.ixor, 1) := by decide +kernel
theorem dX11_keepsAll_14 : decode cX11_keepsAll 14 = .ok (.iand, 1) := by decide +kernel
theorem dX11_keepsAll_15 : decode cX11_keepsAll 15 = .ok (.ifCond .ne 21, 3) := by decide +kernel
theorem dX11_keepsAll_18 : decode cX11_keepsAll 18 = .ok (.iload 5, 2) := by decide +kernel
theorem dX11_keepsAll_20 : decode cX11_keepsAll 20 = .ok (.invokestatic 363, 3) := by decide +kernel
theorem dX11_keepsAll_23 : decode cX11_keepsAll 23 = .ok (.iload 4, 2) := by decide +kernel
theorem dX11_keepsAll_25 : decode cX11_keepsAll 25 = .ok (.if_icmp .gt 11, 3) := by decide +kernel
theorem dX11_keepsAll_28 : decode cX11_keepsAll 28 = .ok (.aload_n 0, 1) := by decide +kernel
theorem dX11_keepsAll_29 : decode cX11_keepsAll 29 = .ok (.iload_n 1, 1) := by decide +kernel
theorem dX11_keepsAll_30 : decode cX11_keepsAll 30 = .ok (.iload_n 2, 1) := by decide +kernel
theorem dX11_keepsAll_31 : decode cX11_keepsAll 31 = .ok (.iload 5, 2) := by decide +kernel
theorem dX11_keepsAll_33 : decode cX11_keepsAll 33 = .ok (.invokevirtual 435, 3) := by decide +kernel
theorem dX11_keepsAll_36 : decode cX11_keepsAll 36 = .ok (.iinc 5 1, 3) := by decide +kernel
theorem dX11_keepsAll_39 : decode cX11_keepsAll 39 = .ok (.goto (-36), 3) := by decide +kernel
theorem dX11_keepsAll_42 : decode cX11_keepsAll 42 = .ok (.return_, 1) := by decide +kernel
theorem dX11_areAlike_0 : decode cX11_areAlike 0 = .ok (.aload_n 0, 1) := by decide +kernel
theorem dX11_areAlike_1 : decode cX11_areAlike 1 = .ok (.getfield 131, 3) := by decide +kernel
theorem dX11_areAlike_4 : decode cX11_areAlike 4 = .ok (.iload_n 1, 1) := by decide +kernel
theorem dX11_areAlike_5 : decode cX11_areAlike 5 = .ok (.laload, 1) := by decide +kernel
theorem dX11_areAlike_6 : decode cX11_areAlike 6 = .ok (.aload_n 0, 1) := by decide +kernel
theorem dX11_areAlike_7 : decode cX11_areAlike 7 = .ok (.getfield 131, 3) := by decide +kernel
theorem dX11_areAlike_10 : decode cX11_areAlike 10 = .ok (.iload_n 2, 1) := by decide +kernel
theorem dX11_areAlike_11 : decode cX11_areAlike 11 = .ok (.laload, 1) := by decide +kernel
theorem dX11_areAlike_12 : decode cX11_areAlike 12 = .ok (.lcmp, 1) := by decide +kernel
theorem dX11_areAlike_13 : decode cX11_areAlike 13 = .ok (.ifCond .ne 22, 3) := by decide +kernel
theorem dX11_areAlike_16 : decode cX11_areAlike 16 = .ok (.aload_n 0, 1) := by decide +kernel
theorem dX11_areAlike_17 : decode cX11_areAlike 17 = .ok (.getfield 124, 3) := by decide +kernel
theorem dX11_areAlike_20 : decode cX11_areAlike 20 = .ok (.iload_n 1, 1) := by decide +kernel
theorem dX11_areAlike_21 : decode cX11_areAlike 21 = .ok (.iaload, 1) := by decide +kernel
theorem dX11_areAlike_22 : decode cX11_areAlike 22 = .ok (.aload_n 0, 1) := by decide +kernel
theorem dX11_areAlike_23 : decode cX11_areAlike 23 = .ok (.getfield 124, 3) := by decide +kernel
theorem dX11_areAlike_26 : decode cX11_areAlike 26 = .ok (.iload_n 2, 1) := by decide +kernel
theorem dX11_areAlike_27 : decode cX11_areAlike 27 = .ok (.iaload, 1) := by decide +kernel
theorem dX11_areAlike_28 : decode cX11_areAlike 28 = .ok (.if_icmp .ne 7, 3) := by decide +kernel
theorem dX11_areAlike_31 : decode cX11_areAlike 31 = .ok (.iconst 1, 1) := by decide +kernel
theorem dX11_areAlike_32 : decode cX11_areAlike 32 = .ok (.goto 4, 3) := by decide +kernel
theorem dX11_areAlike_35 : decode cX11_areAlike 35 = .ok (.iconst 0, 1) := by decide +kernel
theorem dX11_areAlike_36 : decode cX11_areAlike 36 = .ok (.istore_n 3, 1) := by decide +kernel
theorem dX11_areAlike_37 : decode cX11_areAlike 37 = .ok (.iconst 0, 1) := by decide +kernel
theorem dX11_areAlike_38 : decode cX11_areAlike 38 = .ok (.istore 4, 2) := by decide +kernel
theorem dX11_areAlike_40 : decode cX11_areAlike 40 = .ok (.iload_n 3, 1) := by decide +kernel
theorem dX11_areAlike_41 : decode cX11_areAlike 41 = .ok (.ifCond .eq 53, 3) := by decide +kernel
theorem dX11_areAlike_44 : decode cX11_areAlike 44 = .ok (.iload 4, 2) := by decide +kernel
theorem dX11_areAlike_46 : decode cX11_areAlike 46 = .ok (.aload_n 0, 1) := by decide +kernel
theorem dX11_areAlike_47 : decode cX11_areAlike 47 = .ok (.getfield 124, 3) := by decide +kernel
theorem dX11_areAlike_50 : decode cX11_areAlike 50 = .ok (.iload_n 1, 1) := by decide +kernel
theorem dX11_areAlike_51 : decode cX11_areAlike 51 = .ok (.iaload, 1) := by decide +kernel
theorem dX11_areAlike_52 : decode cX11_areAlike 52 = .ok (.if_icmp .ge 42, 3) := by decide +kernel
theorem dX11_areAlike_55 : decode cX11_areAlike 55 = .ok (.aload_n 0, 1) := by decide +kernel
theorem dX11_areAlike_56 : decode cX11_areAlike 56 = .ok (.getfield 128, 3) := by decide +kernel
theorem dX11_areAlike_59 : decode cX11_areAlike 59 = .ok (.bipush 12, 2) := by decide +kernel
theorem dX11_areAlike_61 : decode cX11_areAlike 61 = .ok (.iload_n 1, 1) := by decide +kernel
theorem dX11_areAlike_62 : decode cX11_areAlike 62 = .ok (.imul, 1) := by decide +kernel
theorem dX11_areAlike_63 : decode cX11_areAlike 63 = .ok (.iload 4, 2) := by decide +kernel
theorem dX11_areAlike_65 : decode cX11_areAlike 65 = .ok (.iadd, 1) := by decide +kernel
theorem dX11_areAlike_66 : decode cX11_areAlike 66 = .ok (.iaload, 1) := by decide +kernel
theorem dX11_areAlike_67 : decode cX11_areAlike 67 = .ok (.aload_n 0, 1) := by decide +kernel
theorem dX11_areAlike_68 : decode cX11_areAlike 68 = .ok (.getfield 128, 3) := by decide +kernel
theorem dX11_areAlike_71 : decode cX11_areAlike 71 = .ok (.bipush 12, 2) := by decide +kernel
theorem dX11_areAlike_73 : decode cX11_areAlike 73 = .ok (.iload_n 2, 1) := by decide +kernel
theorem dX11_areAlike_74 : decode cX11_areAlike 74 = .ok (.imul, 1) := by decide +kernel
theorem dX11_areAlike_75 : decode cX11_areAlike 75 = .ok (.iload 4, 2) := by decide +kernel
theorem dX11_areAlike_77 : decode cX11_areAlike 77 = .ok (.iadd, 1) := by decide +kernel
theorem dX11_areAlike_78 : decode cX11_areAlike 78 = .ok (.iaload, 1) := by decide +kernel
theorem dX11_areAlike_79 : decode cX11_areAlike 79 = .ok (.if_icmp .ne 7, 3) := by decide +kernel
theorem dX11_areAlike_82 : decode cX11_areAlike 82 = .ok (.iconst 1, 1) := by decide +kernel
theorem dX11_areAlike_83 : decode cX11_areAlike 83 = .ok (.goto 4, 3) := by decide +kernel
theorem dX11_areAlike_86 : decode cX11_areAlike 86 = .ok (.iconst 0, 1) := by decide +kernel
theorem dX11_areAlike_87 : decode cX11_areAlike 87 = .ok (.istore_n 3, 1) := by decide +kernel
theorem dX11_areAlike_88 : decode cX11_areAlike 88 = .ok (.iinc 4 1, 3) := by decide +kernel
theorem dX11_areAlike_91 : decode cX11_areAlike 91 = .ok (.goto (-51), 3) := by decide +kernel
theorem dX11_areAlike_94 : decode cX11_areAlike 94 = .ok (.iload_n 3, 1) := by decide +kernel
theorem dX11_areAlike_95 : decode cX11_areAlike 95 = .ok (.ireturn, 1) := by decide +kernel
theorem dX11_alike_0 : decode cX11_alike 0 = .ok (.aload_n 0, 1) := by decide +kernel
theorem dX11_alike_1 : decode cX11_alike 1 = .ok (.iload_n 1, 1) := by decide +kernel
theorem dX11_alike_2 : decode cX11_alike 2 = .ok (.iload_n 2, 1) := by decide +kernel
theorem dX11_alike_3 : decode cX11_alike 3 = .ok (.iload_n 3, 1) := by decide +kernel
theorem dX11_alike_4 : decode cX11_alike 4 = .ok (.invokevirtual 408, 3) := by decide +kernel
theorem dX11_alike_7 : decode cX11_alike 7 = .ok (.ifCond .eq 12, 3) := by decide +kernel
theorem dX11_alike_10 : decode cX11_alike 10 = .ok (.aload_n 0, 1) := by decide +kernel
theorem dX11_alike_11 : decode cX11_alike 11 = .ok (.iload 4, 2) := by decide +kernel
theorem dX11_alike_13 : decode cX11_alike 13 = .ok (.invokevirtual 396, 3) := by decide +kernel
theorem dX11_alike_16 : decode cX11_alike 16 = .ok (.ifCond .ne 5, 3) := by decide +kernel
theorem dX11_alike_19 : decode cX11_alike 19 = .ok (.iconst (-1), 1) := by decide +kernel
theorem dX11_alike_20 : decode cX11_alike 20 = .ok (.ireturn, 1) := by decide +kernel
theorem dX11_alike_21 : decode cX11_alike 21 = .ok (.aload_n 0, 1) := by decide +kernel
theorem dX11_alike_22 : decode cX11_alike 22 = .ok (.iload_n 1, 1) := by decide +kernel
theorem dX11_alike_23 : decode cX11_alike 23 = .ok (.iload_n 2, 1) := by decide +kernel
theorem dX11_alike_24 : decode cX11_alike 24 = .ok (.iload_n 3, 1) := by decide +kernel
theorem dX11_alike_25 : decode cX11_alike 25 = .ok (.invokevirtual 435, 3) := by decide +kernel
theorem dX11_alike_28 : decode cX11_alike 28 = .ok (.aload_n 0, 1) := by decide +kernel
theorem dX11_alike_29 : decode cX11_alike 29 = .ok (.iload_n 1, 1) := by decide +kernel
theorem dX11_alike_30 : decode cX11_alike 30 = .ok (.iload_n 2, 1) := by decide +kernel
theorem dX11_alike_31 : decode cX11_alike 31 = .ok (.iload 4, 2) := by decide +kernel
theorem dX11_alike_33 : decode cX11_alike 33 = .ok (.invokevirtual 435, 3) := by decide +kernel
theorem dX11_alike_36 : decode cX11_alike 36 = .ok (.aload_n 0, 1) := by decide +kernel
theorem dX11_alike_37 : decode cX11_alike 37 = .ok (.iload_n 3, 1) := by decide +kernel
theorem dX11_alike_38 : decode cX11_alike 38 = .ok (.iload 4, 2) := by decide +kernel
theorem dX11_alike_40 : decode cX11_alike 40 = .ok (.invokevirtual 438, 3) := by decide +kernel
theorem dX11_alike_43 : decode cX11_alike 43 = .ok (.ifCond .eq 7, 3) := by decide +kernel
theorem dX11_alike_46 : decode cX11_alike 46 = .ok (.iconst 1, 1) := by decide +kernel
theorem dX11_alike_47 : decode cX11_alike 47 = .ok (.goto 4, 3) := by decide +kernel
theorem dX11_alike_50 : decode cX11_alike 50 = .ok (.iconst 0, 1) := by decide +kernel
theorem dX11_alike_51 : decode cX11_alike 51 = .ok (.ireturn, 1) := by decide +kernel
theorem dX11_hear_0 : decode cX11_hear 0 = .ok (.iload_n 1, 1) := by decide +kernel
theorem dX11_hear_1 : decode cX11_hear 1 = .ok (.sipush (-20000), 3) := by decide +kernel
theorem dX11_hear_4 : decode cX11_hear 4 = .ok (.if_icmp .ne 12, 3) := by decide +kernel
theorem dX11_hear_7 : decode cX11_hear 7 = .ok (.aload_n 0, 1) := by decide +kernel
theorem dX11_hear_8 : decode cX11_hear 8 = .ok (.getfield 9, 3) := by decide +kernel
theorem dX11_hear_11 : decode cX11_hear 11 = .ok (.iconst 4, 1) := by decide +kernel
theorem dX11_hear_12 : decode cX11_hear 12 = .ok (.iconst 0, 1) := by decide +kernel
theorem dX11_hear_13 : decode cX11_hear 13 = .ok (.iastore, 1) := by decide +kernel
theorem dX11_hear_14 : decode cX11_hear 14 = .ok (.iconst 0, 1) := by decide +kernel
theorem dX11_hear_15 : decode cX11_hear 15 = .ok (.ireturn, 1) := by decide +kernel
theorem dX11_hear_16 : decode cX11_hear 16 = .ok (.aload_n 0, 1) := by decide +kernel
theorem dX11_hear_17 : decode cX11_hear 17 = .ok (.getfield 9, 3) := by decide +kernel
theorem dX11_hear_20 : decode cX11_hear 20 = .ok (.iconst 4, 1) := by decide +kernel
theorem dX11_hear_21 : decode cX11_hear 21 = .ok (.iaload, 1) := by decide +kernel
theorem dX11_hear_22 : decode cX11_hear 22 = .ok (.istore_n 2, 1) := by decide +kernel
theorem dX11_hear_23 : decode cX11_hear 23 = .ok (.iload_n 1, 1) := by decide +kernel
theorem dX11_hear_24 : decode cX11_hear 24 = .ok (.i2l, 1) := by decide +kernel
theorem dX11_hear_25 : decode cX11_hear 25 = .ok (.ldc2_w 376, 3) := by decide +kernel
theorem dX11_hear_28 : decode cX11_hear 28 = .ok (.ldc2_w 378, 3) := by decide +kernel
theorem dX11_hear_31 : decode cX11_hear 31 = .ok (.invokestatic 171, 3) := by decide +kernel
theorem dX11_hear_34 : decode cX11_hear 34 = .ok (.ifCond .eq 13, 3) := by decide +kernel
theorem dX11_hear_37 : decode cX11_hear 37 = .ok (.iload_n 2, 1) := by decide +kernel
theorem dX11_hear_38 : decode cX11_hear 38 = .ok (.bipush 12, 2) := by decide +kernel
theorem dX11_hear_40 : decode cX11_hear 40 = .ok (.if_icmp .ge 7, 3) := by decide +kernel
theorem dX11_hear_43 : decode cX11_hear 43 = .ok (.iconst 1, 1) := by decide +kernel
theorem dX11_hear_44 : decode cX11_hear 44 = .ok (.goto 4, 3) := by decide +kernel
theorem dX11_hear_47 : decode cX11_hear 47 = .ok (.iconst 0, 1) := by decide +kernel
theorem dX11_hear_48 : decode cX11_hear 48 = .ok (.istore_n 3, 1) := by decide +kernel
theorem dX11_hear_49 : decode cX11_hear 49 = .ok (.iconst 0, 1) := by decide +kernel
theorem dX11_hear_50 : decode cX11_hear 50 = .ok (.istore 4, 2) := by decide +kernel
theorem dX11_hear_52 : decode cX11_hear 52 = .ok (.iload 4, 2) := by decide +kernel
theorem dX11_hear_54 : decode cX11_hear 54 = .ok (.iload_n 2, 1) := by decide +kernel
theorem dX11_hear_55 : decode cX11_hear 55 = .ok (.if_icmp .ge 30, 3) := by decide +kernel
theorem dX11_hear_58 : decode cX11_hear 58 = .ok (.iload_n 3, 1) := by decide +kernel
theorem dX11_hear_59 : decode cX11_hear 59 = .ok (.ifCond .eq 18, 3) := by decide +kernel
theorem dX11_hear_62 : decode cX11_hear 62 = .ok (.aload_n 0, 1) := by decide +kernel
theorem dX11_hear_63 : decode cX11_hear 63 = .ok (.getfield 58, 3) := by decide +kernel
theorem dX11_hear_66 : decode cX11_hear 66 = .ok (.iload 4, 2) := by decide +kernel
theorem dX11_hear_68 : decode cX11_hear 68 = .ok (.iaload, 1) := by decide +kernel
theorem dX11_hear_69 : decode cX11_hear 69 = .ok (.iload_n 1, 1) := by decide +kernel
theorem dX11_hear_70 : decode cX11_hear 70 = .ok (.if_icmp .eq 7, 3) := by decide +kernel
theorem dX11_hear_73 : decode cX11_hear 73 = .ok (.iconst 1, 1) := by decide +kernel
theorem dX11_hear_74 : decode cX11_hear 74 = .ok (.goto 4, 3) := by decide +kernel
theorem dX11_hear_77 : decode cX11_hear 77 = .ok (.iconst 0, 1) := by decide +kernel
theorem dX11_hear_78 : decode cX11_hear 78 = .ok (.istore_n 3, 1) := by decide +kernel
theorem dX11_hear_79 : decode cX11_hear 79 = .ok (.iinc 4 1, 3) := by decide +kernel
theorem dX11_hear_82 : decode cX11_hear 82 = .ok (.goto (-30), 3) := by decide +kernel
theorem dX11_hear_85 : decode cX11_hear 85 = .ok (.iload_n 3, 1) := by decide +kernel
theorem dX11_hear_86 : decode cX11_hear 86 = .ok (.ifCond .ne 6, 3) := by decide +kernel
theorem dX11_hear_89 : decode cX11_hear 89 = .ok (.bipush (-2), 2) := by decide +kernel
theorem dX11_hear_91 : decode cX11_hear 91 = .ok (.ireturn, 1) := by decide +kernel
theorem dX11_hear_92 : decode cX11_hear 92 = .ok (.iload_n 2, 1) := by decide +kernel
theorem dX11_hear_93 : decode cX11_hear 93 = .ok (.istore 4, 2) := by decide +kernel
theorem dX11_hear_95 : decode cX11_hear 95 = .ok (.iload 4, 2) := by decide +kernel
theorem dX11_hear_97 : decode cX11_hear 97 = .ok (.ifCond .le 38, 3) := by decide +kernel
theorem dX11_hear_100 : decode cX11_hear 100 = .ok (.aload_n 0, 1) := by decide +kernel
theorem dX11_hear_101 : decode cX11_hear 101 = .ok (.getfield 58, 3) := by decide +kernel
theorem dX11_hear_104 : decode cX11_hear 104 = .ok (.iload 4, 2) := by decide +kernel
theorem dX11_hear_106 : decode cX11_hear 106 = .ok (.iconst 1, 1) := by decide +kernel
theorem dX11_hear_107 : decode cX11_hear 107 = .ok (.isub, 1) := by decide +kernel
theorem dX11_hear_108 : decode cX11_hear 108 = .ok (.iaload, 1) := by decide +kernel
theorem dX11_hear_109 : decode cX11_hear 109 = .ok (.iload_n 1, 1) := by decide +kernel
theorem dX11_hear_110 : decode cX11_hear 110 = .ok (.if_icmp .le 25, 3) := by decide +kernel
theorem dX11_hear_113 : decode cX11_hear 113 = .ok (.aload_n 0, 1) := by decide +kernel
theorem dX11_hear_114 : decode cX11_hear 114 = .ok (.getfield 58, 3) := by decide +kernel
theorem dX11_hear_117 : decode cX11_hear 117 = .ok (.iload 4, 2) := by decide +kernel
theorem dX11_hear_119 : decode cX11_hear 119 = .ok (.aload_n 0, 1) := by decide +kernel
theorem dX11_hear_120 : decode cX11_hear 120 = .ok (.getfield 58, 3) := by decide +kernel
theorem dX11_hear_123 : decode cX11_hear 123 = .ok (.iload 4, 2) := by decide +kernel
theorem dX11_hear_125 : decode cX11_hear 125 = .ok (.iconst 1, 1) := by decide +kernel
theorem dX11_hear_126 : decode cX11_hear 126 = .ok (.isub, 1) := by decide +kernel
theorem dX11_hear_127 : decode cX11_hear 127 = .ok (.iaload, 1) := by decide +kernel
theorem dX11_hear_128 : decode cX11_hear 128 = .ok (.iastore, 1) := by decide +kernel
theorem dX11_hear_129 : decode cX11_hear 129 = .ok (.iinc 4 (-1), 3) := by decide +kernel
theorem dX11_hear_132 : decode cX11_hear 132 = .ok (.goto (-37), 3) := by decide +kernel
theorem dX11_hear_135 : decode cX11_hear 135 = .ok (.aload_n 0, 1) := by decide +kernel
theorem dX11_hear_136 : decode cX11_hear 136 = .ok (.getfield 58, 3) := by decide +kernel
theorem dX11_hear_139 : decode cX11_hear 139 = .ok (.iload 4, 2) := by decide +kernel
theorem dX11_hear_141 : decode cX11_hear 141 = .ok (.iload_n 1, 1) := by decide +kernel
theorem dX11_hear_142 : decode cX11_hear 142 = .ok (.iastore, 1) := by decide +kernel
theorem dX11_hear_143 : decode cX11_hear 143 = .ok (.aload_n 0, 1) := by decide +kernel
theorem dX11_hear_144 : decode cX11_hear 144 = .ok (.getfield 9, 3) := by decide +kernel
theorem dX11_hear_147 : decode cX11_hear 147 = .ok (.iconst 4, 1) := by decide +kernel
theorem dX11_hear_148 : decode cX11_hear 148 = .ok (.dup2, 1) := by decide +kernel
theorem dX11_hear_149 : decode cX11_hear 149 = .ok (.iaload, 1) := by decide +kernel
theorem dX11_hear_150 : decode cX11_hear 150 = .ok (.iconst 1, 1) := by decide +kernel
theorem dX11_hear_151 : decode cX11_hear 151 = .ok (.iadd, 1) := by decide +kernel
theorem dX11_hear_152 : decode cX11_hear 152 = .ok (.iastore, 1) := by decide +kernel
theorem dX11_hear_153 : decode cX11_hear 153 = .ok (.iload_n 2, 1) := by decide +kernel
theorem dX11_hear_154 : decode cX11_hear 154 = .ok (.iconst 1, 1) := by decide +kernel
theorem dX11_hear_155 : decode cX11_hear 155 = .ok (.iadd, 1) := by decide +kernel
theorem dX11_hear_156 : decode cX11_hear 156 = .ok (.ireturn, 1) := by decide +kernel
theorem dX11_isHeard_0 : decode cX11_isHeard 0 = .ok (.aload_n 0, 1) := by decide +kernel
theorem dX11_isHeard_1 : decode cX11_isHeard 1 = .ok (.getfield 422, 3) := by decide +kernel
theorem dX11_isHeard_4 : decode cX11_isHeard 4 = .ok (.aload_n 0, 1) := by decide +kernel
theorem dX11_isHeard_5 : decode cX11_isHeard 5 = .ok (.getfield 9, 3) := by decide +kernel
theorem dX11_isHeard_8 : decode cX11_isHeard 8 = .ok (.iconst 4, 1) := by decide +kernel
theorem dX11_isHeard_9 : decode cX11_isHeard 9 = .ok (.iaload, 1) := by decide +kernel
theorem dX11_isHeard_10 : decode cX11_isHeard 10 = .ok (.if_icmp .ne 7, 3) := by decide +kernel
theorem dX11_isHeard_13 : decode cX11_isHeard 13 = .ok (.iconst 1, 1) := by decide +kernel
theorem dX11_isHeard_14 : decode cX11_isHeard 14 = .ok (.goto 4, 3) := by decide +kernel
theorem dX11_isHeard_17 : decode cX11_isHeard 17 = .ok (.iconst 0, 1) := by decide +kernel
theorem dX11_isHeard_18 : decode cX11_isHeard 18 = .ok (.istore_n 1, 1) := by decide +kernel
theorem dX11_isHeard_19 : decode cX11_isHeard 19 = .ok (.iconst 0, 1) := by decide +kernel
theorem dX11_isHeard_20 : decode cX11_isHeard 20 = .ok (.istore_n 2, 1) := by decide +kernel
theorem dX11_isHeard_21 : decode cX11_isHeard 21 = .ok (.iload_n 1, 1) := by decide +kernel
theorem dX11_isHeard_22 : decode cX11_isHeard 22 = .ok (.ifCond .eq 38, 3) := by decide +kernel
theorem dX11_isHeard_25 : decode cX11_isHeard 25 = .ok (.iload_n 2, 1) := by decide +kernel
theorem dX11_isHeard_26 : decode cX11_isHeard 26 = .ok (.aload_n 0, 1) := by decide +kernel
theorem dX11_isHeard_27 : decode cX11_isHeard 27 = .ok (.getfield 422, 3) := by decide +kernel
theorem dX11_isHeard_30 : decode cX11_isHeard 30 = .ok (.if_icmp .ge 30, 3) := by decide +kernel
theorem dX11_isHeard_33 : decode cX11_isHeard 33 = .ok (.aload_n 0, 1) := by decide +kernel
theorem dX11_isHeard_34 : decode cX11_isHeard 34 = .ok (.getfield 115, 3) := by decide +kernel
theorem dX11_isHeard_37 : decode cX11_isHeard 37 = .ok (.iload_n 2, 1) := by decide +kernel
theorem dX11_isHeard_38 : decode cX11_isHeard 38 = .ok (.iaload, 1) := by decide +kernel
theorem dX11_isHeard_39 : decode cX11_isHeard 39 = .ok (.aload_n 0, 1) := by decide +kernel
theorem dX11_isHeard_40 : decode cX11_isHeard 40 = .ok (.getfield 58, 3) := by decide +kernel
theorem dX11_isHeard_43 : decode cX11_isHeard 43 = .ok (.iload_n 2, 1) := by decide +kernel
theorem dX11_isHeard_44 : decode cX11_isHeard 44 = .ok (.iaload, 1) := by decide +kernel
theorem dX11_isHeard_45 : decode cX11_isHeard 45 = .ok (.if_icmp .ne 7, 3) := by decide +kernel
theorem dX11_isHeard_48 : decode cX11_isHeard 48 = .ok (.iconst 1, 1) := by decide +kernel
theorem dX11_isHeard_49 : decode cX11_isHeard 49 = .ok (.goto 4, 3) := by decide +kernel
theorem dX11_isHeard_52 : decode cX11_isHeard 52 = .ok (.iconst 0, 1) := by decide +kernel
theorem dX11_isHeard_53 : decode cX11_isHeard 53 = .ok (.istore_n 1, 1) := by decide +kernel
theorem dX11_isHeard_54 : decode cX11_isHeard 54 = .ok (.iinc 2 1, 3) := by decide +kernel
theorem dX11_isHeard_57 : decode cX11_isHeard 57 = .ok (.goto (-36), 3) := by decide +kernel
theorem dX11_isHeard_60 : decode cX11_isHeard 60 = .ok (.iload_n 1, 1) := by decide +kernel
theorem dX11_isHeard_61 : decode cX11_isHeard 61 = .ok (.ireturn, 1) := by decide +kernel
theorem dX11_fits_0 : decode cX11_fits 0 = .ok (.aload_n 0, 1) := by decide +kernel
theorem dX11_fits_1 : decode cX11_fits 1 = .ok (.iload_n 1, 1) := by decide +kernel
theorem dX11_fits_2 : decode cX11_fits 2 = .ok (.iload_n 2, 1) := by decide +kernel
theorem dX11_fits_3 : decode cX11_fits 3 = .ok (.iload_n 3, 1) := by decide +kernel
theorem dX11_fits_4 : decode cX11_fits 4 = .ok (.invokevirtual 408, 3) := by decide +kernel
theorem dX11_fits_7 : decode cX11_fits 7 = .ok (.ifCond .eq 16, 3) := by decide +kernel
theorem dX11_fits_10 : decode cX11_fits 10 = .ok (.iload 4, 2) := by decide +kernel
theorem dX11_fits_12 : decode cX11_fits 12 = .ok (.i2l, 1) := by decide +kernel
theorem dX11_fits_13 : decode cX11_fits 13 = .ok (.lconst 0, 1) := by decide +kernel
theorem dX11_fits_14 : decode cX11_fits 14 = .ok (.ldc2_w 441, 3) := by decide +kernel
theorem dX11_fits_17 : decode cX11_fits 17 = .ok (.invokestatic 171, 3) := by decide +kernel
theorem dX11_fits_20 : decode cX11_fits 20 = .ok (.ifCond .ne 5, 3) := by decide +kernel
theorem dX11_fits_23 : decode cX11_fits 23 = .ok (.iconst (-1), 1) := by decide +kernel
theorem dX11_fits_24 : decode cX11_fits 24 = .ok (.ireturn, 1) := by decide +kernel
theorem dX11_fits_25 : decode cX11_fits 25 = .ok (.iconst 0, 1) := by decide +kernel
theorem dX11_fits_26 : decode cX11_fits 26 = .ok (.istore 5, 2) := by decide +kernel
theorem dX11_fits_28 : decode cX11_fits 28 = .ok (.bipush (-2), 2) := by decide +kernel
theorem dX11_fits_30 : decode cX11_fits 30 = .ok (.istore 6, 2) := by decide +kernel
theorem dX11_fits_32 : decode cX11_fits 32 = .ok (.bipush (-2), 2) := by decide +kernel
theorem dX11_fits_34 : decode cX11_fits 34 = .ok (.istore 7, 2) := by decide +kernel
theorem dX11_fits_36 : decode cX11_fits 36 = .ok (.iconst 0, 1) := by decide +kernel
theorem dX11_fits_37 : decode cX11_fits 37 = .ok (.istore 8, 2) := by decide +kernel
theorem dX11_fits_39 : decode cX11_fits 39 = .ok (.iconst 0, 1) := by decide +kernel
theorem dX11_fits_40 : decode cX11_fits 40 = .ok (.istore 9, 2) := by decide +kernel
theorem dX11_fits_42 : decode cX11_fits 42 = .ok (.iconst 0, 1) := by decide +kernel
theorem dX11_fits_43 : decode cX11_fits 43 = .ok (.istore 10, 2) := by decide +kernel
theorem dX11_fits_45 : decode cX11_fits 45 = .ok (.iload 10, 2) := by decide +kernel
theorem dX11_fits_47 : decode cX11_fits 47 = .ok (.iload_n 3, 1) := by decide +kernel
theorem dX11_fits_48 : decode cX11_fits 48 = .ok (.if_icmp .gt 131, 3) := by decide +kernel
theorem dX11_fits_51 : decode cX11_fits 51 = .ok (.iload 10, 2) := by decide +kernel
theorem dX11_fits_53 : decode cX11_fits 53 = .ok (.iload_n 3, 1) := by decide +kernel
theorem dX11_fits_54 : decode cX11_fits 54 = .ok (.iconst (-1), 1) := by decide +kernel
theorem dX11_fits_55 : decode cX11_fits 55 = .ok (.ixor, 1) := by decide +kernel
theorem dX11_fits_56 : decode cX11_fits 56 = .ok (.iand, 1) := by decide +kernel
theorem dX11_fits_57 : decode cX11_fits 57 = .ok (.ifCond .ne 116, 3) := by decide +kernel
theorem dX11_fits_60 : decode cX11_fits 60 = .ok (.aload_n 0, 1) := by decide +kernel
theorem dX11_fits_61 : decode cX11_fits 61 = .ok (.iload_n 1, 1) := by decide +kernel
theorem dX11_fits_62 : decode cX11_fits 62 = .ok (.iload_n 2, 1) := by decide +kernel
theorem dX11_fits_63 : decode cX11_fits 63 = .ok (.iload 10, 2) := by decide +kernel
theorem dX11_fits_65 : decode cX11_fits 65 = .ok (.invokevirtual 430, 3) := by decide +kernel
theorem dX11_fits_68 : decode cX11_fits 68 = .ok (.aload_n 0, 1) := by decide +kernel
theorem dX11_fits_69 : decode cX11_fits 69 = .ok (.invokevirtual 443, 3) := by decide +kernel
theorem dX11_fits_72 : decode cX11_fits 72 = .ok (.ifCond .eq 101, 3) := by decide +kernel
theorem dX11_fits_75 : decode cX11_fits 75 = .ok (.aload_n 0, 1) := by decide +kernel
theorem dX11_fits_76 : decode cX11_fits 76 = .ok (.iload 10, 2) := by decide +kernel
theorem dX11_fits_78 : decode cX11_fits 78 = .ok (.invokevirtual 446, 3) := by decide +kernel
theorem dX11_fits_81 : decode cX11_fits 81 = .ok (.istore 11, 2) := by decide +kernel
theorem dX11_fits_83 : decode cX11_fits 83 = .ok (.iload 5, 2) := by decide +kernel
theorem dX11_fits_85 : decode cX11_fits 85 = .ok (.ifCond .eq 10, 3) := by decide +kernel
theorem dX11_fits_88 : decode cX11_fits 88 = .ok (.iload 11, 2) := by decide +kernel
theorem dX11_fits_90 : decode cX11_fits 90 = .ok (.iload 8, 2) := by decide +kernel
theorem dX11_fits_92 : decode cX11_fits 92 = .ok (.if_icmp .ge 8, 3) := by decide +kernel
theorem dX11_fits_95 : decode cX11_fits 95 = .ok (.iload 11, 2) := by decide +kernel
theorem dX11_fits_97 : decode cX11_fits 97 = .ok (.goto 5, 3) := by decide +kernel
theorem dX11_fits_100 : decode cX11_fits 100 = .ok (.iload 8, 2) := by decide +kernel
theorem dX11_fits_102 : decode cX11_fits 102 = .ok (.istore 8, 2) := by decide +kernel
theorem dX11_fits_104 : decode cX11_fits 104 = .ok (.iload 5, 2) := by decide +kernel
theorem dX11_fits_106 : decode cX11_fits 106 = .ok (.ifCond .eq 10, 3) := by decide +kernel
theorem dX11_fits_109 : decode cX11_fits 109 = .ok (.iload 11, 2) := by decide +kernel
theorem dX11_fits_111 : decode cX11_fits 111 = .ok (.iload 9, 2) := by decide +kernel
theorem dX11_fits_113 : decode cX11_fits 113 = .ok (.if_icmp .le 8, 3) := by decide +kernel
theorem dX11_fits_116 : decode cX11_fits 116 = .ok (.iload 11, 2) := by decide +kernel
theorem dX11_fits_118 : decode cX11_fits 118 = .ok (.goto 5, 3) := by decide +kernel
theorem dX11_fits_121 : decode cX11_fits 121 = .ok (.iload 9, 2) := by decide +kernel
theorem dX11_fits_123 : decode cX11_fits 123 = .ok (.istore 9, 2) := by decide +kernel
theorem dX11_fits_125 : decode cX11_fits 125 = .ok (.iload 6, 2) := by decide +kernel
theorem dX11_fits_127 : decode cX11_fits 127 = .ok (.bipush (-2), 2) := by decide +kernel
theorem dX11_fits_129 : decode cX11_fits 129 = .ok (.if_icmp .ne 8, 3) := by decide +kernel
theorem dX11_fits_132 : decode cX11_fits 132 = .ok (.iload 10, 2) := by decide +kernel
theorem dX11_fits_134 : decode cX11_fits 134 = .ok (.goto 5, 3) := by decide +kernel
theorem dX11_fits_137 : decode cX11_fits 137 = .ok (.iload 6, 2) := by decide +kernel
theorem dX11_fits_139 : decode cX11_fits 139 = .ok (.istore 6, 2) := by decide +kernel
theorem dX11_fits_141 : decode cX11_fits 141 = .ok (.iload 7, 2) := by decide +kernel
theorem dX11_fits_143 : decode cX11_fits 143 = .ok (.bipush (-2), 2) := by decide +kernel
theorem dX11_fits_145 : decode cX11_fits 145 = .ok (.if_icmp .eq 16, 3) := by decide +kernel
theorem dX11_fits_148 : decode cX11_fits 148 = .ok (.iload 10, 2) := by decide +kernel
theorem dX11_fits_150 : decode cX11_fits 150 = .ok (.invokestatic 363, 3) := by decide +kernel
theorem dX11_fits_153 : decode cX11_fits 153 = .ok (.iload 7, 2) := by decide +kernel
theorem dX11_fits_155 : decode cX11_fits 155 = .ok (.invokestatic 363, 3) := by decide +kernel
theorem dX11_fits_158 : decode cX11_fits 158 = .ok (.if_icmp .ge 8, 3) := by decide +kernel
theorem dX11_fits_161 : decode cX11_fits 161 = .ok (.iload 10, 2) := by decide +kernel
theorem dX11_fits_163 : decode cX11_fits 163 = .ok (.goto 5, 3) := by decide +kernel
theorem dX11_fits_166 : decode cX11_fits 166 = .ok (.iload 7, 2) := by decide +kernel
theorem dX11_fits_168 : decode cX11_fits 168 = .ok (.istore 7, 2) := by decide +kernel
theorem dX11_fits_170 : decode cX11_fits 170 = .ok (.iinc 5 1, 3) := by decide +kernel
theorem dX11_fits_173 : decode cX11_fits 173 = .ok (.iinc 10 1, 3) := by decide +kernel
theorem dX11_fits_176 : decode cX11_fits 176 = .ok (.goto (-131), 3) := by decide +kernel
theorem dX11_fits_179 : decode cX11_fits 179 = .ok (.iload 4, 2) := by decide +kernel
theorem dX11_fits_181 : decode cX11_fits 181 = .ok (.ifCond .eq 8, 3) := by decide +kernel
theorem dX11_fits_184 : decode cX11_fits 184 = .ok (.iload 5, 2) := by decide +kernel
theorem dX11_fits_186 : decode cX11_fits 186 = .ok (.ifCond .ne 18, 3) := by decide +kernel
theorem dX11_fits_189 : decode cX11_fits 189 = .ok (.iload 4, 2) := by decide +kernel
theorem dX11_fits_191 : decode cX11_fits 191 = .ok (.ifCond .ne 10, 3) := by decide +kernel
theorem dX11_fits_194 : decode cX11_fits 194 = .ok (.iconst 0, 1) := by decide +kernel
theorem dX11_fits_195 : decode cX11_fits 195 = .ok (.iload 5, 2) := by decide +kernel
theorem dX11_fits_197 : decode cX11_fits 197 = .ok (.iadd, 1) := by decide +kernel
theorem dX11_fits_198 : decode cX11_fits 198 = .ok (.goto 5, 3) := by decide +kernel
theorem dX11_fits_201 : decode cX11_fits 201 = .ok (.bipush (-2), 2) := by decide +kernel
theorem dX11_fits_203 : decode cX11_fits 203 = .ok (.ireturn, 1) := by decide +kernel
theorem dX11_fits_204 : decode cX11_fits 204 = .ok (.iload 4, 2) := by decide +kernel
theorem dX11_fits_206 : decode cX11_fits 206 = .ok (.iconst 1, 1) := by decide +kernel
theorem dX11_fits_207 : decode cX11_fits 207 = .ok (.if_icmp .ne 8, 3) := by decide +kernel
theorem dX11_fits_210 : decode cX11_fits 210 = .ok (.iload 6, 2) := by decide +kernel
theorem dX11_fits_212 : decode cX11_fits 212 = .ok (.goto 31, 3) := by decide +kernel
theorem dX11_fits_215 : decode cX11_fits 215 = .ok (.iload 4, 2) := by decide +kernel
theorem dX11_fits_217 : decode cX11_fits 217 = .ok (.iconst 2, 1) := by decide +kernel
theorem dX11_fits_218 : decode cX11_fits 218 = .ok (.if_icmp .ne 8, 3) := by decide +kernel
theorem dX11_fits_221 : decode cX11_fits 221 = .ok (.iload 8, 2) := by decide +kernel
theorem dX11_fits_223 : decode cX11_fits 223 = .ok (.goto 20, 3) := by decide +kernel
theorem dX11_fits_226 : decode cX11_fits 226 = .ok (.iload 4, 2) := by decide +kernel
theorem dX11_fits_228 : decode cX11_fits 228 = .ok (.iconst 3, 1) := by decide +kernel
theorem dX11_fits_229 : decode cX11_fits 229 = .ok (.if_icmp .ne 8, 3) := by decide +kernel
theorem dX11_fits_232 : decode cX11_fits 232 = .ok (.iload 9, 2) := by decide +kernel
theorem dX11_fits_234 : decode cX11_fits 234 = .ok (.goto 9, 3) := by decide +kernel
theorem dX11_fits_237 : decode cX11_fits 237 = .ok (.aload_n 0, 1) := by decide +kernel
theorem dX11_fits_238 : decode cX11_fits 238 = .ok (.iload 7, 2) := by decide +kernel
theorem dX11_fits_240 : decode cX11_fits 240 = .ok (.invokevirtual 446, 3) := by decide +kernel
theorem dX11_fits_243 : decode cX11_fits 243 = .ok (.ireturn, 1) := by decide +kernel
theorem dX11_mistaken_0 : decode cX11_mistaken 0 = .ok (.aload_n 0, 1) := by decide +kernel
theorem dX11_mistaken_1 : decode cX11_mistaken 1 = .ok (.iload_n 1, 1) := by decide +kernel
theorem dX11_mistaken_2 : decode cX11_mistaken 2 = .ok (.iload_n 2, 1) := by decide +kernel
theorem dX11_mistaken_3 : decode cX11_mistaken 3 = .ok (.iload_n 3, 1) := by decide +kernel
theorem dX11_mistaken_4 : decode cX11_mistaken 4 = .ok (.invokevirtual 408, 3) := by decide +kernel
theorem dX11_mistaken_7 : decode cX11_mistaken 7 = .ok (.ifCond .eq 29, 3) := by decide +kernel
theorem dX11_mistaken_10 : decode cX11_mistaken 10 = .ok (.iload 4, 2) := by decide +kernel
theorem dX11_mistaken_12 : decode cX11_mistaken 12 = .ok (.i2l, 1) := by decide +kernel
theorem dX11_mistaken_13 : decode cX11_mistaken 13 = .ok (.lconst 0, 1) := by decide +kernel
theorem dX11_mistaken_14 : decode cX11_mistaken 14 = .ok (.ldc2_w 449, 3) := by decide +kernel
theorem dX11_mistaken_17 : decode cX11_mistaken 17 = .ok (.invokestatic 171, 3) := by decide +kernel
theorem dX11_mistaken_20 : decode cX11_mistaken 20 = .ok (.ifCond .eq 16, 3) := by decide +kernel
theorem dX11_mistaken_23 : decode cX11_mistaken 23 = .ok (.iload 5, 2) := by decide +kernel
theorem dX11_mistaken_25 : decode cX11_mistaken 25 = .ok (.i2l, 1) := by decide +kernel
theorem dX11_mistaken_26 : decode cX11_mistaken 26 = .ok (.lconst 0, 1) := by decide +kernel
theorem dX11_mistaken_27 : decode cX11_mistaken 27 = .ok (.ldc2_w 428, 3) := by decide +kernel
theorem dX11_mistaken_30 : decode cX11_mistaken 30 = .ok (.invokestatic 171, 3) := by decide +kernel
theorem dX11_mistaken_33 : decode cX11_mistaken 33 = .ok (.ifCond .ne 5, 3) := by decide +kernel
theorem dX11_mistaken_36 : decode cX11_mistaken 36 = .ok (.iconst (-1), 1) := by decide +kernel
theorem dX11_mistaken_37 : decode cX11_mistaken 37 = .ok (.ireturn, 1) := by decide +kernel
theorem dX11_mistaken_38 : decode cX11_mistaken 38 = .ok (.aload_n 0, 1) := by decide +kernel
theorem dX11_mistaken_39 : decode cX11_mistaken 39 = .ok (.iload_n 1, 1) := by decide +kernel
theorem dX11_mistaken_40 : decode cX11_mistaken 40 = .ok (.iload_n 2, 1) := by decide +kernel
theorem dX11_mistaken_41 : decode cX11_mistaken 41 = .ok (.iload_n 3, 1) := by decide +kernel
theorem dX11_mistaken_42 : decode cX11_mistaken 42 = .ok (.iload 4, 2) := by decide +kernel
theorem dX11_mistaken_44 : decode cX11_mistaken 44 = .ok (.invokevirtual 451, 3) := by decide +kernel
theorem dX11_mistaken_47 : decode cX11_mistaken 47 = .ok (.iconst 0, 1) := by decide +kernel
theorem dX11_mistaken_48 : decode cX11_mistaken 48 = .ok (.istore 6, 2) := by decide +kernel
theorem dX11_mistaken_50 : decode cX11_mistaken 50 = .ok (.iconst 0, 1) := by decide +kernel
theorem dX11_mistaken_51 : decode cX11_mistaken 51 = .ok (.istore 7, 2) := by decide +kernel
theorem dX11_mistaken_53 : decode cX11_mistaken 53 = .ok (.iload 7, 2) := by decide +kernel
theorem dX11_mistaken_55 : decode cX11_mistaken 55 = .ok (.iload_n 3, 1) := by decide +kernel
theorem dX11_mistaken_56 : decode cX11_mistaken 56 = .ok (.if_icmp .gt 152, 3) := by decide +kernel
theorem dX11_mistaken_59 : decode cX11_mistaken 59 = .ok (.iload 7, 2) := by decide +kernel
theorem dX11_mistaken_61 : decode cX11_mistaken 61 = .ok (.iload_n 3, 1) := by decide +kernel
theorem dX11_mistaken_62 : decode cX11_mistaken 62 = .ok (.iconst (-1), 1) := by decide +kernel
theorem dX11_mistaken_63 : decode cX11_mistaken 63 = .ok (.ixor, 1) := by decide +kernel
theorem dX11_mistaken_64 : decode cX11_mistaken 64 = .ok (.iand, 1) := by decide +kernel
theorem dX11_mistaken_65 : decode cX11_mistaken 65 = .ok (.ifCond .ne 137, 3) := by decide +kernel
theorem dX11_mistaken_68 : decode cX11_mistaken 68 = .ok (.iload 7, 2) := by decide +kernel
theorem dX11_mistaken_70 : decode cX11_mistaken 70 = .ok (.invokestatic 363, 3) := by decide +kernel
theorem dX11_mistaken_73 : decode cX11_mistaken 73 = .ok (.iload 4, 2) := by decide +kernel
theorem dX11_mistaken_75 : decode cX11_mistaken 75 = .ok (.if_icmp .gt 127, 3) := by decide +kernel
theorem dX11_mistaken_78 : decode cX11_mistaken 78 = .ok (.iconst 1, 1) := by decide +kernel
theorem dX11_mistaken_79 : decode cX11_mistaken 79 = .ok (.istore 8, 2) := by decide +kernel
theorem dX11_mistaken_81 : decode cX11_mistaken 81 = .ok (.iconst 0, 1) := by decide +kernel
theorem dX11_mistaken_82 : decode cX11_mistaken 82 = .ok (.istore 9, 2) := by decide +kernel
theorem dX11_mistaken_84 : decode cX11_mistaken 84 = .ok (.iload 9, 2) := by decide +kernel
theorem dX11_mistaken_86 : decode cX11_mistaken 86 = .ok (.iload 7, 2) := by decide +kernel
theorem dX11_mistaken_88 : decode cX11_mistaken 88 = .ok (.if_icmp .ge 57, 3) := by decide +kernel
theorem dX11_mistaken_91 : decode cX11_mistaken 91 = .ok (.iload 8, 2) := by decide +kernel
theorem dX11_mistaken_93 : decode cX11_mistaken 93 = .ok (.ifCond .eq 52, 3) := by decide +kernel
theorem dX11_mistaken_96 : decode cX11_mistaken 96 = .ok (.iload 5, 2) := by decide +kernel
theorem dX11_mistaken_98 : decode cX11_mistaken 98 = .ok (.iconst 2, 1) := by decide +kernel
theorem dX11_mistaken_99 : decode cX11_mistaken 99 = .ok (.if_icmp .ne 46, 3) := by decide +kernel
theorem dX11_mistaken_102 : decode cX11_mistaken 102 = .ok (.iload 9, 2) := by decide +kernel
theorem dX11_mistaken_104 : decode cX11_mistaken 104 = .ok (.iload_n 3, 1) := by decide +kernel
theorem dX11_mistaken_105 : decode cX11_mistaken 105 = .ok (.iconst (-1), 1) := by decide +kernel
theorem dX11_mistaken_106 : decode cX11_mistaken 106 = .ok (.ixor, 1) := by decide +kernel
theorem dX11_mistaken_107 : decode cX11_mistaken 107 = .ok (.iand, 1) := by decide +kernel
theorem dX11_mistaken_108 : decode cX11_mistaken 108 = .ok (.ifCond .ne 24, 3) := by decide +kernel
theorem dX11_mistaken_111 : decode cX11_mistaken 111 = .ok (.iload 9, 2) := by decide +kernel
theorem dX11_mistaken_113 : decode cX11_mistaken 113 = .ok (.invokestatic 363, 3) := by decide +kernel
theorem dX11_mistaken_116 : decode cX11_mistaken 116 = .ok (.iload 4, 2) := by decide +kernel
theorem dX11_mistaken_118 : decode cX11_mistaken 118 = .ok (.if_icmp .gt 14, 3) := by decide +kernel
theorem dX11_mistaken_121 : decode cX11_mistaken 121 = .ok (.aload_n 0, 1) := by decide +kernel
theorem dX11_mistaken_122 : decode cX11_mistaken 122 = .ok (.iload 7, 2) := by decide +kernel
theorem dX11_mistaken_124 : decode cX11_mistaken 124 = .ok (.iload 9, 2) := by decide +kernel
theorem dX11_mistaken_126 : decode cX11_mistaken 126 = .ok (.invokevirtual 438, 3) := by decide +kernel
theorem dX11_mistaken_129 : decode cX11_mistaken 129 = .ok (.ifCond .ne 7, 3) := by decide +kernel
theorem dX11_mistaken_132 : decode cX11_mistaken 132 = .ok (.iconst 1, 1) := by decide +kernel
theorem dX11_mistaken_133 : decode cX11_mistaken 133 = .ok (.goto 4, 3) := by decide +kernel
theorem dX11_mistaken_136 : decode cX11_mistaken 136 = .ok (.iconst 0, 1) := by decide +kernel
theorem dX11_mistaken_137 : decode cX11_mistaken 137 = .ok (.istore 8, 2) := by decide +kernel
theorem dX11_mistaken_139 : decode cX11_mistaken 139 = .ok (.iinc 9 1, 3) := by decide +kernel
theorem dX11_mistaken_142 : decode cX11_mistaken 142 = .ok (.goto (-58), 3) := by decide +kernel
theorem dX11_mistaken_145 : decode cX11_mistaken 145 = .ok (.iload 6, 2) := by decide +kernel
theorem dX11_mistaken_147 : decode cX11_mistaken 147 = .ok (.iload 8, 2) := by decide +kernel
theorem dX11_mistaken_149 : decode cX11_mistaken 149 = .ok (.ifCond .eq 7, 3) := by decide +kernel
theorem dX11_mistaken_152 : decode cX11_mistaken 152 = .ok (.iconst 1, 1) := by decide +kernel
theorem dX11_mistaken_153 : decode cX11_mistaken 153 = .ok (.goto 4, 3) := by decide +kernel
theorem dX11_mistaken_156 : decode cX11_mistaken 156 = .ok (.iconst 0, 1) := by decide +kernel
theorem dX11_mistaken_157 : decode cX11_mistaken 157 = .ok (.iadd, 1) := by decide +kernel
theorem dX11_mistaken_158 : decode cX11_mistaken 158 = .ok (.istore 6, 2) := by decide +kernel
theorem dX11_mistaken_160 : decode cX11_mistaken 160 = .ok (.iload 5, 2) := by decide +kernel
theorem dX11_mistaken_162 : decode cX11_mistaken 162 = .ok (.iconst 2, 1) := by decide +kernel
theorem dX11_mistaken_163 : decode cX11_mistaken 163 = .ok (.if_icmp .ge 15, 3) := by decide +kernel
theorem dX11_mistaken_166 : decode cX11_mistaken 166 = .ok (.aload_n 0, 1) := by decide +kernel
theorem dX11_mistaken_167 : decode cX11_mistaken 167 = .ok (.iload 7, 2) := by decide +kernel
theorem dX11_mistaken_169 : decode cX11_mistaken 169 = .ok (.iload_n 3, 1) := by decide +kernel
theorem dX11_mistaken_170 : decode cX11_mistaken 170 = .ok (.iload 4, 2) := by decide +kernel
theorem dX11_mistaken_172 : decode cX11_mistaken 172 = .ok (.invokevirtual 455, 3) := by decide +kernel
theorem dX11_mistaken_175 : decode cX11_mistaken 175 = .ok (.goto 5, 3) := by decide +kernel
theorem dX11_mistaken_178 : decode cX11_mistaken 178 = .ok (.bipush (-2), 2) := by decide +kernel
theorem dX11_mistaken_180 : decode cX11_mistaken 180 = .ok (.istore 9, 2) := by decide +kernel
theorem dX11_mistaken_182 : decode cX11_mistaken 182 = .ok (.iload 9, 2) := by decide +kernel
theorem dX11_mistaken_184 : decode cX11_mistaken 184 = .ok (.bipush (-2), 2) := by decide +kernel
theorem dX11_mistaken_186 : decode cX11_mistaken 186 = .ok (.if_icmp .eq 16, 3) := by decide +kernel
theorem dX11_mistaken_189 : decode cX11_mistaken 189 = .ok (.iload 5, 2) := by decide +kernel
theorem dX11_mistaken_191 : decode cX11_mistaken 191 = .ok (.ifCond .ne 8, 3) := by decide +kernel
theorem dX11_mistaken_194 : decode cX11_mistaken 194 = .ok (.iload 7, 2) := by decide +kernel
theorem dX11_mistaken_196 : decode cX11_mistaken 196 = .ok (.goto 5, 3) := by decide +kernel
theorem dX11_mistaken_199 : decode cX11_mistaken 199 = .ok (.iload 9, 2) := by decide +kernel
theorem dX11_mistaken_201 : decode cX11_mistaken 201 = .ok (.ireturn, 1) := by decide +kernel
theorem dX11_mistaken_202 : decode cX11_mistaken 202 = .ok (.iinc 7 1, 3) := by decide +kernel
theorem dX11_mistaken_205 : decode cX11_mistaken 205 = .ok (.goto (-152), 3) := by decide +kernel
theorem dX11_mistaken_208 : decode cX11_mistaken 208 = .ok (.iload 5, 2) := by decide +kernel
theorem dX11_mistaken_210 : decode cX11_mistaken 210 = .ok (.iconst 2, 1) := by decide +kernel
theorem dX11_mistaken_211 : decode cX11_mistaken 211 = .ok (.if_icmp .ne 8, 3) := by decide +kernel
theorem dX11_mistaken_214 : decode cX11_mistaken 214 = .ok (.iload 6, 2) := by decide +kernel
theorem dX11_mistaken_216 : decode cX11_mistaken 216 = .ok (.goto 5, 3) := by decide +kernel
theorem dX11_mistaken_219 : decode cX11_mistaken 219 = .ok (.bipush (-2), 2) := by decide +kernel
theorem dX11_mistaken_221 : decode cX11_mistaken 221 = .ok (.ireturn, 1) := by decide +kernel
theorem dX11_mistakenFor_0 : decode cX11_mistakenFor 0 = .ok (.iload_n 1, 1) := by decide +kernel
theorem dX11_mistakenFor_1 : decode cX11_mistakenFor 1 = .ok (.iconst 1, 1) := by decide +kernel
theorem dX11_mistakenFor_2 : decode cX11_mistakenFor 2 = .ok (.iadd, 1) := by decide +kernel
theorem dX11_mistakenFor_3 : decode cX11_mistakenFor 3 = .ok (.istore 4, 2) := by decide +kernel
theorem dX11_mistakenFor_5 : decode cX11_mistakenFor 5 = .ok (.iload 4, 2) := by decide +kernel
theorem dX11_mistakenFor_7 : decode cX11_mistakenFor 7 = .ok (.iload_n 2, 1) := by decide +kernel
theorem dX11_mistakenFor_8 : decode cX11_mistakenFor 8 = .ok (.if_icmp .gt 54, 3) := by decide +kernel
theorem dX11_mistakenFor_11 : decode cX11_mistakenFor 11 = .ok (.iload 4, 2) := by decide +kernel
theorem dX11_mistakenFor_13 : decode cX11_mistakenFor 13 = .ok (.iload_n 2, 1) := by decide +kernel
theorem dX11_mistakenFor_14 : decode cX11_mistakenFor 14 = .ok (.iconst (-1), 1) := by decide +kernel
theorem dX11_mistakenFor_15 : decode cX11_mistakenFor 15 = .ok (.ixor, 1) := by decide +kernel
theorem dX11_mistakenFor_16 : decode cX11_mistakenFor 16 = .ok (.iand, 1) := by decide +kernel
theorem dX11_mistakenFor_17 : decode cX11_mistakenFor 17 = .ok (.ifCond .ne 39, 3) := by decide +kernel
theorem dX11_mistakenFor_20 : decode cX11_mistakenFor 20 = .ok (.iload 4, 2) := by decide +kernel
theorem dX11_mistakenFor_22 : decode cX11_mistakenFor 22 = .ok (.invokestatic 363, 3) := by decide +kernel
theorem dX11_mistakenFor_25 : decode cX11_mistakenFor 25 = .ok (.iload_n 3, 1) := by decide +kernel
theorem dX11_mistakenFor_26 : decode cX11_mistakenFor 26 = .ok (.if_icmp .gt 30, 3) := by decide +kernel
theorem dX11_mistakenFor_29 : decode cX11_mistakenFor 29 = .ok (.aload_n 0, 1) := by decide +kernel
theorem dX11_mistakenFor_30 : decode cX11_mistakenFor 30 = .ok (.iload_n 1, 1) := by decide +kernel
theorem dX11_mistakenFor_31 : decode cX11_mistakenFor 31 = .ok (.iload 4, 2) := by decide +kernel
theorem dX11_mistakenFor_33 : decode cX11_mistakenFor 33 = .ok (.invokevirtual 438, 3) := by decide +kernel
theorem dX11_mistakenFor_36 : decode cX11_mistakenFor 36 = .ok (.ifCond .eq 20, 3) := by decide +kernel
theorem dX11_mistakenFor_39 : decode cX11_mistakenFor 39 = .ok (.aload_n 0, 1) := by decide +kernel
theorem dX11_mistakenFor_40 : decode cX11_mistakenFor 40 = .ok (.iload_n 1, 1) := by decide +kernel
theorem dX11_mistakenFor_41 : decode cX11_mistakenFor 41 = .ok (.invokevirtual 446, 3) := by decide +kernel
theorem dX11_mistakenFor_44 : decode cX11_mistakenFor 44 = .ok (.aload_n 0, 1) := by decide +kernel
theorem dX11_mistakenFor_45 : decode cX11_mistakenFor 45 = .ok (.iload 4, 2) := by decide +kernel
theorem dX11_mistakenFor_47 : decode cX11_mistakenFor 47 = .ok (.invokevirtual 446, 3) := by decide +kernel
theorem dX11_mistakenFor_50 : decode cX11_mistakenFor 50 = .ok (.if_icmp .eq 6, 3) := by decide +kernel
theorem dX11_mistakenFor_53 : decode cX11_mistakenFor 53 = .ok (.iload 4, 2) := by decide +kernel
theorem dX11_mistakenFor_55 : decode cX11_mistakenFor 55 = .ok (.ireturn, 1) := by decide +kernel
theorem dX11_mistakenFor_56 : decode cX11_mistakenFor 56 = .ok (.iinc 4 1, 3) := by decide +kernel
theorem dX11_mistakenFor_59 : decode cX11_mistakenFor 59 = .ok (.goto (-54), 3) := by decide +kernel
theorem dX11_mistakenFor_62 : decode cX11_mistakenFor 62 = .ok (.bipush (-2), 2) := by decide +kernel
theorem dX11_mistakenFor_64 : decode cX11_mistakenFor 64 = .ok (.ireturn, 1) := by decide +kernel
theorem dX11_findsSafe_0 : decode cX11_findsSafe 0 = .ok (.iconst 0, 1) := by decide +kernel
theorem dX11_findsSafe_1 : decode cX11_findsSafe 1 = .ok (.istore_n 2, 1) := by decide +kernel
theorem dX11_findsSafe_2 : decode cX11_findsSafe 2 = .ok (.iload_n 2, 1) := by decide +kernel
theorem dX11_findsSafe_3 : decode cX11_findsSafe 3 = .ok (.iload_n 1, 1) := by decide +kernel
theorem dX11_findsSafe_4 : decode cX11_findsSafe 4 = .ok (.if_icmp .gt 84, 3) := by decide +kernel
theorem dX11_findsSafe_7 : decode cX11_findsSafe 7 = .ok (.iload_n 2, 1) := by decide +kernel
theorem dX11_findsSafe_8 : decode cX11_findsSafe 8 = .ok (.iload_n 1, 1) := by decide +kernel
theorem dX11_findsSafe_9 : decode cX11_findsSafe 9 = .ok (.iconst (-1), 1) := by decide +kernel
theorem dX11_findsSafe_10 : decode cX11_findsSafe 10 = .ok (.ixor, 1) := by decide +kernel
theorem dX11_findsSafe_11 : decode cX11_findsSafe 11 = .ok (.iand, 1) := by decide +kernel
theorem dX11_findsSafe_12 : decode cX11_findsSafe 12 = .ok (.ifCond .ne 70, 3) := by decide +kernel
theorem dX11_findsSafe_15 : decode cX11_findsSafe 15 = .ok (.iconst 1, 1) := by decide +kernel
theorem dX11_findsSafe_16 : decode cX11_findsSafe 16 = .ok (.istore_n 3, 1) := by decide +kernel
theorem dX11_findsSafe_17 : decode cX11_findsSafe 17 = .ok (.iconst 0, 1) := by decide +kernel
theorem dX11_findsSafe_18 : decode cX11_findsSafe 18 = .ok (.istore 4, 2) := by decide +kernel
theorem dX11_findsSafe_20 : decode cX11_findsSafe 20 = .ok (.iload 4, 2) := by decide +kernel
theorem dX11_findsSafe_22 : decode cX11_findsSafe 22 = .ok (.iload_n 1, 1) := by decide +kernel
theorem dX11_findsSafe_23 : decode cX11_findsSafe 23 = .ok (.if_icmp .gt 52, 3) := by decide +kernel
theorem dX11_findsSafe_26 : decode cX11_findsSafe 26 = .ok (.iload_n 3, 1) := by decide +kernel
theorem dX11_findsSafe_27 : decode cX11_findsSafe 27 = .ok (.ifCond .eq 48, 3) := by decide +kernel
theorem dX11_findsSafe_30 : decode cX11_findsSafe 30 = .ok (.iload 4, 2) := by decide +kernel
theorem dX11_findsSafe_32 : decode cX11_findsSafe 32 = .ok (.iload_n 1, 1) := by decide +kernel
theorem dX11_findsSafe_33 : decode cX11_findsSafe 33 = .ok (.iconst (-1), 1) := by decide +kernel
theorem dX11_findsSafe_34 : decode cX11_findsSafe 34 = .ok (.ixor, 1) := by decide +kernel
theorem dX11_findsSafe_35 : decode cX11_findsSafe 35 = .ok (.iand, 1) := by decide +kernel
theorem dX11_findsSafe_36 : decode cX11_findsSafe 36 = .ok (.ifCond .ne 27, 3) := by decide +kernel
theorem dX11_findsSafe_39 : decode cX11_findsSafe 39 = .ok (.aload_n 0, 1) := by decide +kernel
theorem dX11_findsSafe_40 : decode cX11_findsSafe 40 = .ok (.iload_n 2, 1) := by decide +kernel
theorem dX11_findsSafe_41 : decode cX11_findsSafe 41 = .ok (.iload 4, 2) := by decide +kernel
theorem dX11_findsSafe_43 : decode cX11_findsSafe 43 = .ok (.invokevirtual 438, 3) := by decide +kernel
theorem dX11_findsSafe_46 : decode cX11_findsSafe 46 = .ok (.ifCond .eq 17, 3) := by decide +kernel
theorem dX11_findsSafe_49 : decode cX11_findsSafe 49 = .ok (.aload_n 0, 1) := by decide +kernel
theorem dX11_findsSafe_50 : decode cX11_findsSafe 50 = .ok (.iload_n 2, 1) := by decide +kernel
theorem dX11_findsSafe_51 : decode cX11_findsSafe 51 = .ok (.invokevirtual 446, 3) := by decide +kernel
theorem dX11_findsSafe_54 : decode cX11_findsSafe 54 = .ok (.aload_n 0, 1) := by decide +kernel
theorem dX11_findsSafe_55 : decode cX11_findsSafe 55 = .ok (.iload 4, 2) := by decide +kernel
theorem dX11_findsSafe_57 : decode cX11_findsSafe 57 = .ok (.invokevirtual 446, 3) := by decide +kernel
theorem dX11_findsSafe_60 : decode cX11_findsSafe 60 = .ok (.if_icmp .ne 7, 3) := by decide +kernel
theorem dX11_findsSafe_63 : decode cX11_findsSafe 63 = .ok (.iconst 1, 1) := by decide +kernel
theorem dX11_findsSafe_64 : decode cX11_findsSafe 64 = .ok (.goto 4, 3) := by decide +kernel
theorem dX11_findsSafe_67 : decode cX11_findsSafe 67 = .ok (.iconst 0, 1) := by decide +kernel
theorem dX11_findsSafe_68 : decode cX11_findsSafe 68 = .ok (.istore_n 3, 1) := by decide +kernel
theorem dX11_findsSafe_69 : decode cX11_findsSafe 69 = .ok (.iinc 4 1, 3) := by decide +kernel
theorem dX11_findsSafe_72 : decode cX11_findsSafe 72 = .ok (.goto (-52), 3) := by decide +kernel
theorem dX11_findsSafe_75 : decode cX11_findsSafe 75 = .ok (.aload_n 0, 1) := by decide +kernel
theorem dX11_findsSafe_76 : decode cX11_findsSafe 76 = .ok (.getfield 134, 3) := by decide +kernel
theorem dX11_findsSafe_79 : decode cX11_findsSafe 79 = .ok (.iload_n 2, 1) := by decide +kernel
theorem dX11_findsSafe_80 : decode cX11_findsSafe 80 = .ok (.iload_n 3, 1) := by decide +kernel
theorem dX11_findsSafe_81 : decode cX11_findsSafe 81 = .ok (.bastore, 1) := by decide +kernel
theorem dX11_findsSafe_82 : decode cX11_findsSafe 82 = .ok (.iinc 2 1, 3) := by decide +kernel
theorem dX11_findsSafe_85 : decode cX11_findsSafe 85 = .ok (.goto (-83), 3) := by decide +kernel
theorem dX11_findsSafe_88 : decode cX11_findsSafe 88 = .ok (.return_, 1) := by decide +kernel
theorem dX11_pays_0 : decode cX11_pays 0 = .ok (.aload_n 0, 1) := by decide +kernel
theorem dX11_pays_1 : decode cX11_pays 1 = .ok (.iload_n 3, 1) := by decide +kernel
theorem dX11_pays_2 : decode cX11_pays 2 = .ok (.invokevirtual 459, 3) := by decide +kernel
theorem dX11_pays_5 : decode cX11_pays 5 = .ok (.istore 6, 2) := by decide +kernel
theorem dX11_pays_7 : decode cX11_pays 7 = .ok (.aload_n 0, 1) := by decide +kernel
theorem dX11_pays_8 : decode cX11_pays 8 = .ok (.iload 4, 2) := by decide +kernel
theorem dX11_pays_10 : decode cX11_pays 10 = .ok (.invokevirtual 459, 3) := by decide +kernel
theorem dX11_pays_13 : decode cX11_pays 13 = .ok (.istore 7, 2) := by decide +kernel
theorem dX11_pays_15 : decode cX11_pays 15 = .ok (.aload_n 0, 1) := by decide +kernel
theorem dX11_pays_16 : decode cX11_pays 16 = .ok (.iload_n 1, 1) := by decide +kernel
theorem dX11_pays_17 : decode cX11_pays 17 = .ok (.iload_n 2, 1) := by decide +kernel
theorem dX11_pays_18 : decode cX11_pays 18 = .ok (.iload 6, 2) := by decide +kernel
theorem dX11_pays_20 : decode cX11_pays 20 = .ok (.bipush 12, 2) := by decide +kernel
theorem dX11_pays_22 : decode cX11_pays 22 = .ok (.invokevirtual 451, 3) := by decide +kernel
theorem dX11_pays_25 : decode cX11_pays 25 = .ok (.aload_n 0, 1) := by decide +kernel
theorem dX11_pays_26 : decode cX11_pays 26 = .ok (.iload 6, 2) := by decide +kernel
theorem dX11_pays_28 : decode cX11_pays 28 = .ok (.invokevirtual 462, 3) := by decide +kernel
theorem dX11_pays_31 : decode cX11_pays 31 = .ok (.aload_n 0, 1) := by decide +kernel
theorem dX11_pays_32 : decode cX11_pays 32 = .ok (.iload_n 1, 1) := by decide +kernel
theorem dX11_pays_33 : decode cX11_pays 33 = .ok (.iload_n 2, 1) := by decide +kernel
theorem dX11_pays_34 : decode cX11_pays 34 = .ok (.iload 7, 2) := by decide +kernel
theorem dX11_pays_36 : decode cX11_pays 36 = .ok (.bipush 12, 2) := by decide +kernel
theorem dX11_pays_38 : decode cX11_pays 38 = .ok (.invokevirtual 451, 3) := by decide +kernel
theorem dX11_pays_41 : decode cX11_pays 41 = .ok (.aload_n 0, 1) := by decide +kernel
theorem dX11_pays_42 : decode cX11_pays 42 = .ok (.getfield 134, 3) := by decide +kernel
theorem dX11_pays_45 : decode cX11_pays 45 = .ok (.iconst 0, 1) := by decide +kernel
theorem dX11_pays_46 : decode cX11_pays 46 = .ok (.baload, 1) := by decide +kernel
theorem dX11_pays_47 : decode cX11_pays 47 = .ok (.istore 8, 2) := by decide +kernel
theorem dX11_pays_49 : decode cX11_pays 49 = .ok (.aload_n 0, 1) := by decide +kernel
theorem dX11_pays_50 : decode cX11_pays 50 = .ok (.iload 7, 2) := by decide +kernel
theorem dX11_pays_52 : decode cX11_pays 52 = .ok (.invokevirtual 462, 3) := by decide +kernel
theorem dX11_pays_55 : decode cX11_pays 55 = .ok (.aload_n 0, 1) := by decide +kernel
theorem dX11_pays_56 : decode cX11_pays 56 = .ok (.getfield 134, 3) := by decide +kernel
theorem dX11_pays_59 : decode cX11_pays 59 = .ok (.iconst 0, 1) := by decide +kernel
theorem dX11_pays_60 : decode cX11_pays 60 = .ok (.baload, 1) := by decide +kernel
theorem dX11_pays_61 : decode cX11_pays 61 = .ok (.istore 9, 2) := by decide +kernel
theorem dX11_pays_63 : decode cX11_pays 63 = .ok (.bipush (-2), 2) := by decide +kernel
theorem dX11_pays_65 : decode cX11_pays 65 = .ok (.istore 10, 2) := by decide +kernel
theorem dX11_pays_67 : decode cX11_pays 67 = .ok (.iconst 0, 1) := by decide +kernel
theorem dX11_pays_68 : decode cX11_pays 68 = .ok (.istore 11, 2) := by decide +kernel
theorem dX11_pays_70 : decode cX11_pays 70 = .ok (.iload 11, 2) := by decide +kernel
theorem dX11_pays_72 : decode cX11_pays 72 = .ok (.iload 6, 2) := by decide +kernel
theorem dX11_pays_74 : decode cX11_pays 74 = .ok (.if_icmp .gt 189, 3) := by decide +kernel
theorem dX11_pays_77 : decode cX11_pays 77 = .ok (.iload 11, 2) := by decide +kernel
theorem dX11_pays_79 : decode cX11_pays 79 = .ok (.iload 6, 2) := by decide +kernel
theorem dX11_pays_81 : decode cX11_pays 81 = .ok (.iconst (-1), 1) := by decide +kernel
theorem dX11_pays_82 : decode cX11_pays 82 = .ok (.ixor, 1) := by decide +kernel
theorem dX11_pays_83 : decode cX11_pays 83 = .ok (.iand, 1) := by decide +kernel
theorem dX11_pays_84 : decode cX11_pays 84 = .ok (.ifCond .ne 30, 3) := by decide +kernel
theorem dX11_pays_87 : decode cX11_pays 87 = .ok (.iload 11, 2) := by decide +kernel
theorem dX11_pays_89 : decode cX11_pays 89 = .ok (.ifCond .ne 11, 3) := by decide +kernel
theorem dX11_pays_92 : decode cX11_pays 92 = .ok (.iload 8, 2) := by decide +kernel
theorem dX11_pays_94 : decode cX11_pays 94 = .ok (.ifCond .eq 20, 3) := by decide +kernel
theorem dX11_pays_97 : decode cX11_pays 97 = .ok (.goto 13, 3) := by decide +kernel
theorem dX11_pays_100 : decode cX11_pays 100 = .ok (.aload_n 0, 1) := by decide +kernel
theorem dX11_pays_101 : decode cX11_pays 101 = .ok (.getfield 134, 3) := by decide +kernel
theorem dX11_pays_104 : decode cX11_pays 104 = .ok (.iload 11, 2) := by decide +kernel
theorem dX11_pays_106 : decode cX11_pays 106 = .ok (.baload, 1) := by decide +kernel
theorem dX11_pays_107 : decode cX11_pays 107 = .ok (.ifCond .eq 7, 3) := by decide +kernel
theorem dX11_pays_110 : decode cX11_pays 110 = .ok (.iconst 1, 1) := by decide +kernel
theorem dX11_pays_111 : decode cX11_pays 111 = .ok (.goto 4, 3) := by decide +kernel
theorem dX11_pays_114 : decode cX11_pays 114 = .ok (.iconst 0, 1) := by decide +kernel
theorem dX11_pays_115 : decode cX11_pays 115 = .ok (.istore 12, 2) := by decide +kernel
theorem dX11_pays_117 : decode cX11_pays 117 = .ok (.iconst 0, 1) := by decide +kernel
theorem dX11_pays_118 : decode cX11_pays 118 = .ok (.istore 13, 2) := by decide +kernel
theorem dX11_pays_120 : decode cX11_pays 120 = .ok (.iload 12, 2) := by decide +kernel
theorem dX11_pays_122 : decode cX11_pays 122 = .ok (.ifCond .eq 135, 3) := by decide +kernel
theorem dX11_pays_125 : decode cX11_pays 125 = .ok (.iload 13, 2) := by decide +kernel
theorem dX11_pays_127 : decode cX11_pays 127 = .ok (.iload 7, 2) := by decide +kernel
theorem dX11_pays_129 : decode cX11_pays 129 = .ok (.if_icmp .gt 128, 3) := by decide +kernel
theorem dX11_pays_132 : decode cX11_pays 132 = .ok (.iload 13, 2) := by decide +kernel
theorem dX11_pays_134 : decode cX11_pays 134 = .ok (.iload 7, 2) := by decide +kernel
theorem dX11_pays_136 : decode cX11_pays 136 = .ok (.iconst (-1), 1) := by decide +kernel
theorem dX11_pays_137 : decode cX11_pays 137 = .ok (.ixor, 1) := by decide +kernel
theorem dX11_pays_138 : decode cX11_pays 138 = .ok (.iand, 1) := by decide +kernel
theorem dX11_pays_139 : decode cX11_pays 139 = .ok (.ifCond .ne 112, 3) := by decide +kernel
theorem dX11_pays_142 : decode cX11_pays 142 = .ok (.iload 13, 2) := by decide +kernel
theorem dX11_pays_144 : decode cX11_pays 144 = .ok (.ifCond .ne 11, 3) := by decide +kernel
theorem dX11_pays_147 : decode cX11_pays 147 = .ok (.iload 9, 2) := by decide +kernel
theorem dX11_pays_149 : decode cX11_pays 149 = .ok (.ifCond .eq 102, 3) := by decide +kernel
theorem dX11_pays_152 : decode cX11_pays 152 = .ok (.goto 13, 3) := by decide +kernel
theorem dX11_pays_155 : decode cX11_pays 155 = .ok (.aload_n 0, 1) := by decide +kernel
theorem dX11_pays_156 : decode cX11_pays 156 = .ok (.getfield 134, 3) := by decide +kernel
theorem dX11_pays_159 : decode cX11_pays 159 = .ok (.iload 13, 2) := by decide +kernel
theorem dX11_pays_161 : decode cX11_pays 161 = .ok (.baload, 1) := by decide +kernel
theorem dX11_pays_162 : decode cX11_pays 162 = .ok (.ifCond .eq 89, 3) := by decide +kernel
theorem dX11_pays_165 : decode cX11_pays 165 = .ok (.aload_n 0, 1) := by decide +kernel
theorem dX11_pays_166 : decode cX11_pays 166 = .ok (.iload 11, 2) := by decide +kernel
theorem dX11_pays_168 : decode cX11_pays 168 = .ok (.invokevirtual 446, 3) := by decide +kernel
theorem dX11_pays_171 : decode cX11_pays 171 = .ok (.aload_n 0, 1) := by decide +kernel
theorem dX11_pays_172 : decode cX11_pays 172 = .ok (.iload 13, 2) := by decide +kernel
theorem dX11_pays_174 : decode cX11_pays 174 = .ok (.invokevirtual 446, 3) := by decide +kernel
theorem dX11_pays_177 : decode cX11_pays 177 = .ok (.isub, 1) := by decide +kernel
theorem dX11_pays_178 : decode cX11_pays 178 = .ok (.istore 14, 2) := by decide +kernel
theorem dX11_pays_180 : decode cX11_pays 180 = .ok (.iload 14, 2) := by decide +kernel
theorem dX11_pays_182 : decode cX11_pays 182 = .ok (.i2l, 1) := by decide +kernel
theorem dX11_pays_183 : decode cX11_pays 183 = .ok (.lconst 0, 1) := by decide +kernel
theorem dX11_pays_184 : decode cX11_pays 184 = .ok (.ldc2_w 465, 3) := by decide +kernel
theorem dX11_pays_187 : decode cX11_pays 187 = .ok (.invokestatic 171, 3) := by decide +kernel
theorem dX11_pays_190 : decode cX11_pays 190 = .ok (.ifCond .eq 11, 3) := by decide +kernel
theorem dX11_pays_193 : decode cX11_pays 193 = .ok (.aload_n 0, 1) := by decide +kernel
theorem dX11_pays_194 : decode cX11_pays 194 = .ok (.getfield 138, 3) := by decide +kernel
theorem dX11_pays_197 : decode cX11_pays 197 = .ok (.iload 14, 2) := by decide +kernel
theorem dX11_pays_199 : decode cX11_pays 199 = .ok (.iconst 1, 1) := by decide +kernel
theorem dX11_pays_200 : decode cX11_pays 200 = .ok (.bastore, 1) := by decide +kernel
theorem dX11_pays_201 : decode cX11_pays 201 = .ok (.iload 11, 2) := by decide +kernel
theorem dX11_pays_203 : decode cX11_pays 203 = .ok (.invokestatic 363, 3) := by decide +kernel
theorem dX11_pays_206 : decode cX11_pays 206 = .ok (.iload 13, 2) := by decide +kernel
theorem dX11_pays_208 : decode cX11_pays 208 = .ok (.invokestatic 363, 3) := by decide +kernel
theorem dX11_pays_211 : decode cX11_pays 211 = .ok (.iadd, 1) := by decide +kernel
theorem dX11_pays_212 : decode cX11_pays 212 = .ok (.istore 15, 2) := by decide +kernel
theorem dX11_pays_214 : decode cX11_pays 214 = .ok (.iload 14, 2) := by decide +kernel
theorem dX11_pays_216 : decode cX11_pays 216 = .ok (.iload 5, 2) := by decide +kernel
theorem dX11_pays_218 : decode cX11_pays 218 = .ok (.if_icmp .ne 33, 3) := by decide +kernel
theorem dX11_pays_221 : decode cX11_pays 221 = .ok (.iload 10, 2) := by decide +kernel
theorem dX11_pays_223 : decode cX11_pays 223 = .ok (.bipush (-2), 2) := by decide +kernel
theorem dX11_pays_225 : decode cX11_pays 225 = .ok (.if_icmp .eq 10, 3) := by decide +kernel
theorem dX11_pays_228 : decode cX11_pays 228 = .ok (.iload 15, 2) := by decide +kernel
theorem dX11_pays_230 : decode cX11_pays 230 = .ok (.iload 10, 2) := by decide +kernel
theorem dX11_pays_232 : decode cX11_pays 232 = .ok (.if_icmp .ge 19, 3) := by decide +kernel
theorem dX11_pays_235 : decode cX11_pays 235 = .ok (.iload 15, 2) := by decide +kernel
theorem dX11_pays_237 : decode cX11_pays 237 = .ok (.istore 10, 2) := by decide +kernel
theorem dX11_pays_239 : decode cX11_pays 239 = .ok (.aload_n 0, 1) := by decide +kernel
theorem dX11_pays_240 : decode cX11_pays 240 = .ok (.iload 11, 2) := by decide +kernel
theorem dX11_pays_242 : decode cX11_pays 242 = .ok (.putfield 467, 3) := by decide +kernel
theorem dX11_pays_245 : decode cX11_pays 245 = .ok (.aload_n 0, 1) := by decide +kernel
theorem dX11_pays_246 : decode cX11_pays 246 = .ok (.iload 13, 2) := by decide +kernel
theorem dX11_pays_248 : decode cX11_pays 248 = .ok (.putfield 470, 3) := by decide +kernel
theorem dX11_pays_251 : decode cX11_pays 251 = .ok (.iinc 13 1, 3) := by decide +kernel
theorem dX11_pays_254 : decode cX11_pays 254 = .ok (.goto (-134), 3) := by decide +kernel
theorem dX11_pays_257 : decode cX11_pays 257 = .ok (.iinc 11 1, 3) := by decide +kernel
theorem dX11_pays_260 : decode cX11_pays 260 = .ok (.goto (-190), 3) := by decide +kernel
theorem dX11_pays_263 : decode cX11_pays 263 = .ok (.iload 10, 2) := by decide +kernel
theorem dX11_pays_265 : decode cX11_pays 265 = .ok (.ireturn, 1) := by decide +kernel
theorem dX11_isPay_0 : decode cX11_isPay 0 = .ok (.aload_n 0, 1) := by decide +kernel
theorem dX11_isPay_1 : decode cX11_isPay 1 = .ok (.iload_n 1, 1) := by decide +kernel
theorem dX11_isPay_2 : decode cX11_isPay 2 = .ok (.invokevirtual 405, 3) := by decide +kernel
theorem dX11_isPay_5 : decode cX11_isPay 5 = .ok (.ifCond .eq 36, 3) := by decide +kernel
theorem dX11_isPay_8 : decode cX11_isPay 8 = .ok (.aload_n 0, 1) := by decide +kernel
theorem dX11_isPay_9 : decode cX11_isPay 9 = .ok (.iload_n 2, 1) := by decide +kernel
theorem dX11_isPay_10 : decode cX11_isPay 10 = .ok (.invokevirtual 388, 3) := by decide +kernel
theorem dX11_isPay_13 : decode cX11_isPay 13 = .ok (.ifCond .eq 28, 3) := by decide +kernel
theorem dX11_isPay_16 : decode cX11_isPay 16 = .ok (.iload_n 3, 1) := by decide +kernel
theorem dX11_isPay_17 : decode cX11_isPay 17 = .ok (.invokestatic 391, 3) := by decide +kernel
theorem dX11_isPay_20 : decode cX11_isPay 20 = .ok (.ifCond .eq 21, 3) := by decide +kernel
theorem dX11_isPay_23 : decode cX11_isPay 23 = .ok (.iload 4, 2) := by decide +kernel
theorem dX11_isPay_25 : decode cX11_isPay 25 = .ok (.invokestatic 391, 3) := by decide +kernel
theorem dX11_isPay_28 : decode cX11_isPay 28 = .ok (.ifCond .eq 13, 3) := by decide +kernel
theorem dX11_isPay_31 : decode cX11_isPay 31 = .ok (.iload_n 3, 1) := by decide +kernel
theorem dX11_isPay_32 : decode cX11_isPay 32 = .ok (.iload 4, 2) := by decide +kernel
theorem dX11_isPay_34 : decode cX11_isPay 34 = .ok (.if_icmp .eq 7, 3) := by decide +kernel
theorem dX11_isPay_37 : decode cX11_isPay 37 = .ok (.iconst 1, 1) := by decide +kernel
theorem dX11_isPay_38 : decode cX11_isPay 38 = .ok (.goto 4, 3) := by decide +kernel
theorem dX11_isPay_41 : decode cX11_isPay 41 = .ok (.iconst 0, 1) := by decide +kernel
theorem dX11_isPay_42 : decode cX11_isPay 42 = .ok (.ireturn, 1) := by decide +kernel
theorem dX11_pay_0 : decode cX11_pay 0 = .ok (.aload_n 0, 1) := by decide +kernel
theorem dX11_pay_1 : decode cX11_pay 1 = .ok (.iload_n 1, 1) := by decide +kernel
theorem dX11_pay_2 : decode cX11_pay 2 = .ok (.iload_n 2, 1) := by decide +kernel
theorem dX11_pay_3 : decode cX11_pay 3 = .ok (.iload_n 3, 1) := by decide +kernel
theorem dX11_pay_4 : decode cX11_pay 4 = .ok (.iload 4, 2) := by decide +kernel
theorem dX11_pay_6 : decode cX11_pay 6 = .ok (.invokevirtual 473, 3) := by decide +kernel
theorem dX11_pay_9 : decode cX11_pay 9 = .ok (.ifCond .eq 29, 3) := by decide +kernel
theorem dX11_pay_12 : decode cX11_pay 12 = .ok (.iload 5, 2) := by decide +kernel
theorem dX11_pay_14 : decode cX11_pay 14 = .ok (.i2l, 1) := by decide +kernel
theorem dX11_pay_15 : decode cX11_pay 15 = .ok (.lconst 0, 1) := by decide +kernel
theorem dX11_pay_16 : decode cX11_pay 16 = .ok (.ldc2_w 378, 3) := by decide +kernel
theorem dX11_pay_19 : decode cX11_pay 19 = .ok (.invokestatic 171, 3) := by decide +kernel
theorem dX11_pay_22 : decode cX11_pay 22 = .ok (.ifCond .eq 16, 3) := by decide +kernel
theorem dX11_pay_25 : decode cX11_pay 25 = .ok (.iload 6, 2) := by decide +kernel
theorem dX11_pay_27 : decode cX11_pay 27 = .ok (.i2l, 1) := by decide +kernel
theorem dX11_pay_28 : decode cX11_pay 28 = .ok (.lconst 0, 1) := by decide +kernel
theorem dX11_pay_29 : decode cX11_pay 29 = .ok (.ldc2_w 428, 3) := by decide +kernel
theorem dX11_pay_32 : decode cX11_pay 32 = .ok (.invokestatic 171, 3) := by decide +kernel
theorem dX11_pay_35 : decode cX11_pay 35 = .ok (.ifCond .ne 5, 3) := by decide +kernel
theorem dX11_pay_38 : decode cX11_pay 38 = .ok (.iconst (-1), 1) := by decide +kernel
theorem dX11_pay_39 : decode cX11_pay 39 = .ok (.ireturn, 1) := by decide +kernel
theorem dX11_pay_40 : decode cX11_pay 40 = .ok (.aload_n 0, 1) := by decide +kernel
theorem dX11_pay_41 : decode cX11_pay 41 = .ok (.iload_n 1, 1) := by decide +kernel
theorem dX11_pay_42 : decode cX11_pay 42 = .ok (.iload_n 2, 1) := by decide +kernel
theorem dX11_pay_43 : decode cX11_pay 43 = .ok (.iload_n 3, 1) := by decide +kernel
theorem dX11_pay_44 : decode cX11_pay 44 = .ok (.iload 4, 2) := by decide +kernel
theorem dX11_pay_46 : decode cX11_pay 46 = .ok (.iload 5, 2) := by decide +kernel
theorem dX11_pay_48 : decode cX11_pay 48 = .ok (.invokevirtual 477, 3) := by decide +kernel
theorem dX11_pay_51 : decode cX11_pay 51 = .ok (.istore 7, 2) := by decide +kernel
theorem dX11_pay_53 : decode cX11_pay 53 = .ok (.iload 7, 2) := by decide +kernel
theorem dX11_pay_55 : decode cX11_pay 55 = .ok (.bipush (-2), 2) := by decide +kernel
theorem dX11_pay_57 : decode cX11_pay 57 = .ok (.if_icmp .eq 8, 3) := by decide +kernel
theorem dX11_pay_60 : decode cX11_pay 60 = .ok (.iload 6, 2) := by decide +kernel
theorem dX11_pay_62 : decode cX11_pay 62 = .ok (.ifCond .ne 8, 3) := by decide +kernel
theorem dX11_pay_65 : decode cX11_pay 65 = .ok (.iload 7, 2) := by decide +kernel
theorem dX11_pay_67 : decode cX11_pay 67 = .ok (.goto 20, 3) := by decide +kernel
theorem dX11_pay_70 : decode cX11_pay 70 = .ok (.iload 6, 2) := by decide +kernel
theorem dX11_pay_72 : decode cX11_pay 72 = .ok (.iconst 1, 1) := by decide +kernel
theorem dX11_pay_73 : decode cX11_pay 73 = .ok (.if_icmp .ne 10, 3) := by decide +kernel
theorem dX11_pay_76 : decode cX11_pay 76 = .ok (.aload_n 0, 1) := by decide +kernel
theorem dX11_pay_77 : decode cX11_pay 77 = .ok (.getfield 467, 3) := by decide +kernel
theorem dX11_pay_80 : decode cX11_pay 80 = .ok (.goto 7, 3) := by decide +kernel
theorem dX11_pay_83 : decode cX11_pay 83 = .ok (.aload_n 0, 1) := by decide +kernel
theorem dX11_pay_84 : decode cX11_pay 84 = .ok (.getfield 470, 3) := by decide +kernel
theorem dX11_pay_87 : decode cX11_pay 87 = .ok (.ireturn, 1) := by decide +kernel
theorem dX11_done_0 : decode cX11_done 0 = .ok (.aload_n 0, 1) := by decide +kernel
theorem dX11_done_1 : decode cX11_done 1 = .ok (.iload_n 1, 1) := by decide +kernel
theorem dX11_done_2 : decode cX11_done 2 = .ok (.iload_n 2, 1) := by decide +kernel
theorem dX11_done_3 : decode cX11_done 3 = .ok (.iload_n 3, 1) := by decide +kernel
theorem dX11_done_4 : decode cX11_done 4 = .ok (.iload 4, 2) := by decide +kernel
theorem dX11_done_6 : decode cX11_done 6 = .ok (.invokevirtual 473, 3) := by decide +kernel
theorem dX11_done_9 : decode cX11_done 9 = .ok (.ifCond .eq 16, 3) := by decide +kernel
theorem dX11_done_12 : decode cX11_done 12 = .ok (.iload 5, 2) := by decide +kernel
theorem dX11_done_14 : decode cX11_done 14 = .ok (.i2l, 1) := by decide +kernel
theorem dX11_done_15 : decode cX11_done 15 = .ok (.lconst 0, 1) := by decide +kernel
theorem dX11_done_16 : decode cX11_done 16 = .ok (.ldc2_w 378, 3) := by decide +kernel
theorem dX11_done_19 : decode cX11_done 19 = .ok (.invokestatic 171, 3) := by decide +kernel
theorem dX11_done_22 : decode cX11_done 22 = .ok (.ifCond .ne 5, 3) := by decide +kernel
theorem dX11_done_25 : decode cX11_done 25 = .ok (.iconst (-1), 1) := by decide +kernel
theorem dX11_done_26 : decode cX11_done 26 = .ok (.ireturn, 1) := by decide +kernel
theorem dX11_done_27 : decode cX11_done 27 = .ok (.aload_n 0, 1) := by decide +kernel
theorem dX11_done_28 : decode cX11_done 28 = .ok (.iload_n 1, 1) := by decide +kernel
theorem dX11_done_29 : decode cX11_done 29 = .ok (.iload_n 2, 1) := by decide +kernel
theorem dX11_done_30 : decode cX11_done 30 = .ok (.iload_n 3, 1) := by decide +kernel
theorem dX11_done_31 : decode cX11_done 31 = .ok (.iload 4, 2) := by decide +kernel
theorem dX11_done_33 : decode cX11_done 33 = .ok (.iload 5, 2) := by decide +kernel
theorem dX11_done_35 : decode cX11_done 35 = .ok (.invokevirtual 477, 3) := by decide +kernel
theorem dX11_done_38 : decode cX11_done 38 = .ok (.istore 6, 2) := by decide +kernel
theorem dX11_done_40 : decode cX11_done 40 = .ok (.iload 6, 2) := by decide +kernel
theorem dX11_done_42 : decode cX11_done 42 = .ok (.bipush (-2), 2) := by decide +kernel
theorem dX11_done_44 : decode cX11_done 44 = .ok (.if_icmp .eq 19, 3) := by decide +kernel
theorem dX11_done_47 : decode cX11_done 47 = .ok (.aload_n 0, 1) := by decide +kernel
theorem dX11_done_48 : decode cX11_done 48 = .ok (.aload_n 0, 1) := by decide +kernel
theorem dX11_done_49 : decode cX11_done 49 = .ok (.getfield 467, 3) := by decide +kernel
theorem dX11_done_52 : decode cX11_done 52 = .ok (.aload_n 0, 1) := by decide +kernel
theorem dX11_done_53 : decode cX11_done 53 = .ok (.getfield 470, 3) := by decide +kernel
theorem dX11_done_56 : decode cX11_done 56 = .ok (.ior, 1) := by decide +kernel
theorem dX11_done_57 : decode cX11_done 57 = .ok (.invokevirtual 399, 3) := by decide +kernel
theorem dX11_done_60 : decode cX11_done 60 = .ok (.ifCond .ne 6, 3) := by decide +kernel
theorem dX11_done_63 : decode cX11_done 63 = .ok (.bipush (-2), 2) := by decide +kernel
theorem dX11_done_65 : decode cX11_done 65 = .ok (.ireturn, 1) := by decide +kernel
theorem dX11_done_66 : decode cX11_done 66 = .ok (.aload_n 0, 1) := by decide +kernel
theorem dX11_done_67 : decode cX11_done 67 = .ok (.aload_n 0, 1) := by decide +kernel
theorem dX11_done_68 : decode cX11_done 68 = .ok (.getfield 467, 3) := by decide +kernel
theorem dX11_done_71 : decode cX11_done 71 = .ok (.aload_n 0, 1) := by decide +kernel
theorem dX11_done_72 : decode cX11_done 72 = .ok (.getfield 470, 3) := by decide +kernel
theorem dX11_done_75 : decode cX11_done 75 = .ok (.ior, 1) := by decide +kernel
theorem dX11_done_76 : decode cX11_done 76 = .ok (.invokevirtual 402, 3) := by decide +kernel
theorem dX11_done_79 : decode cX11_done 79 = .ok (.iconst 0, 1) := by decide +kernel
theorem dX11_done_80 : decode cX11_done 80 = .ok (.istore 7, 2) := by decide +kernel
theorem dX11_done_82 : decode cX11_done 82 = .ok (.iload 7, 2) := by decide +kernel
theorem dX11_done_84 : decode cX11_done 84 = .ok (.aload_n 0, 1) := by decide +kernel
theorem dX11_done_85 : decode cX11_done 85 = .ok (.getfield 9, 3) := by decide +kernel
theorem dX11_done_88 : decode cX11_done 88 = .ok (.iconst 0, 1) := by decide +kernel
theorem dX11_done_89 : decode cX11_done 89 = .ok (.iaload, 1) := by decide +kernel
theorem dX11_done_90 : decode cX11_done 90 = .ok (.if_icmp .ge 56, 3) := by decide +kernel
theorem dX11_done_93 : decode cX11_done 93 = .ok (.aload_n 0, 1) := by decide +kernel
theorem dX11_done_94 : decode cX11_done 94 = .ok (.getfield 52, 3) := by decide +kernel
theorem dX11_done_97 : decode cX11_done 97 = .ok (.iload 7, 2) := by decide +kernel
theorem dX11_done_99 : decode cX11_done 99 = .ok (.aload_n 0, 1) := by decide +kernel
theorem dX11_done_100 : decode cX11_done 100 = .ok (.getfield 467, 3) := by decide +kernel
theorem dX11_done_103 : decode cX11_done 103 = .ok (.iload 7, 2) := by decide +kernel
theorem dX11_done_105 : decode cX11_done 105 = .ok (.invokestatic 177, 3) := by decide +kernel
theorem dX11_done_108 : decode cX11_done 108 = .ok (.ifCond .eq 8, 3) := by decide +kernel
theorem dX11_done_111 : decode cX11_done 111 = .ok (.iload 4, 2) := by decide +kernel
theorem dX11_done_113 : decode cX11_done 113 = .ok (.goto 26, 3) := by decide +kernel
theorem dX11_done_116 : decode cX11_done 116 = .ok (.aload_n 0, 1) := by decide +kernel
theorem dX11_done_117 : decode cX11_done 117 = .ok (.getfield 470, 3) := by decide +kernel
theorem dX11_done_120 : decode cX11_done 120 = .ok (.iload 7, 2) := by decide +kernel
theorem dX11_done_122 : decode cX11_done 122 = .ok (.invokestatic 177, 3) := by decide +kernel
theorem dX11_done_125 : decode cX11_done 125 = .ok (.ifCond .eq 7, 3) := by decide +kernel
theorem dX11_done_128 : decode cX11_done 128 = .ok (.iload_n 3, 1) := by decide +kernel
theorem dX11_done_129 : decode cX11_done 129 = .ok (.goto 10, 3) := by decide +kernel
theorem dX11_done_132 : decode cX11_done 132 = .ok (.aload_n 0, 1) := by decide +kernel
theorem dX11_done_133 : decode cX11_done 133 = .ok (.getfield 52, 3) := by decide +kernel
theorem dX11_done_136 : decode cX11_done 136 = .ok (.iload 7, 2) := by decide +kernel
theorem dX11_done_138 : decode cX11_done 138 = .ok (.iaload, 1) := by decide +kernel
theorem dX11_done_139 : decode cX11_done 139 = .ok (.iastore, 1) := by decide +kernel
theorem dX11_done_140 : decode cX11_done 140 = .ok (.iinc 7 1, 3) := by decide +kernel
theorem dX11_done_143 : decode cX11_done 143 = .ok (.goto (-61), 3) := by decide +kernel
theorem dX11_done_146 : decode cX11_done 146 = .ok (.iload 6, 2) := by decide +kernel
theorem dX11_done_148 : decode cX11_done 148 = .ok (.ireturn, 1) := by decide +kernel
theorem dX11_manyPrices_0 : decode cX11_manyPrices 0 = .ok (.iconst 0, 1) := by decide +kernel
theorem dX11_manyPrices_1 : decode cX11_manyPrices 1 = .ok (.istore 6, 2) := by decide +kernel
theorem dX11_manyPrices_3 : decode cX11_manyPrices 3 = .ok (.iload 6, 2) := by decide +kernel
theorem dX11_manyPrices_5 : decode cX11_manyPrices 5 = .ok (.sipush 12000, 3) := by decide +kernel
theorem dX11_manyPrices_8 : decode cX11_manyPrices 8 = .ok (.if_icmp .ge 17, 3) := by decide +kernel
theorem dX11_manyPrices_11 : decode cX11_manyPrices 11 = .ok (.aload_n 0, 1) := by decide +kernel
theorem dX11_manyPrices_12 : decode cX11_manyPrices 12 = .ok (.getfield 138, 3) := by decide +kernel
theorem dX11_manyPrices_15 : decode cX11_manyPrices 15 = .ok (.iload 6, 2) := by decide +kernel
theorem dX11_manyPrices_17 : decode cX11_manyPrices 17 = .ok (.iconst 0, 1) := by decide +kernel
theorem dX11_manyPrices_18 : decode cX11_manyPrices 18 = .ok (.bastore, 1) := by decide +kernel
theorem dX11_manyPrices_19 : decode cX11_manyPrices 19 = .ok (.iinc 6 1, 3) := by decide +kernel
theorem dX11_manyPrices_22 : decode cX11_manyPrices 22 = .ok (.goto (-19), 3) := by decide +kernel
theorem dX11_manyPrices_25 : decode cX11_manyPrices 25 = .ok (.aload_n 0, 1) := by decide +kernel
theorem dX11_manyPrices_26 : decode cX11_manyPrices 26 = .ok (.iload_n 1, 1) := by decide +kernel
theorem dX11_manyPrices_27 : decode cX11_manyPrices 27 = .ok (.iload_n 2, 1) := by decide +kernel
theorem dX11_manyPrices_28 : decode cX11_manyPrices 28 = .ok (.iload_n 3, 1) := by decide +kernel
theorem dX11_manyPrices_29 : decode cX11_manyPrices 29 = .ok (.iload 4, 2) := by decide +kernel
theorem dX11_manyPrices_31 : decode cX11_manyPrices 31 = .ok (.iconst (-1), 1) := by decide +kernel
theorem dX11_manyPrices_32 : decode cX11_manyPrices 32 = .ok (.invokevirtual 477, 3) := by decide +kernel
theorem dX11_manyPrices_35 : decode cX11_manyPrices 35 = .ok (.pop, 1) := by decide +kernel
theorem dX11_manyPrices_36 : decode cX11_manyPrices 36 = .ok (.iconst 0, 1) := by decide +kernel
theorem dX11_manyPrices_37 : decode cX11_manyPrices 37 = .ok (.istore 6, 2) := by decide +kernel
theorem dX11_manyPrices_39 : decode cX11_manyPrices 39 = .ok (.iconst 1, 1) := by decide +kernel
theorem dX11_manyPrices_40 : decode cX11_manyPrices 40 = .ok (.istore 7, 2) := by decide +kernel
theorem dX11_manyPrices_42 : decode cX11_manyPrices 42 = .ok (.iload 7, 2) := by decide +kernel
theorem dX11_manyPrices_44 : decode cX11_manyPrices 44 = .ok (.iload 5, 2) := by decide +kernel
theorem dX11_manyPrices_46 : decode cX11_manyPrices 46 = .ok (.if_icmp .gt 29, 3) := by decide +kernel
theorem dX11_manyPrices_49 : decode cX11_manyPrices 49 = .ok (.iload 6, 2) := by decide +kernel
theorem dX11_manyPrices_51 : decode cX11_manyPrices 51 = .ok (.aload_n 0, 1) := by decide +kernel
theorem dX11_manyPrices_52 : decode cX11_manyPrices 52 = .ok (.getfield 138, 3) := by decide +kernel
theorem dX11_manyPrices_55 : decode cX11_manyPrices 55 = .ok (.iload 7, 2) := by decide +kernel
theorem dX11_manyPrices_57 : decode cX11_manyPrices 57 = .ok (.baload, 1) := by decide +kernel
theorem dX11_manyPrices_58 : decode cX11_manyPrices 58 = .ok (.ifCond .eq 7, 3) := by decide +kernel
theorem dX11_manyPrices_61 : decode cX11_manyPrices 61 = .ok (.iconst 1, 1) := by decide +kernel
theorem dX11_manyPrices_62 : decode cX11_manyPrices 62 = .ok (.goto 4, 3) := by decide +kernel
theorem dX11_manyPrices_65 : decode cX11_manyPrices 65 = .ok (.iconst 0, 1) := by decide +kernel
theorem dX11_manyPrices_66 : decode cX11_manyPrices 66 = .ok (.iadd, 1) := by decide +kernel
theorem dX11_manyPrices_67 : decode cX11_manyPrices 67 = .ok (.istore 6, 2) := by decide +kernel
theorem dX11_manyPrices_69 : decode cX11_manyPrices 69 = .ok (.iinc 7 1, 3) := by decide +kernel
theorem dX11_manyPrices_72 : decode cX11_manyPrices 72 = .ok (.goto (-30), 3) := by decide +kernel
theorem dX11_manyPrices_75 : decode cX11_manyPrices 75 = .ok (.iload 6, 2) := by decide +kernel
theorem dX11_manyPrices_77 : decode cX11_manyPrices 77 = .ok (.ireturn, 1) := by decide +kernel
theorem dX11_prices_0 : decode cX11_prices 0 = .ok (.aload_n 0, 1) := by decide +kernel
theorem dX11_prices_1 : decode cX11_prices 1 = .ok (.iload_n 1, 1) := by decide +kernel
theorem dX11_prices_2 : decode cX11_prices 2 = .ok (.iload_n 2, 1) := by decide +kernel
theorem dX11_prices_3 : decode cX11_prices 3 = .ok (.iload_n 3, 1) := by decide +kernel
theorem dX11_prices_4 : decode cX11_prices 4 = .ok (.iload 4, 2) := by decide +kernel
theorem dX11_prices_6 : decode cX11_prices 6 = .ok (.invokevirtual 473, 3) := by decide +kernel
theorem dX11_prices_9 : decode cX11_prices 9 = .ok (.ifCond .eq 16, 3) := by decide +kernel
theorem dX11_prices_12 : decode cX11_prices 12 = .ok (.iload 5, 2) := by decide +kernel
theorem dX11_prices_14 : decode cX11_prices 14 = .ok (.i2l, 1) := by decide +kernel
theorem dX11_prices_15 : decode cX11_prices 15 = .ok (.lconst 0, 1) := by decide +kernel
theorem dX11_prices_16 : decode cX11_prices 16 = .ok (.ldc2_w 481, 3) := by decide +kernel
theorem dX11_prices_19 : decode cX11_prices 19 = .ok (.invokestatic 171, 3) := by decide +kernel
theorem dX11_prices_22 : decode cX11_prices 22 = .ok (.ifCond .ne 7, 3) := by decide +kernel
theorem dX11_prices_25 : decode cX11_prices 25 = .ok (.iconst (-1), 1) := by decide +kernel
theorem dX11_prices_26 : decode cX11_prices 26 = .ok (.goto 14, 3) := by decide +kernel
theorem dX11_prices_29 : decode cX11_prices 29 = .ok (.aload_n 0, 1) := by decide +kernel
theorem dX11_prices_30 : decode cX11_prices 30 = .ok (.iload_n 1, 1) := by decide +kernel
theorem dX11_prices_31 : decode cX11_prices 31 = .ok (.iload_n 2, 1) := by decide +kernel
theorem dX11_prices_32 : decode cX11_prices 32 = .ok (.iload_n 3, 1) := by decide +kernel
theorem dX11_prices_33 : decode cX11_prices 33 = .ok (.iload 4, 2) := by decide +kernel
theorem dX11_prices_35 : decode cX11_prices 35 = .ok (.iload 5, 2) := by decide +kernel
theorem dX11_prices_37 : decode cX11_prices 37 = .ok (.invokevirtual 483, 3) := by decide +kernel
theorem dX11_prices_40 : decode cX11_prices 40 = .ok (.ireturn, 1) := by decide +kernel
theorem dX11_bestCounter_0 : decode cX11_bestCounter 0 = .ok (.aload_n 0, 1) := by decide +kernel
theorem dX11_bestCounter_1 : decode cX11_bestCounter 1 = .ok (.iload_n 1, 1) := by decide +kernel
theorem dX11_bestCounter_2 : decode cX11_bestCounter 2 = .ok (.iconst 0, 1) := by decide +kernel
theorem dX11_bestCounter_3 : decode cX11_bestCounter 3 = .ok (.iload_n 2, 1) := by decide +kernel
theorem dX11_bestCounter_4 : decode cX11_bestCounter 4 = .ok (.iload_n 3, 1) := by decide +kernel
theorem dX11_bestCounter_5 : decode cX11_bestCounter 5 = .ok (.invokevirtual 473, 3) := by decide +kernel
theorem dX11_bestCounter_8 : decode cX11_bestCounter 8 = .ok (.ifCond .eq 16, 3) := by decide +kernel
theorem dX11_bestCounter_11 : decode cX11_bestCounter 11 = .ok (.iload 4, 2) := by decide +kernel
theorem dX11_bestCounter_13 : decode cX11_bestCounter 13 = .ok (.i2l, 1) := by decide +kernel
theorem dX11_bestCounter_14 : decode cX11_bestCounter 14 = .ok (.lconst 0, 1) := by decide +kernel
theorem dX11_bestCounter_15 : decode cX11_bestCounter 15 = .ok (.ldc2_w 481, 3) := by decide +kernel
theorem dX11_bestCounter_18 : decode cX11_bestCounter 18 = .ok (.invokestatic 171, 3) := by decide +kernel
theorem dX11_bestCounter_21 : decode cX11_bestCounter 21 = .ok (.ifCond .ne 5, 3) := by decide +kernel
theorem dX11_bestCounter_24 : decode cX11_bestCounter 24 = .ok (.iconst (-1), 1) := by decide +kernel
theorem dX11_bestCounter_25 : decode cX11_bestCounter 25 = .ok (.ireturn, 1) := by decide +kernel
theorem dX11_bestCounter_26 : decode cX11_bestCounter 26 = .ok (.iconst 0, 1) := by decide +kernel
theorem dX11_bestCounter_27 : decode cX11_bestCounter 27 = .ok (.istore 5, 2) := by decide +kernel
theorem dX11_bestCounter_29 : decode cX11_bestCounter 29 = .ok (.iconst (-1), 1) := by decide +kernel
theorem dX11_bestCounter_30 : decode cX11_bestCounter 30 = .ok (.istore 6, 2) := by decide +kernel
theorem dX11_bestCounter_32 : decode cX11_bestCounter 32 = .ok (.iconst 0, 1) := by decide +kernel
theorem dX11_bestCounter_33 : decode cX11_bestCounter 33 = .ok (.istore 7, 2) := by decide +kernel
theorem dX11_bestCounter_35 : decode cX11_bestCounter 35 = .ok (.iload 7, 2) := by decide +kernel
theorem dX11_bestCounter_37 : decode cX11_bestCounter 37 = .ok (.aload_n 0, 1) := by decide +kernel
theorem dX11_bestCounter_38 : decode cX11_bestCounter 38 = .ok (.getfield 9, 3) := by decide +kernel
theorem dX11_bestCounter_41 : decode cX11_bestCounter 41 = .ok (.iconst 1, 1) := by decide +kernel
theorem dX11_bestCounter_42 : decode cX11_bestCounter 42 = .ok (.iaload, 1) := by decide +kernel
theorem dX11_bestCounter_43 : decode cX11_bestCounter 43 = .ok (.if_icmp .ge 54, 3) := by decide +kernel
theorem dX11_bestCounter_46 : decode cX11_bestCounter 46 = .ok (.aload_n 0, 1) := by decide +kernel
theorem dX11_bestCounter_47 : decode cX11_bestCounter 47 = .ok (.iload_n 1, 1) := by decide +kernel
theorem dX11_bestCounter_48 : decode cX11_bestCounter 48 = .ok (.iload 7, 2) := by decide +kernel
theorem dX11_bestCounter_50 : decode cX11_bestCounter 50 = .ok (.iload_n 2, 1) := by decide +kernel
theorem dX11_bestCounter_51 : decode cX11_bestCounter 51 = .ok (.iload_n 3, 1) := by decide +kernel
theorem dX11_bestCounter_52 : decode cX11_bestCounter 52 = .ok (.iload 4, 2) := by decide +kernel
theorem dX11_bestCounter_54 : decode cX11_bestCounter 54 = .ok (.invokevirtual 483, 3) := by decide +kernel
theorem dX11_bestCounter_57 : decode cX11_bestCounter 57 = .ok (.istore 8, 2) := by decide +kernel
theorem dX11_bestCounter_59 : decode cX11_bestCounter 59 = .ok (.iload 8, 2) := by decide +kernel
theorem dX11_bestCounter_61 : decode cX11_bestCounter 61 = .ok (.iload 6, 2) := by decide +kernel
theorem dX11_bestCounter_63 : decode cX11_bestCounter 63 = .ok (.if_icmp .le 8, 3) := by decide +kernel
theorem dX11_bestCounter_66 : decode cX11_bestCounter 66 = .ok (.iload 7, 2) := by decide +kernel
theorem dX11_bestCounter_68 : decode cX11_bestCounter 68 = .ok (.goto 5, 3) := by decide +kernel
theorem dX11_bestCounter_71 : decode cX11_bestCounter 71 = .ok (.iload 5, 2) := by decide +kernel
theorem dX11_bestCounter_73 : decode cX11_bestCounter 73 = .ok (.istore 5, 2) := by decide +kernel
theorem dX11_bestCounter_75 : decode cX11_bestCounter 75 = .ok (.iload 8, 2) := by decide +kernel
theorem dX11_bestCounter_77 : decode cX11_bestCounter 77 = .ok (.iload 6, 2) := by decide +kernel
theorem dX11_bestCounter_79 : decode cX11_bestCounter 79 = .ok (.if_icmp .le 8, 3) := by decide +kernel
theorem dX11_bestCounter_82 : decode cX11_bestCounter 82 = .ok (.iload 8, 2) := by decide +kernel
theorem dX11_bestCounter_84 : decode cX11_bestCounter 84 = .ok (.goto 5, 3) := by decide +kernel
theorem dX11_bestCounter_87 : decode cX11_bestCounter 87 = .ok (.iload 6, 2) := by decide +kernel
theorem dX11_bestCounter_89 : decode cX11_bestCounter 89 = .ok (.istore 6, 2) := by decide +kernel
theorem dX11_bestCounter_91 : decode cX11_bestCounter 91 = .ok (.iinc 7 1, 3) := by decide +kernel
theorem dX11_bestCounter_94 : decode cX11_bestCounter 94 = .ok (.goto (-59), 3) := by decide +kernel
theorem dX11_bestCounter_97 : decode cX11_bestCounter 97 = .ok (.iload 5, 2) := by decide +kernel
theorem dX11_bestCounter_99 : decode cX11_bestCounter 99 = .ok (.ireturn, 1) := by decide +kernel
theorem dX11_payment_0 : decode cX11_payment 0 = .ok (.iload_n 1, 1) := by decide +kernel
theorem dX11_payment_1 : decode cX11_payment 1 = .ok (.iconst (-1), 1) := by decide +kernel
theorem dX11_payment_2 : decode cX11_payment 2 = .ok (.if_icmp .ne 12, 3) := by decide +kernel
theorem dX11_payment_5 : decode cX11_payment 5 = .ok (.aload_n 0, 1) := by decide +kernel
theorem dX11_payment_6 : decode cX11_payment 6 = .ok (.getfield 9, 3) := by decide +kernel
theorem dX11_payment_9 : decode cX11_payment 9 = .ok (.iconst 5, 1) := by decide +kernel
theorem dX11_payment_10 : decode cX11_payment 10 = .ok (.iconst 0, 1) := by decide +kernel
theorem dX11_payment_11 : decode cX11_payment 11 = .ok (.iastore, 1) := by decide +kernel
theorem dX11_payment_12 : decode cX11_payment 12 = .ok (.iconst 0, 1) := by decide +kernel
theorem dX11_payment_13 : decode cX11_payment 13 = .ok (.ireturn, 1) := by decide +kernel
theorem dX11_payment_14 : decode cX11_payment 14 = .ok (.aload_n 0, 1) := by decide +kernel
theorem dX11_payment_15 : decode cX11_payment 15 = .ok (.getfield 9, 3) := by decide +kernel
theorem dX11_payment_18 : decode cX11_payment 18 = .ok (.iconst 5, 1) := by decide +kernel
theorem dX11_payment_19 : decode cX11_payment 19 = .ok (.iaload, 1) := by decide +kernel
theorem dX11_payment_20 : decode cX11_payment 20 = .ok (.istore_n 3, 1) := by decide +kernel
theorem dX11_payment_21 : decode cX11_payment 21 = .ok (.iload_n 3, 1) := by decide +kernel
theorem dX11_payment_22 : decode cX11_payment 22 = .ok (.bipush 10, 2) := by decide +kernel
theorem dX11_payment_24 : decode cX11_payment 24 = .ok (.if_icmp .eq 23, 3) := by decide +kernel
theorem dX11_payment_27 : decode cX11_payment 27 = .ok (.aload_n 0, 1) := by decide +kernel
theorem dX11_payment_28 : decode cX11_payment 28 = .ok (.iload_n 1, 1) := by decide +kernel
theorem dX11_payment_29 : decode cX11_payment 29 = .ok (.invokevirtual 388, 3) := by decide +kernel
theorem dX11_payment_32 : decode cX11_payment 32 = .ok (.ifCond .eq 15, 3) := by decide +kernel
theorem dX11_payment_35 : decode cX11_payment 35 = .ok (.aload_n 0, 1) := by decide +kernel
theorem dX11_payment_36 : decode cX11_payment 36 = .ok (.iload_n 2, 1) := by decide +kernel
theorem dX11_payment_37 : decode cX11_payment 37 = .ok (.invokevirtual 396, 3) := by decide +kernel
theorem dX11_payment_40 : decode cX11_payment 40 = .ok (.ifCond .eq 7, 3) := by decide +kernel
theorem dX11_payment_43 : decode cX11_payment 43 = .ok (.iload_n 2, 1) := by decide +kernel
theorem dX11_payment_44 : decode cX11_payment 44 = .ok (.ifCond .ne 6, 3) := by decide +kernel
theorem dX11_payment_47 : decode cX11_payment 47 = .ok (.bipush (-2), 2) := by decide +kernel
theorem dX11_payment_49 : decode cX11_payment 49 = .ok (.ireturn, 1) := by decide +kernel
theorem dX11_payment_50 : decode cX11_payment 50 = .ok (.aload_n 0, 1) := by decide +kernel
theorem dX11_payment_51 : decode cX11_payment 51 = .ok (.getfield 61, 3) := by decide +kernel
theorem dX11_payment_54 : decode cX11_payment 54 = .ok (.iload_n 3, 1) := by decide +kernel
theorem dX11_payment_55 : decode cX11_payment 55 = .ok (.iload_n 1, 1) := by decide +kernel
theorem dX11_payment_56 : decode cX11_payment 56 = .ok (.iastore, 1) := by decide +kernel
theorem dX11_payment_57 : decode cX11_payment 57 = .ok (.aload_n 0, 1) := by decide +kernel
theorem dX11_payment_58 : decode cX11_payment 58 = .ok (.getfield 64, 3) := by decide +kernel
theorem dX11_payment_61 : decode cX11_payment 61 = .ok (.iload_n 3, 1) := by decide +kernel
theorem dX11_payment_62 : decode cX11_payment 62 = .ok (.iload_n 2, 1) := by decide +kernel
theorem dX11_payment_63 : decode cX11_payment 63 = .ok (.iastore, 1) := by decide +kernel
theorem dX11_payment_64 : decode cX11_payment 64 = .ok (.aload_n 0, 1) := by decide +kernel
theorem dX11_payment_65 : decode cX11_payment 65 = .ok (.getfield 9, 3) := by decide +kernel
theorem dX11_payment_68 : decode cX11_payment 68 = .ok (.iconst 5, 1) := by decide +kernel
theorem dX11_payment_69 : decode cX11_payment 69 = .ok (.dup2, 1) := by decide +kernel
theorem dX11_payment_70 : decode cX11_payment 70 = .ok (.iaload, 1) := by decide +kernel
theorem dX11_payment_71 : decode cX11_payment 71 = .ok (.iconst 1, 1) := by decide +kernel
theorem dX11_payment_72 : decode cX11_payment 72 = .ok (.iadd, 1) := by decide +kernel
theorem dX11_payment_73 : decode cX11_payment 73 = .ok (.iastore, 1) := by decide +kernel
theorem dX11_payment_74 : decode cX11_payment 74 = .ok (.iload_n 3, 1) := by decide +kernel
theorem dX11_payment_75 : decode cX11_payment 75 = .ok (.iconst 1, 1) := by decide +kernel
theorem dX11_payment_76 : decode cX11_payment 76 = .ok (.iadd, 1) := by decide +kernel
theorem dX11_payment_77 : decode cX11_payment 77 = .ok (.ireturn, 1) := by decide +kernel
theorem dX11_isClash_0 : decode cX11_isClash 0 = .ok (.aload_n 0, 1) := by decide +kernel
theorem dX11_isClash_1 : decode cX11_isClash 1 = .ok (.getfield 61, 3) := by decide +kernel
theorem dX11_isClash_4 : decode cX11_isClash 4 = .ok (.iload_n 2, 1) := by decide +kernel
theorem dX11_isClash_5 : decode cX11_isClash 5 = .ok (.iaload, 1) := by decide +kernel
theorem dX11_isClash_6 : decode cX11_isClash 6 = .ok (.aload_n 0, 1) := by decide +kernel
theorem dX11_isClash_7 : decode cX11_isClash 7 = .ok (.getfield 61, 3) := by decide +kernel
theorem dX11_isClash_10 : decode cX11_isClash 10 = .ok (.iload_n 3, 1) := by decide +kernel
theorem dX11_isClash_11 : decode cX11_isClash 11 = .ok (.iaload, 1) := by decide +kernel
theorem dX11_isClash_12 : decode cX11_isClash 12 = .ok (.if_icmp .eq 5, 3) := by decide +kernel
theorem dX11_isClash_15 : decode cX11_isClash 15 = .ok (.iconst 0, 1) := by decide +kernel
theorem dX11_isClash_16 : decode cX11_isClash 16 = .ok (.ireturn, 1) := by decide +kernel
theorem dX11_isClash_17 : decode cX11_isClash 17 = .ok (.aload_n 0, 1) := by decide +kernel
theorem dX11_isClash_18 : decode cX11_isClash 18 = .ok (.getfield 64, 3) := by decide +kernel
theorem dX11_isClash_21 : decode cX11_isClash 21 = .ok (.iload_n 2, 1) := by decide +kernel
theorem dX11_isClash_22 : decode cX11_isClash 22 = .ok (.iaload, 1) := by decide +kernel
theorem dX11_isClash_23 : decode cX11_isClash 23 = .ok (.aload_n 0, 1) := by decide +kernel
theorem dX11_isClash_24 : decode cX11_isClash 24 = .ok (.getfield 64, 3) := by decide +kernel
theorem dX11_isClash_27 : decode cX11_isClash 27 = .ok (.iload_n 3, 1) := by decide +kernel
theorem dX11_isClash_28 : decode cX11_isClash 28 = .ok (.iaload, 1) := by decide +kernel
theorem dX11_isClash_29 : decode cX11_isClash 29 = .ok (.ior, 1) := by decide +kernel
theorem dX11_isClash_30 : decode cX11_isClash 30 = .ok (.istore 4, 2) := by decide +kernel
theorem dX11_isClash_32 : decode cX11_isClash 32 = .ok (.aload_n 0, 1) := by decide +kernel
theorem dX11_isClash_33 : decode cX11_isClash 33 = .ok (.getfield 64, 3) := by decide +kernel
