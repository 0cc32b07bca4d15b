theorem dX11_isClash_36 : decode cX11_isClash 36 = .ok (.iload_n 2, 1) := by decide +kernel
theorem dX11_isClash_37 : decode cX11_isClash 37 = .ok (.iaload, 1) := by decide +kernel
theorem dX11_isClash_38 : decode cX11_isClash 38 = .ok (.aload_n 0, 1) := by decide +kernel
theorem dX11_isClash_39 : decode cX11_isClash 39 = .ok (.getfield 64, 3) := by decide +kernel
theorem dX11_isClash_42 : decode cX11_isClash 42 = .ok (.iload_n 3, 1) := by decide +kernel
theorem dX11_isClash_43 : decode cX11_isClash 43 = .ok (.iaload, 1) := by decide +kernel
theorem dX11_isClash_44 : decode cX11_isClash 44 = .ok (.iand, 1) := by decide +kernel
theorem dX11_isClash_45 : decode cX11_isClash 45 = .ok (.ifCond .eq 7, 3) := by decide +kernel
theorem dX11_isClash_48 : decode cX11_isClash 48 = .ok (.iconst 1, 1) := by decide +kernel
theorem dX11_isClash_49 : decode cX11_isClash 49 = .ok (.goto 4, 3) := by decide +kernel
theorem dX11_isClash_52 : decode cX11_isClash 52 = .ok (.iconst 0, 1) := by decide +kernel
theorem dX11_isClash_53 : decode cX11_isClash 53 = .ok (.istore 5, 2) := by decide +kernel
theorem dX11_isClash_55 : decode cX11_isClash 55 = .ok (.iload 5, 2) := by decide +kernel
theorem dX11_isClash_57 : decode cX11_isClash 57 = .ok (.ifCond .ne 82, 3) := by decide +kernel
theorem dX11_isClash_60 : decode cX11_isClash 60 = .ok (.aload_n 0, 1) := by decide +kernel
theorem dX11_isClash_61 : decode cX11_isClash 61 = .ok (.iload_n 1, 1) := by decide +kernel
theorem dX11_isClash_62 : decode cX11_isClash 62 = .ok (.aload_n 0, 1) := by decide +kernel
theorem dX11_isClash_63 : decode cX11_isClash 63 = .ok (.getfield 61, 3) := by decide +kernel
theorem dX11_isClash_66 : decode cX11_isClash 66 = .ok (.iload_n 2, 1) := by decide +kernel
theorem dX11_isClash_67 : decode cX11_isClash 67 = .ok (.iaload, 1) := by decide +kernel
theorem dX11_isClash_68 : decode cX11_isClash 68 = .ok (.iload 4, 2) := by decide +kernel
theorem dX11_isClash_70 : decode cX11_isClash 70 = .ok (.bipush 12, 2) := by decide +kernel
theorem dX11_isClash_72 : decode cX11_isClash 72 = .ok (.invokevirtual 451, 3) := by decide +kernel
theorem dX11_isClash_75 : decode cX11_isClash 75 = .ok (.iconst 0, 1) := by decide +kernel
theorem dX11_isClash_76 : decode cX11_isClash 76 = .ok (.istore 6, 2) := by decide +kernel
theorem dX11_isClash_78 : decode cX11_isClash 78 = .ok (.iload 6, 2) := by decide +kernel
theorem dX11_isClash_80 : decode cX11_isClash 80 = .ok (.iload 4, 2) := by decide +kernel
theorem dX11_isClash_82 : decode cX11_isClash 82 = .ok (.if_icmp .ge 57, 3) := by decide +kernel
theorem dX11_isClash_85 : decode cX11_isClash 85 = .ok (.iload 5, 2) := by decide +kernel
theorem dX11_isClash_87 : decode cX11_isClash 87 = .ok (.ifCond .ne 52, 3) := by decide +kernel
theorem dX11_isClash_90 : decode cX11_isClash 90 = .ok (.iload 6, 2) := by decide +kernel
theorem dX11_isClash_92 : decode cX11_isClash 92 = .ok (.iload 4, 2) := by decide +kernel
theorem dX11_isClash_94 : decode cX11_isClash 94 = .ok (.iconst (-1), 1) := by decide +kernel
theorem dX11_isClash_95 : decode cX11_isClash 95 = .ok (.ixor, 1) := by decide +kernel
theorem dX11_isClash_96 : decode cX11_isClash 96 = .ok (.iand, 1) := by decide +kernel
theorem dX11_isClash_97 : decode cX11_isClash 97 = .ok (.ifCond .ne 33, 3) := by decide +kernel
theorem dX11_isClash_100 : decode cX11_isClash 100 = .ok (.aload_n 0, 1) := by decide +kernel
theorem dX11_isClash_101 : decode cX11_isClash 101 = .ok (.iload 6, 2) := by decide +kernel
theorem dX11_isClash_103 : decode cX11_isClash 103 = .ok (.iload 4, 2) := by decide +kernel
theorem dX11_isClash_105 : decode cX11_isClash 105 = .ok (.invokevirtual 438, 3) := by decide +kernel
theorem dX11_isClash_108 : decode cX11_isClash 108 = .ok (.ifCond .eq 22, 3) := by decide +kernel
theorem dX11_isClash_111 : decode cX11_isClash 111 = .ok (.aload_n 0, 1) := by decide +kernel
theorem dX11_isClash_112 : decode cX11_isClash 112 = .ok (.iload 6, 2) := by decide +kernel
theorem dX11_isClash_114 : decode cX11_isClash 114 = .ok (.invokevirtual 446, 3) := by decide +kernel
theorem dX11_isClash_117 : decode cX11_isClash 117 = .ok (.aload_n 0, 1) := by decide +kernel
theorem dX11_isClash_118 : decode cX11_isClash 118 = .ok (.iload 4, 2) := by decide +kernel
theorem dX11_isClash_120 : decode cX11_isClash 120 = .ok (.invokevirtual 446, 3) := by decide +kernel
theorem dX11_isClash_123 : decode cX11_isClash 123 = .ok (.if_icmp .eq 7, 3) := by decide +kernel
theorem dX11_isClash_126 : decode cX11_isClash 126 = .ok (.iconst 1, 1) := by decide +kernel
theorem dX11_isClash_127 : decode cX11_isClash 127 = .ok (.goto 4, 3) := by decide +kernel
theorem dX11_isClash_130 : decode cX11_isClash 130 = .ok (.iconst 0, 1) := by decide +kernel
theorem dX11_isClash_131 : decode cX11_isClash 131 = .ok (.istore 5, 2) := by decide +kernel
theorem dX11_isClash_133 : decode cX11_isClash 133 = .ok (.iinc 6 1, 3) := by decide +kernel
theorem dX11_isClash_136 : decode cX11_isClash 136 = .ok (.goto (-58), 3) := by decide +kernel
theorem dX11_isClash_139 : decode cX11_isClash 139 = .ok (.iload 5, 2) := by decide +kernel
theorem dX11_isClash_141 : decode cX11_isClash 141 = .ok (.ireturn, 1) := by decide +kernel
theorem dX11_isQuiet_0 : decode cX11_isQuiet 0 = .ok (.iconst 1, 1) := by decide +kernel
theorem dX11_isQuiet_1 : decode cX11_isQuiet 1 = .ok (.istore_n 2, 1) := by decide +kernel
theorem dX11_isQuiet_2 : decode cX11_isQuiet 2 = .ok (.iconst 0, 1) := by decide +kernel
theorem dX11_isQuiet_3 : decode cX11_isQuiet 3 = .ok (.istore_n 3, 1) := by decide +kernel
theorem dX11_isQuiet_4 : decode cX11_isQuiet 4 = .ok (.iload_n 3, 1) := by decide +kernel
theorem dX11_isQuiet_5 : decode cX11_isQuiet 5 = .ok (.bipush 10, 2) := by decide +kernel
theorem dX11_isQuiet_7 : decode cX11_isQuiet 7 = .ok (.if_icmp .ge 38, 3) := by decide +kernel
theorem dX11_isQuiet_10 : decode cX11_isQuiet 10 = .ok (.iload_n 2, 1) := by decide +kernel
theorem dX11_isQuiet_11 : decode cX11_isQuiet 11 = .ok (.ifCond .eq 26, 3) := by decide +kernel
theorem dX11_isQuiet_14 : decode cX11_isQuiet 14 = .ok (.iload_n 1, 1) := by decide +kernel
theorem dX11_isQuiet_15 : decode cX11_isQuiet 15 = .ok (.iload_n 3, 1) := by decide +kernel
theorem dX11_isQuiet_16 : decode cX11_isQuiet 16 = .ok (.invokestatic 177, 3) := by decide +kernel
theorem dX11_isQuiet_19 : decode cX11_isQuiet 19 = .ok (.ifCond .eq 14, 3) := by decide +kernel
theorem dX11_isQuiet_22 : decode cX11_isQuiet 22 = .ok (.aload_n 0, 1) := by decide +kernel
theorem dX11_isQuiet_23 : decode cX11_isQuiet 23 = .ok (.getfield 141, 3) := by decide +kernel
theorem dX11_isQuiet_26 : decode cX11_isQuiet 26 = .ok (.iload_n 3, 1) := by decide +kernel
theorem dX11_isQuiet_27 : decode cX11_isQuiet 27 = .ok (.iaload, 1) := by decide +kernel
theorem dX11_isQuiet_28 : decode cX11_isQuiet 28 = .ok (.iload_n 1, 1) := by decide +kernel
theorem dX11_isQuiet_29 : decode cX11_isQuiet 29 = .ok (.iand, 1) := by decide +kernel
theorem dX11_isQuiet_30 : decode cX11_isQuiet 30 = .ok (.ifCond .ne 7, 3) := by decide +kernel
theorem dX11_isQuiet_33 : decode cX11_isQuiet 33 = .ok (.iconst 1, 1) := by decide +kernel
theorem dX11_isQuiet_34 : decode cX11_isQuiet 34 = .ok (.goto 4, 3) := by decide +kernel
theorem dX11_isQuiet_37 : decode cX11_isQuiet 37 = .ok (.iconst 0, 1) := by decide +kernel
theorem dX11_isQuiet_38 : decode cX11_isQuiet 38 = .ok (.istore_n 2, 1) := by decide +kernel
theorem dX11_isQuiet_39 : decode cX11_isQuiet 39 = .ok (.iinc 3 1, 3) := by decide +kernel
theorem dX11_isQuiet_42 : decode cX11_isQuiet 42 = .ok (.goto (-38), 3) := by decide +kernel
theorem dX11_isQuiet_45 : decode cX11_isQuiet 45 = .ok (.iload_n 2, 1) := by decide +kernel
theorem dX11_isQuiet_46 : decode cX11_isQuiet 46 = .ok (.ireturn, 1) := by decide +kernel
theorem dX11_rounds_0 : decode cX11_rounds 0 = .ok (.aload_n 0, 1) := by decide +kernel
theorem dX11_rounds_1 : decode cX11_rounds 1 = .ok (.iload_n 1, 1) := by decide +kernel
theorem dX11_rounds_2 : decode cX11_rounds 2 = .ok (.invokevirtual 405, 3) := by decide +kernel
theorem dX11_rounds_5 : decode cX11_rounds 5 = .ok (.ifCond .eq 13, 3) := by decide +kernel
theorem dX11_rounds_8 : decode cX11_rounds 8 = .ok (.iload_n 2, 1) := by decide +kernel
theorem dX11_rounds_9 : decode cX11_rounds 9 = .ok (.i2l, 1) := by decide +kernel
theorem dX11_rounds_10 : decode cX11_rounds 10 = .ok (.lconst 0, 1) := by decide +kernel
theorem dX11_rounds_11 : decode cX11_rounds 11 = .ok (.lconst 1, 1) := by decide +kernel
theorem dX11_rounds_12 : decode cX11_rounds 12 = .ok (.invokestatic 171, 3) := by decide +kernel
theorem dX11_rounds_15 : decode cX11_rounds 15 = .ok (.ifCond .ne 5, 3) := by decide +kernel
theorem dX11_rounds_18 : decode cX11_rounds 18 = .ok (.iconst (-1), 1) := by decide +kernel
theorem dX11_rounds_19 : decode cX11_rounds 19 = .ok (.ireturn, 1) := by decide +kernel
theorem dX11_rounds_20 : decode cX11_rounds 20 = .ok (.aload_n 0, 1) := by decide +kernel
theorem dX11_rounds_21 : decode cX11_rounds 21 = .ok (.getfield 9, 3) := by decide +kernel
theorem dX11_rounds_24 : decode cX11_rounds 24 = .ok (.iconst 5, 1) := by decide +kernel
theorem dX11_rounds_25 : decode cX11_rounds 25 = .ok (.iaload, 1) := by decide +kernel
theorem dX11_rounds_26 : decode cX11_rounds 26 = .ok (.istore_n 3, 1) := by decide +kernel
theorem dX11_rounds_27 : decode cX11_rounds 27 = .ok (.iconst 0, 1) := by decide +kernel
theorem dX11_rounds_28 : decode cX11_rounds 28 = .ok (.istore 4, 2) := by decide +kernel
theorem dX11_rounds_30 : decode cX11_rounds 30 = .ok (.iconst 0, 1) := by decide +kernel
theorem dX11_rounds_31 : decode cX11_rounds 31 = .ok (.istore 5, 2) := by decide +kernel
theorem dX11_rounds_33 : decode cX11_rounds 33 = .ok (.iload 5, 2) := by decide +kernel
theorem dX11_rounds_35 : decode cX11_rounds 35 = .ok (.bipush 10, 2) := by decide +kernel
theorem dX11_rounds_37 : decode cX11_rounds 37 = .ok (.if_icmp .ge 111, 3) := by decide +kernel
theorem dX11_rounds_40 : decode cX11_rounds 40 = .ok (.aload_n 0, 1) := by decide +kernel
theorem dX11_rounds_41 : decode cX11_rounds 41 = .ok (.getfield 141, 3) := by decide +kernel
theorem dX11_rounds_44 : decode cX11_rounds 44 = .ok (.iload 5, 2) := by decide +kernel
theorem dX11_rounds_46 : decode cX11_rounds 46 = .ok (.iconst 0, 1) := by decide +kernel
theorem dX11_rounds_47 : decode cX11_rounds 47 = .ok (.iastore, 1) := by decide +kernel
theorem dX11_rounds_48 : decode cX11_rounds 48 = .ok (.iconst 0, 1) := by decide +kernel
theorem dX11_rounds_49 : decode cX11_rounds 49 = .ok (.istore 6, 2) := by decide +kernel
theorem dX11_rounds_51 : decode cX11_rounds 51 = .ok (.iload 5, 2) := by decide +kernel
theorem dX11_rounds_53 : decode cX11_rounds 53 = .ok (.iload_n 3, 1) := by decide +kernel
theorem dX11_rounds_54 : decode cX11_rounds 54 = .ok (.if_icmp .ge 88, 3) := by decide +kernel
theorem dX11_rounds_57 : decode cX11_rounds 57 = .ok (.iload 6, 2) := by decide +kernel
theorem dX11_rounds_59 : decode cX11_rounds 59 = .ok (.iload 5, 2) := by decide +kernel
theorem dX11_rounds_61 : decode cX11_rounds 61 = .ok (.if_icmp .ge 81, 3) := by decide +kernel
theorem dX11_rounds_64 : decode cX11_rounds 64 = .ok (.aload_n 0, 1) := by decide +kernel
theorem dX11_rounds_65 : decode cX11_rounds 65 = .ok (.iload_n 1, 1) := by decide +kernel
theorem dX11_rounds_66 : decode cX11_rounds 66 = .ok (.iload 6, 2) := by decide +kernel
theorem dX11_rounds_68 : decode cX11_rounds 68 = .ok (.iload 5, 2) := by decide +kernel
theorem dX11_rounds_70 : decode cX11_rounds 70 = .ok (.invokevirtual 486, 3) := by decide +kernel
theorem dX11_rounds_73 : decode cX11_rounds 73 = .ok (.istore 7, 2) := by decide +kernel
theorem dX11_rounds_75 : decode cX11_rounds 75 = .ok (.aload_n 0, 1) := by decide +kernel
theorem dX11_rounds_76 : decode cX11_rounds 76 = .ok (.getfield 141, 3) := by decide +kernel
theorem dX11_rounds_79 : decode cX11_rounds 79 = .ok (.iload 5, 2) := by decide +kernel
theorem dX11_rounds_81 : decode cX11_rounds 81 = .ok (.dup2, 1) := by decide +kernel
theorem dX11_rounds_82 : decode cX11_rounds 82 = .ok (.iaload, 1) := by decide +kernel
theorem dX11_rounds_83 : decode cX11_rounds 83 = .ok (.iload 7, 2) := by decide +kernel
theorem dX11_rounds_85 : decode cX11_rounds 85 = .ok (.ifCond .eq 10, 3) := by decide +kernel
theorem dX11_rounds_88 : decode cX11_rounds 88 = .ok (.iconst 1, 1) := by decide +kernel
theorem dX11_rounds_89 : decode cX11_rounds 89 = .ok (.iload 6, 2) := by decide +kernel
theorem dX11_rounds_91 : decode cX11_rounds 91 = .ok (.ishl, 1) := by decide +kernel
theorem dX11_rounds_92 : decode cX11_rounds 92 = .ok (.goto 4, 3) := by decide +kernel
theorem dX11_rounds_95 : decode cX11_rounds 95 = .ok (.iconst 0, 1) := by decide +kernel
theorem dX11_rounds_96 : decode cX11_rounds 96 = .ok (.ior, 1) := by decide +kernel
theorem dX11_rounds_97 : decode cX11_rounds 97 = .ok (.iastore, 1) := by decide +kernel
theorem dX11_rounds_98 : decode cX11_rounds 98 = .ok (.aload_n 0, 1) := by decide +kernel
theorem dX11_rounds_99 : decode cX11_rounds 99 = .ok (.getfield 141, 3) := by decide +kernel
theorem dX11_rounds_102 : decode cX11_rounds 102 = .ok (.iload 6, 2) := by decide +kernel
theorem dX11_rounds_104 : decode cX11_rounds 104 = .ok (.dup2, 1) := by decide +kernel
theorem dX11_rounds_105 : decode cX11_rounds 105 = .ok (.iaload, 1) := by decide +kernel
theorem dX11_rounds_106 : decode cX11_rounds 106 = .ok (.iload 7, 2) := by decide +kernel
theorem dX11_rounds_108 : decode cX11_rounds 108 = .ok (.ifCond .eq 10, 3) := by decide +kernel
theorem dX11_rounds_111 : decode cX11_rounds 111 = .ok (.iconst 1, 1) := by decide +kernel
theorem dX11_rounds_112 : decode cX11_rounds 112 = .ok (.iload 5, 2) := by decide +kernel
theorem dX11_rounds_114 : decode cX11_rounds 114 = .ok (.ishl, 1) := by decide +kernel
theorem dX11_rounds_115 : decode cX11_rounds 115 = .ok (.goto 4, 3) := by decide +kernel
theorem dX11_rounds_118 : decode cX11_rounds 118 = .ok (.iconst 0, 1) := by decide +kernel
theorem dX11_rounds_119 : decode cX11_rounds 119 = .ok (.ior, 1) := by decide +kernel
theorem dX11_rounds_120 : decode cX11_rounds 120 = .ok (.iastore, 1) := by decide +kernel
theorem dX11_rounds_121 : decode cX11_rounds 121 = .ok (.iload 4, 2) := by decide +kernel
theorem dX11_rounds_123 : decode cX11_rounds 123 = .ok (.iload 7, 2) := by decide +kernel
theorem dX11_rounds_125 : decode cX11_rounds 125 = .ok (.ifCond .eq 7, 3) := by decide +kernel
theorem dX11_rounds_128 : decode cX11_rounds 128 = .ok (.iconst 1, 1) := by decide +kernel
theorem dX11_rounds_129 : decode cX11_rounds 129 = .ok (.goto 4, 3) := by decide +kernel
theorem dX11_rounds_132 : decode cX11_rounds 132 = .ok (.iconst 0, 1) := by decide +kernel
theorem dX11_rounds_133 : decode cX11_rounds 133 = .ok (.iadd, 1) := by decide +kernel
theorem dX11_rounds_134 : decode cX11_rounds 134 = .ok (.istore 4, 2) := by decide +kernel
theorem dX11_rounds_136 : decode cX11_rounds 136 = .ok (.iinc 6 1, 3) := by decide +kernel
theorem dX11_rounds_139 : decode cX11_rounds 139 = .ok (.goto (-88), 3) := by decide +kernel
theorem dX11_rounds_142 : decode cX11_rounds 142 = .ok (.iinc 5 1, 3) := by decide +kernel
theorem dX11_rounds_145 : decode cX11_rounds 145 = .ok (.goto (-112), 3) := by decide +kernel
theorem dX11_rounds_148 : decode cX11_rounds 148 = .ok (.aload_n 0, 1) := by decide +kernel
theorem dX11_rounds_149 : decode cX11_rounds 149 = .ok (.getfield 144, 3) := by decide +kernel
theorem dX11_rounds_152 : decode cX11_rounds 152 = .ok (.iconst 0, 1) := by decide +kernel
theorem dX11_rounds_153 : decode cX11_rounds 153 = .ok (.iconst 0, 1) := by decide +kernel
theorem dX11_rounds_154 : decode cX11_rounds 154 = .ok (.iastore, 1) := by decide +kernel
theorem dX11_rounds_155 : decode cX11_rounds 155 = .ok (.iconst 1, 1) := by decide +kernel
theorem dX11_rounds_156 : decode cX11_rounds 156 = .ok (.istore 5, 2) := by decide +kernel
theorem dX11_rounds_158 : decode cX11_rounds 158 = .ok (.iload 5, 2) := by decide +kernel
theorem dX11_rounds_160 : decode cX11_rounds 160 = .ok (.iconst 1, 1) := by decide +kernel
theorem dX11_rounds_161 : decode cX11_rounds 161 = .ok (.iload_n 3, 1) := by decide +kernel
theorem dX11_rounds_162 : decode cX11_rounds 162 = .ok (.ishl, 1) := by decide +kernel
theorem dX11_rounds_163 : decode cX11_rounds 163 = .ok (.if_icmp .ge 89, 3) := by decide +kernel
theorem dX11_rounds_166 : decode cX11_rounds 166 = .ok (.bipush 10, 2) := by decide +kernel
theorem dX11_rounds_168 : decode cX11_rounds 168 = .ok (.istore 6, 2) := by decide +kernel
theorem dX11_rounds_170 : decode cX11_rounds 170 = .ok (.iload 5, 2) := by decide +kernel
theorem dX11_rounds_172 : decode cX11_rounds 172 = .ok (.istore 7, 2) := by decide +kernel
theorem dX11_rounds_174 : decode cX11_rounds 174 = .ok (.iload 7, 2) := by decide +kernel
theorem dX11_rounds_176 : decode cX11_rounds 176 = .ok (.ifCond .le 61, 3) := by decide +kernel
theorem dX11_rounds_179 : decode cX11_rounds 179 = .ok (.aload_n 0, 1) := by decide +kernel
theorem dX11_rounds_180 : decode cX11_rounds 180 = .ok (.iload 7, 2) := by decide +kernel
theorem dX11_rounds_182 : decode cX11_rounds 182 = .ok (.invokevirtual 489, 3) := by decide +kernel
theorem dX11_rounds_185 : decode cX11_rounds 185 = .ok (.ifCond .eq 20, 3) := by decide +kernel
theorem dX11_rounds_188 : decode cX11_rounds 188 = .ok (.iconst 1, 1) := by decide +kernel
theorem dX11_rounds_189 : decode cX11_rounds 189 = .ok (.aload_n 0, 1) := by decide +kernel
theorem dX11_rounds_190 : decode cX11_rounds 190 = .ok (.getfield 144, 3) := by decide +kernel
theorem dX11_rounds_193 : decode cX11_rounds 193 = .ok (.iload 5, 2) := by decide +kernel
theorem dX11_rounds_195 : decode cX11_rounds 195 = .ok (.iload 7, 2) := by decide +kernel
theorem dX11_rounds_197 : decode cX11_rounds 197 = .ok (.iconst (-1), 1) := by decide +kernel
theorem dX11_rounds_198 : decode cX11_rounds 198 = .ok (.ixor, 1) := by decide +kernel
theorem dX11_rounds_199 : decode cX11_rounds 199 = .ok (.iand, 1) := by decide +kernel
theorem dX11_rounds_200 : decode cX11_rounds 200 = .ok (.iaload, 1) := by decide +kernel
theorem dX11_rounds_201 : decode cX11_rounds 201 = .ok (.iadd, 1) := by decide +kernel
theorem dX11_rounds_202 : decode cX11_rounds 202 = .ok (.goto 5, 3) := by decide +kernel
theorem dX11_rounds_205 : decode cX11_rounds 205 = .ok (.bipush 10, 2) := by decide +kernel
theorem dX11_rounds_207 : decode cX11_rounds 207 = .ok (.istore 8, 2) := by decide +kernel
theorem dX11_rounds_209 : decode cX11_rounds 209 = .ok (.iload 8, 2) := by decide +kernel
theorem dX11_rounds_211 : decode cX11_rounds 211 = .ok (.iload 6, 2) := by decide +kernel
theorem dX11_rounds_213 : decode cX11_rounds 213 = .ok (.if_icmp .ge 8, 3) := by decide +kernel
theorem dX11_rounds_216 : decode cX11_rounds 216 = .ok (.iload 8, 2) := by decide +kernel
theorem dX11_rounds_218 : decode cX11_rounds 218 = .ok (.goto 5, 3) := by decide +kernel
theorem dX11_rounds_221 : decode cX11_rounds 221 = .ok (.iload 6, 2) := by decide +kernel
theorem dX11_rounds_223 : decode cX11_rounds 223 = .ok (.istore 6, 2) := by decide +kernel
theorem dX11_rounds_225 : decode cX11_rounds 225 = .ok (.iload 7, 2) := by decide +kernel
theorem dX11_rounds_227 : decode cX11_rounds 227 = .ok (.iconst 1, 1) := by decide +kernel
theorem dX11_rounds_228 : decode cX11_rounds 228 = .ok (.isub, 1) := by decide +kernel
theorem dX11_rounds_229 : decode cX11_rounds 229 = .ok (.iload 5, 2) := by decide +kernel
theorem dX11_rounds_231 : decode cX11_rounds 231 = .ok (.iand, 1) := by decide +kernel
theorem dX11_rounds_232 : decode cX11_rounds 232 = .ok (.istore 7, 2) := by decide +kernel
theorem dX11_rounds_234 : decode cX11_rounds 234 = .ok (.goto (-60), 3) := by decide +kernel
theorem dX11_rounds_237 : decode cX11_rounds 237 = .ok (.aload_n 0, 1) := by decide +kernel
theorem dX11_rounds_238 : decode cX11_rounds 238 = .ok (.getfield 144, 3) := by decide +kernel
theorem dX11_rounds_241 : decode cX11_rounds 241 = .ok (.iload 5, 2) := by decide +kernel
theorem dX11_rounds_243 : decode cX11_rounds 243 = .ok (.iload 6, 2) := by decide +kernel
theorem dX11_rounds_245 : decode cX11_rounds 245 = .ok (.iastore, 1) := by decide +kernel
theorem dX11_rounds_246 : decode cX11_rounds 246 = .ok (.iinc 5 1, 3) := by decide +kernel
theorem dX11_rounds_249 : decode cX11_rounds 249 = .ok (.goto (-91), 3) := by decide +kernel
theorem dX11_rounds_252 : decode cX11_rounds 252 = .ok (.iload_n 2, 1) := by decide +kernel
theorem dX11_rounds_253 : decode cX11_rounds 253 = .ok (.iconst 1, 1) := by decide +kernel
theorem dX11_rounds_254 : decode cX11_rounds 254 = .ok (.if_icmp .ne 8, 3) := by decide +kernel
theorem dX11_rounds_257 : decode cX11_rounds 257 = .ok (.iload 4, 2) := by decide +kernel
theorem dX11_rounds_259 : decode cX11_rounds 259 = .ok (.goto 13, 3) := by decide +kernel
theorem dX11_rounds_262 : decode cX11_rounds 262 = .ok (.aload_n 0, 1) := by decide +kernel
theorem dX11_rounds_263 : decode cX11_rounds 263 = .ok (.getfield 144, 3) := by decide +kernel
theorem dX11_rounds_266 : decode cX11_rounds 266 = .ok (.iconst 1, 1) := by decide +kernel
theorem dX11_rounds_267 : decode cX11_rounds 267 = .ok (.iload_n 3, 1) := by decide +kernel
theorem dX11_rounds_268 : decode cX11_rounds 268 = .ok (.ishl, 1) := by decide +kernel
theorem dX11_rounds_269 : decode cX11_rounds 269 = .ok (.iconst 1, 1) := by decide +kernel
theorem dX11_rounds_270 : decode cX11_rounds 270 = .ok (.isub, 1) := by decide +kernel
theorem dX11_rounds_271 : decode cX11_rounds 271 = .ok (.iaload, 1) := by decide +kernel
theorem dX11_rounds_272 : decode cX11_rounds 272 = .ok (.ireturn, 1) := by decide +kernel
theorem dX11_findsBad_0 : decode cX11_findsBad 0 = .ok (.iconst 0, 1) := by decide +kernel
theorem dX11_findsBad_1 : decode cX11_findsBad 1 = .ok (.istore_n 3, 1) := by decide +kernel
theorem dX11_findsBad_2 : decode cX11_findsBad 2 = .ok (.iload_n 3, 1) := by decide +kernel
theorem dX11_findsBad_3 : decode cX11_findsBad 3 = .ok (.iload_n 1, 1) := by decide +kernel
theorem dX11_findsBad_4 : decode cX11_findsBad 4 = .ok (.if_icmp .gt 16, 3) := by decide +kernel
theorem dX11_findsBad_7 : decode cX11_findsBad 7 = .ok (.aload_n 0, 1) := by decide +kernel
theorem dX11_findsBad_8 : decode cX11_findsBad 8 = .ok (.getfield 147, 3) := by decide +kernel
theorem dX11_findsBad_11 : decode cX11_findsBad 11 = .ok (.iload_n 3, 1) := by decide +kernel
theorem dX11_findsBad_12 : decode cX11_findsBad 12 = .ok (.iconst 0, 1) := by decide +kernel
theorem dX11_findsBad_13 : decode cX11_findsBad 13 = .ok (.bastore, 1) := by decide +kernel
theorem dX11_findsBad_14 : decode cX11_findsBad 14 = .ok (.iinc 3 1, 3) := by decide +kernel
theorem dX11_findsBad_17 : decode cX11_findsBad 17 = .ok (.goto (-15), 3) := by decide +kernel
theorem dX11_findsBad_20 : decode cX11_findsBad 20 = .ok (.iconst 0, 1) := by decide +kernel
theorem dX11_findsBad_21 : decode cX11_findsBad 21 = .ok (.istore_n 3, 1) := by decide +kernel
theorem dX11_findsBad_22 : decode cX11_findsBad 22 = .ok (.iload_n 3, 1) := by decide +kernel
theorem dX11_findsBad_23 : decode cX11_findsBad 23 = .ok (.iload_n 1, 1) := by decide +kernel
theorem dX11_findsBad_24 : decode cX11_findsBad 24 = .ok (.if_icmp .gt 94, 3) := by decide +kernel
theorem dX11_findsBad_27 : decode cX11_findsBad 27 = .ok (.iload_n 3, 1) := by decide +kernel
theorem dX11_findsBad_28 : decode cX11_findsBad 28 = .ok (.iconst 1, 1) := by decide +kernel
theorem dX11_findsBad_29 : decode cX11_findsBad 29 = .ok (.iadd, 1) := by decide +kernel
theorem dX11_findsBad_30 : decode cX11_findsBad 30 = .ok (.istore 4, 2) := by decide +kernel
theorem dX11_findsBad_32 : decode cX11_findsBad 32 = .ok (.iload_n 3, 1) := by decide +kernel
theorem dX11_findsBad_33 : decode cX11_findsBad 33 = .ok (.invokestatic 363, 3) := by decide +kernel
theorem dX11_findsBad_36 : decode cX11_findsBad 36 = .ok (.iload_n 2, 1) := by decide +kernel
theorem dX11_findsBad_37 : decode cX11_findsBad 37 = .ok (.if_icmp .gt 75, 3) := by decide +kernel
theorem dX11_findsBad_40 : decode cX11_findsBad 40 = .ok (.iload 4, 2) := by decide +kernel
theorem dX11_findsBad_42 : decode cX11_findsBad 42 = .ok (.iload_n 1, 1) := by decide +kernel
theorem dX11_findsBad_43 : decode cX11_findsBad 43 = .ok (.if_icmp .gt 69, 3) := by decide +kernel
theorem dX11_findsBad_46 : decode cX11_findsBad 46 = .ok (.iload 4, 2) := by decide +kernel
theorem dX11_findsBad_48 : decode cX11_findsBad 48 = .ok (.invokestatic 363, 3) := by decide +kernel
theorem dX11_findsBad_51 : decode cX11_findsBad 51 = .ok (.iload_n 2, 1) := by decide +kernel
theorem dX11_findsBad_52 : decode cX11_findsBad 52 = .ok (.if_icmp .gt 54, 3) := by decide +kernel
theorem dX11_findsBad_55 : decode cX11_findsBad 55 = .ok (.aload_n 0, 1) := by decide +kernel
theorem dX11_findsBad_56 : decode cX11_findsBad 56 = .ok (.getfield 131, 3) := by decide +kernel
theorem dX11_findsBad_59 : decode cX11_findsBad 59 = .ok (.iload_n 3, 1) := by decide +kernel
theorem dX11_findsBad_60 : decode cX11_findsBad 60 = .ok (.laload, 1) := by decide +kernel
theorem dX11_findsBad_61 : decode cX11_findsBad 61 = .ok (.aload_n 0, 1) := by decide +kernel
theorem dX11_findsBad_62 : decode cX11_findsBad 62 = .ok (.getfield 131, 3) := by decide +kernel
theorem dX11_findsBad_65 : decode cX11_findsBad 65 = .ok (.iload 4, 2) := by decide +kernel
theorem dX11_findsBad_67 : decode cX11_findsBad 67 = .ok (.laload, 1) := by decide +kernel
theorem dX11_findsBad_68 : decode cX11_findsBad 68 = .ok (.lcmp, 1) := by decide +kernel
theorem dX11_findsBad_69 : decode cX11_findsBad 69 = .ok (.ifCond .ne 37, 3) := by decide +kernel
theorem dX11_findsBad_72 : decode cX11_findsBad 72 = .ok (.aload_n 0, 1) := by decide +kernel
theorem dX11_findsBad_73 : decode cX11_findsBad 73 = .ok (.iload_n 3, 1) := by decide +kernel
theorem dX11_findsBad_74 : decode cX11_findsBad 74 = .ok (.iload 4, 2) := by decide +kernel
theorem dX11_findsBad_76 : decode cX11_findsBad 76 = .ok (.invokevirtual 438, 3) := by decide +kernel
theorem dX11_findsBad_79 : decode cX11_findsBad 79 = .ok (.ifCond .eq 27, 3) := by decide +kernel
theorem dX11_findsBad_82 : decode cX11_findsBad 82 = .ok (.aload_n 0, 1) := by decide +kernel
theorem dX11_findsBad_83 : decode cX11_findsBad 83 = .ok (.iload_n 3, 1) := by decide +kernel
theorem dX11_findsBad_84 : decode cX11_findsBad 84 = .ok (.invokevirtual 446, 3) := by decide +kernel
theorem dX11_findsBad_87 : decode cX11_findsBad 87 = .ok (.aload_n 0, 1) := by decide +kernel
theorem dX11_findsBad_88 : decode cX11_findsBad 88 = .ok (.iload 4, 2) := by decide +kernel
theorem dX11_findsBad_90 : decode cX11_findsBad 90 = .ok (.invokevirtual 446, 3) := by decide +kernel
theorem dX11_findsBad_93 : decode cX11_findsBad 93 = .ok (.if_icmp .eq 13, 3) := by decide +kernel
theorem dX11_findsBad_96 : decode cX11_findsBad 96 = .ok (.aload_n 0, 1) := by decide +kernel
theorem dX11_findsBad_97 : decode cX11_findsBad 97 = .ok (.getfield 147, 3) := by decide +kernel
theorem dX11_findsBad_100 : decode cX11_findsBad 100 = .ok (.iload_n 3, 1) := by decide +kernel
theorem dX11_findsBad_101 : decode cX11_findsBad 101 = .ok (.iload 4, 2) := by decide +kernel
theorem dX11_findsBad_103 : decode cX11_findsBad 103 = .ok (.ior, 1) := by decide +kernel
theorem dX11_findsBad_104 : decode cX11_findsBad 104 = .ok (.iconst 1, 1) := by decide +kernel
theorem dX11_findsBad_105 : decode cX11_findsBad 105 = .ok (.bastore, 1) := by decide +kernel
theorem dX11_findsBad_106 : decode cX11_findsBad 106 = .ok (.iinc 4 1, 3) := by decide +kernel
theorem dX11_findsBad_109 : decode cX11_findsBad 109 = .ok (.goto (-77), 3) := by decide +kernel
theorem dX11_findsBad_112 : decode cX11_findsBad 112 = .ok (.iinc 3 1, 3) := by decide +kernel
theorem dX11_findsBad_115 : decode cX11_findsBad 115 = .ok (.goto (-93), 3) := by decide +kernel
theorem dX11_findsBad_118 : decode cX11_findsBad 118 = .ok (.iconst 0, 1) := by decide +kernel
theorem dX11_findsBad_119 : decode cX11_findsBad 119 = .ok (.istore_n 3, 1) := by decide +kernel
theorem dX11_findsBad_120 : decode cX11_findsBad 120 = .ok (.iload_n 3, 1) := by decide +kernel
theorem dX11_findsBad_121 : decode cX11_findsBad 121 = .ok (.aload_n 0, 1) := by decide +kernel
theorem dX11_findsBad_122 : decode cX11_findsBad 122 = .ok (.getfield 9, 3) := by decide +kernel
theorem dX11_findsBad_125 : decode cX11_findsBad 125 = .ok (.iconst 0, 1) := by decide +kernel
theorem dX11_findsBad_126 : decode cX11_findsBad 126 = .ok (.iaload, 1) := by decide +kernel
theorem dX11_findsBad_127 : decode cX11_findsBad 127 = .ok (.if_icmp .ge 71, 3) := by decide +kernel
theorem dX11_findsBad_130 : decode cX11_findsBad 130 = .ok (.iconst 0, 1) := by decide +kernel
theorem dX11_findsBad_131 : decode cX11_findsBad 131 = .ok (.istore 4, 2) := by decide +kernel
theorem dX11_findsBad_133 : decode cX11_findsBad 133 = .ok (.iload 4, 2) := by decide +kernel
theorem dX11_findsBad_135 : decode cX11_findsBad 135 = .ok (.iload_n 1, 1) := by decide +kernel
theorem dX11_findsBad_136 : decode cX11_findsBad 136 = .ok (.if_icmp .gt 56, 3) := by decide +kernel
theorem dX11_findsBad_139 : decode cX11_findsBad 139 = .ok (.aload_n 0, 1) := by decide +kernel
theorem dX11_findsBad_140 : decode cX11_findsBad 140 = .ok (.getfield 147, 3) := by decide +kernel
theorem dX11_findsBad_143 : decode cX11_findsBad 143 = .ok (.iload 4, 2) := by decide +kernel
theorem dX11_findsBad_145 : decode cX11_findsBad 145 = .ok (.aload_n 0, 1) := by decide +kernel
theorem dX11_findsBad_146 : decode cX11_findsBad 146 = .ok (.getfield 147, 3) := by decide +kernel
theorem dX11_findsBad_149 : decode cX11_findsBad 149 = .ok (.iload 4, 2) := by decide +kernel
theorem dX11_findsBad_151 : decode cX11_findsBad 151 = .ok (.baload, 1) := by decide +kernel
theorem dX11_findsBad_152 : decode cX11_findsBad 152 = .ok (.ifCond .ne 28, 3) := by decide +kernel
theorem dX11_findsBad_155 : decode cX11_findsBad 155 = .ok (.iload 4, 2) := by decide +kernel
theorem dX11_findsBad_157 : decode cX11_findsBad 157 = .ok (.iload_n 3, 1) := by decide +kernel
theorem dX11_findsBad_158 : decode cX11_findsBad 158 = .ok (.invokestatic 177, 3) := by decide +kernel
theorem dX11_findsBad_161 : decode cX11_findsBad 161 = .ok (.ifCond .eq 23, 3) := by decide +kernel
theorem dX11_findsBad_164 : decode cX11_findsBad 164 = .ok (.aload_n 0, 1) := by decide +kernel
theorem dX11_findsBad_165 : decode cX11_findsBad 165 = .ok (.getfield 147, 3) := by decide +kernel
theorem dX11_findsBad_168 : decode cX11_findsBad 168 = .ok (.iload 4, 2) := by decide +kernel
theorem dX11_findsBad_170 : decode cX11_findsBad 170 = .ok (.iconst 1, 1) := by decide +kernel
theorem dX11_findsBad_171 : decode cX11_findsBad 171 = .ok (.iload_n 3, 1) := by decide +kernel
theorem dX11_findsBad_172 : decode cX11_findsBad 172 = .ok (.ishl, 1) := by decide +kernel
theorem dX11_findsBad_173 : decode cX11_findsBad 173 = .ok (.iconst (-1), 1) := by decide +kernel
theorem dX11_findsBad_174 : decode cX11_findsBad 174 = .ok (.ixor, 1) := by decide +kernel
theorem dX11_findsBad_175 : decode cX11_findsBad 175 = .ok (.iand, 1) := by decide +kernel
theorem dX11_findsBad_176 : decode cX11_findsBad 176 = .ok (.baload, 1) := by decide +kernel
theorem dX11_findsBad_177 : decode cX11_findsBad 177 = .ok (.ifCond .eq 7, 3) := by decide +kernel
theorem dX11_findsBad_180 : decode cX11_findsBad 180 = .ok (.iconst 1, 1) := by decide +kernel
theorem dX11_findsBad_181 : decode cX11_findsBad 181 = .ok (.goto 4, 3) := by decide +kernel
theorem dX11_findsBad_184 : decode cX11_findsBad 184 = .ok (.iconst 0, 1) := by decide +kernel
theorem dX11_findsBad_185 : decode cX11_findsBad 185 = .ok (.bastore, 1) := by decide +kernel
theorem dX11_findsBad_186 : decode cX11_findsBad 186 = .ok (.iinc 4 1, 3) := by decide +kernel
theorem dX11_findsBad_189 : decode cX11_findsBad 189 = .ok (.goto (-56), 3) := by decide +kernel
theorem dX11_findsBad_192 : decode cX11_findsBad 192 = .ok (.iinc 3 1, 3) := by decide +kernel
theorem dX11_findsBad_195 : decode cX11_findsBad 195 = .ok (.goto (-75), 3) := by decide +kernel
theorem dX11_findsBad_198 : decode cX11_findsBad 198 = .ok (.return_, 1) := by decide +kernel
theorem dX11_hasPrices_0 : decode cX11_hasPrices 0 = .ok (.iconst 0, 1) := by decide +kernel
theorem dX11_hasPrices_1 : decode cX11_hasPrices 1 = .ok (.istore 4, 2) := by decide +kernel
theorem dX11_hasPrices_3 : decode cX11_hasPrices 3 = .ok (.iload 4, 2) := by decide +kernel
theorem dX11_hasPrices_5 : decode cX11_hasPrices 5 = .ok (.sipush 200, 3) := by decide +kernel
theorem dX11_hasPrices_8 : decode cX11_hasPrices 8 = .ok (.if_icmp .gt 17, 3) := by decide +kernel
theorem dX11_hasPrices_11 : decode cX11_hasPrices 11 = .ok (.aload_n 0, 1) := by decide +kernel
theorem dX11_hasPrices_12 : decode cX11_hasPrices 12 = .ok (.getfield 150, 3) := by decide +kernel
theorem dX11_hasPrices_15 : decode cX11_hasPrices 15 = .ok (.iload 4, 2) := by decide +kernel
theorem dX11_hasPrices_17 : decode cX11_hasPrices 17 = .ok (.iconst 0, 1) := by decide +kernel
theorem dX11_hasPrices_18 : decode cX11_hasPrices 18 = .ok (.bastore, 1) := by decide +kernel
theorem dX11_hasPrices_19 : decode cX11_hasPrices 19 = .ok (.iinc 4 1, 3) := by decide +kernel
theorem dX11_hasPrices_22 : decode cX11_hasPrices 22 = .ok (.goto (-19), 3) := by decide +kernel
theorem dX11_hasPrices_25 : decode cX11_hasPrices 25 = .ok (.iload_n 1, 1) := by decide +kernel
theorem dX11_hasPrices_26 : decode cX11_hasPrices 26 = .ok (.istore 4, 2) := by decide +kernel
theorem dX11_hasPrices_28 : decode cX11_hasPrices 28 = .ok (.iload 4, 2) := by decide +kernel
theorem dX11_hasPrices_30 : decode cX11_hasPrices 30 = .ok (.ifCond .le 47, 3) := by decide +kernel
theorem dX11_hasPrices_33 : decode cX11_hasPrices 33 = .ok (.iload 4, 2) := by decide +kernel
theorem dX11_hasPrices_35 : decode cX11_hasPrices 35 = .ok (.invokestatic 363, 3) := by decide +kernel
theorem dX11_hasPrices_38 : decode cX11_hasPrices 38 = .ok (.iload_n 3, 1) := by decide +kernel
theorem dX11_hasPrices_39 : decode cX11_hasPrices 39 = .ok (.if_icmp .gt 27, 3) := by decide +kernel
theorem dX11_hasPrices_42 : decode cX11_hasPrices 42 = .ok (.aload_n 0, 1) := by decide +kernel
theorem dX11_hasPrices_43 : decode cX11_hasPrices 43 = .ok (.iload 4, 2) := by decide +kernel
theorem dX11_hasPrices_45 : decode cX11_hasPrices 45 = .ok (.invokevirtual 446, 3) := by decide +kernel
theorem dX11_hasPrices_48 : decode cX11_hasPrices 48 = .ok (.sipush 200, 3) := by decide +kernel
theorem dX11_hasPrices_51 : decode cX11_hasPrices 51 = .ok (.if_icmp .gt 15, 3) := by decide +kernel
theorem dX11_hasPrices_54 : decode cX11_hasPrices 54 = .ok (.aload_n 0, 1) := by decide +kernel
theorem dX11_hasPrices_55 : decode cX11_hasPrices 55 = .ok (.getfield 150, 3) := by decide +kernel
theorem dX11_hasPrices_58 : decode cX11_hasPrices 58 = .ok (.aload_n 0, 1) := by decide +kernel
theorem dX11_hasPrices_59 : decode cX11_hasPrices 59 = .ok (.iload 4, 2) := by decide +kernel
theorem dX11_hasPrices_61 : decode cX11_hasPrices 61 = .ok (.invokevirtual 446, 3) := by decide +kernel
theorem dX11_hasPrices_64 : decode cX11_hasPrices 64 = .ok (.iconst 1, 1) := by decide +kernel
theorem dX11_hasPrices_65 : decode cX11_hasPrices 65 = .ok (.bastore, 1) := by decide +kernel
theorem dX11_hasPrices_66 : decode cX11_hasPrices 66 = .ok (.iload 4, 2) := by decide +kernel
theorem dX11_hasPrices_68 : decode cX11_hasPrices 68 = .ok (.iconst 1, 1) := by decide +kernel
theorem dX11_hasPrices_69 : decode cX11_hasPrices 69 = .ok (.isub, 1) := by decide +kernel
theorem dX11_hasPrices_70 : decode cX11_hasPrices 70 = .ok (.iload_n 1, 1) := by decide +kernel
theorem dX11_hasPrices_71 : decode cX11_hasPrices 71 = .ok (.iand, 1) := by decide +kernel
theorem dX11_hasPrices_72 : decode cX11_hasPrices 72 = .ok (.istore 4, 2) := by decide +kernel
theorem dX11_hasPrices_74 : decode cX11_hasPrices 74 = .ok (.goto (-46), 3) := by decide +kernel
theorem dX11_hasPrices_77 : decode cX11_hasPrices 77 = .ok (.iconst 1, 1) := by decide +kernel
theorem dX11_hasPrices_78 : decode cX11_hasPrices 78 = .ok (.istore 4, 2) := by decide +kernel
theorem dX11_hasPrices_80 : decode cX11_hasPrices 80 = .ok (.iconst 1, 1) := by decide +kernel
theorem dX11_hasPrices_81 : decode cX11_hasPrices 81 = .ok (.istore 5, 2) := by decide +kernel
theorem dX11_hasPrices_83 : decode cX11_hasPrices 83 = .ok (.iload 5, 2) := by decide +kernel
theorem dX11_hasPrices_85 : decode cX11_hasPrices 85 = .ok (.iload_n 2, 1) := by decide +kernel
theorem dX11_hasPrices_86 : decode cX11_hasPrices 86 = .ok (.if_icmp .gt 31, 3) := by decide +kernel
theorem dX11_hasPrices_89 : decode cX11_hasPrices 89 = .ok (.iload 4, 2) := by decide +kernel
theorem dX11_hasPrices_91 : decode cX11_hasPrices 91 = .ok (.ifCond .eq 17, 3) := by decide +kernel
theorem dX11_hasPrices_94 : decode cX11_hasPrices 94 = .ok (.aload_n 0, 1) := by decide +kernel
theorem dX11_hasPrices_95 : decode cX11_hasPrices 95 = .ok (.getfield 150, 3) := by decide +kernel
theorem dX11_hasPrices_98 : decode cX11_hasPrices 98 = .ok (.iload 5, 2) := by decide +kernel
theorem dX11_hasPrices_100 : decode cX11_hasPrices 100 = .ok (.baload, 1) := by decide +kernel
theorem dX11_hasPrices_101 : decode cX11_hasPrices 101 = .ok (.ifCond .eq 7, 3) := by decide +kernel
theorem dX11_hasPrices_104 : decode cX11_hasPrices 104 = .ok (.iconst 1, 1) := by decide +kernel
theorem dX11_hasPrices_105 : decode cX11_hasPrices 105 = .ok (.goto 4, 3) := by decide +kernel
theorem dX11_hasPrices_108 : decode cX11_hasPrices 108 = .ok (.iconst 0, 1) := by decide +kernel
theorem dX11_hasPrices_109 : decode cX11_hasPrices 109 = .ok (.istore 4, 2) := by decide +kernel
theorem dX11_hasPrices_111 : decode cX11_hasPrices 111 = .ok (.iinc 5 1, 3) := by decide +kernel
theorem dX11_hasPrices_114 : decode cX11_hasPrices 114 = .ok (.goto (-31), 3) := by decide +kernel
theorem dX11_hasPrices_117 : decode cX11_hasPrices 117 = .ok (.iload 4, 2) := by decide +kernel
theorem dX11_hasPrices_119 : decode cX11_hasPrices 119 = .ok (.ireturn, 1) := by decide +kernel
theorem dX11_land_0 : decode cX11_land 0 = .ok (.aload_n 0, 1) := by decide +kernel
theorem dX11_land_1 : decode cX11_land 1 = .ok (.iload_n 1, 1) := by decide +kernel
theorem dX11_land_2 : decode cX11_land 2 = .ok (.invokevirtual 405, 3) := by decide +kernel
theorem dX11_land_5 : decode cX11_land 5 = .ok (.ifCond .eq 36, 3) := by decide +kernel
theorem dX11_land_8 : decode cX11_land 8 = .ok (.aload_n 0, 1) := by decide +kernel
theorem dX11_land_9 : decode cX11_land 9 = .ok (.iload_n 2, 1) := by decide +kernel
theorem dX11_land_10 : decode cX11_land 10 = .ok (.invokevirtual 388, 3) := by decide +kernel
theorem dX11_land_13 : decode cX11_land 13 = .ok (.ifCond .eq 28, 3) := by decide +kernel
theorem dX11_land_16 : decode cX11_land 16 = .ok (.iload_n 3, 1) := by decide +kernel
theorem dX11_land_17 : decode cX11_land 17 = .ok (.i2l, 1) := by decide +kernel
theorem dX11_land_18 : decode cX11_land 18 = .ok (.lconst 0, 1) := by decide +kernel
theorem dX11_land_19 : decode cX11_land 19 = .ok (.ldc2_w 492, 3) := by decide +kernel
theorem dX11_land_22 : decode cX11_land 22 = .ok (.invokestatic 171, 3) := by decide +kernel
theorem dX11_land_25 : decode cX11_land 25 = .ok (.ifCond .eq 16, 3) := by decide +kernel
theorem dX11_land_28 : decode cX11_land 28 = .ok (.iload 4, 2) := by decide +kernel
theorem dX11_land_30 : decode cX11_land 30 = .ok (.i2l, 1) := by decide +kernel
theorem dX11_land_31 : decode cX11_land 31 = .ok (.lconst 1, 1) := by decide +kernel
theorem dX11_land_32 : decode cX11_land 32 = .ok (.ldc2_w 441, 3) := by decide +kernel
theorem dX11_land_35 : decode cX11_land 35 = .ok (.invokestatic 171, 3) := by decide +kernel
theorem dX11_land_38 : decode cX11_land 38 = .ok (.ifCond .ne 5, 3) := by decide +kernel
theorem dX11_land_41 : decode cX11_land 41 = .ok (.iconst (-1), 1) := by decide +kernel
theorem dX11_land_42 : decode cX11_land 42 = .ok (.ireturn, 1) := by decide +kernel
theorem dX11_land_43 : decode cX11_land 43 = .ok (.iconst 1, 1) := by decide +kernel
theorem dX11_land_44 : decode cX11_land 44 = .ok (.aload_n 0, 1) := by decide +kernel
theorem dX11_land_45 : decode cX11_land 45 = .ok (.getfield 9, 3) := by decide +kernel
theorem dX11_land_48 : decode cX11_land 48 = .ok (.iconst 0, 1) := by decide +kernel
theorem dX11_land_49 : decode cX11_land 49 = .ok (.iaload, 1) := by decide +kernel
theorem dX11_land_50 : decode cX11_land 50 = .ok (.ishl, 1) := by decide +kernel
theorem dX11_land_51 : decode cX11_land 51 = .ok (.iconst 1, 1) := by decide +kernel
theorem dX11_land_52 : decode cX11_land 52 = .ok (.isub, 1) := by decide +kernel
theorem dX11_land_53 : decode cX11_land 53 = .ok (.istore 5, 2) := by decide +kernel
theorem dX11_land_55 : decode cX11_land 55 = .ok (.aload_n 0, 1) := by decide +kernel
theorem dX11_land_56 : decode cX11_land 56 = .ok (.iload_n 1, 1) := by decide +kernel
theorem dX11_land_57 : decode cX11_land 57 = .ok (.iload_n 2, 1) := by decide +kernel
theorem dX11_land_58 : decode cX11_land 58 = .ok (.iload 5, 2) := by decide +kernel
theorem dX11_land_60 : decode cX11_land 60 = .ok (.iload 4, 2) := by decide +kernel
theorem dX11_land_62 : decode cX11_land 62 = .ok (.invokevirtual 451, 3) := by decide +kernel
theorem dX11_land_65 : decode cX11_land 65 = .ok (.aload_n 0, 1) := by decide +kernel
theorem dX11_land_66 : decode cX11_land 66 = .ok (.iload 5, 2) := by decide +kernel
theorem dX11_land_68 : decode cX11_land 68 = .ok (.iload 4, 2) := by decide +kernel
theorem dX11_land_70 : decode cX11_land 70 = .ok (.invokevirtual 494, 3) := by decide +kernel
theorem dX11_land_73 : decode cX11_land 73 = .ok (.iconst 0, 1) := by decide +kernel
theorem dX11_land_74 : decode cX11_land 74 = .ok (.istore 6, 2) := by decide +kernel
theorem dX11_land_76 : decode cX11_land 76 = .ok (.iload 6, 2) := by decide +kernel
theorem dX11_land_78 : decode cX11_land 78 = .ok (.aload_n 0, 1) := by decide +kernel
theorem dX11_land_79 : decode cX11_land 79 = .ok (.getfield 9, 3) := by decide +kernel
theorem dX11_land_82 : decode cX11_land 82 = .ok (.iconst 0, 1) := by decide +kernel
theorem dX11_land_83 : decode cX11_land 83 = .ok (.iaload, 1) := by decide +kernel
theorem dX11_land_84 : decode cX11_land 84 = .ok (.if_icmp .gt 60, 3) := by decide +kernel
theorem dX11_land_87 : decode cX11_land 87 = .ok (.iconst 0, 1) := by decide +kernel
theorem dX11_land_88 : decode cX11_land 88 = .ok (.istore 7, 2) := by decide +kernel
theorem dX11_land_90 : decode cX11_land 90 = .ok (.iload 7, 2) := by decide +kernel
theorem dX11_land_92 : decode cX11_land 92 = .ok (.iload 5, 2) := by decide +kernel
theorem dX11_land_94 : decode cX11_land 94 = .ok (.if_icmp .gt 44, 3) := by decide +kernel
theorem dX11_land_97 : decode cX11_land 97 = .ok (.iload 7, 2) := by decide +kernel
theorem dX11_land_99 : decode cX11_land 99 = .ok (.invokestatic 363, 3) := by decide +kernel
theorem dX11_land_102 : decode cX11_land 102 = .ok (.iload 6, 2) := by decide +kernel
theorem dX11_land_104 : decode cX11_land 104 = .ok (.if_icmp .ne 28, 3) := by decide +kernel
theorem dX11_land_107 : decode cX11_land 107 = .ok (.aload_n 0, 1) := by decide +kernel
theorem dX11_land_108 : decode cX11_land 108 = .ok (.getfield 147, 3) := by decide +kernel
theorem dX11_land_111 : decode cX11_land 111 = .ok (.iload 7, 2) := by decide +kernel
theorem dX11_land_113 : decode cX11_land 113 = .ok (.baload, 1) := by decide +kernel
theorem dX11_land_114 : decode cX11_land 114 = .ok (.ifCond .ne 18, 3) := by decide +kernel
theorem dX11_land_117 : decode cX11_land 117 = .ok (.aload_n 0, 1) := by decide +kernel
theorem dX11_land_118 : decode cX11_land 118 = .ok (.iload 7, 2) := by decide +kernel
theorem dX11_land_120 : decode cX11_land 120 = .ok (.iload_n 3, 1) := by decide +kernel
theorem dX11_land_121 : decode cX11_land 121 = .ok (.iload 4, 2) := by decide +kernel
theorem dX11_land_123 : decode cX11_land 123 = .ok (.invokevirtual 497, 3) := by decide +kernel
theorem dX11_land_126 : decode cX11_land 126 = .ok (.ifCond .eq 6, 3) := by decide +kernel
theorem dX11_land_129 : decode cX11_land 129 = .ok (.iload 7, 2) := by decide +kernel
theorem dX11_land_131 : decode cX11_land 131 = .ok (.ireturn, 1) := by decide +kernel
theorem dX11_land_132 : decode cX11_land 132 = .ok (.iinc 7 1, 3) := by decide +kernel
theorem dX11_land_135 : decode cX11_land 135 = .ok (.goto (-45), 3) := by decide +kernel
theorem dX11_land_138 : decode cX11_land 138 = .ok (.iinc 6 1, 3) := by decide +kernel
theorem dX11_land_141 : decode cX11_land 141 = .ok (.goto (-65), 3) := by decide +kernel
theorem dX11_land_144 : decode cX11_land 144 = .ok (.bipush (-2), 2) := by decide +kernel
theorem dX11_land_146 : decode cX11_land 146 = .ok (.ireturn, 1) := by decide +kernel
theorem dX11_forger_0 : decode cX11_forger 0 = .ok (.iload_n 1, 1) := by decide +kernel
theorem dX11_forger_1 : decode cX11_forger 1 = .ok (.i2l, 1) := by decide +kernel
theorem dX11_forger_2 : decode cX11_forger 2 = .ok (.lconst 1, 1) := by decide +kernel
theorem dX11_forger_3 : decode cX11_forger 3 = .ok (.ldc2_w 492, 3) := by decide +kernel
theorem dX11_forger_6 : decode cX11_forger 6 = .ok (.invokestatic 171, 3) := by decide +kernel
theorem dX11_forger_9 : decode cX11_forger 9 = .ok (.ifCond .eq 15, 3) := by decide +kernel
theorem dX11_forger_12 : decode cX11_forger 12 = .ok (.iload_n 2, 1) := by decide +kernel
theorem dX11_forger_13 : decode cX11_forger 13 = .ok (.i2l, 1) := by decide +kernel
theorem dX11_forger_14 : decode cX11_forger 14 = .ok (.lconst 1, 1) := by decide +kernel
theorem dX11_forger_15 : decode cX11_forger 15 = .ok (.ldc2_w 492, 3) := by decide +kernel
theorem dX11_forger_18 : decode cX11_forger 18 = .ok (.invokestatic 171, 3) := by decide +kernel
theorem dX11_forger_21 : decode cX11_forger 21 = .ok (.ifCond .ne 5, 3) := by decide +kernel
theorem dX11_forger_24 : decode cX11_forger 24 = .ok (.iconst (-1), 1) := by decide +kernel
theorem dX11_forger_25 : decode cX11_forger 25 = .ok (.ireturn, 1) := by decide +kernel
theorem dX11_forger_26 : decode cX11_forger 26 = .ok (.aload_n 0, 1) := by decide +kernel
theorem dX11_forger_27 : decode cX11_forger 27 = .ok (.getfield 153, 3) := by decide +kernel
theorem dX11_forger_30 : decode cX11_forger 30 = .ok (.iconst 1, 1) := by decide +kernel
theorem dX11_forger_31 : decode cX11_forger 31 = .ok (.iconst 0, 1) := by decide +kernel
theorem dX11_forger_32 : decode cX11_forger 32 = .ok (.iastore, 1) := by decide +kernel
theorem dX11_forger_33 : decode cX11_forger 33 = .ok (.iconst 2, 1) := by decide +kernel
theorem dX11_forger_34 : decode cX11_forger 34 = .ok (.istore_n 3, 1) := by decide +kernel
theorem dX11_forger_35 : decode cX11_forger 35 = .ok (.iload_n 3, 1) := by decide +kernel
theorem dX11_forger_36 : decode cX11_forger 36 = .ok (.iload_n 1, 1) := by decide +kernel
theorem dX11_forger_37 : decode cX11_forger 37 = .ok (.if_icmp .gt 101, 3) := by decide +kernel
theorem dX11_forger_40 : decode cX11_forger 40 = .ok (.sipush 200, 3) := by decide +kernel
theorem dX11_forger_43 : decode cX11_forger 43 = .ok (.istore 4, 2) := by decide +kernel
theorem dX11_forger_45 : decode cX11_forger 45 = .ok (.iconst 1, 1) := by decide +kernel
theorem dX11_forger_46 : decode cX11_forger 46 = .ok (.istore 5, 2) := by decide +kernel
theorem dX11_forger_48 : decode cX11_forger 48 = .ok (.iload 5, 2) := by decide +kernel
theorem dX11_forger_50 : decode cX11_forger 50 = .ok (.iload_n 3, 1) := by decide +kernel
theorem dX11_forger_51 : decode cX11_forger 51 = .ok (.if_icmp .ge 73, 3) := by decide +kernel
theorem dX11_forger_54 : decode cX11_forger 54 = .ok (.iload 5, 2) := by decide +kernel
theorem dX11_forger_56 : decode cX11_forger 56 = .ok (.iload_n 2, 1) := by decide +kernel
theorem dX11_forger_57 : decode cX11_forger 57 = .ok (.if_icmp .gt 67, 3) := by decide +kernel
theorem dX11_forger_60 : decode cX11_forger 60 = .ok (.iconst 1, 1) := by decide +kernel
theorem dX11_forger_61 : decode cX11_forger 61 = .ok (.aload_n 0, 1) := by decide +kernel
theorem dX11_forger_62 : decode cX11_forger 62 = .ok (.getfield 153, 3) := by decide +kernel
theorem dX11_forger_65 : decode cX11_forger 65 = .ok (.iload 5, 2) := by decide +kernel
theorem dX11_forger_67 : decode cX11_forger 67 = .ok (.iaload, 1) := by decide +kernel
theorem dX11_forger_68 : decode cX11_forger 68 = .ok (.aload_n 0, 1) := by decide +kernel
theorem dX11_forger_69 : decode cX11_forger 69 = .ok (.getfield 153, 3) := by decide +kernel
theorem dX11_forger_72 : decode cX11_forger 72 = .ok (.iload_n 3, 1) := by decide +kernel
theorem dX11_forger_73 : decode cX11_forger 73 = .ok (.iload 5, 2) := by decide +kernel
theorem dX11_forger_75 : decode cX11_forger 75 = .ok (.isub, 1) := by decide +kernel
theorem dX11_forger_76 : decode cX11_forger 76 = .ok (.iaload, 1) := by decide +kernel
theorem dX11_forger_77 : decode cX11_forger 77 = .ok (.if_icmp .le 13, 3) := by decide +kernel
theorem dX11_forger_80 : decode cX11_forger 80 = .ok (.aload_n 0, 1) := by decide +kernel
theorem dX11_forger_81 : decode cX11_forger 81 = .ok (.getfield 153, 3) := by decide +kernel
theorem dX11_forger_84 : decode cX11_forger 84 = .ok (.iload 5, 2) := by decide +kernel
theorem dX11_forger_86 : decode cX11_forger 86 = .ok (.iaload, 1) := by decide +kernel
theorem dX11_forger_87 : decode cX11_forger 87 = .ok (.goto 12, 3) := by decide +kernel
theorem dX11_forger_90 : decode cX11_forger 90 = .ok (.aload_n 0, 1) := by decide +kernel
theorem dX11_forger_91 : decode cX11_forger 91 = .ok (.getfield 153, 3) := by decide +kernel
theorem dX11_forger_94 : decode cX11_forger 94 = .ok (.iload_n 3, 1) := by decide +kernel
theorem dX11_forger_95 : decode cX11_forger 95 = .ok (.iload 5, 2) := by decide +kernel
theorem dX11_forger_97 : decode cX11_forger 97 = .ok (.isub, 1) := by decide +kernel
theorem dX11_forger_98 : decode cX11_forger 98 = .ok (.iaload, 1) := by decide +kernel
theorem dX11_forger_99 : decode cX11_forger 99 = .ok (.iadd, 1) := by decide +kernel
theorem dX11_forger_100 : decode cX11_forger 100 = .ok (.istore 6, 2) := by decide +kernel
theorem dX11_forger_102 : decode cX11_forger 102 = .ok (.iload 6, 2) := by decide +kernel
theorem dX11_forger_104 : decode cX11_forger 104 = .ok (.iload 4, 2) := by decide +kernel
theorem dX11_forger_106 : decode cX11_forger 106 = .ok (.if_icmp .ge 8, 3) := by decide +kernel
theorem dX11_forger_109 : decode cX11_forger 109 = .ok (.iload 6, 2) := by decide +kernel
theorem dX11_forger_111 : decode cX11_forger 111 = .ok (.goto 5, 3) := by decide +kernel
theorem dX11_forger_114 : decode cX11_forger 114 = .ok (.iload 4, 2) := by decide +kernel
theorem dX11_forger_116 : decode cX11_forger 116 = .ok (.istore 4, 2) := by decide +kernel
theorem dX11_forger_118 : decode cX11_forger 118 = .ok (.iinc 5 1, 3) := by decide +kernel
theorem dX11_forger_121 : decode cX11_forger 121 = .ok (.goto (-73), 3) := by decide +kernel
theorem dX11_forger_124 : decode cX11_forger 124 = .ok (.aload_n 0, 1) := by decide +kernel
theorem dX11_forger_125 : decode cX11_forger 125 = .ok (.getfield 153, 3) := by decide +kernel
theorem dX11_forger_128 : decode cX11_forger 128 = .ok (.iload_n 3, 1) := by decide +kernel
theorem dX11_forger_129 : decode cX11_forger 129 = .ok (.iload 4, 2) := by decide +kernel
theorem dX11_forger_131 : decode cX11_forger 131 = .ok (.iastore, 1) := by decide +kernel
theorem dX11_forger_132 : decode cX11_forger 132 = .ok (.iinc 3 1, 3) := by decide +kernel
theorem dX11_forger_135 : decode cX11_forger 135 = .ok (.goto (-100), 3) := by decide +kernel
theorem dX11_forger_138 : decode cX11_forger 138 = .ok (.aload_n 0, 1) := by decide +kernel
theorem dX11_forger_139 : decode cX11_forger 139 = .ok (.getfield 153, 3) := by decide +kernel
theorem dX11_forger_142 : decode cX11_forger 142 = .ok (.iload_n 1, 1) := by decide +kernel
theorem dX11_forger_143 : decode cX11_forger 143 = .ok (.iaload, 1) := by decide +kernel
theorem dX11_forger_144 : decode cX11_forger 144 = .ok (.ireturn, 1) := by decide +kernel
theorem dX11_seed_0 : decode cX11_seed 0 = .ok (.iload_n 1, 1) := by decide +kernel
theorem dX11_seed_1 : decode cX11_seed 1 = .ok (.ifCond .ge 5, 3) := by decide +kernel
theorem dX11_seed_4 : decode cX11_seed 4 = .ok (.iconst (-1), 1) := by decide +kernel
theorem dX11_seed_5 : decode cX11_seed 5 = .ok (.ireturn, 1) := by decide +kernel
theorem dX11_seed_6 : decode cX11_seed 6 = .ok (.aload_n 0, 1) := by decide +kernel
theorem dX11_seed_7 : decode cX11_seed 7 = .ok (.getfield 9, 3) := by decide +kernel
theorem dX11_seed_10 : decode cX11_seed 10 = .ok (.bipush 6, 2) := by decide +kernel
theorem dX11_seed_12 : decode cX11_seed 12 = .ok (.iaload, 1) := by decide +kernel
theorem dX11_seed_13 : decode cX11_seed 13 = .ok (.istore_n 2, 1) := by decide +kernel
theorem dX11_seed_14 : decode cX11_seed 14 = .ok (.aload_n 0, 1) := by decide +kernel
theorem dX11_seed_15 : decode cX11_seed 15 = .ok (.getfield 9, 3) := by decide +kernel
theorem dX11_seed_18 : decode cX11_seed 18 = .ok (.bipush 6, 2) := by decide +kernel
theorem dX11_seed_20 : decode cX11_seed 20 = .ok (.iload_n 1, 1) := by decide +kernel
theorem dX11_seed_21 : decode cX11_seed 21 = .ok (.iastore, 1) := by decide +kernel
theorem dX11_seed_22 : decode cX11_seed 22 = .ok (.iload_n 2, 1) := by decide +kernel
theorem dX11_seed_23 : decode cX11_seed 23 = .ok (.ireturn, 1) := by decide +kernel
theorem dX11_draws_0 : decode cX11_draws 0 = .ok (.aload_n 0, 1) := by decide +kernel
theorem dX11_draws_1 : decode cX11_draws 1 = .ok (.getfield 9, 3) := by decide +kernel
theorem dX11_draws_4 : decode cX11_draws 4 = .ok (.bipush 6, 2) := by decide +kernel
theorem dX11_draws_6 : decode cX11_draws 6 = .ok (.aload_n 0, 1) := by decide +kernel
theorem dX11_draws_7 : decode cX11_draws 7 = .ok (.getfield 9, 3) := by decide +kernel
theorem dX11_draws_10 : decode cX11_draws 10 = .ok (.bipush 6, 2) := by decide +kernel
theorem dX11_draws_12 : decode cX11_draws 12 = .ok (.iaload, 1) := by decide +kernel
theorem dX11_draws_13 : decode cX11_draws 13 = .ok (.i2l, 1) := by decide +kernel
theorem dX11_draws_14 : decode cX11_draws 14 = .ok (.ldc2_w 500, 3) := by decide +kernel
theorem dX11_draws_17 : decode cX11_draws 17 = .ok (.lmul, 1) := by decide +kernel
theorem dX11_draws_18 : decode cX11_draws 18 = .ok (.ldc2_w 502, 3) := by decide +kernel
theorem dX11_draws_21 : decode cX11_draws 21 = .ok (.ladd, 1) := by decide +kernel
theorem dX11_draws_22 : decode cX11_draws 22 = .ok (.ldc2_w 504, 3) := by decide +kernel
theorem dX11_draws_25 : decode cX11_draws 25 = .ok (.lrem, 1) := by decide +kernel
theorem dX11_draws_26 : decode cX11_draws 26 = .ok (.l2i, 1) := by decide +kernel
theorem dX11_draws_27 : decode cX11_draws 27 = .ok (.iastore, 1) := by decide +kernel
theorem dX11_draws_28 : decode cX11_draws 28 = .ok (.aload_n 0, 1) := by decide +kernel
theorem dX11_draws_29 : decode cX11_draws 29 = .ok (.getfield 9, 3) := by decide +kernel
theorem dX11_draws_32 : decode cX11_draws 32 = .ok (.bipush 6, 2) := by decide +kernel
theorem dX11_draws_34 : decode cX11_draws 34 = .ok (.iaload, 1) := by decide +kernel
theorem dX11_draws_35 : decode cX11_draws 35 = .ok (.ldc_w 506, 3) := by decide +kernel
theorem dX11_draws_38 : decode cX11_draws 38 = .ok (.idiv, 1) := by decide +kernel
theorem dX11_draws_39 : decode cX11_draws 39 = .ok (.iload_n 1, 1) := by decide +kernel
theorem dX11_draws_40 : decode cX11_draws 40 = .ok (.irem, 1) := by decide +kernel
theorem dX11_draws_41 : decode cX11_draws 41 = .ok (.ireturn, 1) := by decide +kernel
theorem dX11_year_0 : decode cX11_year 0 = .ok (.aload_n 0, 1) := by decide +kernel
theorem dX11_year_1 : decode cX11_year 1 = .ok (.getfield 9, 3) := by decide +kernel
theorem dX11_year_4 : decode cX11_year 4 = .ok (.iconst 0, 1) := by decide +kernel
theorem dX11_year_5 : decode cX11_year 5 = .ok (.iaload, 1) := by decide +kernel
theorem dX11_year_6 : decode cX11_year 6 = .ok (.ifCond .eq 27, 3) := by decide +kernel
theorem dX11_year_9 : decode cX11_year 9 = .ok (.iload_n 1, 1) := by decide +kernel
theorem dX11_year_10 : decode cX11_year 10 = .ok (.i2l, 1) := by decide +kernel
theorem dX11_year_11 : decode cX11_year 11 = .ok (.lconst 1, 1) := by decide +kernel
theorem dX11_year_12 : decode cX11_year 12 = .ok (.ldc2_w 507, 3) := by decide +kernel
theorem dX11_year_15 : decode cX11_year 15 = .ok (.invokestatic 171, 3) := by decide +kernel
theorem dX11_year_18 : decode cX11_year 18 = .ok (.ifCond .eq 15, 3) := by decide +kernel
theorem dX11_year_21 : decode cX11_year 21 = .ok (.iload_n 2, 1) := by decide +kernel
theorem dX11_year_22 : decode cX11_year 22 = .ok (.i2l, 1) := by decide +kernel
theorem dX11_year_23 : decode cX11_year 23 = .ok (.lconst 0, 1) := by decide +kernel
theorem dX11_year_24 : decode cX11_year 24 = .ok (.ldc2_w 428, 3) := by decide +kernel
theorem dX11_year_27 : decode cX11_year 27 = .ok (.invokestatic 171, 3) := by decide +kernel
theorem dX11_year_30 : decode cX11_year 30 = .ok (.ifCond .ne 5, 3) := by decide +kernel
theorem dX11_year_33 : decode cX11_year 33 = .ok (.iconst (-1), 1) := by decide +kernel
theorem dX11_year_34 : decode cX11_year 34 = .ok (.ireturn, 1) := by decide +kernel
theorem dX11_year_35 : decode cX11_year 35 = .ok (.aload_n 0, 1) := by decide +kernel
theorem dX11_year_36 : decode cX11_year 36 = .ok (.getfield 9, 3) := by decide +kernel
theorem dX11_year_39 : decode cX11_year 39 = .ok (.bipush 6, 2) := by decide +kernel
theorem dX11_year_41 : decode cX11_year 41 = .ok (.iaload, 1) := by decide +kernel
theorem dX11_year_42 : decode cX11_year 42 = .ok (.istore_n 3, 1) := by decide +kernel
theorem dX11_year_43 : decode cX11_year 43 = .ok (.aload_n 0, 1) := by decide +kernel
theorem dX11_year_44 : decode cX11_year 44 = .ok (.getfield 52, 3) := by decide +kernel
theorem dX11_year_47 : decode cX11_year 47 = .ok (.aload_n 0, 1) := by decide +kernel
theorem dX11_year_48 : decode cX11_year 48 = .ok (.getfield 156, 3) := by decide +kernel
theorem dX11_year_51 : decode cX11_year 51 = .ok (.invokestatic 335, 3) := by decide +kernel
theorem dX11_year_54 : decode cX11_year 54 = .ok (.aload_n 0, 1) := by decide +kernel
theorem dX11_year_55 : decode cX11_year 55 = .ok (.getfield 55, 3) := by decide +kernel
theorem dX11_year_58 : decode cX11_year 58 = .ok (.aload_n 0, 1) := by decide +kernel
theorem dX11_year_59 : decode cX11_year 59 = .ok (.getfield 159, 3) := by decide +kernel
theorem dX11_year_62 : decode cX11_year 62 = .ok (.invokestatic 335, 3) := by decide +kernel
theorem dX11_year_65 : decode cX11_year 65 = .ok (.iconst 0, 1) := by decide +kernel
theorem dX11_year_66 : decode cX11_year 66 = .ok (.istore 4, 2) := by decide +kernel
theorem dX11_year_68 : decode cX11_year 68 = .ok (.iload 4, 2) := by decide +kernel
theorem dX11_year_70 : decode cX11_year 70 = .ok (.iload_n 1, 1) := by decide +kernel
theorem dX11_year_71 : decode cX11_year 71 = .ok (.if_icmp .ge 45, 3) := by decide +kernel
theorem dX11_year_74 : decode cX11_year 74 = .ok (.aload_n 0, 1) := by decide +kernel
theorem dX11_year_75 : decode cX11_year 75 = .ok (.aload_n 0, 1) := by decide +kernel
theorem dX11_year_76 : decode cX11_year 76 = .ok (.getfield 9, 3) := by decide +kernel
theorem dX11_year_79 : decode cX11_year 79 = .ok (.iconst 0, 1) := by decide +kernel
theorem dX11_year_80 : decode cX11_year 80 = .ok (.iaload, 1) := by decide +kernel
theorem dX11_year_81 : decode cX11_year 81 = .ok (.invokevirtual 509, 3) := by decide +kernel
theorem dX11_year_84 : decode cX11_year 84 = .ok (.istore 5, 2) := by decide +kernel
theorem dX11_year_86 : decode cX11_year 86 = .ok (.aload_n 0, 1) := by decide +kernel
theorem dX11_year_87 : decode cX11_year 87 = .ok (.getfield 55, 3) := by decide +kernel
theorem dX11_year_90 : decode cX11_year 90 = .ok (.iload 5, 2) := by decide +kernel
theorem dX11_year_92 : decode cX11_year 92 = .ok (.dup2, 1) := by decide +kernel
theorem dX11_year_93 : decode cX11_year 93 = .ok (.iaload, 1) := by decide +kernel
theorem dX11_year_94 : decode cX11_year 94 = .ok (.iconst 1, 1) := by decide +kernel
theorem dX11_year_95 : decode cX11_year 95 = .ok (.iadd, 1) := by decide +kernel
theorem dX11_year_96 : decode cX11_year 96 = .ok (.iastore, 1) := by decide +kernel
theorem dX11_year_97 : decode cX11_year 97 = .ok (.aload_n 0, 1) := by decide +kernel
theorem dX11_year_98 : decode cX11_year 98 = .ok (.getfield 52, 3) := by decide +kernel
theorem dX11_year_101 : decode cX11_year 101 = .ok (.iload 5, 2) := by decide +kernel
theorem dX11_year_103 : decode cX11_year 103 = .ok (.aload_n 0, 1) := by decide +kernel
theorem dX11_year_104 : decode cX11_year 104 = .ok (.bipush 6, 2) := by decide +kernel
theorem dX11_year_106 : decode cX11_year 106 = .ok (.invokevirtual 509, 3) := by decide +kernel
theorem dX11_year_109 : decode cX11_year 109 = .ok (.iastore, 1) := by decide +kernel
theorem dX11_year_110 : decode cX11_year 110 = .ok (.iinc 4 1, 3) := by decide +kernel
theorem dX11_year_113 : decode cX11_year 113 = .ok (.goto (-45), 3) := by decide +kernel
theorem dX11_year_116 : decode cX11_year 116 = .ok (.iconst 0, 1) := by decide +kernel
theorem dX11_year_117 : decode cX11_year 117 = .ok (.istore 4, 2) := by decide +kernel
theorem dX11_year_119 : decode cX11_year 119 = .ok (.iconst 0, 1) := by decide +kernel
theorem dX11_year_120 : decode cX11_year 120 = .ok (.istore 5, 2) := by decide +kernel
theorem dX11_year_122 : decode cX11_year 122 = .ok (.iconst 1, 1) := by decide +kernel
theorem dX11_year_123 : decode cX11_year 123 = .ok (.istore 6, 2) := by decide +kernel
theorem dX11_year_125 : decode cX11_year 125 = .ok (.iload 6, 2) := by decide +kernel
theorem dX11_year_127 : decode cX11_year 127 = .ok (.bipush 6, 2) := by decide +kernel
theorem dX11_year_129 : decode cX11_year 129 = .ok (.if_icmp .ge 41, 3) := by decide +kernel
theorem dX11_year_132 : decode cX11_year 132 = .ok (.aload_n 0, 1) := by decide +kernel
theorem dX11_year_133 : decode cX11_year 133 = .ok (.aload_n 0, 1) := by decide +kernel
theorem dX11_year_134 : decode cX11_year 134 = .ok (.iload 6, 2) := by decide +kernel
theorem dX11_year_136 : decode cX11_year 136 = .ok (.invokevirtual 459, 3) := by decide +kernel
theorem dX11_year_139 : decode cX11_year 139 = .ok (.invokevirtual 446, 3) := by decide +kernel
theorem dX11_year_142 : decode cX11_year 142 = .ok (.aload_n 0, 1) := by decide +kernel
theorem dX11_year_143 : decode cX11_year 143 = .ok (.aload_n 0, 1) := by decide +kernel
theorem dX11_year_144 : decode cX11_year 144 = .ok (.iload 4, 2) := by decide +kernel
theorem dX11_year_146 : decode cX11_year 146 = .ok (.invokevirtual 459, 3) := by decide +kernel
theorem dX11_year_149 : decode cX11_year 149 = .ok (.invokevirtual 446, 3) := by decide +kernel
theorem dX11_year_152 : decode cX11_year 152 = .ok (.if_icmp .le 8, 3) := by decide +kernel
theorem dX11_year_155 : decode cX11_year 155 = .ok (.iload 6, 2) := by decide +kernel
theorem dX11_year_157 : decode cX11_year 157 = .ok (.goto 5, 3) := by decide +kernel
theorem dX11_year_160 : decode cX11_year 160 = .ok (.iload 4, 2) := by decide +kernel
theorem dX11_year_162 : decode cX11_year 162 = .ok (.istore 4, 2) := by decide +kernel
theorem dX11_year_164 : decode cX11_year 164 = .ok (.iinc 6 1, 3) := by decide +kernel
theorem dX11_year_167 : decode cX11_year 167 = .ok (.goto (-42), 3) := by decide +kernel
theorem dX11_year_170 : decode cX11_year 170 = .ok (.aload_n 0, 1) := by decide +kernel
theorem dX11_year_171 : decode cX11_year 171 = .ok (.aload_n 0, 1) := by decide +kernel
theorem dX11_year_172 : decode cX11_year 172 = .ok (.iload 4, 2) := by decide +kernel
theorem dX11_year_174 : decode cX11_year 174 = .ok (.invokevirtual 459, 3) := by decide +kernel
theorem dX11_year_177 : decode cX11_year 177 = .ok (.invokevirtual 446, 3) := by decide +kernel
theorem dX11_year_180 : decode cX11_year 180 = .ok (.istore 6, 2) := by decide +kernel
theorem dX11_year_182 : decode cX11_year 182 = .ok (.iconst 0, 1) := by decide +kernel
theorem dX11_year_183 : decode cX11_year 183 = .ok (.istore 7, 2) := by decide +kernel
theorem dX11_year_185 : decode cX11_year 185 = .ok (.iload 7, 2) := by decide +kernel
theorem dX11_year_187 : decode cX11_year 187 = .ok (.aload_n 0, 1) := by decide +kernel
theorem dX11_year_188 : decode cX11_year 188 = .ok (.getfield 9, 3) := by decide +kernel
theorem dX11_year_191 : decode cX11_year 191 = .ok (.iconst 0, 1) := by decide +kernel
theorem dX11_year_192 : decode cX11_year 192 = .ok (.iaload, 1) := by decide +kernel
theorem dX11_year_193 : decode cX11_year 193 = .ok (.if_icmp .ge 20, 3) := by decide +kernel
theorem dX11_year_196 : decode cX11_year 196 = .ok (.iload 5, 2) := by decide +kernel
theorem dX11_year_198 : decode cX11_year 198 = .ok (.aload_n 0, 1) := by decide +kernel
theorem dX11_year_199 : decode cX11_year 199 = .ok (.iload 7, 2) := by decide +kernel
theorem dX11_year_201 : decode cX11_year 201 = .ok (.invokevirtual 361, 3) := by decide +kernel
theorem dX11_year_204 : decode cX11_year 204 = .ok (.iadd, 1) := by decide +kernel
theorem dX11_year_205 : decode cX11_year 205 = .ok (.istore 5, 2) := by decide +kernel
theorem dX11_year_207 : decode cX11_year 207 = .ok (.iinc 7 1, 3) := by decide +kernel
theorem dX11_year_210 : decode cX11_year 210 = .ok (.goto (-25), 3) := by decide +kernel
theorem dX11_year_213 : decode cX11_year 213 = .ok (.aload_n 0, 1) := by decide +kernel
theorem dX11_year_214 : decode cX11_year 214 = .ok (.getfield 156, 3) := by decide +kernel
theorem dX11_year_217 : decode cX11_year 217 = .ok (.aload_n 0, 1) := by decide +kernel
theorem dX11_year_218 : decode cX11_year 218 = .ok (.getfield 52, 3) := by decide +kernel
theorem dX11_year_221 : decode cX11_year 221 = .ok (.invokestatic 335, 3) := by decide +kernel
theorem dX11_year_224 : decode cX11_year 224 = .ok (.aload_n 0, 1) := by decide +kernel
theorem dX11_year_225 : decode cX11_year 225 = .ok (.getfield 159, 3) := by decide +kernel
theorem dX11_year_228 : decode cX11_year 228 = .ok (.aload_n 0, 1) := by decide +kernel
theorem dX11_year_229 : decode cX11_year 229 = .ok (.getfield 55, 3) := by decide +kernel
theorem dX11_year_232 : decode cX11_year 232 = .ok (.invokestatic 335, 3) := by decide +kernel
theorem dX11_year_235 : decode cX11_year 235 = .ok (.aload_n 0, 1) := by decide +kernel
theorem dX11_year_236 : decode cX11_year 236 = .ok (.getfield 9, 3) := by decide +kernel
theorem dX11_year_239 : decode cX11_year 239 = .ok (.bipush 6, 2) := by decide +kernel
theorem dX11_year_241 : decode cX11_year 241 = .ok (.iload_n 3, 1) := by decide +kernel
theorem dX11_year_242 : decode cX11_year 242 = .ok (.iastore, 1) := by decide +kernel
theorem dX11_year_243 : decode cX11_year 243 = .ok (.iload_n 2, 1) := by decide +kernel
theorem dX11_year_244 : decode cX11_year 244 = .ok (.ifCond .ne 8, 3) := by decide +kernel
theorem dX11_year_247 : decode cX11_year 247 = .ok (.iload 4, 2) := by decide +kernel
theorem dX11_year_249 : decode cX11_year 249 = .ok (.goto 15, 3) := by decide +kernel
theorem dX11_year_252 : decode cX11_year 252 = .ok (.iload_n 2, 1) := by decide +kernel
theorem dX11_year_253 : decode cX11_year 253 = .ok (.iconst 1, 1) := by decide +kernel
theorem dX11_year_254 : decode cX11_year 254 = .ok (.if_icmp .ne 8, 3) := by decide +kernel
theorem dX11_year_257 : decode cX11_year 257 = .ok (.iload 6, 2) := by decide +kernel
theorem dX11_year_259 : decode cX11_year 259 = .ok (.goto 5, 3) := by decide +kernel
theorem dX11_year_262 : decode cX11_year 262 = .ok (.iload 5, 2) := by decide +kernel
theorem dX11_year_264 : decode cX11_year 264 = .ok (.ireturn, 1) := by decide +kernel
theorem dX11_count_0 : decode cX11_count 0 = .ok (.iload_n 1, 1) := by decide +kernel
theorem dX11_count_1 : decode cX11_count 1 = .ok (.i2l, 1) := by decide +kernel
theorem dX11_count_2 : decode cX11_count 2 = .ok (.ldc2_w 512, 3) := by decide +kernel
theorem dX11_count_5 : decode cX11_count 5 = .ok (.ldc2_w 514, 3) := by decide +kernel
theorem dX11_count_8 : decode cX11_count 8 = .ok (.invokestatic 171, 3) := by decide +kernel
theorem dX11_count_11 : decode cX11_count 11 = .ok (.ifCond .eq 16, 3) := by decide +kernel
theorem dX11_count_14 : decode cX11_count 14 = .ok (.aload_n 0, 1) := by decide +kernel
theorem dX11_count_15 : decode cX11_count 15 = .ok (.aload_n 0, 1) := by decide +kernel
theorem dX11_count_16 : decode cX11_count 16 = .ok (.iload_n 1, 1) := by decide +kernel
theorem dX11_count_17 : decode cX11_count 17 = .ok (.bipush 10, 2) := by decide +kernel
theorem dX11_count_19 : decode cX11_count 19 = .ok (.isub, 1) := by decide +kernel
theorem dX11_count_20 : decode cX11_count 20 = .ok (.invokevirtual 459, 3) := by decide +kernel
theorem dX11_count_23 : decode cX11_count 23 = .ok (.invokevirtual 446, 3) := by decide +kernel
theorem dX11_count_26 : decode cX11_count 26 = .ok (.ireturn, 1) := by decide +kernel
theorem dX11_count_27 : decode cX11_count 27 = .ok (.iload_n 1, 1) := by decide +kernel
theorem dX11_count_28 : decode cX11_count 28 = .ok (.tableswitch 131 0 9 #[56, 63, 70, 77, 84, 89, 96, 103, 111, 116], 56) := by decide +kernel
theorem dX11_count_84 : decode cX11_count 84 = .ok (.aload_n 0, 1) := by decide +kernel
theorem dX11_count_85 : decode cX11_count 85 = .ok (.getfield 9, 3) := by decide +kernel
theorem dX11_count_88 : decode cX11_count 88 = .ok (.iconst 0, 1) := by decide +kernel
theorem dX11_count_89 : decode cX11_count 89 = .ok (.iaload, 1) := by decide +kernel
theorem dX11_count_90 : decode cX11_count 90 = .ok (.ireturn, 1) := by decide +kernel
theorem dX11_count_91 : decode cX11_count 91 = .ok (.aload_n 0, 1) := by decide +kernel
theorem dX11_count_92 : decode cX11_count 92 = .ok (.getfield 9, 3) := by decide +kernel
theorem dX11_count_95 : decode cX11_count 95 = .ok (.iconst 1, 1) := by decide +kernel
theorem dX11_count_96 : decode cX11_count 96 = .ok (.iaload, 1) := by decide +kernel
theorem dX11_count_97 : decode cX11_count 97 = .ok (.ireturn, 1) := by decide +kernel
theorem dX11_count_98 : decode cX11_count 98 = .ok (.aload_n 0, 1) := by decide +kernel
theorem dX11_count_99 : decode cX11_count 99 = .ok (.getfield 9, 3) := by decide +kernel
theorem dX11_count_102 : decode cX11_count 102 = .ok (.iconst 2, 1) := by decide +kernel
theorem dX11_count_103 : decode cX11_count 103 = .ok (.iaload, 1) := by decide +kernel
theorem dX11_count_104 : decode cX11_count 104 = .ok (.ireturn, 1) := by decide +kernel
theorem dX11_count_105 : decode cX11_count 105 = .ok (.aload_n 0, 1) := by decide +kernel
theorem dX11_count_106 : decode cX11_count 106 = .ok (.getfield 9, 3) := by decide +kernel
theorem dX11_count_109 : decode cX11_count 109 = .ok (.iconst 3, 1) := by decide +kernel
theorem dX11_count_110 : decode cX11_count 110 = .ok (.iaload, 1) := by decide +kernel
theorem dX11_count_111 : decode cX11_count 111 = .ok (.ireturn, 1) := by decide +kernel
theorem dX11_count_112 : decode cX11_count 112 = .ok (.aload_n 0, 1) := by decide +kernel
theorem dX11_count_113 : decode cX11_count 113 = .ok (.getfield 347, 3) := by decide +kernel
theorem dX11_count_116 : decode cX11_count 116 = .ok (.ireturn, 1) := by decide +kernel
theorem dX11_count_117 : decode cX11_count 117 = .ok (.aload_n 0, 1) := by decide +kernel
theorem dX11_count_118 : decode cX11_count 118 = .ok (.getfield 9, 3) := by decide +kernel
theorem dX11_count_121 : decode cX11_count 121 = .ok (.iconst 5, 1) := by decide +kernel
theorem dX11_count_122 : decode cX11_count 122 = .ok (.iaload, 1) := by decide +kernel
theorem dX11_count_123 : decode cX11_count 123 = .ok (.ireturn, 1) := by decide +kernel
theorem dX11_count_124 : decode cX11_count 124 = .ok (.aload_n 0, 1) := by decide +kernel
theorem dX11_count_125 : decode cX11_count 125 = .ok (.getfield 9, 3) := by decide +kernel
theorem dX11_count_128 : decode cX11_count 128 = .ok (.iconst 4, 1) := by decide +kernel
theorem dX11_count_129 : decode cX11_count 129 = .ok (.iaload, 1) := by decide +kernel
theorem dX11_count_130 : decode cX11_count 130 = .ok (.ireturn, 1) := by decide +kernel
theorem dX11_count_131 : decode cX11_count 131 = .ok (.aload_n 0, 1) := by decide +kernel
theorem dX11_count_132 : decode cX11_count 132 = .ok (.getfield 9, 3) := by decide +kernel
theorem dX11_count_135 : decode cX11_count 135 = .ok (.bipush 6, 2) := by decide +kernel
theorem dX11_count_137 : decode cX11_count 137 = .ok (.iaload, 1) := by decide +kernel
theorem dX11_count_138 : decode cX11_count 138 = .ok (.ireturn, 1) := by decide +kernel
theorem dX11_count_139 : decode cX11_count 139 = .ok (.aload_n 0, 1) := by decide +kernel
theorem dX11_count_140 : decode cX11_count 140 = .ok (.getfield 181, 3) := by decide +kernel
theorem dX11_count_143 : decode cX11_count 143 = .ok (.ireturn, 1) := by decide +kernel
theorem dX11_count_144 : decode cX11_count 144 = .ok (.aload_n 0, 1) := by decide +kernel
theorem dX11_count_145 : decode cX11_count 145 = .ok (.iconst 1, 1) := by decide +kernel
theorem dX11_count_146 : decode cX11_count 146 = .ok (.aload_n 0, 1) := by decide +kernel
theorem dX11_count_147 : decode cX11_count 147 = .ok (.getfield 9, 3) := by decide +kernel
theorem dX11_count_150 : decode cX11_count 150 = .ok (.iconst 0, 1) := by decide +kernel
theorem dX11_count_151 : decode cX11_count 151 = .ok (.iaload, 1) := by decide +kernel
theorem dX11_count_152 : decode cX11_count 152 = .ok (.ishl, 1) := by decide +kernel
theorem dX11_count_153 : decode cX11_count 153 = .ok (.iconst 1, 1) := by decide +kernel
theorem dX11_count_154 : decode cX11_count 154 = .ok (.isub, 1) := by decide +kernel
theorem dX11_count_155 : decode cX11_count 155 = .ok (.invokevirtual 446, 3) := by decide +kernel
theorem dX11_count_158 : decode cX11_count 158 = .ok (.ireturn, 1) := by decide +kernel
theorem dX11_count_159 : decode cX11_count 159 = .ok (.iconst (-1), 1) := by decide +kernel
theorem dX11_count_160 : decode cX11_count 160 = .ok (.ireturn, 1) := by decide +kernel
theorem dX11_carry_0 : decode cX11_carry 0 = .ok (.iconst 0, 1) := by decide +kernel
theorem dX11_carry_1 : decode cX11_carry 1 = .ok (.istore_n 2, 1) := by decide +kernel
theorem dX11_carry_2 : decode cX11_carry 2 = .ok (.iload_n 2, 1) := by decide +kernel
theorem dX11_carry_3 : decode cX11_carry 3 = .ok (.aload_n 1, 1) := by decide +kernel
theorem dX11_carry_4 : decode cX11_carry 4 = .ok (.arraylength, 1) := by decide +kernel
theorem dX11_carry_5 : decode cX11_carry 5 = .ok (.if_icmp .ge 53, 3) := by decide +kernel
theorem dX11_carry_8 : decode cX11_carry 8 = .ok (.aload_n 0, 1) := by decide +kernel
theorem dX11_carry_9 : decode cX11_carry 9 = .ok (.getfield 516, 3) := by decide +kernel
theorem dX11_carry_12 : decode cX11_carry 12 = .ok (.ifCond .eq 18, 3) := by decide +kernel
theorem dX11_carry_15 : decode cX11_carry 15 = .ok (.aload_n 1, 1) := by decide +kernel
theorem dX11_carry_16 : decode cX11_carry 16 = .ok (.iload_n 2, 1) := by decide +kernel
theorem dX11_carry_17 : decode cX11_carry 17 = .ok (.aload_n 0, 1) := by decide +kernel
theorem dX11_carry_18 : decode cX11_carry 18 = .ok (.getfield 162, 3) := by decide +kernel
theorem dX11_carry_21 : decode cX11_carry 21 = .ok (.aload_n 0, 1) := by decide +kernel
theorem dX11_carry_22 : decode cX11_carry 22 = .ok (.getfield 519, 3) := by decide +kernel
theorem dX11_carry_25 : decode cX11_carry 25 = .ok (.iaload, 1) := by decide +kernel
theorem dX11_carry_26 : decode cX11_carry 26 = .ok (.iastore, 1) := by decide +kernel
theorem dX11_carry_27 : decode cX11_carry 27 = .ok (.goto 15, 3) := by decide +kernel
theorem dX11_carry_30 : decode cX11_carry 30 = .ok (.aload_n 0, 1) := by decide +kernel
theorem dX11_carry_31 : decode cX11_carry 31 = .ok (.getfield 162, 3) := by decide +kernel
theorem dX11_carry_34 : decode cX11_carry 34 = .ok (.aload_n 0, 1) := by decide +kernel
theorem dX11_carry_35 : decode cX11_carry 35 = .ok (.getfield 519, 3) := by decide +kernel
theorem dX11_carry_38 : decode cX11_carry 38 = .ok (.aload_n 1, 1) := by decide +kernel
theorem dX11_carry_39 : decode cX11_carry 39 = .ok (.iload_n 2, 1) := by decide +kernel
theorem dX11_carry_40 : decode cX11_carry 40 = .ok (.iaload, 1) := by decide +kernel
theorem dX11_carry_41 : decode cX11_carry 41 = .ok (.iastore, 1) := by decide +kernel
theorem dX11_carry_42 : decode cX11_carry 42 = .ok (.aload_n 0, 1) := by decide +kernel
theorem dX11_carry_43 : decode cX11_carry 43 = .ok (.dup, 1) := by decide +kernel
theorem dX11_carry_44 : decode cX11_carry 44 = .ok (.getfield 519, 3) := by decide +kernel
theorem dX11_carry_47 : decode cX11_carry 47 = .ok (.iconst 1, 1) := by decide +kernel
theorem dX11_carry_48 : decode cX11_carry 48 = .ok (.iadd, 1) := by decide +kernel
theorem dX11_carry_49 : decode cX11_carry 49 = .ok (.putfield 519, 3) := by decide +kernel
theorem dX11_carry_52 : decode cX11_carry 52 = .ok (.iinc 2 1, 3) := by decide +kernel
theorem dX11_carry_55 : decode cX11_carry 55 = .ok (.goto (-53), 3) := by decide +kernel
theorem dX11_carry_58 : decode cX11_carry 58 = .ok (.return_, 1) := by decide +kernel
theorem dX11_carriesAll_0 : decode cX11_carriesAll 0 = .ok (.aload_n 0, 1) := by decide +kernel
theorem dX11_carriesAll_1 : decode cX11_carriesAll 1 = .ok (.sipush 130, 3) := by decide +kernel
theorem dX11_carriesAll_4 : decode cX11_carriesAll 4 = .ok (.iload_n 1, 1) := by decide +kernel
theorem dX11_carriesAll_5 : decode cX11_carriesAll 5 = .ok (.imul, 1) := by decide +kernel
theorem dX11_carriesAll_6 : decode cX11_carriesAll 6 = .ok (.putfield 519, 3) := by decide +kernel
theorem dX11_carriesAll_9 : decode cX11_carriesAll 9 = .ok (.aload_n 0, 1) := by decide +kernel
theorem dX11_carriesAll_10 : decode cX11_carriesAll 10 = .ok (.iload_n 2, 1) := by decide +kernel
theorem dX11_carriesAll_11 : decode cX11_carriesAll 11 = .ok (.putfield 516, 3) := by decide +kernel
theorem dX11_carriesAll_14 : decode cX11_carriesAll 14 = .ok (.aload_n 0, 1) := by decide +kernel
theorem dX11_carriesAll_15 : decode cX11_carriesAll 15 = .ok (.aload_n 0, 1) := by decide +kernel
theorem dX11_carriesAll_16 : decode cX11_carriesAll 16 = .ok (.getfield 9, 3) := by decide +kernel
theorem dX11_carriesAll_19 : decode cX11_carriesAll 19 = .ok (.invokevirtual 522, 3) := by decide +kernel
theorem dX11_carriesAll_22 : decode cX11_carriesAll 22 = .ok (.aload_n 0, 1) := by decide +kernel
theorem dX11_carriesAll_23 : decode cX11_carriesAll 23 = .ok (.aload_n 0, 1) := by decide +kernel
theorem dX11_carriesAll_24 : decode cX11_carriesAll 24 = .ok (.getfield 13, 3) := by decide +kernel
theorem dX11_carriesAll_27 : decode cX11_carriesAll 27 = .ok (.invokevirtual 522, 3) := by decide +kernel
theorem dX11_carriesAll_30 : decode cX11_carriesAll 30 = .ok (.aload_n 0, 1) := by decide +kernel
theorem dX11_carriesAll_31 : decode cX11_carriesAll 31 = .ok (.aload_n 0, 1) := by decide +kernel
theorem dX11_carriesAll_32 : decode cX11_carriesAll 32 = .ok (.getfield 16, 3) := by decide +kernel
theorem dX11_carriesAll_35 : decode cX11_carriesAll 35 = .ok (.invokevirtual 522, 3) := by decide +kernel
theorem dX11_carriesAll_38 : decode cX11_carriesAll 38 = .ok (.aload_n 0, 1) := by decide +kernel
theorem dX11_carriesAll_39 : decode cX11_carriesAll 39 = .ok (.aload_n 0, 1) := by decide +kernel
theorem dX11_carriesAll_40 : decode cX11_carriesAll 40 = .ok (.getfield 19, 3) := by decide +kernel
theorem dX11_carriesAll_43 : decode cX11_carriesAll 43 = .ok (.invokevirtual 522, 3) := by decide +kernel
theorem dX11_carriesAll_46 : decode cX11_carriesAll 46 = .ok (.aload_n 0, 1) := by decide +kernel
theorem dX11_carriesAll_47 : decode cX11_carriesAll 47 = .ok (.aload_n 0, 1) := by decide +kernel
theorem dX11_carriesAll_48 : decode cX11_carriesAll 48 = .ok (.getfield 22, 3) := by decide +kernel
theorem dX11_carriesAll_51 : decode cX11_carriesAll 51 = .ok (.invokevirtual 522, 3) := by decide +kernel
theorem dX11_carriesAll_54 : decode cX11_carriesAll 54 = .ok (.aload_n 0, 1) := by decide +kernel
theorem dX11_carriesAll_55 : decode cX11_carriesAll 55 = .ok (.aload_n 0, 1) := by decide +kernel
theorem dX11_carriesAll_56 : decode cX11_carriesAll 56 = .ok (.getfield 25, 3) := by decide +kernel
theorem dX11_carriesAll_59 : decode cX11_carriesAll 59 = .ok (.invokevirtual 522, 3) := by decide +kernel
theorem dX11_carriesAll_62 : decode cX11_carriesAll 62 = .ok (.aload_n 0, 1) := by decide +kernel
theorem dX11_carriesAll_63 : decode cX11_carriesAll 63 = .ok (.aload_n 0, 1) := by decide +kernel
theorem dX11_carriesAll_64 : decode cX11_carriesAll 64 = .ok (.getfield 28, 3) := by decide +kernel
theorem dX11_carriesAll_67 : decode cX11_carriesAll 67 = .ok (.invokevirtual 522, 3) := by decide +kernel
theorem dX11_carriesAll_70 : decode cX11_carriesAll 70 = .ok (.aload_n 0, 1) := by decide +kernel
theorem dX11_carriesAll_71 : decode cX11_carriesAll 71 = .ok (.aload_n 0, 1) := by decide +kernel
theorem dX11_carriesAll_72 : decode cX11_carriesAll 72 = .ok (.getfield 52, 3) := by decide +kernel
theorem dX11_carriesAll_75 : decode cX11_carriesAll 75 = .ok (.invokevirtual 522, 3) := by decide +kernel
theorem dX11_carriesAll_78 : decode cX11_carriesAll 78 = .ok (.aload_n 0, 1) := by decide +kernel
theorem dX11_carriesAll_79 : decode cX11_carriesAll 79 = .ok (.aload_n 0, 1) := by decide +kernel
theorem dX11_carriesAll_80 : decode cX11_carriesAll 80 = .ok (.getfield 55, 3) := by decide +kernel
theorem dX11_carriesAll_83 : decode cX11_carriesAll 83 = .ok (.invokevirtual 522, 3) := by decide +kernel
theorem dX11_carriesAll_86 : decode cX11_carriesAll 86 = .ok (.aload_n 0, 1) := by decide +kernel
theorem dX11_carriesAll_87 : decode cX11_carriesAll 87 = .ok (.aload_n 0, 1) := by decide +kernel
theorem dX11_carriesAll_88 : decode cX11_carriesAll 88 = .ok (.getfield 58, 3) := by decide +kernel
theorem dX11_carriesAll_91 : decode cX11_carriesAll 91 = .ok (.invokevirtual 522, 3) := by decide +kernel
theorem dX11_carriesAll_94 : decode cX11_carriesAll 94 = .ok (.aload_n 0, 1) := by decide +kernel
theorem dX11_carriesAll_95 : decode cX11_carriesAll 95 = .ok (.aload_n 0, 1) := by decide +kernel
theorem dX11_carriesAll_96 : decode cX11_carriesAll 96 = .ok (.getfield 61, 3) := by decide +kernel
theorem dX11_carriesAll_99 : decode cX11_carriesAll 99 = .ok (.invokevirtual 522, 3) := by decide +kernel
theorem dX11_carriesAll_102 : decode cX11_carriesAll 102 = .ok (.aload_n 0, 1) := by decide +kernel
theorem dX11_carriesAll_103 : decode cX11_carriesAll 103 = .ok (.aload_n 0, 1) := by decide +kernel
theorem dX11_carriesAll_104 : decode cX11_carriesAll 104 = .ok (.getfield 64, 3) := by decide +kernel
theorem dX11_carriesAll_107 : decode cX11_carriesAll 107 = .ok (.invokevirtual 522, 3) := by decide +kernel
theorem dX11_carriesAll_110 : decode cX11_carriesAll 110 = .ok (.return_, 1) := by decide +kernel
theorem dX11_image_0 : decode cX11_image 0 = .ok (.iload_n 1, 1) := by decide +kernel
theorem dX11_image_1 : decode cX11_image 1 = .ok (.i2l, 1) := by decide +kernel
theorem dX11_image_2 : decode cX11_image 2 = .ok (.lconst 0, 1) := by decide +kernel
theorem dX11_image_3 : decode cX11_image 3 = .ok (.ldc2_w 526, 3) := by decide +kernel
theorem dX11_image_6 : decode cX11_image 6 = .ok (.invokestatic 171, 3) := by decide +kernel
theorem dX11_image_9 : decode cX11_image 9 = .ok (.ifCond .ne 5, 3) := by decide +kernel
theorem dX11_image_12 : decode cX11_image 12 = .ok (.iconst (-1), 1) := by decide +kernel
theorem dX11_image_13 : decode cX11_image 13 = .ok (.ireturn, 1) := by decide +kernel
theorem dX11_image_14 : decode cX11_image 14 = .ok (.aload_n 0, 1) := by decide +kernel
theorem dX11_image_15 : decode cX11_image 15 = .ok (.getfield 165, 3) := by decide +kernel
theorem dX11_image_18 : decode cX11_image 18 = .ok (.iload_n 1, 1) := by decide +kernel
theorem dX11_image_19 : decode cX11_image 19 = .ok (.iconst 1, 1) := by decide +kernel
theorem dX11_image_20 : decode cX11_image 20 = .ok (.bastore, 1) := by decide +kernel
theorem dX11_image_21 : decode cX11_image 21 = .ok (.aload_n 0, 1) := by decide +kernel
theorem dX11_image_22 : decode cX11_image 22 = .ok (.iload_n 1, 1) := by decide +kernel
theorem dX11_image_23 : decode cX11_image 23 = .ok (.iconst 0, 1) := by decide +kernel
theorem dX11_image_24 : decode cX11_image 24 = .ok (.invokevirtual 528, 3) := by decide +kernel
theorem dX11_image_27 : decode cX11_image 27 = .ok (.aload_n 0, 1) := by decide +kernel
theorem dX11_image_28 : decode cX11_image 28 = .ok (.getfield 9, 3) := by decide +kernel
theorem dX11_image_31 : decode cX11_image 31 = .ok (.iconst 0, 1) := by decide +kernel
theorem dX11_image_32 : decode cX11_image 32 = .ok (.iaload, 1) := by decide +kernel
theorem dX11_image_33 : decode cX11_image 33 = .ok (.ireturn, 1) := by decide +kernel
theorem dX11_back_0 : decode cX11_back 0 = .ok (.iload_n 1, 1) := by decide +kernel
theorem dX11_back_1 : decode cX11_back 1 = .ok (.i2l, 1) := by decide +kernel
theorem dX11_back_2 : decode cX11_back 2 = .ok (.lconst 0, 1) := by decide +kernel
theorem dX11_back_3 : decode cX11_back 3 = .ok (.ldc2_w 526, 3) := by decide +kernel
theorem dX11_back_6 : decode cX11_back 6 = .ok (.invokestatic 171, 3) := by decide +kernel
theorem dX11_back_9 : decode cX11_back 9 = .ok (.ifCond .eq 12, 3) := by decide +kernel
theorem dX11_back_12 : decode cX11_back 12 = .ok (.aload_n 0, 1) := by decide +kernel
theorem dX11_back_13 : decode cX11_back 13 = .ok (.getfield 165, 3) := by decide +kernel
theorem dX11_back_16 : decode cX11_back 16 = .ok (.iload_n 1, 1) := by decide +kernel
theorem dX11_back_17 : decode cX11_back 17 = .ok (.baload, 1) := by decide +kernel
theorem dX11_back_18 : decode cX11_back 18 = .ok (.ifCond .ne 5, 3) := by decide +kernel
theorem dX11_back_21 : decode cX11_back 21 = .ok (.iconst (-1), 1) := by decide +kernel
theorem dX11_back_22 : decode cX11_back 22 = .ok (.ireturn, 1) := by decide +kernel
theorem dX11_back_23 : decode cX11_back 23 = .ok (.aload_n 0, 1) := by decide +kernel
theorem dX11_back_24 : decode cX11_back 24 = .ok (.iload_n 1, 1) := by decide +kernel
theorem dX11_back_25 : decode cX11_back 25 = .ok (.iconst 1, 1) := by decide +kernel
theorem dX11_back_26 : decode cX11_back 26 = .ok (.invokevirtual 528, 3) := by decide +kernel
theorem dX11_back_29 : decode cX11_back 29 = .ok (.aload_n 0, 1) := by decide +kernel
theorem dX11_back_30 : decode cX11_back 30 = .ok (.getfield 9, 3) := by decide +kernel
theorem dX11_back_33 : decode cX11_back 33 = .ok (.iconst 0, 1) := by decide +kernel
theorem dX11_back_34 : decode cX11_back 34 = .ok (.iaload, 1) := by decide +kernel
theorem dX11_back_35 : decode cX11_back 35 = .ok (.ireturn, 1) := by decide +kernel
theorem dJ6_numberOfLeadingZeros_0f7a4_0 : decode cJ6_numberOfLeadingZeros_0f7a4 0 = .ok (.iload_n 0, 1) := by decide +kernel
theorem dJ6_numberOfLeadingZeros_0f7a4_1 : decode cJ6_numberOfLeadingZeros_0f7a4 1 = .ok (.ifCond .gt 14, 3) := by decide +kernel
theorem dJ6_numberOfLeadingZeros_0f7a4_4 : decode cJ6_numberOfLeadingZeros_0f7a4 4 = .ok (.iload_n 0, 1) := by decide +kernel
theorem dJ6_numberOfLeadingZeros_0f7a4_5 : decode cJ6_numberOfLeadingZeros_0f7a4 5 = .ok (.ifCond .ne 8, 3) := by decide +kernel
theorem dJ6_numberOfLeadingZeros_0f7a4_8 : decode cJ6_numberOfLeadingZeros_0f7a4 8 = .ok (.bipush 32, 2) := by decide +kernel
theorem dJ6_numberOfLeadingZeros_0f7a4_10 : decode cJ6_numberOfLeadingZeros_0f7a4 10 = .ok (.goto 4, 3) := by decide +kernel
theorem dJ6_numberOfLeadingZeros_0f7a4_13 : decode cJ6_numberOfLeadingZeros_0f7a4 13 = .ok (.iconst 0, 1) := by decide +kernel
theorem dJ6_numberOfLeadingZeros_0f7a4_14 : decode cJ6_numberOfLeadingZeros_0f7a4 14 = .ok (.ireturn, 1) := by decide +kernel
theorem dJ6_numberOfLeadingZeros_0f7a4_15 : decode cJ6_numberOfLeadingZeros_0f7a4 15 = .ok (.bipush 31, 2) := by decide +kernel
theorem dJ6_numberOfLeadingZeros_0f7a4_17 : decode cJ6_numberOfLeadingZeros_0f7a4 17 = .ok (.istore_n 1, 1) := by decide +kernel
theorem dJ6_numberOfLeadingZeros_0f7a4_18 : decode cJ6_numberOfLeadingZeros_0f7a4 18 = .ok (.iload_n 0, 1) := by decide +kernel
theorem dJ6_numberOfLeadingZeros_0f7a4_19 : decode cJ6_numberOfLeadingZeros_0f7a4 19 = .ok (.ldc_w 264, 3) := by decide +kernel
theorem dJ6_numberOfLeadingZeros_0f7a4_22 : decode cJ6_numberOfLeadingZeros_0f7a4 22 = .ok (.if_icmp .lt 11, 3) := by decide +kernel
theorem dJ6_numberOfLeadingZeros_0f7a4_25 : decode cJ6_numberOfLeadingZeros_0f7a4 25 = .ok (.iinc 1 (-16), 3) := by decide +kernel
theorem dJ6_numberOfLeadingZeros_0f7a4_28 : decode cJ6_numberOfLeadingZeros_0f7a4 28 = .ok (.iload_n 0, 1) := by decide +kernel
theorem dJ6_numberOfLeadingZeros_0f7a4_29 : decode cJ6_numberOfLeadingZeros_0f7a4 29 = .ok (.bipush 16, 2) := by decide +kernel
theorem dJ6_numberOfLeadingZeros_0f7a4_31 : decode cJ6_numberOfLeadingZeros_0f7a4 31 = .ok (.iushr, 1) := by decide +kernel
theorem dJ6_numberOfLeadingZeros_0f7a4_32 : decode cJ6_numberOfLeadingZeros_0f7a4 32 = .ok (.istore_n 0, 1) := by decide +kernel
theorem dJ6_numberOfLeadingZeros_0f7a4_33 : decode cJ6_numberOfLeadingZeros_0f7a4 33 = .ok (.iload_n 0, 1) := by decide +kernel
theorem dJ6_numberOfLeadingZeros_0f7a4_34 : decode cJ6_numberOfLeadingZeros_0f7a4 34 = .ok (.sipush 256, 3) := by decide +kernel
theorem dJ6_numberOfLeadingZeros_0f7a4_37 : decode cJ6_numberOfLeadingZeros_0f7a4 37 = .ok (.if_icmp .lt 11, 3) := by decide +kernel
theorem dJ6_numberOfLeadingZeros_0f7a4_40 : decode cJ6_numberOfLeadingZeros_0f7a4 40 = .ok (.iinc 1 (-8), 3) := by decide +kernel
theorem dJ6_numberOfLeadingZeros_0f7a4_43 : decode cJ6_numberOfLeadingZeros_0f7a4 43 = .ok (.iload_n 0, 1) := by decide +kernel
theorem dJ6_numberOfLeadingZeros_0f7a4_44 : decode cJ6_numberOfLeadingZeros_0f7a4 44 = .ok (.bipush 8, 2) := by decide +kernel
theorem dJ6_numberOfLeadingZeros_0f7a4_46 : decode cJ6_numberOfLeadingZeros_0f7a4 46 = .ok (.iushr, 1) := by decide +kernel
theorem dJ6_numberOfLeadingZeros_0f7a4_47 : decode cJ6_numberOfLeadingZeros_0f7a4 47 = .ok (.istore_n 0, 1) := by decide +kernel
theorem dJ6_numberOfLeadingZeros_0f7a4_48 : decode cJ6_numberOfLeadingZeros_0f7a4 48 = .ok (.iload_n 0, 1) := by decide +kernel
theorem dJ6_numberOfLeadingZeros_0f7a4_49 : decode cJ6_numberOfLeadingZeros_0f7a4 49 = .ok (.bipush 16, 2) := by decide +kernel
theorem dJ6_numberOfLeadingZeros_0f7a4_51 : decode cJ6_numberOfLeadingZeros_0f7a4 51 = .ok (.if_icmp .lt 10, 3) := by decide +kernel
theorem dJ6_numberOfLeadingZeros_0f7a4_54 : decode cJ6_numberOfLeadingZeros_0f7a4 54 = .ok (.iinc 1 (-4), 3) := by decide +kernel
theorem dJ6_numberOfLeadingZeros_0f7a4_57 : decode cJ6_numberOfLeadingZeros_0f7a4 57 = .ok (.iload_n 0, 1) := by decide +kernel
theorem dJ6_numberOfLeadingZeros_0f7a4_58 : decode cJ6_numberOfLeadingZeros_0f7a4 58 = .ok (.iconst 4, 1) := by decide +kernel
theorem dJ6_numberOfLeadingZeros_0f7a4_59 : decode cJ6_numberOfLeadingZeros_0f7a4 59 = .ok (.iushr, 1) := by decide +kernel
theorem dJ6_numberOfLeadingZeros_0f7a4_60 : decode cJ6_numberOfLeadingZeros_0f7a4 60 = .ok (.istore_n 0, 1) := by decide +kernel
theorem dJ6_numberOfLeadingZeros_0f7a4_61 : decode cJ6_numberOfLeadingZeros_0f7a4 61 = .ok (.iload_n 0, 1) := by decide +kernel
theorem dJ6_numberOfLeadingZeros_0f7a4_62 : decode cJ6_numberOfLeadingZeros_0f7a4 62 = .ok (.iconst 4, 1) := by decide +kernel
theorem dJ6_numberOfLeadingZeros_0f7a4_63 : decode cJ6_numberOfLeadingZeros_0f7a4 63 = .ok (.if_icmp .lt 10, 3) := by decide +kernel
theorem dJ6_numberOfLeadingZeros_0f7a4_66 : decode cJ6_numberOfLeadingZeros_0f7a4 66 = .ok (.iinc 1 (-2), 3) := by decide +kernel
theorem dJ6_numberOfLeadingZeros_0f7a4_69 : decode cJ6_numberOfLeadingZeros_0f7a4 69 = .ok (.iload_n 0, 1) := by decide +kernel
theorem dJ6_numberOfLeadingZeros_0f7a4_70 : decode cJ6_numberOfLeadingZeros_0f7a4 70 = .ok (.iconst 2, 1) := by decide +kernel
theorem dJ6_numberOfLeadingZeros_0f7a4_71 : decode cJ6_numberOfLeadingZeros_0f7a4 71 = .ok (.iushr, 1) := by decide +kernel
theorem dJ6_numberOfLeadingZeros_0f7a4_72 : decode cJ6_numberOfLeadingZeros_0f7a4 72 = .ok (.istore_n 0, 1) := by decide +kernel
theorem dJ6_numberOfLeadingZeros_0f7a4_73 : decode cJ6_numberOfLeadingZeros_0f7a4 73 = .ok (.iload_n 1, 1) := by decide +kernel
theorem dJ6_numberOfLeadingZeros_0f7a4_74 : decode cJ6_numberOfLeadingZeros_0f7a4 74 = .ok (.iload_n 0, 1) := by decide +kernel
theorem dJ6_numberOfLeadingZeros_0f7a4_75 : decode cJ6_numberOfLeadingZeros_0f7a4 75 = .ok (.iconst 1, 1) := by decide +kernel
theorem dJ6_numberOfLeadingZeros_0f7a4_76 : decode cJ6_numberOfLeadingZeros_0f7a4 76 = .ok (.iushr, 1) := by decide +kernel
theorem dJ6_numberOfLeadingZeros_0f7a4_77 : decode cJ6_numberOfLeadingZeros_0f7a4 77 = .ok (.isub, 1) := by decide +kernel
theorem dJ6_numberOfLeadingZeros_0f7a4_78 : decode cJ6_numberOfLeadingZeros_0f7a4 78 = .ok (.ireturn, 1) := by decide +kernel
theorem dJ6_bitCount_0f7a4_0 : decode cJ6_bitCount_0f7a4 0 = .ok (.iload_n 0, 1) := by decide +kernel
theorem dJ6_bitCount_0f7a4_1 : decode cJ6_bitCount_0f7a4 1 = .ok (.iload_n 0, 1) := by decide +kernel
theorem dJ6_bitCount_0f7a4_2 : decode cJ6_bitCount_0f7a4 2 = .ok (.iconst 1, 1) := by decide +kernel
theorem dJ6_bitCount_0f7a4_3 : decode cJ6_bitCount_0f7a4 3 = .ok (.iushr, 1) := by decide +kernel
theorem dJ6_bitCount_0f7a4_4 : decode cJ6_bitCount_0f7a4 4 = .ok (.ldc_w 265, 3) := by decide +kernel
theorem dJ6_bitCount_0f7a4_7 : decode cJ6_bitCount_0f7a4 7 = .ok (.iand, 1) := by decide +kernel
theorem dJ6_bitCount_0f7a4_8 : decode cJ6_bitCount_0f7a4 8 = .ok (.isub, 1) := by decide +kernel
theorem dJ6_bitCount_0f7a4_9 : decode cJ6_bitCount_0f7a4 9 = .ok (.istore_n 0, 1) := by decide +kernel
theorem dJ6_bitCount_0f7a4_10 : decode cJ6_bitCount_0f7a4 10 = .ok (.iload_n 0, 1) := by decide +kernel
theorem dJ6_bitCount_0f7a4_11 : decode cJ6_bitCount_0f7a4 11 = .ok (.ldc_w 266, 3) := by decide +kernel
theorem dJ6_bitCount_0f7a4_14 : decode cJ6_bitCount_0f7a4 14 = .ok (.iand, 1) := by decide +kernel
theorem dJ6_bitCount_0f7a4_15 : decode cJ6_bitCount_0f7a4 15 = .ok (.iload_n 0, 1) := by decide +kernel
theorem dJ6_bitCount_0f7a4_16 : decode cJ6_bitCount_0f7a4 16 = .ok (.iconst 2, 1) := by decide +kernel
theorem dJ6_bitCount_0f7a4_17 : decode cJ6_bitCount_0f7a4 17 = .ok (.iushr, 1) := by decide +kernel
theorem dJ6_bitCount_0f7a4_18 : decode cJ6_bitCount_0f7a4 18 = .ok (.ldc_w 266, 3) := by decide +kernel
theorem dJ6_bitCount_0f7a4_21 : decode cJ6_bitCount_0f7a4 21 = .ok (.iand, 1) := by decide +kernel
theorem dJ6_bitCount_0f7a4_22 : decode cJ6_bitCount_0f7a4 22 = .ok (.iadd, 1) := by decide +kernel
theorem dJ6_bitCount_0f7a4_23 : decode cJ6_bitCount_0f7a4 23 = .ok (.istore_n 0, 1) := by decide +kernel
theorem dJ6_bitCount_0f7a4_24 : decode cJ6_bitCount_0f7a4 24 = .ok (.iload_n 0, 1) := by decide +kernel
theorem dJ6_bitCount_0f7a4_25 : decode cJ6_bitCount_0f7a4 25 = .ok (.iload_n 0, 1) := by decide +kernel
theorem dJ6_bitCount_0f7a4_26 : decode cJ6_bitCount_0f7a4 26 = .ok (.iconst 4, 1) := by decide +kernel
theorem dJ6_bitCount_0f7a4_27 : decode cJ6_bitCount_0f7a4 27 = .ok (.iushr, 1) := by decide +kernel
theorem dJ6_bitCount_0f7a4_28 : decode cJ6_bitCount_0f7a4 28 = .ok (.iadd, 1) := by decide +kernel
theorem dJ6_bitCount_0f7a4_29 : decode cJ6_bitCount_0f7a4 29 = .ok (.ldc_w 267, 3) := by decide +kernel
theorem dJ6_bitCount_0f7a4_32 : decode cJ6_bitCount_0f7a4 32 = .ok (.iand, 1) := by decide +kernel
theorem dJ6_bitCount_0f7a4_33 : decode cJ6_bitCount_0f7a4 33 = .ok (.istore_n 0, 1) := by decide +kernel
theorem dJ6_bitCount_0f7a4_34 : decode cJ6_bitCount_0f7a4 34 = .ok (.iload_n 0, 1) := by decide +kernel
theorem dJ6_bitCount_0f7a4_35 : decode cJ6_bitCount_0f7a4 35 = .ok (.iload_n 0, 1) := by decide +kernel
theorem dJ6_bitCount_0f7a4_36 : decode cJ6_bitCount_0f7a4 36 = .ok (.bipush 8, 2) := by decide +kernel
theorem dJ6_bitCount_0f7a4_38 : decode cJ6_bitCount_0f7a4 38 = .ok (.iushr, 1) := by decide +kernel
theorem dJ6_bitCount_0f7a4_39 : decode cJ6_bitCount_0f7a4 39 = .ok (.iadd, 1) := by decide +kernel
theorem dJ6_bitCount_0f7a4_40 : decode cJ6_bitCount_0f7a4 40 = .ok (.istore_n 0, 1) := by decide +kernel
theorem dJ6_bitCount_0f7a4_41 : decode cJ6_bitCount_0f7a4 41 = .ok (.iload_n 0, 1) := by decide +kernel
theorem dJ6_bitCount_0f7a4_42 : decode cJ6_bitCount_0f7a4 42 = .ok (.iload_n 0, 1) := by decide +kernel
theorem dJ6_bitCount_0f7a4_43 : decode cJ6_bitCount_0f7a4 43 = .ok (.bipush 16, 2) := by decide +kernel
theorem dJ6_bitCount_0f7a4_45 : decode cJ6_bitCount_0f7a4 45 = .ok (.iushr, 1) := by decide +kernel
theorem dJ6_bitCount_0f7a4_46 : decode cJ6_bitCount_0f7a4 46 = .ok (.iadd, 1) := by decide +kernel
theorem dJ6_bitCount_0f7a4_47 : decode cJ6_bitCount_0f7a4 47 = .ok (.istore_n 0, 1) := by decide +kernel
theorem dJ6_bitCount_0f7a4_48 : decode cJ6_bitCount_0f7a4 48 = .ok (.iload_n 0, 1) := by decide +kernel
theorem dJ6_bitCount_0f7a4_49 : decode cJ6_bitCount_0f7a4 49 = .ok (.bipush 63, 2) := by decide +kernel
theorem dJ6_bitCount_0f7a4_51 : decode cJ6_bitCount_0f7a4 51 = .ok (.iand, 1) := by decide +kernel
theorem dJ6_bitCount_0f7a4_52 : decode cJ6_bitCount_0f7a4 52 = .ok (.ireturn, 1) := by decide +kernel
theorem dJ9_max_7cf53_0 : decode cJ9_max_7cf53 0 = .ok (.iload_n 0, 1) := by decide +kernel
theorem dJ9_max_7cf53_1 : decode cJ9_max_7cf53 1 = .ok (.iload_n 1, 1) := by decide +kernel
theorem dJ9_max_7cf53_2 : decode cJ9_max_7cf53 2 = .ok (.if_icmp .lt 7, 3) := by decide +kernel
theorem dJ9_max_7cf53_5 : decode cJ9_max_7cf53 5 = .ok (.iload_n 0, 1) := by decide +kernel
theorem dJ9_max_7cf53_6 : decode cJ9_max_7cf53 6 = .ok (.goto 4, 3) := by decide +kernel
theorem dJ9_max_7cf53_9 : decode cJ9_max_7cf53 9 = .ok (.iload_n 1, 1) := by decide +kernel
theorem dJ9_max_7cf53_10 : decode cJ9_max_7cf53 10 = .ok (.ireturn, 1) := by decide +kernel
theorem dJ9_max_f86c9_0 : decode cJ9_max_f86c9 0 = .ok (.lload_n 0, 1) := by decide +kernel
theorem dJ9_max_f86c9_1 : decode cJ9_max_f86c9 1 = .ok (.lload_n 2, 1) := by decide +kernel
theorem dJ9_max_f86c9_2 : decode cJ9_max_f86c9 2 = .ok (.lcmp, 1) := by decide +kernel
theorem dJ9_max_f86c9_3 : decode cJ9_max_f86c9 3 = .ok (.ifCond .lt 7, 3) := by decide +kernel
theorem dJ9_max_f86c9_6 : decode cJ9_max_f86c9 6 = .ok (.lload_n 0, 1) := by decide +kernel
theorem dJ9_max_f86c9_7 : decode cJ9_max_f86c9 7 = .ok (.goto 4, 3) := by decide +kernel
theorem dJ9_max_f86c9_10 : decode cJ9_max_f86c9 10 = .ok (.lload_n 2, 1) := by decide +kernel
theorem dJ9_max_f86c9_11 : decode cJ9_max_f86c9 11 = .ok (.lreturn, 1) := by decide +kernel
theorem dJ9_min_7cf53_0 : decode cJ9_min_7cf53 0 = .ok (.iload_n 0, 1) := by decide +kernel
theorem dJ9_min_7cf53_1 : decode cJ9_min_7cf53 1 = .ok (.iload_n 1, 1) := by decide +kernel
theorem dJ9_min_7cf53_2 : decode cJ9_min_7cf53 2 = .ok (.if_icmp .gt 7, 3) := by decide +kernel
theorem dJ9_min_7cf53_5 : decode cJ9_min_7cf53 5 = .ok (.iload_n 0, 1) := by decide +kernel
theorem dJ9_min_7cf53_6 : decode cJ9_min_7cf53 6 = .ok (.goto 4, 3) := by decide +kernel
theorem dJ9_min_7cf53_9 : decode cJ9_min_7cf53 9 = .ok (.iload_n 1, 1) := by decide +kernel
theorem dJ9_min_7cf53_10 : decode cJ9_min_7cf53 10 = .ok (.ireturn, 1) := by decide +kernel
theorem dJ9_min_f86c9_0 : decode cJ9_min_f86c9 0 = .ok (.lload_n 0, 1) := by decide +kernel
theorem dJ9_min_f86c9_1 : decode cJ9_min_f86c9 1 = .ok (.lload_n 2, 1) := by decide +kernel
theorem dJ9_min_f86c9_2 : decode cJ9_min_f86c9 2 = .ok (.lcmp, 1) := by decide +kernel
theorem dJ9_min_f86c9_3 : decode cJ9_min_f86c9 3 = .ok (.ifCond .gt 7, 3) := by decide +kernel
theorem dJ9_min_f86c9_6 : decode cJ9_min_f86c9 6 = .ok (.lload_n 0, 1) := by decide +kernel
theorem dJ9_min_f86c9_7 : decode cJ9_min_f86c9 7 = .ok (.goto 4, 3) := by decide +kernel
theorem dJ9_min_f86c9_10 : decode cJ9_min_f86c9 10 = .ok (.lload_n 2, 1) := by decide +kernel
theorem dJ9_min_f86c9_11 : decode cJ9_min_f86c9 11 = .ok (.lreturn, 1) := by decide +kernel
theorem dJ0_length_8abf5_0 : decode cJ0_length_8abf5 0 = .ok (.aload_n 0, 1) := by decide +kernel
theorem dJ0_length_8abf5_1 : decode cJ0_length_8abf5 1 = .ok (.getfield 9, 3) := by decide +kernel
theorem dJ0_length_8abf5_4 : decode cJ0_length_8abf5 4 = .ok (.arraylength, 1) := by decide +kernel
theorem dJ0_length_8abf5_5 : decode cJ0_length_8abf5 5 = .ok (.aload_n 0, 1) := by decide +kernel
theorem dJ0_length_8abf5_6 : decode cJ0_length_8abf5 6 = .ok (.invokevirtual 335, 3) := by decide +kernel
theorem dJ0_length_8abf5_9 : decode cJ0_length_8abf5 9 = .ok (.ishr, 1) := by decide +kernel
theorem dJ0_length_8abf5_10 : decode cJ0_length_8abf5 10 = .ok (.ireturn, 1) := by decide +kernel
theorem dJ0_charAt_5068e_0 : decode cJ0_charAt_5068e 0 = .ok (.aload_n 0, 1) := by decide +kernel
theorem dJ0_charAt_5068e_1 : decode cJ0_charAt_5068e 1 = .ok (.invokevirtual 492, 3) := by decide +kernel
theorem dJ0_charAt_5068e_4 : decode cJ0_charAt_5068e 4 = .ok (.ifCond .eq 12, 3) := by decide +kernel
theorem dJ0_charAt_5068e_7 : decode cJ0_charAt_5068e 7 = .ok (.aload_n 0, 1) := by decide +kernel
theorem dJ0_charAt_5068e_8 : decode cJ0_charAt_5068e 8 = .ok (.getfield 9, 3) := by decide +kernel
theorem dJ0_charAt_5068e_11 : decode cJ0_charAt_5068e 11 = .ok (.iload_n 1, 1) := by decide +kernel
theorem dJ0_charAt_5068e_12 : decode cJ0_charAt_5068e 12 = .ok (.invokestatic 495, 3) := by decide +kernel
theorem dJ0_charAt_5068e_15 : decode cJ0_charAt_5068e 15 = .ok (.ireturn, 1) := by decide +kernel
theorem dJ0_charAt_5068e_16 : decode cJ0_charAt_5068e 16 = .ok (.aload_n 0, 1) := by decide +kernel
theorem dJ0_charAt_5068e_17 : decode cJ0_charAt_5068e 17 = .ok (.getfield 9, 3) := by decide +kernel
theorem dJ0_charAt_5068e_20 : decode cJ0_charAt_5068e 20 = .ok (.iload_n 1, 1) := by decide +kernel
theorem dJ0_charAt_5068e_21 : decode cJ0_charAt_5068e 21 = .ok (.invokestatic 498, 3) := by decide +kernel
theorem dJ0_charAt_5068e_24 : decode cJ0_charAt_5068e 24 = .ok (.ireturn, 1) := by decide +kernel
theorem dJ0_coder_7d493_0 : decode cJ0_coder_7d493 0 = .ok (.getstatic 38, 3) := by decide +kernel
theorem dJ0_coder_7d493_3 : decode cJ0_coder_7d493 3 = .ok (.ifCond .eq 10, 3) := by decide +kernel
theorem dJ0_coder_7d493_6 : decode cJ0_coder_7d493 6 = .ok (.aload_n 0, 1) := by decide +kernel
theorem dJ0_coder_7d493_7 : decode cJ0_coder_7d493 7 = .ok (.getfield 15, 3) := by decide +kernel
theorem dJ0_coder_7d493_10 : decode cJ0_coder_7d493 10 = .ok (.goto 4, 3) := by decide +kernel
theorem dJ0_coder_7d493_13 : decode cJ0_coder_7d493 13 = .ok (.iconst 1, 1) := by decide +kernel
theorem dJ0_coder_7d493_14 : decode cJ0_coder_7d493 14 = .ok (.ireturn, 1) := by decide +kernel
theorem dJ0_isLatin1_aae02_0 : decode cJ0_isLatin1_aae02 0 = .ok (.getstatic 38, 3) := by decide +kernel
theorem dJ0_isLatin1_aae02_3 : decode cJ0_isLatin1_aae02 3 = .ok (.ifCond .eq 14, 3) := by decide +kernel
theorem dJ0_isLatin1_aae02_6 : decode cJ0_isLatin1_aae02 6 = .ok (.aload_n 0, 1) := by decide +kernel
theorem dJ0_isLatin1_aae02_7 : decode cJ0_isLatin1_aae02 7 = .ok (.getfield 15, 3) := by decide +kernel
theorem dJ0_isLatin1_aae02_10 : decode cJ0_isLatin1_aae02 10 = .ok (.ifCond .ne 7, 3) := by decide +kernel
theorem dJ0_isLatin1_aae02_13 : decode cJ0_isLatin1_aae02 13 = .ok (.iconst 1, 1) := by decide +kernel
theorem dJ0_isLatin1_aae02_14 : decode cJ0_isLatin1_aae02 14 = .ok (.goto 4, 3) := by decide +kernel
theorem dJ0_isLatin1_aae02_17 : decode cJ0_isLatin1_aae02 17 = .ok (.iconst 0, 1) := by decide +kernel
theorem dJ0_isLatin1_aae02_18 : decode cJ0_isLatin1_aae02 18 = .ok (.ireturn, 1) := by decide +kernel
theorem dJ0_checkIndex_df160_0 : decode cJ0_checkIndex_df160 0 = .ok (.iload_n 0, 1) := by decide +kernel
theorem dJ0_checkIndex_df160_1 : decode cJ0_checkIndex_df160 1 = .ok (.iload_n 1, 1) := by decide +kernel
theorem dJ0_checkIndex_df160_2 : decode cJ0_checkIndex_df160 2 = .ok (.getstatic 1053, 3) := by decide +kernel
theorem dJ0_checkIndex_df160_5 : decode cJ0_checkIndex_df160 5 = .ok (.invokestatic 1059, 3) := by decide +kernel
theorem dJ0_checkIndex_df160_8 : decode cJ0_checkIndex_df160 8 = .ok (.pop, 1) := by decide +kernel
theorem dJ0_checkIndex_df160_9 : decode cJ0_checkIndex_df160 9 = .ok (.return_, 1) := by decide +kernel
theorem dJ1_charAt_3b067_0 : decode cJ1_charAt_3b067 0 = .ok (.iload_n 1, 1) := by decide +kernel
theorem dJ1_charAt_3b067_1 : decode cJ1_charAt_3b067 1 = .ok (.aload_n 0, 1) := by decide +kernel
theorem dJ1_charAt_3b067_2 : decode cJ1_charAt_3b067 2 = .ok (.arraylength, 1) := by decide +kernel
theorem dJ1_charAt_3b067_3 : decode cJ1_charAt_3b067 3 = .ok (.invokestatic 9, 3) := by decide +kernel
theorem dJ1_charAt_3b067_6 : decode cJ1_charAt_3b067 6 = .ok (.aload_n 0, 1) := by decide +kernel
theorem dJ1_charAt_3b067_7 : decode cJ1_charAt_3b067 7 = .ok (.iload_n 1, 1) := by decide +kernel
theorem dJ1_charAt_3b067_8 : decode cJ1_charAt_3b067 8 = .ok (.baload, 1) := by decide +kernel
theorem dJ1_charAt_3b067_9 : decode cJ1_charAt_3b067 9 = .ok (.sipush 255, 3) := by decide +kernel
theorem dJ1_charAt_3b067_12 : decode cJ1_charAt_3b067 12 = .ok (.iand, 1) := by decide +kernel
theorem dJ1_charAt_3b067_13 : decode cJ1_charAt_3b067 13 = .ok (.i2c, 1) := by decide +kernel
theorem dJ1_charAt_3b067_14 : decode cJ1_charAt_3b067 14 = .ok (.ireturn, 1) := by decide +kernel
theorem dJ2_getChar_3b067_0 : decode cJ2_getChar_3b067 0 = .ok (.getstatic 44, 3) := by decide +kernel
theorem dJ2_getChar_3b067_3 : decode cJ2_getChar_3b067 3 = .ok (.ifCond .ne 25, 3) := by decide +kernel
theorem dJ2_getChar_3b067_6 : decode cJ2_getChar_3b067 6 = .ok (.iload_n 1, 1) := by decide +kernel
theorem dJ2_getChar_3b067_7 : decode cJ2_getChar_3b067 7 = .ok (.ifCond .lt 11, 3) := by decide +kernel
theorem dJ2_getChar_3b067_10 : decode cJ2_getChar_3b067 10 = .ok (.iload_n 1, 1) := by decide +kernel
theorem dJ2_getChar_3b067_11 : decode cJ2_getChar_3b067 11 = .ok (.aload_n 0, 1) := by decide +kernel
theorem dJ2_getChar_3b067_12 : decode cJ2_getChar_3b067 12 = .ok (.invokestatic 48, 3) := by decide +kernel
theorem dJ2_getChar_3b067_15 : decode cJ2_getChar_3b067 15 = .ok (.if_icmp .lt 13, 3) := by decide +kernel
theorem dJ2_getChar_3b067_18 : decode cJ2_getChar_3b067 18 = .ok (.new 52, 3) := by decide +kernel
theorem dJ2_getChar_3b067_21 : decode cJ2_getChar_3b067 21 = .ok (.dup, 1) := by decide +kernel
theorem dJ2_getChar_3b067_22 : decode cJ2_getChar_3b067 22 = .ok (.ldc 54, 2) := by decide +kernel
theorem dJ2_getChar_3b067_24 : decode cJ2_getChar_3b067 24 = .ok (.invokespecial 56, 3) := by decide +kernel
theorem dJ2_getChar_3b067_27 : decode cJ2_getChar_3b067 27 = .ok (.athrow, 1) := by decide +kernel
theorem dJ2_getChar_3b067_28 : decode cJ2_getChar_3b067 28 = .ok (.iload_n 1, 1) := by decide +kernel
theorem dJ2_getChar_3b067_29 : decode cJ2_getChar_3b067 29 = .ok (.iconst 1, 1) := by decide +kernel
theorem dJ2_getChar_3b067_30 : decode cJ2_getChar_3b067 30 = .ok (.ishl, 1) := by decide +kernel
theorem dJ2_getChar_3b067_31 : decode cJ2_getChar_3b067 31 = .ok (.istore_n 1, 1) := by decide +kernel
theorem dJ2_getChar_3b067_32 : decode cJ2_getChar_3b067 32 = .ok (.aload_n 0, 1) := by decide +kernel
theorem dJ2_getChar_3b067_33 : decode cJ2_getChar_3b067 33 = .ok (.iload_n 1, 1) := by decide +kernel
theorem dJ2_getChar_3b067_34 : decode cJ2_getChar_3b067 34 = .ok (.iinc 1 1, 3) := by decide +kernel
theorem dJ2_getChar_3b067_37 : decode cJ2_getChar_3b067 37 = .ok (.baload, 1) := by decide +kernel
theorem dJ2_getChar_3b067_38 : decode cJ2_getChar_3b067 38 = .ok (.sipush 255, 3) := by decide +kernel
theorem dJ2_getChar_3b067_41 : decode cJ2_getChar_3b067 41 = .ok (.iand, 1) := by decide +kernel
theorem dJ2_getChar_3b067_42 : decode cJ2_getChar_3b067 42 = .ok (.getstatic 59, 3) := by decide +kernel
theorem dJ2_getChar_3b067_45 : decode cJ2_getChar_3b067 45 = .ok (.ishl, 1) := by decide +kernel
theorem dJ2_getChar_3b067_46 : decode cJ2_getChar_3b067 46 = .ok (.aload_n 0, 1) := by decide +kernel
theorem dJ2_getChar_3b067_47 : decode cJ2_getChar_3b067 47 = .ok (.iload_n 1, 1) := by decide +kernel
theorem dJ2_getChar_3b067_48 : decode cJ2_getChar_3b067 48 = .ok (.baload, 1) := by decide +kernel
theorem dJ2_getChar_3b067_49 : decode cJ2_getChar_3b067 49 = .ok (.sipush 255, 3) := by decide +kernel
theorem dJ2_getChar_3b067_52 : decode cJ2_getChar_3b067 52 = .ok (.iand, 1) := by decide +kernel
theorem dJ2_getChar_3b067_53 : decode cJ2_getChar_3b067 53 = .ok (.getstatic 63, 3) := by decide +kernel
theorem dJ2_getChar_3b067_56 : decode cJ2_getChar_3b067 56 = .ok (.ishl, 1) := by decide +kernel
theorem dJ2_getChar_3b067_57 : decode cJ2_getChar_3b067 57 = .ok (.ior, 1) := by decide +kernel
theorem dJ2_getChar_3b067_58 : decode cJ2_getChar_3b067 58 = .ok (.i2c, 1) := by decide +kernel
theorem dJ2_getChar_3b067_59 : decode cJ2_getChar_3b067 59 = .ok (.ireturn, 1) := by decide +kernel
theorem dJ2_length_9d52b_0 : decode cJ2_length_9d52b 0 = .ok (.aload_n 0, 1) := by decide +kernel
theorem dJ2_length_9d52b_1 : decode cJ2_length_9d52b 1 = .ok (.arraylength, 1) := by decide +kernel
theorem dJ2_length_9d52b_2 : decode cJ2_length_9d52b 2 = .ok (.iconst 1, 1) := by decide +kernel
theorem dJ2_length_9d52b_3 : decode cJ2_length_9d52b 3 = .ok (.ishr, 1) := by decide +kernel
theorem dJ2_length_9d52b_4 : decode cJ2_length_9d52b 4 = .ok (.ireturn, 1) := by decide +kernel
theorem dJ2_charAt_3b067_0 : decode cJ2_charAt_3b067 0 = .ok (.iload_n 1, 1) := by decide +kernel
theorem dJ2_charAt_3b067_1 : decode cJ2_charAt_3b067 1 = .ok (.aload_n 0, 1) := by decide +kernel
theorem dJ2_charAt_3b067_2 : decode cJ2_charAt_3b067 2 = .ok (.invokestatic 67, 3) := by decide +kernel
theorem dJ2_charAt_3b067_5 : decode cJ2_charAt_3b067 5 = .ok (.aload_n 0, 1) := by decide +kernel
theorem dJ2_charAt_3b067_6 : decode cJ2_charAt_3b067 6 = .ok (.iload_n 1, 1) := by decide +kernel
theorem dJ2_charAt_3b067_7 : decode cJ2_charAt_3b067 7 = .ok (.invokestatic 71, 3) := by decide +kernel
theorem dJ2_charAt_3b067_10 : decode cJ2_charAt_3b067 10 = .ok (.ireturn, 1) := by decide +kernel
theorem dJ2_checkIndex_2214a_0 : decode cJ2_checkIndex_2214a 0 = .ok (.iload_n 0, 1) := by decide +kernel
theorem dJ2_checkIndex_2214a_1 : decode cJ2_checkIndex_2214a 1 = .ok (.aload_n 1, 1) := by decide +kernel
theorem dJ2_checkIndex_2214a_2 : decode cJ2_checkIndex_2214a 2 = .ok (.invokestatic 48, 3) := by decide +kernel
theorem dJ2_checkIndex_2214a_5 : decode cJ2_checkIndex_2214a 5 = .ok (.invokestatic 414, 3) := by decide +kernel
theorem dJ2_checkIndex_2214a_8 : decode cJ2_checkIndex_2214a 8 = .ok (.return_, 1) := by decide +kernel
theorem dJ3_checkIndex_8e157_0 : decode cJ3_checkIndex_8e157 0 = .ok (.iload_n 0, 1) := by decide +kernel
theorem dJ3_checkIndex_8e157_1 : decode cJ3_checkIndex_8e157 1 = .ok (.ifCond .lt 8, 3) := by decide +kernel
theorem dJ3_checkIndex_8e157_4 : decode cJ3_checkIndex_8e157 4 = .ok (.iload_n 0, 1) := by decide +kernel
theorem dJ3_checkIndex_8e157_5 : decode cJ3_checkIndex_8e157 5 = .ok (.iload_n 1, 1) := by decide +kernel
theorem dJ3_checkIndex_8e157_6 : decode cJ3_checkIndex_8e157 6 = .ok (.if_icmp .lt 10, 3) := by decide +kernel
theorem dJ3_checkIndex_8e157_9 : decode cJ3_checkIndex_8e157 9 = .ok (.aload_n 2, 1) := by decide +kernel
theorem dJ3_checkIndex_8e157_10 : decode cJ3_checkIndex_8e157 10 = .ok (.iload_n 0, 1) := by decide +kernel
theorem dJ3_checkIndex_8e157_11 : decode cJ3_checkIndex_8e157 11 = .ok (.iload_n 1, 1) := by decide +kernel
theorem dJ3_checkIndex_8e157_12 : decode cJ3_checkIndex_8e157 12 = .ok (.invokestatic 95, 3) := by decide +kernel
theorem dJ3_checkIndex_8e157_15 : decode cJ3_checkIndex_8e157 15 = .ok (.athrow, 1) := by decide +kernel
theorem dJ3_checkIndex_8e157_16 : decode cJ3_checkIndex_8e157 16 = .ok (.iload_n 0, 1) := by decide +kernel
theorem dJ3_checkIndex_8e157_17 : decode cJ3_checkIndex_8e157 17 = .ok (.ireturn, 1) := by decide +kernel
theorem dL_law_0 : decode cL_law 0 = .ok (.new 7, 3) := by decide +kernel
theorem dL_law_3 : decode cL_law 3 = .ok (.dup, 1) := by decide +kernel
theorem dL_law_4 : decode cL_law 4 = .ok (.invokespecial 9, 3) := by decide +kernel
theorem dL_law_7 : decode cL_law 7 = .ok (.astore_n 1, 1) := by decide +kernel
theorem dL_law_8 : decode cL_law 8 = .ok (.new 10, 3) := by decide +kernel
theorem dL_law_11 : decode cL_law 11 = .ok (.dup, 1) := by decide +kernel
theorem dL_law_12 : decode cL_law 12 = .ok (.invokespecial 12, 3) := by decide +kernel
theorem dL_law_15 : decode cL_law 15 = .ok (.astore_n 2, 1) := by decide +kernel
theorem dL_law_16 : decode cL_law 16 = .ok (.iconst 0, 1) := by decide +kernel
theorem dL_law_17 : decode cL_law 17 = .ok (.istore_n 3, 1) := by decide +kernel
theorem dL_law_18 : decode cL_law 18 = .ok (.iload_n 3, 1) := by decide +kernel
theorem dL_law_19 : decode cL_law 19 = .ok (.aload_n 0, 1) := by decide +kernel
theorem dL_law_20 : decode cL_law 20 = .ok (.arraylength, 1) := by decide +kernel
theorem dL_law_21 : decode cL_law 21 = .ok (.bipush 7, 2) := by decide +kernel
theorem dL_law_23 : decode cL_law 23 = .ok (.isub, 1) := by decide +kernel
theorem dL_law_24 : decode cL_law 24 = .ok (.if_icmp .gt 1305, 3) := by decide +kernel
theorem dL_law_27 : decode cL_law 27 = .ok (.aload_n 0, 1) := by decide +kernel
theorem dL_law_28 : decode cL_law 28 = .ok (.iload_n 3, 1) := by decide +kernel
theorem dL_law_29 : decode cL_law 29 = .ok (.iaload, 1) := by decide +kernel
theorem dL_law_30 : decode cL_law 30 = .ok (.bipush 31, 2) := by decide +kernel
theorem dL_law_32 : decode cL_law 32 = .ok (.iand, 1) := by decide +kernel
theorem dL_law_33 : decode cL_law 33 = .ok (.tableswitch 1290 0 28 #[131, 194, 217, 230, 243, 276, 309, 342, 375, 398, 461, 524, 567, 620, 643, 696, 759, 834, 897, 960, 1013, 1046, 1079, 1132, 1165, 1188, 1221, 1244, 1267], 131) := by decide +kernel
theorem dL_law_164 : decode cL_law 164 = .ok (.aload_n 1, 1) := by decide +kernel
theorem dL_law_165 : decode cL_law 165 = .ok (.aload_n 0, 1) := by decide +kernel
theorem dL_law_166 : decode cL_law 166 = .ok (.iload_n 3, 1) := by decide +kernel
theorem dL_law_167 : decode cL_law 167 = .ok (.iconst 1, 1) := by decide +kernel
theorem dL_law_168 : decode cL_law 168 = .ok (.iadd, 1) := by decide +kernel
theorem dL_law_169 : decode cL_law 169 = .ok (.iaload, 1) := by decide +kernel
theorem dL_law_170 : decode cL_law 170 = .ok (.aload_n 0, 1) := by decide +kernel
theorem dL_law_171 : decode cL_law 171 = .ok (.iload_n 3, 1) := by decide +kernel
theorem dL_law_172 : decode cL_law 172 = .ok (.iconst 2, 1) := by decide +kernel
theorem dL_law_173 : decode cL_law 173 = .ok (.iadd, 1) := by decide +kernel
theorem dL_law_174 : decode cL_law 174 = .ok (.iaload, 1) := by decide +kernel
theorem dL_law_175 : decode cL_law 175 = .ok (.aload_n 0, 1) := by decide +kernel
theorem dL_law_176 : decode cL_law 176 = .ok (.iload_n 3, 1) := by decide +kernel
theorem dL_law_177 : decode cL_law 177 = .ok (.iconst 3, 1) := by decide +kernel
theorem dL_law_178 : decode cL_law 178 = .ok (.iadd, 1) := by decide +kernel
theorem dL_law_179 : decode cL_law 179 = .ok (.iaload, 1) := by decide +kernel
theorem dL_law_180 : decode cL_law 180 = .ok (.aload_n 0, 1) := by decide +kernel
theorem dL_law_181 : decode cL_law 181 = .ok (.iload_n 3, 1) := by decide +kernel
theorem dL_law_182 : decode cL_law 182 = .ok (.iconst 4, 1) := by decide +kernel
theorem dL_law_183 : decode cL_law 183 = .ok (.iadd, 1) := by decide +kernel
theorem dL_law_184 : decode cL_law 184 = .ok (.iaload, 1) := by decide +kernel
theorem dL_law_185 : decode cL_law 185 = .ok (.aload_n 0, 1) := by decide +kernel
theorem dL_law_186 : decode cL_law 186 = .ok (.iload_n 3, 1) := by decide +kernel
theorem dL_law_187 : decode cL_law 187 = .ok (.iconst 5, 1) := by decide +kernel
theorem dL_law_188 : decode cL_law 188 = .ok (.iadd, 1) := by decide +kernel
theorem dL_law_189 : decode cL_law 189 = .ok (.iaload, 1) := by decide +kernel
theorem dL_law_190 : decode cL_law 190 = .ok (.invokevirtual 13, 3) := by decide +kernel
theorem dL_law_193 : decode cL_law 193 = .ok (.aload_n 2, 1) := by decide +kernel
theorem dL_law_194 : decode cL_law 194 = .ok (.aload_n 0, 1) := by decide +kernel
theorem dL_law_195 : decode cL_law 195 = .ok (.iload_n 3, 1) := by decide +kernel
theorem dL_law_196 : decode cL_law 196 = .ok (.iconst 1, 1) := by decide +kernel
theorem dL_law_197 : decode cL_law 197 = .ok (.iadd, 1) := by decide +kernel
theorem dL_law_198 : decode cL_law 198 = .ok (.iaload, 1) := by decide +kernel
theorem dL_law_199 : decode cL_law 199 = .ok (.aload_n 0, 1) := by decide +kernel
theorem dL_law_200 : decode cL_law 200 = .ok (.iload_n 3, 1) := by decide +kernel
theorem dL_law_201 : decode cL_law 201 = .ok (.iconst 2, 1) := by decide +kernel
theorem dL_law_202 : decode cL_law 202 = .ok (.iadd, 1) := by decide +kernel
theorem dL_law_203 : decode cL_law 203 = .ok (.iaload, 1) := by decide +kernel
theorem dL_law_204 : decode cL_law 204 = .ok (.aload_n 0, 1) := by decide +kernel
theorem dL_law_205 : decode cL_law 205 = .ok (.iload_n 3, 1) := by decide +kernel
theorem dL_law_206 : decode cL_law 206 = .ok (.iconst 3, 1) := by decide +kernel
theorem dL_law_207 : decode cL_law 207 = .ok (.iadd, 1) := by decide +kernel
theorem dL_law_208 : decode cL_law 208 = .ok (.iaload, 1) := by decide +kernel
theorem dL_law_209 : decode cL_law 209 = .ok (.aload_n 0, 1) := by decide +kernel
theorem dL_law_210 : decode cL_law 210 = .ok (.iload_n 3, 1) := by decide +kernel
theorem dL_law_211 : decode cL_law 211 = .ok (.iconst 4, 1) := by decide +kernel
theorem dL_law_212 : decode cL_law 212 = .ok (.iadd, 1) := by decide +kernel
theorem dL_law_213 : decode cL_law 213 = .ok (.iaload, 1) := by decide +kernel
theorem dL_law_214 : decode cL_law 214 = .ok (.aload_n 0, 1) := by decide +kernel
theorem dL_law_215 : decode cL_law 215 = .ok (.iload_n 3, 1) := by decide +kernel
theorem dL_law_216 : decode cL_law 216 = .ok (.iconst 5, 1) := by decide +kernel
theorem dL_law_217 : decode cL_law 217 = .ok (.iadd, 1) := by decide +kernel
theorem dL_law_218 : decode cL_law 218 = .ok (.iaload, 1) := by decide +kernel
theorem dL_law_219 : decode cL_law 219 = .ok (.invokevirtual 17, 3) := by decide +kernel
theorem dL_law_222 : decode cL_law 222 = .ok (.if_icmp .eq 1101, 3) := by decide +kernel
theorem dL_law_225 : decode cL_law 225 = .ok (.iconst 0, 1) := by decide +kernel
theorem dL_law_226 : decode cL_law 226 = .ok (.ireturn, 1) := by decide +kernel
theorem dL_law_227 : decode cL_law 227 = .ok (.aload_n 1, 1) := by decide +kernel
theorem dL_law_228 : decode cL_law 228 = .ok (.aload_n 0, 1) := by decide +kernel
theorem dL_law_229 : decode cL_law 229 = .ok (.iload_n 3, 1) := by decide +kernel
theorem dL_law_230 : decode cL_law 230 = .ok (.iconst 1, 1) := by decide +kernel
theorem dL_law_231 : decode cL_law 231 = .ok (.iadd, 1) := by decide +kernel
theorem dL_law_232 : decode cL_law 232 = .ok (.iaload, 1) := by decide +kernel
theorem dL_law_233 : decode cL_law 233 = .ok (.invokevirtual 18, 3) := by decide +kernel
theorem dL_law_236 : decode cL_law 236 = .ok (.aload_n 2, 1) := by decide +kernel
theorem dL_law_237 : decode cL_law 237 = .ok (.aload_n 0, 1) := by decide +kernel
theorem dL_law_238 : decode cL_law 238 = .ok (.iload_n 3, 1) := by decide +kernel
theorem dL_law_239 : decode cL_law 239 = .ok (.iconst 1, 1) := by decide +kernel
theorem dL_law_240 : decode cL_law 240 = .ok (.iadd, 1) := by decide +kernel
theorem dL_law_241 : decode cL_law 241 = .ok (.iaload, 1) := by decide +kernel
theorem dL_law_242 : decode cL_law 242 = .ok (.invokevirtual 22, 3) := by decide +kernel
theorem dL_law_245 : decode cL_law 245 = .ok (.if_icmp .eq 1078, 3) := by decide +kernel
theorem dL_law_248 : decode cL_law 248 = .ok (.iconst 0, 1) := by decide +kernel
theorem dL_law_249 : decode cL_law 249 = .ok (.ireturn, 1) := by decide +kernel
theorem dL_law_250 : decode cL_law 250 = .ok (.aload_n 1, 1) := by decide +kernel
theorem dL_law_251 : decode cL_law 251 = .ok (.invokevirtual 23, 3) := by decide +kernel
theorem dL_law_254 : decode cL_law 254 = .ok (.aload_n 2, 1) := by decide +kernel
theorem dL_law_255 : decode cL_law 255 = .ok (.invokevirtual 27, 3) := by decide +kernel
theorem dL_law_258 : decode cL_law 258 = .ok (.if_icmp .eq 1065, 3) := by decide +kernel
theorem dL_law_261 : decode cL_law 261 = .ok (.iconst 0, 1) := by decide +kernel
theorem dL_law_262 : decode cL_law 262 = .ok (.ireturn, 1) := by decide +kernel
theorem dL_law_263 : decode cL_law 263 = .ok (.aload_n 1, 1) := by decide +kernel
theorem dL_law_264 : decode cL_law 264 = .ok (.invokevirtual 28, 3) := by decide +kernel
theorem dL_law_267 : decode cL_law 267 = .ok (.aload_n 2, 1) := by decide +kernel
theorem dL_law_268 : decode cL_law 268 = .ok (.invokevirtual 31, 3) := by decide +kernel
theorem dL_law_271 : decode cL_law 271 = .ok (.if_icmp .eq 1052, 3) := by decide +kernel
theorem dL_law_274 : decode cL_law 274 = .ok (.iconst 0, 1) := by decide +kernel
theorem dL_law_275 : decode cL_law 275 = .ok (.ireturn, 1) := by decide +kernel
theorem dL_law_276 : decode cL_law 276 = .ok (.aload_n 1, 1) := by decide +kernel
theorem dL_law_277 : decode cL_law 277 = .ok (.aload_n 0, 1) := by decide +kernel
theorem dL_law_278 : decode cL_law 278 = .ok (.iload_n 3, 1) := by decide +kernel
theorem dL_law_279 : decode cL_law 279 = .ok (.iconst 1, 1) := by decide +kernel
theorem dL_law_280 : decode cL_law 280 = .ok (.iadd, 1) := by decide +kernel
theorem dL_law_281 : decode cL_law 281 = .ok (.iaload, 1) := by decide +kernel
theorem dL_law_282 : decode cL_law 282 = .ok (.aload_n 0, 1) := by decide +kernel
theorem dL_law_283 : decode cL_law 283 = .ok (.iload_n 3, 1) := by decide +kernel
theorem dL_law_284 : decode cL_law 284 = .ok (.iconst 2, 1) := by decide +kernel
theorem dL_law_285 : decode cL_law 285 = .ok (.iadd, 1) := by decide +kernel
theorem dL_law_286 : decode cL_law 286 = .ok (.iaload, 1) := by decide +kernel
theorem dL_law_287 : decode cL_law 287 = .ok (.invokevirtual 32, 3) := by decide +kernel
theorem dL_law_290 : decode cL_law 290 = .ok (.aload_n 2, 1) := by decide +kernel
theorem dL_law_291 : decode cL_law 291 = .ok (.aload_n 0, 1) := by decide +kernel
theorem dL_law_292 : decode cL_law 292 = .ok (.iload_n 3, 1) := by decide +kernel
theorem dL_law_293 : decode cL_law 293 = .ok (.iconst 1, 1) := by decide +kernel
theorem dL_law_294 : decode cL_law 294 = .ok (.iadd, 1) := by decide +kernel
theorem dL_law_295 : decode cL_law 295 = .ok (.iaload, 1) := by decide +kernel
theorem dL_law_296 : decode cL_law 296 = .ok (.aload_n 0, 1) := by decide +kernel
theorem dL_law_297 : decode cL_law 297 = .ok (.iload_n 3, 1) := by decide +kernel
theorem dL_law_298 : decode cL_law 298 = .ok (.iconst 2, 1) := by decide +kernel
theorem dL_law_299 : decode cL_law 299 = .ok (.iadd, 1) := by decide +kernel
theorem dL_law_300 : decode cL_law 300 = .ok (.iaload, 1) := by decide +kernel
theorem dL_law_301 : decode cL_law 301 = .ok (.invokevirtual 36, 3) := by decide +kernel
theorem dL_law_304 : decode cL_law 304 = .ok (.if_icmp .eq 1019, 3) := by decide +kernel
theorem dL_law_307 : decode cL_law 307 = .ok (.iconst 0, 1) := by decide +kernel
theorem dL_law_308 : decode cL_law 308 = .ok (.ireturn, 1) := by decide +kernel
theorem dL_law_309 : decode cL_law 309 = .ok (.aload_n 1, 1) := by decide +kernel
theorem dL_law_310 : decode cL_law 310 = .ok (.aload_n 0, 1) := by decide +kernel
theorem dL_law_311 : decode cL_law 311 = .ok (.iload_n 3, 1) := by decide +kernel
theorem dL_law_312 : decode cL_law 312 = .ok (.iconst 1, 1) := by decide +kernel
theorem dL_law_313 : decode cL_law 313 = .ok (.iadd, 1) := by decide +kernel
theorem dL_law_314 : decode cL_law 314 = .ok (.iaload, 1) := by decide +kernel
theorem dL_law_315 : decode cL_law 315 = .ok (.aload_n 0, 1) := by decide +kernel
theorem dL_law_316 : decode cL_law 316 = .ok (.iload_n 3, 1) := by decide +kernel
theorem dL_law_317 : decode cL_law 317 = .ok (.iconst 2, 1) := by decide +kernel
theorem dL_law_318 : decode cL_law 318 = .ok (.iadd, 1) := by decide +kernel
theorem dL_law_319 : decode cL_law 319 = .ok (.iaload, 1) := by decide +kernel
theorem dL_law_320 : decode cL_law 320 = .ok (.invokevirtual 37, 3) := by decide +kernel
theorem dL_law_323 : decode cL_law 323 = .ok (.aload_n 2, 1) := by decide +kernel
theorem dL_law_324 : decode cL_law 324 = .ok (.aload_n 0, 1) := by decide +kernel
theorem dL_law_325 : decode cL_law 325 = .ok (.iload_n 3, 1) := by decide +kernel
theorem dL_law_326 : decode cL_law 326 = .ok (.iconst 1, 1) := by decide +kernel
theorem dL_law_327 : decode cL_law 327 = .ok (.iadd, 1) := by decide +kernel
theorem dL_law_328 : decode cL_law 328 = .ok (.iaload, 1) := by decide +kernel
theorem dL_law_329 : decode cL_law 329 = .ok (.aload_n 0, 1) := by decide +kernel
theorem dL_law_330 : decode cL_law 330 = .ok (.iload_n 3, 1) := by decide +kernel
theorem dL_law_331 : decode cL_law 331 = .ok (.iconst 2, 1) := by decide +kernel
theorem dL_law_332 : decode cL_law 332 = .ok (.iadd, 1) := by decide +kernel
theorem dL_law_333 : decode cL_law 333 = .ok (.iaload, 1) := by decide +kernel
theorem dL_law_334 : decode cL_law 334 = .ok (.invokevirtual 40, 3) := by decide +kernel
theorem dL_law_337 : decode cL_law 337 = .ok (.if_icmp .eq 986, 3) := by decide +kernel
theorem dL_law_340 : decode cL_law 340 = .ok (.iconst 0, 1) := by decide +kernel
theorem dL_law_341 : decode cL_law 341 = .ok (.ireturn, 1) := by decide +kernel
theorem dL_law_342 : decode cL_law 342 = .ok (.aload_n 1, 1) := by decide +kernel
theorem dL_law_343 : decode cL_law 343 = .ok (.aload_n 0, 1) := by decide +kernel
theorem dL_law_344 : decode cL_law 344 = .ok (.iload_n 3, 1) := by decide +kernel
theorem dL_law_345 : decode cL_law 345 = .ok (.iconst 1, 1) := by decide +kernel
theorem dL_law_346 : decode cL_law 346 = .ok (.iadd, 1) := by decide +kernel
theorem dL_law_347 : decode cL_law 347 = .ok (.iaload, 1) := by decide +kernel
theorem dL_law_348 : decode cL_law 348 = .ok (.aload_n 0, 1) := by decide +kernel
theorem dL_law_349 : decode cL_law 349 = .ok (.iload_n 3, 1) := by decide +kernel
theorem dL_law_350 : decode cL_law 350 = .ok (.iconst 2, 1) := by decide +kernel
theorem dL_law_351 : decode cL_law 351 = .ok (.iadd, 1) := by decide +kernel
theorem dL_law_352 : decode cL_law 352 = .ok (.iaload, 1) := by decide +kernel
theorem dL_law_353 : decode cL_law 353 = .ok (.invokevirtual 41, 3) := by decide +kernel
theorem dL_law_356 : decode cL_law 356 = .ok (.aload_n 2, 1) := by decide +kernel
theorem dL_law_357 : decode cL_law 357 = .ok (.aload_n 0, 1) := by decide +kernel
theorem dL_law_358 : decode cL_law 358 = .ok (.iload_n 3, 1) := by decide +kernel
theorem dL_law_359 : decode cL_law 359 = .ok (.iconst 1, 1) := by decide +kernel
theorem dL_law_360 : decode cL_law 360 = .ok (.iadd, 1) := by decide +kernel
theorem dL_law_361 : decode cL_law 361 = .ok (.iaload, 1) := by decide +kernel
theorem dL_law_362 : decode cL_law 362 = .ok (.aload_n 0, 1) := by decide +kernel
theorem dL_law_363 : decode cL_law 363 = .ok (.iload_n 3, 1) := by decide +kernel
theorem dL_law_364 : decode cL_law 364 = .ok (.iconst 2, 1) := by decide +kernel
theorem dL_law_365 : decode cL_law 365 = .ok (.iadd, 1) := by decide +kernel
theorem dL_law_366 : decode cL_law 366 = .ok (.iaload, 1) := by decide +kernel
theorem dL_law_367 : decode cL_law 367 = .ok (.invokevirtual 44, 3) := by decide +kernel
theorem dL_law_370 : decode cL_law 370 = .ok (.if_icmp .eq 953, 3) := by decide +kernel
theorem dL_law_373 : decode cL_law 373 = .ok (.iconst 0, 1) := by decide +kernel
theorem dL_law_374 : decode cL_law 374 = .ok (.ireturn, 1) := by decide +kernel
theorem dL_law_375 : decode cL_law 375 = .ok (.aload_n 1, 1) := by decide +kernel
theorem dL_law_376 : decode cL_law 376 = .ok (.aload_n 0, 1) := by decide +kernel
theorem dL_law_377 : decode cL_law 377 = .ok (.iload_n 3, 1) := by decide +kernel
theorem dL_law_378 : decode cL_law 378 = .ok (.iconst 1, 1) := by decide +kernel
theorem dL_law_379 : decode cL_law 379 = .ok (.iadd, 1) := by decide +kernel
theorem dL_law_380 : decode cL_law 380 = .ok (.iaload, 1) := by decide +kernel
theorem dL_law_381 : decode cL_law 381 = .ok (.aload_n 0, 1) := by decide +kernel
theorem dL_law_382 : decode cL_law 382 = .ok (.iload_n 3, 1) := by decide +kernel
theorem dL_law_383 : decode cL_law 383 = .ok (.iconst 2, 1) := by decide +kernel
theorem dL_law_384 : decode cL_law 384 = .ok (.iadd, 1) := by decide +kernel
theorem dL_law_385 : decode cL_law 385 = .ok (.iaload, 1) := by decide +kernel
theorem dL_law_386 : decode cL_law 386 = .ok (.invokevirtual 45, 3) := by decide +kernel
theorem dL_law_389 : decode cL_law 389 = .ok (.aload_n 2, 1) := by decide +kernel
theorem dL_law_390 : decode cL_law 390 = .ok (.aload_n 0, 1) := by decide +kernel
theorem dL_law_391 : decode cL_law 391 = .ok (.iload_n 3, 1) := by decide +kernel
theorem dL_law_392 : decode cL_law 392 = .ok (.iconst 1, 1) := by decide +kernel
theorem dL_law_393 : decode cL_law 393 = .ok (.iadd, 1) := by decide +kernel
theorem dL_law_394 : decode cL_law 394 = .ok (.iaload, 1) := by decide +kernel
theorem dL_law_395 : decode cL_law 395 = .ok (.aload_n 0, 1) := by decide +kernel
theorem dL_law_396 : decode cL_law 396 = .ok (.iload_n 3, 1) := by decide +kernel
theorem dL_law_397 : decode cL_law 397 = .ok (.iconst 2, 1) := by decide +kernel
theorem dL_law_398 : decode cL_law 398 = .ok (.iadd, 1) := by decide +kernel
theorem dL_law_399 : decode cL_law 399 = .ok (.iaload, 1) := by decide +kernel
theorem dL_law_400 : decode cL_law 400 = .ok (.invokevirtual 48, 3) := by decide +kernel
theorem dL_law_403 : decode cL_law 403 = .ok (.if_icmp .eq 920, 3) := by decide +kernel
theorem dL_law_406 : decode cL_law 406 = .ok (.iconst 0, 1) := by decide +kernel
theorem dL_law_407 : decode cL_law 407 = .ok (.ireturn, 1) := by decide +kernel
theorem dL_law_408 : decode cL_law 408 = .ok (.aload_n 1, 1) := by decide +kernel
theorem dL_law_409 : decode cL_law 409 = .ok (.aload_n 0, 1) := by decide +kernel
theorem dL_law_410 : decode cL_law 410 = .ok (.iload_n 3, 1) := by decide +kernel
theorem dL_law_411 : decode cL_law 411 = .ok (.iconst 1, 1) := by decide +kernel
theorem dL_law_412 : decode cL_law 412 = .ok (.iadd, 1) := by decide +kernel
theorem dL_law_413 : decode cL_law 413 = .ok (.iaload, 1) := by decide +kernel
theorem dL_law_414 : decode cL_law 414 = .ok (.invokevirtual 49, 3) := by decide +kernel
theorem dL_law_417 : decode cL_law 417 = .ok (.aload_n 2, 1) := by decide +kernel
theorem dL_law_418 : decode cL_law 418 = .ok (.aload_n 0, 1) := by decide +kernel
theorem dL_law_419 : decode cL_law 419 = .ok (.iload_n 3, 1) := by decide +kernel
theorem dL_law_420 : decode cL_law 420 = .ok (.iconst 1, 1) := by decide +kernel
theorem dL_law_421 : decode cL_law 421 = .ok (.iadd, 1) := by decide +kernel
theorem dL_law_422 : decode cL_law 422 = .ok (.iaload, 1) := by decide +kernel
theorem dL_law_423 : decode cL_law 423 = .ok (.invokevirtual 52, 3) := by decide +kernel
theorem dL_law_426 : decode cL_law 426 = .ok (.if_icmp .eq 897, 3) := by decide +kernel
theorem dL_law_429 : decode cL_law 429 = .ok (.iconst 0, 1) := by decide +kernel
theorem dL_law_430 : decode cL_law 430 = .ok (.ireturn, 1) := by decide +kernel
theorem dL_law_431 : decode cL_law 431 = .ok (.aload_n 1, 1) := by decide +kernel
theorem dL_law_432 : decode cL_law 432 = .ok (.aload_n 0, 1) := by decide +kernel
theorem dL_law_433 : decode cL_law 433 = .ok (.iload_n 3, 1) := by decide +kernel
theorem dL_law_434 : decode cL_law 434 = .ok (.iconst 1, 1) := by decide +kernel
theorem dL_law_435 : decode cL_law 435 = .ok (.iadd, 1) := by decide +kernel
theorem dL_law_436 : decode cL_law 436 = .ok (.iaload, 1) := by decide +kernel
theorem dL_law_437 : decode cL_law 437 = .ok (.aload_n 0, 1) := by decide +kernel
theorem dL_law_438 : decode cL_law 438 = .ok (.iload_n 3, 1) := by decide +kernel
theorem dL_law_439 : decode cL_law 439 = .ok (.iconst 2, 1) := by decide +kernel
theorem dL_law_440 : decode cL_law 440 = .ok (.iadd, 1) := by decide +kernel
theorem dL_law_441 : decode cL_law 441 = .ok (.iaload, 1) := by decide +kernel
theorem dL_law_442 : decode cL_law 442 = .ok (.aload_n 0, 1) := by decide +kernel
theorem dL_law_443 : decode cL_law 443 = .ok (.iload_n 3, 1) := by decide +kernel
theorem dL_law_444 : decode cL_law 444 = .ok (.iconst 3, 1) := by decide +kernel
theorem dL_law_445 : decode cL_law 445 = .ok (.iadd, 1) := by decide +kernel
theorem dL_law_446 : decode cL_law 446 = .ok (.iaload, 1) := by decide +kernel
theorem dL_law_447 : decode cL_law 447 = .ok (.aload_n 0, 1) := by decide +kernel
theorem dL_law_448 : decode cL_law 448 = .ok (.iload_n 3, 1) := by decide +kernel
theorem dL_law_449 : decode cL_law 449 = .ok (.iconst 4, 1) := by decide +kernel
theorem dL_law_450 : decode cL_law 450 = .ok (.iadd, 1) := by decide +kernel
theorem dL_law_451 : decode cL_law 451 = .ok (.iaload, 1) := by decide +kernel
theorem dL_law_452 : decode cL_law 452 = .ok (.aload_n 0, 1) := by decide +kernel
theorem dL_law_453 : decode cL_law 453 = .ok (.iload_n 3, 1) := by decide +kernel
theorem dL_law_454 : decode cL_law 454 = .ok (.iconst 5, 1) := by decide +kernel
theorem dL_law_455 : decode cL_law 455 = .ok (.iadd, 1) := by decide +kernel
theorem dL_law_456 : decode cL_law 456 = .ok (.iaload, 1) := by decide +kernel
theorem dL_law_457 : decode cL_law 457 = .ok (.invokevirtual 53, 3) := by decide +kernel
theorem dL_law_460 : decode cL_law 460 = .ok (.aload_n 2, 1) := by decide +kernel
theorem dL_law_461 : decode cL_law 461 = .ok (.aload_n 0, 1) := by decide +kernel
theorem dL_law_462 : decode cL_law 462 = .ok (.iload_n 3, 1) := by decide +kernel
theorem dL_law_463 : decode cL_law 463 = .ok (.iconst 1, 1) := by decide +kernel
theorem dL_law_464 : decode cL_law 464 = .ok (.iadd, 1) := by decide +kernel
theorem dL_law_465 : decode cL_law 465 = .ok (.iaload, 1) := by decide +kernel
theorem dL_law_466 : decode cL_law 466 = .ok (.aload_n 0, 1) := by decide +kernel
theorem dL_law_467 : decode cL_law 467 = .ok (.iload_n 3, 1) := by decide +kernel
theorem dL_law_468 : decode cL_law 468 = .ok (.iconst 2, 1) := by decide +kernel
theorem dL_law_469 : decode cL_law 469 = .ok (.iadd, 1) := by decide +kernel
theorem dL_law_470 : decode cL_law 470 = .ok (.iaload, 1) := by decide +kernel
theorem dL_law_471 : decode cL_law 471 = .ok (.aload_n 0, 1) := by decide +kernel
theorem dL_law_472 : decode cL_law 472 = .ok (.iload_n 3, 1) := by decide +kernel
theorem dL_law_473 : decode cL_law 473 = .ok (.iconst 3, 1) := by decide +kernel
theorem dL_law_474 : decode cL_law 474 = .ok (.iadd, 1) := by decide +kernel
theorem dL_law_475 : decode cL_law 475 = .ok (.iaload, 1) := by decide +kernel
theorem dL_law_476 : decode cL_law 476 = .ok (.aload_n 0, 1) := by decide +kernel
theorem dL_law_477 : decode cL_law 477 = .ok (.iload_n 3, 1) := by decide +kernel
theorem dL_law_478 : decode cL_law 478 = .ok (.iconst 4, 1) := by decide +kernel
theorem dL_law_479 : decode cL_law 479 = .ok (.iadd, 1) := by decide +kernel
theorem dL_law_480 : decode cL_law 480 = .ok (.iaload, 1) := by decide +kernel
theorem dL_law_481 : decode cL_law 481 = .ok (.aload_n 0, 1) := by decide +kernel
theorem dL_law_482 : decode cL_law 482 = .ok (.iload_n 3, 1) := by decide +kernel
theorem dL_law_483 : decode cL_law 483 = .ok (.iconst 5, 1) := by decide +kernel
theorem dL_law_484 : decode cL_law 484 = .ok (.iadd, 1) := by decide +kernel
theorem dL_law_485 : decode cL_law 485 = .ok (.iaload, 1) := by decide +kernel
theorem dL_law_486 : decode cL_law 486 = .ok (.invokevirtual 56, 3) := by decide +kernel
theorem dL_law_489 : decode cL_law 489 = .ok (.if_icmp .eq 834, 3) := by decide +kernel
theorem dL_law_492 : decode cL_law 492 = .ok (.iconst 0, 1) := by decide +kernel
theorem dL_law_493 : decode cL_law 493 = .ok (.ireturn, 1) := by decide +kernel
theorem dL_law_494 : decode cL_law 494 = .ok (.aload_n 1, 1) := by decide +kernel
theorem dL_law_495 : decode cL_law 495 = .ok (.aload_n 0, 1) := by decide +kernel
theorem dL_law_496 : decode cL_law 496 = .ok (.iload_n 3, 1) := by decide +kernel
theorem dL_law_497 : decode cL_law 497 = .ok (.iconst 1, 1) := by decide +kernel
theorem dL_law_498 : decode cL_law 498 = .ok (.iadd, 1) := by decide +kernel
theorem dL_law_499 : decode cL_law 499 = .ok (.iaload, 1) := by decide +kernel
theorem dL_law_500 : decode cL_law 500 = .ok (.aload_n 0, 1) := by decide +kernel
theorem dL_law_501 : decode cL_law 501 = .ok (.iload_n 3, 1) := by decide +kernel
theorem dL_law_502 : decode cL_law 502 = .ok (.iconst 2, 1) := by decide +kernel
theorem dL_law_503 : decode cL_law 503 = .ok (.iadd, 1) := by decide +kernel
theorem dL_law_504 : decode cL_law 504 = .ok (.iaload, 1) := by decide +kernel
theorem dL_law_505 : decode cL_law 505 = .ok (.aload_n 0, 1) := by decide +kernel
theorem dL_law_506 : decode cL_law 506 = .ok (.iload_n 3, 1) := by decide +kernel
theorem dL_law_507 : decode cL_law 507 = .ok (.iconst 3, 1) := by decide +kernel
theorem dL_law_508 : decode cL_law 508 = .ok (.iadd, 1) := by decide +kernel
theorem dL_law_509 : decode cL_law 509 = .ok (.iaload, 1) := by decide +kernel
theorem dL_law_510 : decode cL_law 510 = .ok (.aload_n 0, 1) := by decide +kernel
theorem dL_law_511 : decode cL_law 511 = .ok (.iload_n 3, 1) := by decide +kernel
theorem dL_law_512 : decode cL_law 512 = .ok (.iconst 4, 1) := by decide +kernel
theorem dL_law_513 : decode cL_law 513 = .ok (.iadd, 1) := by decide +kernel
theorem dL_law_514 : decode cL_law 514 = .ok (.iaload, 1) := by decide +kernel
theorem dL_law_515 : decode cL_law 515 = .ok (.aload_n 0, 1) := by decide +kernel
theorem dL_law_516 : decode cL_law 516 = .ok (.iload_n 3, 1) := by decide +kernel
theorem dL_law_517 : decode cL_law 517 = .ok (.iconst 5, 1) := by decide +kernel
theorem dL_law_518 : decode cL_law 518 = .ok (.iadd, 1) := by decide +kernel
theorem dL_law_519 : decode cL_law 519 = .ok (.iaload, 1) := by decide +kernel
theorem dL_law_520 : decode cL_law 520 = .ok (.invokevirtual 57, 3) := by decide +kernel
theorem dL_law_523 : decode cL_law 523 = .ok (.aload_n 2, 1) := by decide +kernel
theorem dL_law_524 : decode cL_law 524 = .ok (.aload_n 0, 1) := by decide +kernel
theorem dL_law_525 : decode cL_law 525 = .ok (.iload_n 3, 1) := by decide +kernel
theorem dL_law_526 : decode cL_law 526 = .ok (.iconst 1, 1) := by decide +kernel
theorem dL_law_527 : decode cL_law 527 = .ok (.iadd, 1) := by decide +kernel
theorem dL_law_528 : decode cL_law 528 = .ok (.iaload, 1) := by decide +kernel
theorem dL_law_529 : decode cL_law 529 = .ok (.aload_n 0, 1) := by decide +kernel
theorem dL_law_530 : decode cL_law 530 = .ok (.iload_n 3, 1) := by decide +kernel
theorem dL_law_531 : decode cL_law 531 = .ok (.iconst 2, 1) := by decide +kernel
theorem dL_law_532 : decode cL_law 532 = .ok (.iadd, 1) := by decide +kernel
theorem dL_law_533 : decode cL_law 533 = .ok (.iaload, 1) := by decide +kernel
theorem dL_law_534 : decode cL_law 534 = .ok (.aload_n 0, 1) := by decide +kernel
theorem dL_law_535 : decode cL_law 535 = .ok (.iload_n 3, 1) := by decide +kernel
theorem dL_law_536 : decode cL_law 536 = .ok (.iconst 3, 1) := by decide +kernel
theorem dL_law_537 : decode cL_law 537 = .ok (.iadd, 1) := by decide +kernel
theorem dL_law_538 : decode cL_law 538 = .ok (.iaload, 1) := by decide +kernel
theorem dL_law_539 : decode cL_law 539 = .ok (.aload_n 0, 1) := by decide +kernel
theorem dL_law_540 : decode cL_law 540 = .ok (.iload_n 3, 1) := by decide +kernel
theorem dL_law_541 : decode cL_law 541 = .ok (.iconst 4, 1) := by decide +kernel
theorem dL_law_542 : decode cL_law 542 = .ok (.iadd, 1) := by decide +kernel
theorem dL_law_543 : decode cL_law 543 = .ok (.iaload, 1) := by decide +kernel
theorem dL_law_544 : decode cL_law 544 = .ok (.aload_n 0, 1) := by decide +kernel
theorem dL_law_545 : decode cL_law 545 = .ok (.iload_n 3, 1) := by decide +kernel
theorem dL_law_546 : decode cL_law 546 = .ok (.iconst 5, 1) := by decide +kernel
theorem dL_law_547 : decode cL_law 547 = .ok (.iadd, 1) := by decide +kernel
theorem dL_law_548 : decode cL_law 548 = .ok (.iaload, 1) := by decide +kernel
theorem dL_law_549 : decode cL_law 549 = .ok (.invokevirtual 60, 3) := by decide +kernel
theorem dL_law_552 : decode cL_law 552 = .ok (.if_icmp .eq 771, 3) := by decide +kernel
theorem dL_law_555 : decode cL_law 555 = .ok (.iconst 0, 1) := by decide +kernel
theorem dL_law_556 : decode cL_law 556 = .ok (.ireturn, 1) := by decide +kernel
theorem dL_law_557 : decode cL_law 557 = .ok (.aload_n 1, 1) := by decide +kernel
theorem dL_law_558 : decode cL_law 558 = .ok (.aload_n 0, 1) := by decide +kernel
theorem dL_law_559 : decode cL_law 559 = .ok (.iload_n 3, 1) := by decide +kernel
theorem dL_law_560 : decode cL_law 560 = .ok (.iconst 1, 1) := by decide +kernel
theorem dL_law_561 : decode cL_law 561 = .ok (.iadd, 1) := by decide +kernel
theorem dL_law_562 : decode cL_law 562 = .ok (.iaload, 1) := by decide +kernel
theorem dL_law_563 : decode cL_law 563 = .ok (.aload_n 0, 1) := by decide +kernel
theorem dL_law_564 : decode cL_law 564 = .ok (.iload_n 3, 1) := by decide +kernel
theorem dL_law_565 : decode cL_law 565 = .ok (.iconst 2, 1) := by decide +kernel
theorem dL_law_566 : decode cL_law 566 = .ok (.iadd, 1) := by decide +kernel
theorem dL_law_567 : decode cL_law 567 = .ok (.iaload, 1) := by decide +kernel
theorem dL_law_568 : decode cL_law 568 = .ok (.aload_n 0, 1) := by decide +kernel
theorem dL_law_569 : decode cL_law 569 = .ok (.iload_n 3, 1) := by decide +kernel
theorem dL_law_570 : decode cL_law 570 = .ok (.iconst 3, 1) := by decide +kernel
theorem dL_law_571 : decode cL_law 571 = .ok (.iadd, 1) := by decide +kernel
theorem dL_law_572 : decode cL_law 572 = .ok (.iaload, 1) := by decide +kernel
theorem dL_law_573 : decode cL_law 573 = .ok (.invokevirtual 61, 3) := by decide +kernel
theorem dL_law_576 : decode cL_law 576 = .ok (.aload_n 2, 1) := by decide +kernel
theorem dL_law_577 : decode cL_law 577 = .ok (.aload_n 0, 1) := by decide +kernel
theorem dL_law_578 : decode cL_law 578 = .ok (.iload_n 3, 1) := by decide +kernel
theorem dL_law_579 : decode cL_law 579 = .ok (.iconst 1, 1) := by decide +kernel
theorem dL_law_580 : decode cL_law 580 = .ok (.iadd, 1) := by decide +kernel
theorem dL_law_581 : decode cL_law 581 = .ok (.iaload, 1) := by decide +kernel
theorem dL_law_582 : decode cL_law 582 = .ok (.aload_n 0, 1) := by decide +kernel
theorem dL_law_583 : decode cL_law 583 = .ok (.iload_n 3, 1) := by decide +kernel
theorem dL_law_584 : decode cL_law 584 = .ok (.iconst 2, 1) := by decide +kernel
theorem dL_law_585 : decode cL_law 585 = .ok (.iadd, 1) := by decide +kernel
theorem dL_law_586 : decode cL_law 586 = .ok (.iaload, 1) := by decide +kernel
theorem dL_law_587 : decode cL_law 587 = .ok (.aload_n 0, 1) := by decide +kernel
theorem dL_law_588 : decode cL_law 588 = .ok (.iload_n 3, 1) := by decide +kernel
theorem dL_law_589 : decode cL_law 589 = .ok (.iconst 3, 1) := by decide +kernel
theorem dL_law_590 : decode cL_law 590 = .ok (.iadd, 1) := by decide +kernel
theorem dL_law_591 : decode cL_law 591 = .ok (.iaload, 1) := by decide +kernel
theorem dL_law_592 : decode cL_law 592 = .ok (.invokevirtual 65, 3) := by decide +kernel
theorem dL_law_595 : decode cL_law 595 = .ok (.if_icmp .eq 728, 3) := by decide +kernel
theorem dL_law_598 : decode cL_law 598 = .ok (.iconst 0, 1) := by decide +kernel
theorem dL_law_599 : decode cL_law 599 = .ok (.ireturn, 1) := by decide +kernel
theorem dL_law_600 : decode cL_law 600 = .ok (.aload_n 1, 1) := by decide +kernel
theorem dL_law_601 : decode cL_law 601 = .ok (.aload_n 0, 1) := by decide +kernel
theorem dL_law_602 : decode cL_law 602 = .ok (.iload_n 3, 1) := by decide +kernel
theorem dL_law_603 : decode cL_law 603 = .ok (.iconst 1, 1) := by decide +kernel
theorem dL_law_604 : decode cL_law 604 = .ok (.iadd, 1) := by decide +kernel
theorem dL_law_605 : decode cL_law 605 = .ok (.iaload, 1) := by decide +kernel
theorem dL_law_606 : decode cL_law 606 = .ok (.aload_n 0, 1) := by decide +kernel
theorem dL_law_607 : decode cL_law 607 = .ok (.iload_n 3, 1) := by decide +kernel
theorem dL_law_608 : decode cL_law 608 = .ok (.iconst 2, 1) := by decide +kernel
theorem dL_law_609 : decode cL_law 609 = .ok (.iadd, 1) := by decide +kernel
theorem dL_law_610 : decode cL_law 610 = .ok (.iaload, 1) := by decide +kernel
theorem dL_law_611 : decode cL_law 611 = .ok (.aload_n 0, 1) := by decide +kernel
theorem dL_law_612 : decode cL_law 612 = .ok (.iload_n 3, 1) := by decide +kernel
theorem dL_law_613 : decode cL_law 613 = .ok (.iconst 3, 1) := by decide +kernel
theorem dL_law_614 : decode cL_law 614 = .ok (.iadd, 1) := by decide +kernel
theorem dL_law_615 : decode cL_law 615 = .ok (.iaload, 1) := by decide +kernel
theorem dL_law_616 : decode cL_law 616 = .ok (.aload_n 0, 1) := by decide +kernel
theorem dL_law_617 : decode cL_law 617 = .ok (.iload_n 3, 1) := by decide +kernel
theorem dL_law_618 : decode cL_law 618 = .ok (.iconst 4, 1) := by decide +kernel
theorem dL_law_619 : decode cL_law 619 = .ok (.iadd, 1) := by decide +kernel
theorem dL_law_620 : decode cL_law 620 = .ok (.iaload, 1) := by decide +kernel
theorem dL_law_621 : decode cL_law 621 = .ok (.invokevirtual 66, 3) := by decide +kernel
theorem dL_law_624 : decode cL_law 624 = .ok (.aload_n 2, 1) := by decide +kernel
theorem dL_law_625 : decode cL_law 625 = .ok (.aload_n 0, 1) := by decide +kernel
theorem dL_law_626 : decode cL_law 626 = .ok (.iload_n 3, 1) := by decide +kernel
theorem dL_law_627 : decode cL_law 627 = .ok (.iconst 1, 1) := by decide +kernel
theorem dL_law_628 : decode cL_law 628 = .ok (.iadd, 1) := by decide +kernel
theorem dL_law_629 : decode cL_law 629 = .ok (.iaload, 1) := by decide +kernel
theorem dL_law_630 : decode cL_law 630 = .ok (.aload_n 0, 1) := by decide +kernel
theorem dL_law_631 : decode cL_law 631 = .ok (.iload_n 3, 1) := by decide +kernel
theorem dL_law_632 : decode cL_law 632 = .ok (.iconst 2, 1) := by decide +kernel
theorem dL_law_633 : decode cL_law 633 = .ok (.iadd, 1) := by decide +kernel
theorem dL_law_634 : decode cL_law 634 = .ok (.iaload, 1) := by decide +kernel
theorem dL_law_635 : decode cL_law 635 = .ok (.aload_n 0, 1) := by decide +kernel
theorem dL_law_636 : decode cL_law 636 = .ok (.iload_n 3, 1) := by decide +kernel
theorem dL_law_637 : decode cL_law 637 = .ok (.iconst 3, 1) := by decide +kernel
theorem dL_law_638 : decode cL_law 638 = .ok (.iadd, 1) := by decide +kernel
theorem dL_law_639 : decode cL_law 639 = .ok (.iaload, 1) := by decide +kernel
theorem dL_law_640 : decode cL_law 640 = .ok (.aload_n 0, 1) := by decide +kernel
theorem dL_law_641 : decode cL_law 641 = .ok (.iload_n 3, 1) := by decide +kernel
theorem dL_law_642 : decode cL_law 642 = .ok (.iconst 4, 1) := by decide +kernel
theorem dL_law_643 : decode cL_law 643 = .ok (.iadd, 1) := by decide +kernel
theorem dL_law_644 : decode cL_law 644 = .ok (.iaload, 1) := by decide +kernel
theorem dL_law_645 : decode cL_law 645 = .ok (.invokevirtual 70, 3) := by decide +kernel
theorem dL_law_648 : decode cL_law 648 = .ok (.if_icmp .eq 675, 3) := by decide +kernel
theorem dL_law_651 : decode cL_law 651 = .ok (.iconst 0, 1) := by decide +kernel
theorem dL_law_652 : decode cL_law 652 = .ok (.ireturn, 1) := by decide +kernel
theorem dL_law_653 : decode cL_law 653 = .ok (.aload_n 1, 1) := by decide +kernel
theorem dL_law_654 : decode cL_law 654 = .ok (.aload_n 0, 1) := by decide +kernel
theorem dL_law_655 : decode cL_law 655 = .ok (.iload_n 3, 1) := by decide +kernel
theorem dL_law_656 : decode cL_law 656 = .ok (.iconst 1, 1) := by decide +kernel
theorem dL_law_657 : decode cL_law 657 = .ok (.iadd, 1) := by decide +kernel
theorem dL_law_658 : decode cL_law 658 = .ok (.iaload, 1) := by decide +kernel
theorem dL_law_659 : decode cL_law 659 = .ok (.invokevirtual 71, 3) := by decide +kernel
theorem dL_law_662 : decode cL_law 662 = .ok (.aload_n 2, 1) := by decide +kernel
theorem dL_law_663 : decode cL_law 663 = .ok (.aload_n 0, 1) := by decide +kernel
theorem dL_law_664 : decode cL_law 664 = .ok (.iload_n 3, 1) := by decide +kernel
theorem dL_law_665 : decode cL_law 665 = .ok (.iconst 1, 1) := by decide +kernel
theorem dL_law_666 : decode cL_law 666 = .ok (.iadd, 1) := by decide +kernel
theorem dL_law_667 : decode cL_law 667 = .ok (.iaload, 1) := by decide +kernel
theorem dL_law_668 : decode cL_law 668 = .ok (.invokevirtual 74, 3) := by decide +kernel
theorem dL_law_671 : decode cL_law 671 = .ok (.if_icmp .eq 652, 3) := by decide +kernel
theorem dL_law_674 : decode cL_law 674 = .ok (.iconst 0, 1) := by decide +kernel
theorem dL_law_675 : decode cL_law 675 = .ok (.ireturn, 1) := by decide +kernel
theorem dL_law_676 : decode cL_law 676 = .ok (.aload_n 1, 1) := by decide +kernel
theorem dL_law_677 : decode cL_law 677 = .ok (.aload_n 0, 1) := by decide +kernel
theorem dL_law_678 : decode cL_law 678 = .ok (.iload_n 3, 1) := by decide +kernel
theorem dL_law_679 : decode cL_law 679 = .ok (.iconst 1, 1) := by decide +kernel
theorem dL_law_680 : decode cL_law 680 = .ok (.iadd, 1) := by decide +kernel
theorem dL_law_681 : decode cL_law 681 = .ok (.iaload, 1) := by decide +kernel
theorem dL_law_682 : decode cL_law 682 = .ok (.aload_n 0, 1) := by decide +kernel
theorem dL_law_683 : decode cL_law 683 = .ok (.iload_n 3, 1) := by decide +kernel
theorem dL_law_684 : decode cL_law 684 = .ok (.iconst 2, 1) := by decide +kernel
theorem dL_law_685 : decode cL_law 685 = .ok (.iadd, 1) := by decide +kernel
theorem dL_law_686 : decode cL_law 686 = .ok (.iaload, 1) := by decide +kernel
theorem dL_law_687 : decode cL_law 687 = .ok (.aload_n 0, 1) := by decide +kernel
theorem dL_law_688 : decode cL_law 688 = .ok (.iload_n 3, 1) := by decide +kernel
theorem dL_law_689 : decode cL_law 689 = .ok (.iconst 3, 1) := by decide +kernel
theorem dL_law_690 : decode cL_law 690 = .ok (.iadd, 1) := by decide +kernel
theorem dL_law_691 : decode cL_law 691 = .ok (.iaload, 1) := by decide +kernel
theorem dL_law_692 : decode cL_law 692 = .ok (.aload_n 0, 1) := by decide +kernel
theorem dL_law_693 : decode cL_law 693 = .ok (.iload_n 3, 1) := by decide +kernel
theorem dL_law_694 : decode cL_law 694 = .ok (.iconst 4, 1) := by decide +kernel
theorem dL_law_695 : decode cL_law 695 = .ok (.iadd, 1) := by decide +kernel
theorem dL_law_696 : decode cL_law 696 = .ok (.iaload, 1) := by decide +kernel
theorem dL_law_697 : decode cL_law 697 = .ok (.invokevirtual 75, 3) := by decide +kernel
theorem dL_law_700 : decode cL_law 700 = .ok (.aload_n 2, 1) := by decide +kernel
theorem dL_law_701 : decode cL_law 701 = .ok (.aload_n 0, 1) := by decide +kernel
theorem dL_law_702 : decode cL_law 702 = .ok (.iload_n 3, 1) := by decide +kernel
theorem dL_law_703 : decode cL_law 703 = .ok (.iconst 1, 1) := by decide +kernel
theorem dL_law_704 : decode cL_law 704 = .ok (.iadd, 1) := by decide +kernel
theorem dL_law_705 : decode cL_law 705 = .ok (.iaload, 1) := by decide +kernel
theorem dL_law_706 : decode cL_law 706 = .ok (.aload_n 0, 1) := by decide +kernel
theorem dL_law_707 : decode cL_law 707 = .ok (.iload_n 3, 1) := by decide +kernel
theorem dL_law_708 : decode cL_law 708 = .ok (.iconst 2, 1) := by decide +kernel
theorem dL_law_709 : decode cL_law 709 = .ok (.iadd, 1) := by decide +kernel
theorem dL_law_710 : decode cL_law 710 = .ok (.iaload, 1) := by decide +kernel
theorem dL_law_711 : decode cL_law 711 = .ok (.aload_n 0, 1) := by decide +kernel
theorem dL_law_712 : decode cL_law 712 = .ok (.iload_n 3, 1) := by decide +kernel
theorem dL_law_713 : decode cL_law 713 = .ok (.iconst 3, 1) := by decide +kernel
theorem dL_law_714 : decode cL_law 714 = .ok (.iadd, 1) := by decide +kernel
theorem dL_law_715 : decode cL_law 715 = .ok (.iaload, 1) := by decide +kernel
theorem dL_law_716 : decode cL_law 716 = .ok (.aload_n 0, 1) := by decide +kernel
theorem dL_law_717 : decode cL_law 717 = .ok (.iload_n 3, 1) := by decide +kernel
theorem dL_law_718 : decode cL_law 718 = .ok (.iconst 4, 1) := by decide +kernel
theorem dL_law_719 : decode cL_law 719 = .ok (.iadd, 1) := by decide +kernel
theorem dL_law_720 : decode cL_law 720 = .ok (.iaload, 1) := by decide +kernel
theorem dL_law_721 : decode cL_law 721 = .ok (.invokevirtual 78, 3) := by decide +kernel
theorem dL_law_724 : decode cL_law 724 = .ok (.if_icmp .eq 599, 3) := by decide +kernel
theorem dL_law_727 : decode cL_law 727 = .ok (.iconst 0, 1) := by decide +kernel
theorem dL_law_728 : decode cL_law 728 = .ok (.ireturn, 1) := by decide +kernel
theorem dL_law_729 : decode cL_law 729 = .ok (.aload_n 1, 1) := by decide +kernel
theorem dL_law_730 : decode cL_law 730 = .ok (.aload_n 0, 1) := by decide +kernel
theorem dL_law_731 : decode cL_law 731 = .ok (.iload_n 3, 1) := by decide +kernel
theorem dL_law_732 : decode cL_law 732 = .ok (.iconst 1, 1) := by decide +kernel
theorem dL_law_733 : decode cL_law 733 = .ok (.iadd, 1) := by decide +kernel
theorem dL_law_734 : decode cL_law 734 = .ok (.iaload, 1) := by decide +kernel
theorem dL_law_735 : decode cL_law 735 = .ok (.aload_n 0, 1) := by decide +kernel
theorem dL_law_736 : decode cL_law 736 = .ok (.iload_n 3, 1) := by decide +kernel
theorem dL_law_737 : decode cL_law 737 = .ok (.iconst 2, 1) := by decide +kernel
theorem dL_law_738 : decode cL_law 738 = .ok (.iadd, 1) := by decide +kernel
theorem dL_law_739 : decode cL_law 739 = .ok (.iaload, 1) := by decide +kernel
theorem dL_law_740 : decode cL_law 740 = .ok (.aload_n 0, 1) := by decide +kernel
theorem dL_law_741 : decode cL_law 741 = .ok (.iload_n 3, 1) := by decide +kernel
theorem dL_law_742 : decode cL_law 742 = .ok (.iconst 3, 1) := by decide +kernel
theorem dL_law_743 : decode cL_law 743 = .ok (.iadd, 1) := by decide +kernel
theorem dL_law_744 : decode cL_law 744 = .ok (.iaload, 1) := by decide +kernel
theorem dL_law_745 : decode cL_law 745 = .ok (.aload_n 0, 1) := by decide +kernel
theorem dL_law_746 : decode cL_law 746 = .ok (.iload_n 3, 1) := by decide +kernel
theorem dL_law_747 : decode cL_law 747 = .ok (.iconst 4, 1) := by decide +kernel
theorem dL_law_748 : decode cL_law 748 = .ok (.iadd, 1) := by decide +kernel
theorem dL_law_749 : decode cL_law 749 = .ok (.iaload, 1) := by decide +kernel
theorem dL_law_750 : decode cL_law 750 = .ok (.aload_n 0, 1) := by decide +kernel
theorem dL_law_751 : decode cL_law 751 = .ok (.iload_n 3, 1) := by decide +kernel
theorem dL_law_752 : decode cL_law 752 = .ok (.iconst 5, 1) := by decide +kernel
theorem dL_law_753 : decode cL_law 753 = .ok (.iadd, 1) := by decide +kernel
theorem dL_law_754 : decode cL_law 754 = .ok (.iaload, 1) := by decide +kernel
theorem dL_law_755 : decode cL_law 755 = .ok (.invokevirtual 79, 3) := by decide +kernel
theorem dL_law_758 : decode cL_law 758 = .ok (.aload_n 2, 1) := by decide +kernel
theorem dL_law_759 : decode cL_law 759 = .ok (.aload_n 0, 1) := by decide +kernel
theorem dL_law_760 : decode cL_law 760 = .ok (.iload_n 3, 1) := by decide +kernel
theorem dL_law_761 : decode cL_law 761 = .ok (.iconst 1, 1) := by decide +kernel
theorem dL_law_762 : decode cL_law 762 = .ok (.iadd, 1) := by decide +kernel
theorem dL_law_763 : decode cL_law 763 = .ok (.iaload, 1) := by decide +kernel
theorem dL_law_764 : decode cL_law 764 = .ok (.aload_n 0, 1) := by decide +kernel
theorem dL_law_765 : decode cL_law 765 = .ok (.iload_n 3, 1) := by decide +kernel
theorem dL_law_766 : decode cL_law 766 = .ok (.iconst 2, 1) := by decide +kernel
theorem dL_law_767 : decode cL_law 767 = .ok (.iadd, 1) := by decide +kernel
theorem dL_law_768 : decode cL_law 768 = .ok (.iaload, 1) := by decide +kernel
theorem dL_law_769 : decode cL_law 769 = .ok (.aload_n 0, 1) := by decide +kernel
theorem dL_law_770 : decode cL_law 770 = .ok (.iload_n 3, 1) := by decide +kernel
theorem dL_law_771 : decode cL_law 771 = .ok (.iconst 3, 1) := by decide +kernel
theorem dL_law_772 : decode cL_law 772 = .ok (.iadd, 1) := by decide +kernel
theorem dL_law_773 : decode cL_law 773 = .ok (.iaload, 1) := by decide +kernel
theorem dL_law_774 : decode cL_law 774 = .ok (.aload_n 0, 1) := by decide +kernel
theorem dL_law_775 : decode cL_law 775 = .ok (.iload_n 3, 1) := by decide +kernel
theorem dL_law_776 : decode cL_law 776 = .ok (.iconst 4, 1) := by decide +kernel
theorem dL_law_777 : decode cL_law 777 = .ok (.iadd, 1) := by decide +kernel
theorem dL_law_778 : decode cL_law 778 = .ok (.iaload, 1) := by decide +kernel
theorem dL_law_779 : decode cL_law 779 = .ok (.aload_n 0, 1) := by decide +kernel
theorem dL_law_780 : decode cL_law 780 = .ok (.iload_n 3, 1) := by decide +kernel
theorem dL_law_781 : decode cL_law 781 = .ok (.iconst 5, 1) := by decide +kernel
theorem dL_law_782 : decode cL_law 782 = .ok (.iadd, 1) := by decide +kernel
theorem dL_law_783 : decode cL_law 783 = .ok (.iaload, 1) := by decide +kernel
theorem dL_law_784 : decode cL_law 784 = .ok (.invokevirtual 82, 3) := by decide +kernel
theorem dL_law_787 : decode cL_law 787 = .ok (.if_icmp .eq 536, 3) := by decide +kernel
theorem dL_law_790 : decode cL_law 790 = .ok (.iconst 0, 1) := by decide +kernel
theorem dL_law_791 : decode cL_law 791 = .ok (.ireturn, 1) := by decide +kernel
theorem dL_law_792 : decode cL_law 792 = .ok (.aload_n 1, 1) := by decide +kernel
theorem dL_law_793 : decode cL_law 793 = .ok (.aload_n 0, 1) := by decide +kernel
theorem dL_law_794 : decode cL_law 794 = .ok (.iload_n 3, 1) := by decide +kernel
theorem dL_law_795 : decode cL_law 795 = .ok (.iconst 1, 1) := by decide +kernel
theorem dL_law_796 : decode cL_law 796 = .ok (.iadd, 1) := by decide +kernel
theorem dL_law_797 : decode cL_law 797 = .ok (.iaload, 1) := by decide +kernel
theorem dL_law_798 : decode cL_law 798 = .ok (.aload_n 0, 1) := by decide +kernel
theorem dL_law_799 : decode cL_law 799 = .ok (.iload_n 3, 1) := by decide +kernel
theorem dL_law_800 : decode cL_law 800 = .ok (.iconst 2, 1) := by decide +kernel
theorem dL_law_801 : decode cL_law 801 = .ok (.iadd, 1) := by decide +kernel
theorem dL_law_802 : decode cL_law 802 = .ok (.iaload, 1) := by decide +kernel
theorem dL_law_803 : decode cL_law 803 = .ok (.aload_n 0, 1) := by decide +kernel
theorem dL_law_804 : decode cL_law 804 = .ok (.iload_n 3, 1) := by decide +kernel
theorem dL_law_805 : decode cL_law 805 = .ok (.iconst 3, 1) := by decide +kernel
theorem dL_law_806 : decode cL_law 806 = .ok (.iadd, 1) := by decide +kernel
theorem dL_law_807 : decode cL_law 807 = .ok (.iaload, 1) := by decide +kernel
theorem dL_law_808 : decode cL_law 808 = .ok (.aload_n 0, 1) := by decide +kernel
theorem dL_law_809 : decode cL_law 809 = .ok (.iload_n 3, 1) := by decide +kernel
theorem dL_law_810 : decode cL_law 810 = .ok (.iconst 4, 1) := by decide +kernel
theorem dL_law_811 : decode cL_law 811 = .ok (.iadd, 1) := by decide +kernel
theorem dL_law_812 : decode cL_law 812 = .ok (.iaload, 1) := by decide +kernel
theorem dL_law_813 : decode cL_law 813 = .ok (.aload_n 0, 1) := by decide +kernel
theorem dL_law_814 : decode cL_law 814 = .ok (.iload_n 3, 1) := by decide +kernel
theorem dL_law_815 : decode cL_law 815 = .ok (.iconst 5, 1) := by decide +kernel
theorem dL_law_816 : decode cL_law 816 = .ok (.iadd, 1) := by decide +kernel
theorem dL_law_817 : decode cL_law 817 = .ok (.iaload, 1) := by decide +kernel
theorem dL_law_818 : decode cL_law 818 = .ok (.aload_n 0, 1) := by decide +kernel
theorem dL_law_819 : decode cL_law 819 = .ok (.iload_n 3, 1) := by decide +kernel
theorem dL_law_820 : decode cL_law 820 = .ok (.bipush 6, 2) := by decide +kernel
theorem dL_law_822 : decode cL_law 822 = .ok (.iadd, 1) := by decide +kernel
theorem dL_law_823 : decode cL_law 823 = .ok (.iaload, 1) := by decide +kernel
theorem dL_law_824 : decode cL_law 824 = .ok (.invokevirtual 83, 3) := by decide +kernel
theorem dL_law_827 : decode cL_law 827 = .ok (.aload_n 2, 1) := by decide +kernel
theorem dL_law_828 : decode cL_law 828 = .ok (.aload_n 0, 1) := by decide +kernel
theorem dL_law_829 : decode cL_law 829 = .ok (.iload_n 3, 1) := by decide +kernel
theorem dL_law_830 : decode cL_law 830 = .ok (.iconst 1, 1) := by decide +kernel
theorem dL_law_831 : decode cL_law 831 = .ok (.iadd, 1) := by decide +kernel
theorem dL_law_832 : decode cL_law 832 = .ok (.iaload, 1) := by decide +kernel
theorem dL_law_833 : decode cL_law 833 = .ok (.aload_n 0, 1) := by decide +kernel
theorem dL_law_834 : decode cL_law 834 = .ok (.iload_n 3, 1) := by decide +kernel
theorem dL_law_835 : decode cL_law 835 = .ok (.iconst 2, 1) := by decide +kernel
theorem dL_law_836 : decode cL_law 836 = .ok (.iadd, 1) := by decide +kernel
theorem dL_law_837 : decode cL_law 837 = .ok (.iaload, 1) := by decide +kernel
theorem dL_law_838 : decode cL_law 838 = .ok (.aload_n 0, 1) := by decide +kernel
theorem dL_law_839 : decode cL_law 839 = .ok (.iload_n 3, 1) := by decide +kernel
theorem dL_law_840 : decode cL_law 840 = .ok (.iconst 3, 1) := by decide +kernel
theorem dL_law_841 : decode cL_law 841 = .ok (.iadd, 1) := by decide +kernel
theorem dL_law_842 : decode cL_law 842 = .ok (.iaload, 1) := by decide +kernel
theorem dL_law_843 : decode cL_law 843 = .ok (.aload_n 0, 1) := by decide +kernel
theorem dL_law_844 : decode cL_law 844 = .ok (.iload_n 3, 1) := by decide +kernel
theorem dL_law_845 : decode cL_law 845 = .ok (.iconst 4, 1) := by decide +kernel
theorem dL_law_846 : decode cL_law 846 = .ok (.iadd, 1) := by decide +kernel
theorem dL_law_847 : decode cL_law 847 = .ok (.iaload, 1) := by decide +kernel
theorem dL_law_848 : decode cL_law 848 = .ok (.aload_n 0, 1) := by decide +kernel
theorem dL_law_849 : decode cL_law 849 = .ok (.iload_n 3, 1) := by decide +kernel
theorem dL_law_850 : decode cL_law 850 = .ok (.iconst 5, 1) := by decide +kernel
theorem dL_law_851 : decode cL_law 851 = .ok (.iadd, 1) := by decide +kernel
theorem dL_law_852 : decode cL_law 852 = .ok (.iaload, 1) := by decide +kernel
theorem dL_law_853 : decode cL_law 853 = .ok (.aload_n 0, 1) := by decide +kernel
theorem dL_law_854 : decode cL_law 854 = .ok (.iload_n 3, 1) := by decide +kernel
theorem dL_law_855 : decode cL_law 855 = .ok (.bipush 6, 2) := by decide +kernel
theorem dL_law_857 : decode cL_law 857 = .ok (.iadd, 1) := by decide +kernel
theorem dL_law_858 : decode cL_law 858 = .ok (.iaload, 1) := by decide +kernel
theorem dL_law_859 : decode cL_law 859 = .ok (.invokevirtual 87, 3) := by decide +kernel
theorem dL_law_862 : decode cL_law 862 = .ok (.if_icmp .eq 461, 3) := by decide +kernel
theorem dL_law_865 : decode cL_law 865 = .ok (.iconst 0, 1) := by decide +kernel
theorem dL_law_866 : decode cL_law 866 = .ok (.ireturn, 1) := by decide +kernel
theorem dL_law_867 : decode cL_law 867 = .ok (.aload_n 1, 1) := by decide +kernel
theorem dL_law_868 : decode cL_law 868 = .ok (.aload_n 0, 1) := by decide +kernel
theorem dL_law_869 : decode cL_law 869 = .ok (.iload_n 3, 1) := by decide +kernel
theorem dL_law_870 : decode cL_law 870 = .ok (.iconst 1, 1) := by decide +kernel
theorem dL_law_871 : decode cL_law 871 = .ok (.iadd, 1) := by decide +kernel
theorem dL_law_872 : decode cL_law 872 = .ok (.iaload, 1) := by decide +kernel
theorem dL_law_873 : decode cL_law 873 = .ok (.aload_n 0, 1) := by decide +kernel
theorem dL_law_874 : decode cL_law 874 = .ok (.iload_n 3, 1) := by decide +kernel
theorem dL_law_875 : decode cL_law 875 = .ok (.iconst 2, 1) := by decide +kernel
theorem dL_law_876 : decode cL_law 876 = .ok (.iadd, 1) := by decide +kernel
theorem dL_law_877 : decode cL_law 877 = .ok (.iaload, 1) := by decide +kernel
theorem dL_law_878 : decode cL_law 878 = .ok (.aload_n 0, 1) := by decide +kernel
theorem dL_law_879 : decode cL_law 879 = .ok (.iload_n 3, 1) := by decide +kernel
theorem dL_law_880 : decode cL_law 880 = .ok (.iconst 3, 1) := by decide +kernel
theorem dL_law_881 : decode cL_law 881 = .ok (.iadd, 1) := by decide +kernel
theorem dL_law_882 : decode cL_law 882 = .ok (.iaload, 1) := by decide +kernel
theorem dL_law_883 : decode cL_law 883 = .ok (.aload_n 0, 1) := by decide +kernel
theorem dL_law_884 : decode cL_law 884 = .ok (.iload_n 3, 1) := by decide +kernel
theorem dL_law_885 : decode cL_law 885 = .ok (.iconst 4, 1) := by decide +kernel
theorem dL_law_886 : decode cL_law 886 = .ok (.iadd, 1) := by decide +kernel
theorem dL_law_887 : decode cL_law 887 = .ok (.iaload, 1) := by decide +kernel
theorem dL_law_888 : decode cL_law 888 = .ok (.aload_n 0, 1) := by decide +kernel
theorem dL_law_889 : decode cL_law 889 = .ok (.iload_n 3, 1) := by decide +kernel
theorem dL_law_890 : decode cL_law 890 = .ok (.iconst 5, 1) := by decide +kernel
theorem dL_law_891 : decode cL_law 891 = .ok (.iadd, 1) := by decide +kernel
theorem dL_law_892 : decode cL_law 892 = .ok (.iaload, 1) := by decide +kernel
theorem dL_law_893 : decode cL_law 893 = .ok (.invokevirtual 88, 3) := by decide +kernel
theorem dL_law_896 : decode cL_law 896 = .ok (.aload_n 2, 1) := by decide +kernel
theorem dL_law_897 : decode cL_law 897 = .ok (.aload_n 0, 1) := by decide +kernel
theorem dL_law_898 : decode cL_law 898 = .ok (.iload_n 3, 1) := by decide +kernel
theorem dL_law_899 : decode cL_law 899 = .ok (.iconst 1, 1) := by decide +kernel
theorem dL_law_900 : decode cL_law 900 = .ok (.iadd, 1) := by decide +kernel
theorem dL_law_901 : decode cL_law 901 = .ok (.iaload, 1) := by decide +kernel
theorem dL_law_902 : decode cL_law 902 = .ok (.aload_n 0, 1) := by decide +kernel
theorem dL_law_903 : decode cL_law 903 = .ok (.iload_n 3, 1) := by decide +kernel
theorem dL_law_904 : decode cL_law 904 = .ok (.iconst 2, 1) := by decide +kernel
theorem dL_law_905 : decode cL_law 905 = .ok (.iadd, 1) := by decide +kernel
theorem dL_law_906 : decode cL_law 906 = .ok (.iaload, 1) := by decide +kernel
theorem dL_law_907 : decode cL_law 907 = .ok (.aload_n 0, 1) := by decide +kernel
theorem dL_law_908 : decode cL_law 908 = .ok (.iload_n 3, 1) := by decide +kernel
theorem dL_law_909 : decode cL_law 909 = .ok (.iconst 3, 1) := by decide +kernel
theorem dL_law_910 : decode cL_law 910 = .ok (.iadd, 1) := by decide +kernel
theorem dL_law_911 : decode cL_law 911 = .ok (.iaload, 1) := by decide +kernel
theorem dL_law_912 : decode cL_law 912 = .ok (.aload_n 0, 1) := by decide +kernel
theorem dL_law_913 : decode cL_law 913 = .ok (.iload_n 3, 1) := by decide +kernel
theorem dL_law_914 : decode cL_law 914 = .ok (.iconst 4, 1) := by decide +kernel
theorem dL_law_915 : decode cL_law 915 = .ok (.iadd, 1) := by decide +kernel
theorem dL_law_916 : decode cL_law 916 = .ok (.iaload, 1) := by decide +kernel
theorem dL_law_917 : decode cL_law 917 = .ok (.aload_n 0, 1) := by decide +kernel
theorem dL_law_918 : decode cL_law 918 = .ok (.iload_n 3, 1) := by decide +kernel
theorem dL_law_919 : decode cL_law 919 = .ok (.iconst 5, 1) := by decide +kernel
theorem dL_law_920 : decode cL_law 920 = .ok (.iadd, 1) := by decide +kernel
theorem dL_law_921 : decode cL_law 921 = .ok (.iaload, 1) := by decide +kernel
theorem dL_law_922 : decode cL_law 922 = .ok (.invokevirtual 91, 3) := by decide +kernel
theorem dL_law_925 : decode cL_law 925 = .ok (.if_icmp .eq 398, 3) := by decide +kernel
theorem dL_law_928 : decode cL_law 928 = .ok (.iconst 0, 1) := by decide +kernel
theorem dL_law_929 : decode cL_law 929 = .ok (.ireturn, 1) := by decide +kernel
theorem dL_law_930 : decode cL_law 930 = .ok (.aload_n 1, 1) := by decide +kernel
theorem dL_law_931 : decode cL_law 931 = .ok (.aload_n 0, 1) := by decide +kernel
theorem dL_law_932 : decode cL_law 932 = .ok (.iload_n 3, 1) := by decide +kernel
theorem dL_law_933 : decode cL_law 933 = .ok (.iconst 1, 1) := by decide +kernel
theorem dL_law_934 : decode cL_law 934 = .ok (.iadd, 1) := by decide +kernel
theorem dL_law_935 : decode cL_law 935 = .ok (.iaload, 1) := by decide +kernel
theorem dL_law_936 : decode cL_law 936 = .ok (.aload_n 0, 1) := by decide +kernel
theorem dL_law_937 : decode cL_law 937 = .ok (.iload_n 3, 1) := by decide +kernel
theorem dL_law_938 : decode cL_law 938 = .ok (.iconst 2, 1) := by decide +kernel
theorem dL_law_939 : decode cL_law 939 = .ok (.iadd, 1) := by decide +kernel
theorem dL_law_940 : decode cL_law 940 = .ok (.iaload, 1) := by decide +kernel
theorem dL_law_941 : decode cL_law 941 = .ok (.aload_n 0, 1) := by decide +kernel
theorem dL_law_942 : decode cL_law 942 = .ok (.iload_n 3, 1) := by decide +kernel
theorem dL_law_943 : decode cL_law 943 = .ok (.iconst 3, 1) := by decide +kernel
theorem dL_law_944 : decode cL_law 944 = .ok (.iadd, 1) := by decide +kernel
theorem dL_law_945 : decode cL_law 945 = .ok (.iaload, 1) := by decide +kernel
theorem dL_law_946 : decode cL_law 946 = .ok (.aload_n 0, 1) := by decide +kernel
theorem dL_law_947 : decode cL_law 947 = .ok (.iload_n 3, 1) := by decide +kernel
theorem dL_law_948 : decode cL_law 948 = .ok (.iconst 4, 1) := by decide +kernel
theorem dL_law_949 : decode cL_law 949 = .ok (.iadd, 1) := by decide +kernel
theorem dL_law_950 : decode cL_law 950 = .ok (.iaload, 1) := by decide +kernel
theorem dL_law_951 : decode cL_law 951 = .ok (.aload_n 0, 1) := by decide +kernel
theorem dL_law_952 : decode cL_law 952 = .ok (.iload_n 3, 1) := by decide +kernel
theorem dL_law_953 : decode cL_law 953 = .ok (.iconst 5, 1) := by decide +kernel
theorem dL_law_954 : decode cL_law 954 = .ok (.iadd, 1) := by decide +kernel
theorem dL_law_955 : decode cL_law 955 = .ok (.iaload, 1) := by decide +kernel
theorem dL_law_956 : decode cL_law 956 = .ok (.invokevirtual 92, 3) := by decide +kernel
theorem dL_law_959 : decode cL_law 959 = .ok (.aload_n 2, 1) := by decide +kernel
theorem dL_law_960 : decode cL_law 960 = .ok (.aload_n 0, 1) := by decide +kernel
theorem dL_law_961 : decode cL_law 961 = .ok (.iload_n 3, 1) := by decide +kernel
theorem dL_law_962 : decode cL_law 962 = .ok (.iconst 1, 1) := by decide +kernel
theorem dL_law_963 : decode cL_law 963 = .ok (.iadd, 1) := by decide +kernel
theorem dL_law_964 : decode cL_law 964 = .ok (.iaload, 1) := by decide +kernel
theorem dL_law_965 : decode cL_law 965 = .ok (.aload_n 0, 1) := by decide +kernel
theorem dL_law_966 : decode cL_law 966 = .ok (.iload_n 3, 1) := by decide +kernel
theorem dL_law_967 : decode cL_law 967 = .ok (.iconst 2, 1) := by decide +kernel
theorem dL_law_968 : decode cL_law 968 = .ok (.iadd, 1) := by decide +kernel
theorem dL_law_969 : decode cL_law 969 = .ok (.iaload, 1) := by decide +kernel
theorem dL_law_970 : decode cL_law 970 = .ok (.aload_n 0, 1) := by decide +kernel
theorem dL_law_971 : decode cL_law 971 = .ok (.iload_n 3, 1) := by decide +kernel
theorem dL_law_972 : decode cL_law 972 = .ok (.iconst 3, 1) := by decide +kernel
theorem dL_law_973 : decode cL_law 973 = .ok (.iadd, 1) := by decide +kernel
theorem dL_law_974 : decode cL_law 974 = .ok (.iaload, 1) := by decide +kernel
theorem dL_law_975 : decode cL_law 975 = .ok (.aload_n 0, 1) := by decide +kernel
theorem dL_law_976 : decode cL_law 976 = .ok (.iload_n 3, 1) := by decide +kernel
theorem dL_law_977 : decode cL_law 977 = .ok (.iconst 4, 1) := by decide +kernel
theorem dL_law_978 : decode cL_law 978 = .ok (.iadd, 1) := by decide +kernel
theorem dL_law_979 : decode cL_law 979 = .ok (.iaload, 1) := by decide +kernel
theorem dL_law_980 : decode cL_law 980 = .ok (.aload_n 0, 1) := by decide +kernel
theorem dL_law_981 : decode cL_law 981 = .ok (.iload_n 3, 1) := by decide +kernel
theorem dL_law_982 : decode cL_law 982 = .ok (.iconst 5, 1) := by decide +kernel
theorem dL_law_983 : decode cL_law 983 = .ok (.iadd, 1) := by decide +kernel
theorem dL_law_984 : decode cL_law 984 = .ok (.iaload, 1) := by decide +kernel
theorem dL_law_985 : decode cL_law 985 = .ok (.invokevirtual 95, 3) := by decide +kernel
theorem dL_law_988 : decode cL_law 988 = .ok (.if_icmp .eq 335, 3) := by decide +kernel
theorem dL_law_991 : decode cL_law 991 = .ok (.iconst 0, 1) := by decide +kernel
theorem dL_law_992 : decode cL_law 992 = .ok (.ireturn, 1) := by decide +kernel
theorem dL_law_993 : decode cL_law 993 = .ok (.aload_n 1, 1) := by decide +kernel
theorem dL_law_994 : decode cL_law 994 = .ok (.aload_n 0, 1) := by decide +kernel
theorem dL_law_995 : decode cL_law 995 = .ok (.iload_n 3, 1) := by decide +kernel
theorem dL_law_996 : decode cL_law 996 = .ok (.iconst 1, 1) := by decide +kernel
theorem dL_law_997 : decode cL_law 997 = .ok (.iadd, 1) := by decide +kernel
theorem dL_law_998 : decode cL_law 998 = .ok (.iaload, 1) := by decide +kernel
theorem dL_law_999 : decode cL_law 999 = .ok (.aload_n 0, 1) := by decide +kernel
theorem dL_law_1000 : decode cL_law 1000 = .ok (.iload_n 3, 1) := by decide +kernel
theorem dL_law_1001 : decode cL_law 1001 = .ok (.iconst 2, 1) := by decide +kernel
theorem dL_law_1002 : decode cL_law 1002 = .ok (.iadd, 1) := by decide +kernel
theorem dL_law_1003 : decode cL_law 1003 = .ok (.iaload, 1) := by decide +kernel
theorem dL_law_1004 : decode cL_law 1004 = .ok (.aload_n 0, 1) := by decide +kernel
theorem dL_law_1005 : decode cL_law 1005 = .ok (.iload_n 3, 1) := by decide +kernel
theorem dL_law_1006 : decode cL_law 1006 = .ok (.iconst 3, 1) := by decide +kernel
theorem dL_law_1007 : decode cL_law 1007 = .ok (.iadd, 1) := by decide +kernel
theorem dL_law_1008 : decode cL_law 1008 = .ok (.iaload, 1) := by decide +kernel
theorem dL_law_1009 : decode cL_law 1009 = .ok (.aload_n 0, 1) := by decide +kernel
theorem dL_law_1010 : decode cL_law 1010 = .ok (.iload_n 3, 1) := by decide +kernel
theorem dL_law_1011 : decode cL_law 1011 = .ok (.iconst 4, 1) := by decide +kernel
theorem dL_law_1012 : decode cL_law 1012 = .ok (.iadd, 1) := by decide +kernel
theorem dL_law_1013 : decode cL_law 1013 = .ok (.iaload, 1) := by decide +kernel
theorem dL_law_1014 : decode cL_law 1014 = .ok (.invokevirtual 96, 3) := by decide +kernel
theorem dL_law_1017 : decode cL_law 1017 = .ok (.aload_n 2, 1) := by decide +kernel
theorem dL_law_1018 : decode cL_law 1018 = .ok (.aload_n 0, 1) := by decide +kernel
theorem dL_law_1019 : decode cL_law 1019 = .ok (.iload_n 3, 1) := by decide +kernel
theorem dL_law_1020 : decode cL_law 1020 = .ok (.iconst 1, 1) := by decide +kernel
theorem dL_law_1021 : decode cL_law 1021 = .ok (.iadd, 1) := by decide +kernel
theorem dL_law_1022 : decode cL_law 1022 = .ok (.iaload, 1) := by decide +kernel
theorem dL_law_1023 : decode cL_law 1023 = .ok (.aload_n 0, 1) := by decide +kernel
theorem dL_law_1024 : decode cL_law 1024 = .ok (.iload_n 3, 1) := by decide +kernel
theorem dL_law_1025 : decode cL_law 1025 = .ok (.iconst 2, 1) := by decide +kernel
theorem dL_law_1026 : decode cL_law 1026 = .ok (.iadd, 1) := by decide +kernel
theorem dL_law_1027 : decode cL_law 1027 = .ok (.iaload, 1) := by decide +kernel
theorem dL_law_1028 : decode cL_law 1028 = .ok (.aload_n 0, 1) := by decide +kernel
theorem dL_law_1029 : decode cL_law 1029 = .ok (.iload_n 3, 1) := by decide +kernel
theorem dL_law_1030 : decode cL_law 1030 = .ok (.iconst 3, 1) := by decide +kernel
theorem dL_law_1031 : decode cL_law 1031 = .ok (.iadd, 1) := by decide +kernel
theorem dL_law_1032 : decode cL_law 1032 = .ok (.iaload, 1) := by decide +kernel
theorem dL_law_1033 : decode cL_law 1033 = .ok (.aload_n 0, 1) := by decide +kernel
theorem dL_law_1034 : decode cL_law 1034 = .ok (.iload_n 3, 1) := by decide +kernel
theorem dL_law_1035 : decode cL_law 1035 = .ok (.iconst 4, 1) := by decide +kernel
theorem dL_law_1036 : decode cL_law 1036 = .ok (.iadd, 1) := by decide +kernel
theorem dL_law_1037 : decode cL_law 1037 = .ok (.iaload, 1) := by decide +kernel
theorem dL_law_1038 : decode cL_law 1038 = .ok (.invokevirtual 99, 3) := by decide +kernel
theorem dL_law_1041 : decode cL_law 1041 = .ok (.if_icmp .eq 282, 3) := by decide +kernel
theorem dL_law_1044 : decode cL_law 1044 = .ok (.iconst 0, 1) := by decide +kernel
theorem dL_law_1045 : decode cL_law 1045 = .ok (.ireturn, 1) := by decide +kernel
theorem dL_law_1046 : decode cL_law 1046 = .ok (.aload_n 1, 1) := by decide +kernel
theorem dL_law_1047 : decode cL_law 1047 = .ok (.aload_n 0, 1) := by decide +kernel
theorem dL_law_1048 : decode cL_law 1048 = .ok (.iload_n 3, 1) := by decide +kernel
theorem dL_law_1049 : decode cL_law 1049 = .ok (.iconst 1, 1) := by decide +kernel
theorem dL_law_1050 : decode cL_law 1050 = .ok (.iadd, 1) := by decide +kernel
theorem dL_law_1051 : decode cL_law 1051 = .ok (.iaload, 1) := by decide +kernel
theorem dL_law_1052 : decode cL_law 1052 = .ok (.aload_n 0, 1) := by decide +kernel
theorem dL_law_1053 : decode cL_law 1053 = .ok (.iload_n 3, 1) := by decide +kernel
theorem dL_law_1054 : decode cL_law 1054 = .ok (.iconst 2, 1) := by decide +kernel
theorem dL_law_1055 : decode cL_law 1055 = .ok (.iadd, 1) := by decide +kernel
theorem dL_law_1056 : decode cL_law 1056 = .ok (.iaload, 1) := by decide +kernel
theorem dL_law_1057 : decode cL_law 1057 = .ok (.invokevirtual 100, 3) := by decide +kernel
theorem dL_law_1060 : decode cL_law 1060 = .ok (.aload_n 2, 1) := by decide +kernel
theorem dL_law_1061 : decode cL_law 1061 = .ok (.aload_n 0, 1) := by decide +kernel
theorem dL_law_1062 : decode cL_law 1062 = .ok (.iload_n 3, 1) := by decide +kernel
theorem dL_law_1063 : decode cL_law 1063 = .ok (.iconst 1, 1) := by decide +kernel
theorem dL_law_1064 : decode cL_law 1064 = .ok (.iadd, 1) := by decide +kernel
theorem dL_law_1065 : decode cL_law 1065 = .ok (.iaload, 1) := by decide +kernel
theorem dL_law_1066 : decode cL_law 1066 = .ok (.aload_n 0, 1) := by decide +kernel
theorem dL_law_1067 : decode cL_law 1067 = .ok (.iload_n 3, 1) := by decide +kernel
theorem dL_law_1068 : decode cL_law 1068 = .ok (.iconst 2, 1) := by decide +kernel
theorem dL_law_1069 : decode cL_law 1069 = .ok (.iadd, 1) := by decide +kernel
theorem dL_law_1070 : decode cL_law 1070 = .ok (.iaload, 1) := by decide +kernel
theorem dL_law_1071 : decode cL_law 1071 = .ok (.invokevirtual 103, 3) := by decide +kernel
theorem dL_law_1074 : decode cL_law 1074 = .ok (.if_icmp .eq 249, 3) := by decide +kernel
theorem dL_law_1077 : decode cL_law 1077 = .ok (.iconst 0, 1) := by decide +kernel
theorem dL_law_1078 : decode cL_law 1078 = .ok (.ireturn, 1) := by decide +kernel
theorem dL_law_1079 : decode cL_law 1079 = .ok (.aload_n 1, 1) := by decide +kernel
theorem dL_law_1080 : decode cL_law 1080 = .ok (.aload_n 0, 1) := by decide +kernel
theorem dL_law_1081 : decode cL_law 1081 = .ok (.iload_n 3, 1) := by decide +kernel
theorem dL_law_1082 : decode cL_law 1082 = .ok (.iconst 1, 1) := by decide +kernel
theorem dL_law_1083 : decode cL_law 1083 = .ok (.iadd, 1) := by decide +kernel
theorem dL_law_1084 : decode cL_law 1084 = .ok (.iaload, 1) := by decide +kernel
theorem dL_law_1085 : decode cL_law 1085 = .ok (.aload_n 0, 1) := by decide +kernel
theorem dL_law_1086 : decode cL_law 1086 = .ok (.iload_n 3, 1) := by decide +kernel
theorem dL_law_1087 : decode cL_law 1087 = .ok (.iconst 2, 1) := by decide +kernel
theorem dL_law_1088 : decode cL_law 1088 = .ok (.iadd, 1) := by decide +kernel
theorem dL_law_1089 : decode cL_law 1089 = .ok (.iaload, 1) := by decide +kernel
theorem dL_law_1090 : decode cL_law 1090 = .ok (.invokevirtual 104, 3) := by decide +kernel
theorem dL_law_1093 : decode cL_law 1093 = .ok (.aload_n 2, 1) := by decide +kernel
theorem dL_law_1094 : decode cL_law 1094 = .ok (.aload_n 0, 1) := by decide +kernel
theorem dL_law_1095 : decode cL_law 1095 = .ok (.iload_n 3, 1) := by decide +kernel
theorem dL_law_1096 : decode cL_law 1096 = .ok (.iconst 1, 1) := by decide +kernel
theorem dL_law_1097 : decode cL_law 1097 = .ok (.iadd, 1) := by decide +kernel
theorem dL_law_1098 : decode cL_law 1098 = .ok (.iaload, 1) := by decide +kernel
theorem dL_law_1099 : decode cL_law 1099 = .ok (.aload_n 0, 1) := by decide +kernel
theorem dL_law_1100 : decode cL_law 1100 = .ok (.iload_n 3, 1) := by decide +kernel
theorem dL_law_1101 : decode cL_law 1101 = .ok (.iconst 2, 1) := by decide +kernel
theorem dL_law_1102 : decode cL_law 1102 = .ok (.iadd, 1) := by decide +kernel
theorem dL_law_1103 : decode cL_law 1103 = .ok (.iaload, 1) := by decide +kernel
theorem dL_law_1104 : decode cL_law 1104 = .ok (.invokevirtual 107, 3) := by decide +kernel
theorem dL_law_1107 : decode cL_law 1107 = .ok (.if_icmp .eq 216, 3) := by decide +kernel
theorem dL_law_1110 : decode cL_law 1110 = .ok (.iconst 0, 1) := by decide +kernel
theorem dL_law_1111 : decode cL_law 1111 = .ok (.ireturn, 1) := by decide +kernel
theorem dL_law_1112 : decode cL_law 1112 = .ok (.aload_n 1, 1) := by decide +kernel
theorem dL_law_1113 : decode cL_law 1113 = .ok (.aload_n 0, 1) := by decide +kernel
theorem dL_law_1114 : decode cL_law 1114 = .ok (.iload_n 3, 1) := by decide +kernel
theorem dL_law_1115 : decode cL_law 1115 = .ok (.iconst 1, 1) := by decide +kernel
theorem dL_law_1116 : decode cL_law 1116 = .ok (.iadd, 1) := by decide +kernel
theorem dL_law_1117 : decode cL_law 1117 = .ok (.iaload, 1) := by decide +kernel
theorem dL_law_1118 : decode cL_law 1118 = .ok (.aload_n 0, 1) := by decide +kernel
theorem dL_law_1119 : decode cL_law 1119 = .ok (.iload_n 3, 1) := by decide +kernel
theorem dL_law_1120 : decode cL_law 1120 = .ok (.iconst 2, 1) := by decide +kernel
theorem dL_law_1121 : decode cL_law 1121 = .ok (.iadd, 1) := by decide +kernel
theorem dL_law_1122 : decode cL_law 1122 = .ok (.iaload, 1) := by decide +kernel
theorem dL_law_1123 : decode cL_law 1123 = .ok (.aload_n 0, 1) := by decide +kernel
theorem dL_law_1124 : decode cL_law 1124 = .ok (.iload_n 3, 1) := by decide +kernel
theorem dL_law_1125 : decode cL_law 1125 = .ok (.iconst 3, 1) := by decide +kernel
theorem dL_law_1126 : decode cL_law 1126 = .ok (.iadd, 1) := by decide +kernel
theorem dL_law_1127 : decode cL_law 1127 = .ok (.iaload, 1) := by decide +kernel
theorem dL_law_1128 : decode cL_law 1128 = .ok (.aload_n 0, 1) := by decide +kernel
theorem dL_law_1129 : decode cL_law 1129 = .ok (.iload_n 3, 1) := by decide +kernel
theorem dL_law_1130 : decode cL_law 1130 = .ok (.iconst 4, 1) := by decide +kernel
theorem dL_law_1131 : decode cL_law 1131 = .ok (.iadd, 1) := by decide +kernel
theorem dL_law_1132 : decode cL_law 1132 = .ok (.iaload, 1) := by decide +kernel
theorem dL_law_1133 : decode cL_law 1133 = .ok (.invokevirtual 108, 3) := by decide +kernel
theorem dL_law_1136 : decode cL_law 1136 = .ok (.aload_n 2, 1) := by decide +kernel
theorem dL_law_1137 : decode cL_law 1137 = .ok (.aload_n 0, 1) := by decide +kernel
theorem dL_law_1138 : decode cL_law 1138 = .ok (.iload_n 3, 1) := by decide +kernel
theorem dL_law_1139 : decode cL_law 1139 = .ok (.iconst 1, 1) := by decide +kernel
theorem dL_law_1140 : decode cL_law 1140 = .ok (.iadd, 1) := by decide +kernel
theorem dL_law_1141 : decode cL_law 1141 = .ok (.iaload, 1) := by decide +kernel
theorem dL_law_1142 : decode cL_law 1142 = .ok (.aload_n 0, 1) := by decide +kernel
theorem dL_law_1143 : decode cL_law 1143 = .ok (.iload_n 3, 1) := by decide +kernel
theorem dL_law_1144 : decode cL_law 1144 = .ok (.iconst 2, 1) := by decide +kernel
theorem dL_law_1145 : decode cL_law 1145 = .ok (.iadd, 1) := by decide +kernel
theorem dL_law_1146 : decode cL_law 1146 = .ok (.iaload, 1) := by decide +kernel
theorem dL_law_1147 : decode cL_law 1147 = .ok (.aload_n 0, 1) := by decide +kernel
theorem dL_law_1148 : decode cL_law 1148 = .ok (.iload_n 3, 1) := by decide +kernel
theorem dL_law_1149 : decode cL_law 1149 = .ok (.iconst 3, 1) := by decide +kernel
theorem dL_law_1150 : decode cL_law 1150 = .ok (.iadd, 1) := by decide +kernel
theorem dL_law_1151 : decode cL_law 1151 = .ok (.iaload, 1) := by decide +kernel
theorem dL_law_1152 : decode cL_law 1152 = .ok (.aload_n 0, 1) := by decide +kernel
theorem dL_law_1153 : decode cL_law 1153 = .ok (.iload_n 3, 1) := by decide +kernel
theorem dL_law_1154 : decode cL_law 1154 = .ok (.iconst 4, 1) := by decide +kernel
theorem dL_law_1155 : decode cL_law 1155 = .ok (.iadd, 1) := by decide +kernel
theorem dL_law_1156 : decode cL_law 1156 = .ok (.iaload, 1) := by decide +kernel
theorem dL_law_1157 : decode cL_law 1157 = .ok (.invokevirtual 111, 3) := by decide +kernel
theorem dL_law_1160 : decode cL_law 1160 = .ok (.if_icmp .eq 163, 3) := by decide +kernel
theorem dL_law_1163 : decode cL_law 1163 = .ok (.iconst 0, 1) := by decide +kernel
theorem dL_law_1164 : decode cL_law 1164 = .ok (.ireturn, 1) := by decide +kernel
theorem dL_law_1165 : decode cL_law 1165 = .ok (.aload_n 1, 1) := by decide +kernel
theorem dL_law_1166 : decode cL_law 1166 = .ok (.aload_n 0, 1) := by decide +kernel
theorem dL_law_1167 : decode cL_law 1167 = .ok (.iload_n 3, 1) := by decide +kernel
theorem dL_law_1168 : decode cL_law 1168 = .ok (.iconst 1, 1) := by decide +kernel
theorem dL_law_1169 : decode cL_law 1169 = .ok (.iadd, 1) := by decide +kernel
theorem dL_law_1170 : decode cL_law 1170 = .ok (.iaload, 1) := by decide +kernel
theorem dL_law_1171 : decode cL_law 1171 = .ok (.aload_n 0, 1) := by decide +kernel
theorem dL_law_1172 : decode cL_law 1172 = .ok (.iload_n 3, 1) := by decide +kernel
theorem dL_law_1173 : decode cL_law 1173 = .ok (.iconst 2, 1) := by decide +kernel
theorem dL_law_1174 : decode cL_law 1174 = .ok (.iadd, 1) := by decide +kernel
theorem dL_law_1175 : decode cL_law 1175 = .ok (.iaload, 1) := by decide +kernel
theorem dL_law_1176 : decode cL_law 1176 = .ok (.invokevirtual 112, 3) := by decide +kernel
theorem dL_law_1179 : decode cL_law 1179 = .ok (.aload_n 2, 1) := by decide +kernel
theorem dL_law_1180 : decode cL_law 1180 = .ok (.aload_n 0, 1) := by decide +kernel
theorem dL_law_1181 : decode cL_law 1181 = .ok (.iload_n 3, 1) := by decide +kernel
theorem dL_law_1182 : decode cL_law 1182 = .ok (.iconst 1, 1) := by decide +kernel
theorem dL_law_1183 : decode cL_law 1183 = .ok (.iadd, 1) := by decide +kernel
theorem dL_law_1184 : decode cL_law 1184 = .ok (.iaload, 1) := by decide +kernel
theorem dL_law_1185 : decode cL_law 1185 = .ok (.aload_n 0, 1) := by decide +kernel
theorem dL_law_1186 : decode cL_law 1186 = .ok (.iload_n 3, 1) := by decide +kernel
theorem dL_law_1187 : decode cL_law 1187 = .ok (.iconst 2, 1) := by decide +kernel
theorem dL_law_1188 : decode cL_law 1188 = .ok (.iadd, 1) := by decide +kernel
theorem dL_law_1189 : decode cL_law 1189 = .ok (.iaload, 1) := by decide +kernel
theorem dL_law_1190 : decode cL_law 1190 = .ok (.invokevirtual 115, 3) := by decide +kernel
theorem dL_law_1193 : decode cL_law 1193 = .ok (.if_icmp .eq 130, 3) := by decide +kernel
theorem dL_law_1196 : decode cL_law 1196 = .ok (.iconst 0, 1) := by decide +kernel
theorem dL_law_1197 : decode cL_law 1197 = .ok (.ireturn, 1) := by decide +kernel
theorem dL_law_1198 : decode cL_law 1198 = .ok (.aload_n 1, 1) := by decide +kernel
theorem dL_law_1199 : decode cL_law 1199 = .ok (.aload_n 0, 1) := by decide +kernel
theorem dL_law_1200 : decode cL_law 1200 = .ok (.iload_n 3, 1) := by decide +kernel
theorem dL_law_1201 : decode cL_law 1201 = .ok (.iconst 1, 1) := by decide +kernel
theorem dL_law_1202 : decode cL_law 1202 = .ok (.iadd, 1) := by decide +kernel
theorem dL_law_1203 : decode cL_law 1203 = .ok (.iaload, 1) := by decide +kernel
theorem dL_law_1204 : decode cL_law 1204 = .ok (.invokevirtual 116, 3) := by decide +kernel
theorem dL_law_1207 : decode cL_law 1207 = .ok (.aload_n 2, 1) := by decide +kernel
theorem dL_law_1208 : decode cL_law 1208 = .ok (.aload_n 0, 1) := by decide +kernel
theorem dL_law_1209 : decode cL_law 1209 = .ok (.iload_n 3, 1) := by decide +kernel
theorem dL_law_1210 : decode cL_law 1210 = .ok (.iconst 1, 1) := by decide +kernel
theorem dL_law_1211 : decode cL_law 1211 = .ok (.iadd, 1) := by decide +kernel
theorem dL_law_1212 : decode cL_law 1212 = .ok (.iaload, 1) := by decide +kernel
theorem dL_law_1213 : decode cL_law 1213 = .ok (.invokevirtual 119, 3) := by decide +kernel
theorem dL_law_1216 : decode cL_law 1216 = .ok (.if_icmp .eq 107, 3) := by decide +kernel
theorem dL_law_1219 : decode cL_law 1219 = .ok (.iconst 0, 1) := by decide +kernel
theorem dL_law_1220 : decode cL_law 1220 = .ok (.ireturn, 1) := by decide +kernel
theorem dL_law_1221 : decode cL_law 1221 = .ok (.aload_n 1, 1) := by decide +kernel
theorem dL_law_1222 : decode cL_law 1222 = .ok (.aload_n 0, 1) := by decide +kernel
theorem dL_law_1223 : decode cL_law 1223 = .ok (.iload_n 3, 1) := by decide +kernel
theorem dL_law_1224 : decode cL_law 1224 = .ok (.iconst 1, 1) := by decide +kernel
theorem dL_law_1225 : decode cL_law 1225 = .ok (.iadd, 1) := by decide +kernel
theorem dL_law_1226 : decode cL_law 1226 = .ok (.iaload, 1) := by decide +kernel
theorem dL_law_1227 : decode cL_law 1227 = .ok (.aload_n 0, 1) := by decide +kernel
theorem dL_law_1228 : decode cL_law 1228 = .ok (.iload_n 3, 1) := by decide +kernel
theorem dL_law_1229 : decode cL_law 1229 = .ok (.iconst 2, 1) := by decide +kernel
theorem dL_law_1230 : decode cL_law 1230 = .ok (.iadd, 1) := by decide +kernel
theorem dL_law_1231 : decode cL_law 1231 = .ok (.iaload, 1) := by decide +kernel
theorem dL_law_1232 : decode cL_law 1232 = .ok (.invokevirtual 120, 3) := by decide +kernel
theorem dL_law_1235 : decode cL_law 1235 = .ok (.aload_n 2, 1) := by decide +kernel
theorem dL_law_1236 : decode cL_law 1236 = .ok (.aload_n 0, 1) := by decide +kernel
theorem dL_law_1237 : decode cL_law 1237 = .ok (.iload_n 3, 1) := by decide +kernel
theorem dL_law_1238 : decode cL_law 1238 = .ok (.iconst 1, 1) := by decide +kernel
theorem dL_law_1239 : decode cL_law 1239 = .ok (.iadd, 1) := by decide +kernel
theorem dL_law_1240 : decode cL_law 1240 = .ok (.iaload, 1) := by decide +kernel
theorem dL_law_1241 : decode cL_law 1241 = .ok (.aload_n 0, 1) := by decide +kernel
theorem dL_law_1242 : decode cL_law 1242 = .ok (.iload_n 3, 1) := by decide +kernel
theorem dL_law_1243 : decode cL_law 1243 = .ok (.iconst 2, 1) := by decide +kernel
theorem dL_law_1244 : decode cL_law 1244 = .ok (.iadd, 1) := by decide +kernel
theorem dL_law_1245 : decode cL_law 1245 = .ok (.iaload, 1) := by decide +kernel
theorem dL_law_1246 : decode cL_law 1246 = .ok (.invokevirtual 123, 3) := by decide +kernel
theorem dL_law_1249 : decode cL_law 1249 = .ok (.if_icmp .eq 74, 3) := by decide +kernel
theorem dL_law_1252 : decode cL_law 1252 = .ok (.iconst 0, 1) := by decide +kernel
theorem dL_law_1253 : decode cL_law 1253 = .ok (.ireturn, 1) := by decide +kernel
theorem dL_law_1254 : decode cL_law 1254 = .ok (.aload_n 1, 1) := by decide +kernel
theorem dL_law_1255 : decode cL_law 1255 = .ok (.aload_n 0, 1) := by decide +kernel
theorem dL_law_1256 : decode cL_law 1256 = .ok (.iload_n 3, 1) := by decide +kernel
theorem dL_law_1257 : decode cL_law 1257 = .ok (.iconst 1, 1) := by decide +kernel
theorem dL_law_1258 : decode cL_law 1258 = .ok (.iadd, 1) := by decide +kernel
theorem dL_law_1259 : decode cL_law 1259 = .ok (.iaload, 1) := by decide +kernel
theorem dL_law_1260 : decode cL_law 1260 = .ok (.invokevirtual 124, 3) := by decide +kernel
theorem dL_law_1263 : decode cL_law 1263 = .ok (.aload_n 2, 1) := by decide +kernel
theorem dL_law_1264 : decode cL_law 1264 = .ok (.aload_n 0, 1) := by decide +kernel
theorem dL_law_1265 : decode cL_law 1265 = .ok (.iload_n 3, 1) := by decide +kernel
theorem dL_law_1266 : decode cL_law 1266 = .ok (.iconst 1, 1) := by decide +kernel
theorem dL_law_1267 : decode cL_law 1267 = .ok (.iadd, 1) := by decide +kernel
theorem dL_law_1268 : decode cL_law 1268 = .ok (.iaload, 1) := by decide +kernel
theorem dL_law_1269 : decode cL_law 1269 = .ok (.invokevirtual 127, 3) := by decide +kernel
theorem dL_law_1272 : decode cL_law 1272 = .ok (.if_icmp .eq 51, 3) := by decide +kernel
theorem dL_law_1275 : decode cL_law 1275 = .ok (.iconst 0, 1) := by decide +kernel
theorem dL_law_1276 : decode cL_law 1276 = .ok (.ireturn, 1) := by decide +kernel
theorem dL_law_1277 : decode cL_law 1277 = .ok (.aload_n 1, 1) := by decide +kernel
theorem dL_law_1278 : decode cL_law 1278 = .ok (.aload_n 0, 1) := by decide +kernel
theorem dL_law_1279 : decode cL_law 1279 = .ok (.iload_n 3, 1) := by decide +kernel
theorem dL_law_1280 : decode cL_law 1280 = .ok (.iconst 1, 1) := by decide +kernel
theorem dL_law_1281 : decode cL_law 1281 = .ok (.iadd, 1) := by decide +kernel
theorem dL_law_1282 : decode cL_law 1282 = .ok (.iaload, 1) := by decide +kernel
theorem dL_law_1283 : decode cL_law 1283 = .ok (.invokevirtual 128, 3) := by decide +kernel
theorem dL_law_1286 : decode cL_law 1286 = .ok (.aload_n 2, 1) := by decide +kernel
theorem dL_law_1287 : decode cL_law 1287 = .ok (.aload_n 0, 1) := by decide +kernel
theorem dL_law_1288 : decode cL_law 1288 = .ok (.iload_n 3, 1) := by decide +kernel
theorem dL_law_1289 : decode cL_law 1289 = .ok (.iconst 1, 1) := by decide +kernel
theorem dL_law_1290 : decode cL_law 1290 = .ok (.iadd, 1) := by decide +kernel
theorem dL_law_1291 : decode cL_law 1291 = .ok (.iaload, 1) := by decide +kernel
theorem dL_law_1292 : decode cL_law 1292 = .ok (.invokevirtual 131, 3) := by decide +kernel
theorem dL_law_1295 : decode cL_law 1295 = .ok (.if_icmp .eq 28, 3) := by decide +kernel
theorem dL_law_1298 : decode cL_law 1298 = .ok (.iconst 0, 1) := by decide +kernel
theorem dL_law_1299 : decode cL_law 1299 = .ok (.ireturn, 1) := by decide +kernel
theorem dL_law_1300 : decode cL_law 1300 = .ok (.aload_n 1, 1) := by decide +kernel
theorem dL_law_1301 : decode cL_law 1301 = .ok (.aload_n 0, 1) := by decide +kernel
theorem dL_law_1302 : decode cL_law 1302 = .ok (.iload_n 3, 1) := by decide +kernel
theorem dL_law_1303 : decode cL_law 1303 = .ok (.iconst 1, 1) := by decide +kernel
theorem dL_law_1304 : decode cL_law 1304 = .ok (.iadd, 1) := by decide +kernel
theorem dL_law_1305 : decode cL_law 1305 = .ok (.iaload, 1) := by decide +kernel
theorem dL_law_1306 : decode cL_law 1306 = .ok (.invokevirtual 132, 3) := by decide +kernel
theorem dL_law_1309 : decode cL_law 1309 = .ok (.aload_n 2, 1) := by decide +kernel
theorem dL_law_1310 : decode cL_law 1310 = .ok (.aload_n 0, 1) := by decide +kernel
theorem dL_law_1311 : decode cL_law 1311 = .ok (.iload_n 3, 1) := by decide +kernel
theorem dL_law_1312 : decode cL_law 1312 = .ok (.iconst 1, 1) := by decide +kernel
theorem dL_law_1313 : decode cL_law 1313 = .ok (.iadd, 1) := by decide +kernel
theorem dL_law_1314 : decode cL_law 1314 = .ok (.iaload, 1) := by decide +kernel
theorem dL_law_1315 : decode cL_law 1315 = .ok (.invokevirtual 135, 3) := by decide +kernel
theorem dL_law_1318 : decode cL_law 1318 = .ok (.if_icmp .eq 5, 3) := by decide +kernel
theorem dL_law_1321 : decode cL_law 1321 = .ok (.iconst 0, 1) := by decide +kernel
theorem dL_law_1322 : decode cL_law 1322 = .ok (.ireturn, 1) := by decide +kernel
theorem dL_law_1323 : decode cL_law 1323 = .ok (.iinc 3 7, 3) := by decide +kernel
theorem dL_law_1326 : decode cL_law 1326 = .ok (.goto (-1308), 3) := by decide +kernel
theorem dL_law_1329 : decode cL_law 1329 = .ok (.iconst 1, 1) := by decide +kernel
theorem dL_law_1330 : decode cL_law 1330 = .ok (.ireturn, 1) := by decide +kernel
