theorem dL_isStill_31 : decode cL_isStill 31 = .ok (.if_icmp .gt 7, 3) := by decide +kernel
theorem dL_isStill_34 : decode cL_isStill 34 = .ok (.iconst 1, 1) := by decide +kernel
theorem dL_isStill_35 : decode cL_isStill 35 = .ok (.goto 4, 3) := by decide +kernel
theorem dL_isStill_38 : decode cL_isStill 38 = .ok (.iconst 0, 1) := by decide +kernel
theorem dL_isStill_39 : decode cL_isStill 39 = .ok (.ireturn, 1) := by decide +kernel
theorem dL_cells_0 : decode cL_cells 0 = .ok (.iconst 0, 1) := by decide +kernel
theorem dL_cells_1 : decode cL_cells 1 = .ok (.istore 7, 2) := by decide +kernel
theorem dL_cells_3 : decode cL_cells 3 = .ok (.iload 7, 2) := by decide +kernel
theorem dL_cells_5 : decode cL_cells 5 = .ok (.bipush 60, 2) := by decide +kernel
theorem dL_cells_7 : decode cL_cells 7 = .ok (.if_icmp .ge 233, 3) := by decide +kernel
theorem dL_cells_10 : decode cL_cells 10 = .ok (.bipush (-6), 2) := by decide +kernel
theorem dL_cells_12 : decode cL_cells 12 = .ok (.istore 8, 2) := by decide +kernel
theorem dL_cells_14 : decode cL_cells 14 = .ok (.iconst 0, 1) := by decide +kernel
theorem dL_cells_15 : decode cL_cells 15 = .ok (.istore 9, 2) := by decide +kernel
theorem dL_cells_17 : decode cL_cells 17 = .ok (.iload 9, 2) := by decide +kernel
theorem dL_cells_19 : decode cL_cells 19 = .ok (.aload 6, 2) := by decide +kernel
theorem dL_cells_21 : decode cL_cells 21 = .ok (.iconst 5, 1) := by decide +kernel
theorem dL_cells_22 : decode cL_cells 22 = .ok (.iaload, 1) := by decide +kernel
theorem dL_cells_23 : decode cL_cells 23 = .ok (.if_icmp .ge 30, 3) := by decide +kernel
theorem dL_cells_26 : decode cL_cells 26 = .ok (.aload 5, 2) := by decide +kernel
theorem dL_cells_28 : decode cL_cells 28 = .ok (.iconst 4, 1) := by decide +kernel
theorem dL_cells_29 : decode cL_cells 29 = .ok (.iload 9, 2) := by decide +kernel
theorem dL_cells_31 : decode cL_cells 31 = .ok (.imul, 1) := by decide +kernel
theorem dL_cells_32 : decode cL_cells 32 = .ok (.iaload, 1) := by decide +kernel
theorem dL_cells_33 : decode cL_cells 33 = .ok (.iload 7, 2) := by decide +kernel
theorem dL_cells_35 : decode cL_cells 35 = .ok (.if_icmp .ne 8, 3) := by decide +kernel
theorem dL_cells_38 : decode cL_cells 38 = .ok (.iload 9, 2) := by decide +kernel
theorem dL_cells_40 : decode cL_cells 40 = .ok (.goto 5, 3) := by decide +kernel
theorem dL_cells_43 : decode cL_cells 43 = .ok (.iload 8, 2) := by decide +kernel
theorem dL_cells_45 : decode cL_cells 45 = .ok (.istore 8, 2) := by decide +kernel
theorem dL_cells_47 : decode cL_cells 47 = .ok (.iinc 9 1, 3) := by decide +kernel
theorem dL_cells_50 : decode cL_cells 50 = .ok (.goto (-33), 3) := by decide +kernel
theorem dL_cells_53 : decode cL_cells 53 = .ok (.iload 7, 2) := by decide +kernel
theorem dL_cells_55 : decode cL_cells 55 = .ok (.bipush 10, 2) := by decide +kernel
theorem dL_cells_57 : decode cL_cells 57 = .ok (.irem, 1) := by decide +kernel
theorem dL_cells_58 : decode cL_cells 58 = .ok (.istore 9, 2) := by decide +kernel
theorem dL_cells_60 : decode cL_cells 60 = .ok (.iload 7, 2) := by decide +kernel
theorem dL_cells_62 : decode cL_cells 62 = .ok (.bipush 10, 2) := by decide +kernel
theorem dL_cells_64 : decode cL_cells 64 = .ok (.idiv, 1) := by decide +kernel
theorem dL_cells_65 : decode cL_cells 65 = .ok (.istore 10, 2) := by decide +kernel
theorem dL_cells_67 : decode cL_cells 67 = .ok (.aload_n 0, 1) := by decide +kernel
theorem dL_cells_68 : decode cL_cells 68 = .ok (.iload 9, 2) := by decide +kernel
theorem dL_cells_70 : decode cL_cells 70 = .ok (.iload 10, 2) := by decide +kernel
theorem dL_cells_72 : decode cL_cells 72 = .ok (.iconst 0, 1) := by decide +kernel
theorem dL_cells_73 : decode cL_cells 73 = .ok (.invokevirtual 26, 3) := by decide +kernel
theorem dL_cells_76 : decode cL_cells 76 = .ok (.aload_n 1, 1) := by decide +kernel
theorem dL_cells_77 : decode cL_cells 77 = .ok (.iload 7, 2) := by decide +kernel
theorem dL_cells_79 : decode cL_cells 79 = .ok (.iaload, 1) := by decide +kernel
theorem dL_cells_80 : decode cL_cells 80 = .ok (.if_icmp .ne 144, 3) := by decide +kernel
theorem dL_cells_83 : decode cL_cells 83 = .ok (.aload_n 0, 1) := by decide +kernel
theorem dL_cells_84 : decode cL_cells 84 = .ok (.iload 9, 2) := by decide +kernel
theorem dL_cells_86 : decode cL_cells 86 = .ok (.iload 10, 2) := by decide +kernel
theorem dL_cells_88 : decode cL_cells 88 = .ok (.iconst 1, 1) := by decide +kernel
theorem dL_cells_89 : decode cL_cells 89 = .ok (.invokevirtual 26, 3) := by decide +kernel
theorem dL_cells_92 : decode cL_cells 92 = .ok (.aload_n 2, 1) := by decide +kernel
theorem dL_cells_93 : decode cL_cells 93 = .ok (.iload 7, 2) := by decide +kernel
theorem dL_cells_95 : decode cL_cells 95 = .ok (.iaload, 1) := by decide +kernel
theorem dL_cells_96 : decode cL_cells 96 = .ok (.sipush 10000, 3) := by decide +kernel
theorem dL_cells_99 : decode cL_cells 99 = .ok (.iadd, 1) := by decide +kernel
theorem dL_cells_100 : decode cL_cells 100 = .ok (.if_icmp .ne 124, 3) := by decide +kernel
theorem dL_cells_103 : decode cL_cells 103 = .ok (.aload_n 0, 1) := by decide +kernel
theorem dL_cells_104 : decode cL_cells 104 = .ok (.iload 9, 2) := by decide +kernel
theorem dL_cells_106 : decode cL_cells 106 = .ok (.iload 10, 2) := by decide +kernel
theorem dL_cells_108 : decode cL_cells 108 = .ok (.iconst 2, 1) := by decide +kernel
theorem dL_cells_109 : decode cL_cells 109 = .ok (.invokevirtual 26, 3) := by decide +kernel
theorem dL_cells_112 : decode cL_cells 112 = .ok (.aload_n 3, 1) := by decide +kernel
theorem dL_cells_113 : decode cL_cells 113 = .ok (.iload 7, 2) := by decide +kernel
theorem dL_cells_115 : decode cL_cells 115 = .ok (.iaload, 1) := by decide +kernel
theorem dL_cells_116 : decode cL_cells 116 = .ok (.sipush 10000, 3) := by decide +kernel
theorem dL_cells_119 : decode cL_cells 119 = .ok (.iadd, 1) := by decide +kernel
theorem dL_cells_120 : decode cL_cells 120 = .ok (.if_icmp .ne 104, 3) := by decide +kernel
theorem dL_cells_123 : decode cL_cells 123 = .ok (.aload_n 0, 1) := by decide +kernel
theorem dL_cells_124 : decode cL_cells 124 = .ok (.iload 9, 2) := by decide +kernel
theorem dL_cells_126 : decode cL_cells 126 = .ok (.iload 10, 2) := by decide +kernel
theorem dL_cells_128 : decode cL_cells 128 = .ok (.iconst 3, 1) := by decide +kernel
theorem dL_cells_129 : decode cL_cells 129 = .ok (.invokevirtual 26, 3) := by decide +kernel
theorem dL_cells_132 : decode cL_cells 132 = .ok (.aload_n 1, 1) := by decide +kernel
theorem dL_cells_133 : decode cL_cells 133 = .ok (.aload_n 2, 1) := by decide +kernel
theorem dL_cells_134 : decode cL_cells 134 = .ok (.iload 7, 2) := by decide +kernel
theorem dL_cells_136 : decode cL_cells 136 = .ok (.invokestatic 16, 3) := by decide +kernel
theorem dL_cells_139 : decode cL_cells 139 = .ok (.ldc 30, 2) := by decide +kernel
theorem dL_cells_141 : decode cL_cells 141 = .ok (.iadd, 1) := by decide +kernel
theorem dL_cells_142 : decode cL_cells 142 = .ok (.if_icmp .ne 82, 3) := by decide +kernel
theorem dL_cells_145 : decode cL_cells 145 = .ok (.aload_n 0, 1) := by decide +kernel
theorem dL_cells_146 : decode cL_cells 146 = .ok (.iload 9, 2) := by decide +kernel
theorem dL_cells_148 : decode cL_cells 148 = .ok (.iload 10, 2) := by decide +kernel
theorem dL_cells_150 : decode cL_cells 150 = .ok (.iconst 4, 1) := by decide +kernel
theorem dL_cells_151 : decode cL_cells 151 = .ok (.invokevirtual 26, 3) := by decide +kernel
theorem dL_cells_154 : decode cL_cells 154 = .ok (.aload_n 1, 1) := by decide +kernel
theorem dL_cells_155 : decode cL_cells 155 = .ok (.aload_n 2, 1) := by decide +kernel
theorem dL_cells_156 : decode cL_cells 156 = .ok (.aload_n 3, 1) := by decide +kernel
theorem dL_cells_157 : decode cL_cells 157 = .ok (.aload 6, 2) := by decide +kernel
theorem dL_cells_159 : decode cL_cells 159 = .ok (.iload 7, 2) := by decide +kernel
theorem dL_cells_161 : decode cL_cells 161 = .ok (.invokestatic 31, 3) := by decide +kernel
theorem dL_cells_164 : decode cL_cells 164 = .ok (.ifCond .eq 7, 3) := by decide +kernel
theorem dL_cells_167 : decode cL_cells 167 = .ok (.iconst 1, 1) := by decide +kernel
theorem dL_cells_168 : decode cL_cells 168 = .ok (.goto 4, 3) := by decide +kernel
theorem dL_cells_171 : decode cL_cells 171 = .ok (.iconst 0, 1) := by decide +kernel
theorem dL_cells_172 : decode cL_cells 172 = .ok (.if_icmp .ne 52, 3) := by decide +kernel
theorem dL_cells_175 : decode cL_cells 175 = .ok (.aload_n 0, 1) := by decide +kernel
theorem dL_cells_176 : decode cL_cells 176 = .ok (.iload 9, 2) := by decide +kernel
theorem dL_cells_178 : decode cL_cells 178 = .ok (.iload 10, 2) := by decide +kernel
theorem dL_cells_180 : decode cL_cells 180 = .ok (.iconst 5, 1) := by decide +kernel
theorem dL_cells_181 : decode cL_cells 181 = .ok (.invokevirtual 26, 3) := by decide +kernel
theorem dL_cells_184 : decode cL_cells 184 = .ok (.aload 4, 2) := by decide +kernel
theorem dL_cells_186 : decode cL_cells 186 = .ok (.iload 7, 2) := by decide +kernel
theorem dL_cells_188 : decode cL_cells 188 = .ok (.iaload, 1) := by decide +kernel
theorem dL_cells_189 : decode cL_cells 189 = .ok (.ifCond .ge 8, 3) := by decide +kernel
theorem dL_cells_192 : decode cL_cells 192 = .ok (.bipush (-6), 2) := by decide +kernel
theorem dL_cells_194 : decode cL_cells 194 = .ok (.goto 8, 3) := by decide +kernel
theorem dL_cells_197 : decode cL_cells 197 = .ok (.aload 4, 2) := by decide +kernel
theorem dL_cells_199 : decode cL_cells 199 = .ok (.iload 7, 2) := by decide +kernel
theorem dL_cells_201 : decode cL_cells 201 = .ok (.iaload, 1) := by decide +kernel
theorem dL_cells_202 : decode cL_cells 202 = .ok (.if_icmp .ne 22, 3) := by decide +kernel
theorem dL_cells_205 : decode cL_cells 205 = .ok (.aload_n 0, 1) := by decide +kernel
theorem dL_cells_206 : decode cL_cells 206 = .ok (.iload 9, 2) := by decide +kernel
theorem dL_cells_208 : decode cL_cells 208 = .ok (.iload 10, 2) := by decide +kernel
theorem dL_cells_210 : decode cL_cells 210 = .ok (.bipush 6, 2) := by decide +kernel
theorem dL_cells_212 : decode cL_cells 212 = .ok (.invokevirtual 26, 3) := by decide +kernel
theorem dL_cells_215 : decode cL_cells 215 = .ok (.iload 8, 2) := by decide +kernel
theorem dL_cells_217 : decode cL_cells 217 = .ok (.if_icmp .ne 7, 3) := by decide +kernel
theorem dL_cells_220 : decode cL_cells 220 = .ok (.iconst 1, 1) := by decide +kernel
theorem dL_cells_221 : decode cL_cells 221 = .ok (.goto 4, 3) := by decide +kernel
theorem dL_cells_224 : decode cL_cells 224 = .ok (.iconst 0, 1) := by decide +kernel
theorem dL_cells_225 : decode cL_cells 225 = .ok (.istore 11, 2) := by decide +kernel
theorem dL_cells_227 : decode cL_cells 227 = .ok (.iload 11, 2) := by decide +kernel
theorem dL_cells_229 : decode cL_cells 229 = .ok (.ifCond .ne 5, 3) := by decide +kernel
theorem dL_cells_232 : decode cL_cells 232 = .ok (.iconst 0, 1) := by decide +kernel
theorem dL_cells_233 : decode cL_cells 233 = .ok (.ireturn, 1) := by decide +kernel
theorem dL_cells_234 : decode cL_cells 234 = .ok (.iinc 7 1, 3) := by decide +kernel
theorem dL_cells_237 : decode cL_cells 237 = .ok (.goto (-234), 3) := by decide +kernel
theorem dL_cells_240 : decode cL_cells 240 = .ok (.iconst 1, 1) := by decide +kernel
theorem dL_cells_241 : decode cL_cells 241 = .ok (.ireturn, 1) := by decide +kernel
theorem dL_counts_0 : decode cL_counts 0 = .ok (.iconst 0, 1) := by decide +kernel
theorem dL_counts_1 : decode cL_counts 1 = .ok (.istore 6, 2) := by decide +kernel
theorem dL_counts_3 : decode cL_counts 3 = .ok (.iconst 0, 1) := by decide +kernel
theorem dL_counts_4 : decode cL_counts 4 = .ok (.istore 7, 2) := by decide +kernel
theorem dL_counts_6 : decode cL_counts 6 = .ok (.iconst 0, 1) := by decide +kernel
theorem dL_counts_7 : decode cL_counts 7 = .ok (.istore 8, 2) := by decide +kernel
theorem dL_counts_9 : decode cL_counts 9 = .ok (.iconst 0, 1) := by decide +kernel
theorem dL_counts_10 : decode cL_counts 10 = .ok (.istore 9, 2) := by decide +kernel
theorem dL_counts_12 : decode cL_counts 12 = .ok (.iconst 0, 1) := by decide +kernel
theorem dL_counts_13 : decode cL_counts 13 = .ok (.istore 10, 2) := by decide +kernel
theorem dL_counts_15 : decode cL_counts 15 = .ok (.iconst (-1), 1) := by decide +kernel
theorem dL_counts_16 : decode cL_counts 16 = .ok (.istore 11, 2) := by decide +kernel
theorem dL_counts_18 : decode cL_counts 18 = .ok (.iconst 0, 1) := by decide +kernel
theorem dL_counts_19 : decode cL_counts 19 = .ok (.istore 12, 2) := by decide +kernel
theorem dL_counts_21 : decode cL_counts 21 = .ok (.iconst 0, 1) := by decide +kernel
theorem dL_counts_22 : decode cL_counts 22 = .ok (.istore 13, 2) := by decide +kernel
theorem dL_counts_24 : decode cL_counts 24 = .ok (.iload 13, 2) := by decide +kernel
theorem dL_counts_26 : decode cL_counts 26 = .ok (.bipush 60, 2) := by decide +kernel
theorem dL_counts_28 : decode cL_counts 28 = .ok (.if_icmp .ge 144, 3) := by decide +kernel
theorem dL_counts_31 : decode cL_counts 31 = .ok (.iload 6, 2) := by decide +kernel
theorem dL_counts_33 : decode cL_counts 33 = .ok (.aload_n 1, 1) := by decide +kernel
theorem dL_counts_34 : decode cL_counts 34 = .ok (.iload 13, 2) := by decide +kernel
theorem dL_counts_36 : decode cL_counts 36 = .ok (.iaload, 1) := by decide +kernel
theorem dL_counts_37 : decode cL_counts 37 = .ok (.iconst 2, 1) := by decide +kernel
theorem dL_counts_38 : decode cL_counts 38 = .ok (.if_icmp .ne 7, 3) := by decide +kernel
theorem dL_counts_41 : decode cL_counts 41 = .ok (.iconst 0, 1) := by decide +kernel
theorem dL_counts_42 : decode cL_counts 42 = .ok (.goto 4, 3) := by decide +kernel
theorem dL_counts_45 : decode cL_counts 45 = .ok (.iconst 1, 1) := by decide +kernel
theorem dL_counts_46 : decode cL_counts 46 = .ok (.iadd, 1) := by decide +kernel
theorem dL_counts_47 : decode cL_counts 47 = .ok (.istore 6, 2) := by decide +kernel
theorem dL_counts_49 : decode cL_counts 49 = .ok (.iload 7, 2) := by decide +kernel
theorem dL_counts_51 : decode cL_counts 51 = .ok (.aload_n 1, 1) := by decide +kernel
theorem dL_counts_52 : decode cL_counts 52 = .ok (.iload 13, 2) := by decide +kernel
theorem dL_counts_54 : decode cL_counts 54 = .ok (.iaload, 1) := by decide +kernel
theorem dL_counts_55 : decode cL_counts 55 = .ok (.iconst 2, 1) := by decide +kernel
theorem dL_counts_56 : decode cL_counts 56 = .ok (.if_icmp .eq 20, 3) := by decide +kernel
theorem dL_counts_59 : decode cL_counts 59 = .ok (.aload_n 1, 1) := by decide +kernel
theorem dL_counts_60 : decode cL_counts 60 = .ok (.aload_n 2, 1) := by decide +kernel
theorem dL_counts_61 : decode cL_counts 61 = .ok (.aload_n 3, 1) := by decide +kernel
theorem dL_counts_62 : decode cL_counts 62 = .ok (.aload 5, 2) := by decide +kernel
theorem dL_counts_64 : decode cL_counts 64 = .ok (.iload 13, 2) := by decide +kernel
theorem dL_counts_66 : decode cL_counts 66 = .ok (.invokestatic 31, 3) := by decide +kernel
theorem dL_counts_69 : decode cL_counts 69 = .ok (.ifCond .eq 7, 3) := by decide +kernel
theorem dL_counts_72 : decode cL_counts 72 = .ok (.iconst 1, 1) := by decide +kernel
theorem dL_counts_73 : decode cL_counts 73 = .ok (.goto 4, 3) := by decide +kernel
theorem dL_counts_76 : decode cL_counts 76 = .ok (.iconst 0, 1) := by decide +kernel
theorem dL_counts_77 : decode cL_counts 77 = .ok (.iadd, 1) := by decide +kernel
theorem dL_counts_78 : decode cL_counts 78 = .ok (.istore 7, 2) := by decide +kernel
theorem dL_counts_80 : decode cL_counts 80 = .ok (.iload 8, 2) := by decide +kernel
theorem dL_counts_82 : decode cL_counts 82 = .ok (.aload_n 2, 1) := by decide +kernel
theorem dL_counts_83 : decode cL_counts 83 = .ok (.iload 13, 2) := by decide +kernel
theorem dL_counts_85 : decode cL_counts 85 = .ok (.iaload, 1) := by decide +kernel
theorem dL_counts_86 : decode cL_counts 86 = .ok (.iadd, 1) := by decide +kernel
theorem dL_counts_87 : decode cL_counts 87 = .ok (.istore 8, 2) := by decide +kernel
theorem dL_counts_89 : decode cL_counts 89 = .ok (.iload 9, 2) := by decide +kernel
theorem dL_counts_91 : decode cL_counts 91 = .ok (.aload_n 2, 1) := by decide +kernel
theorem dL_counts_92 : decode cL_counts 92 = .ok (.iload 13, 2) := by decide +kernel
theorem dL_counts_94 : decode cL_counts 94 = .ok (.iaload, 1) := by decide +kernel
theorem dL_counts_95 : decode cL_counts 95 = .ok (.invokestatic 20, 3) := by decide +kernel
theorem dL_counts_98 : decode cL_counts 98 = .ok (.iadd, 1) := by decide +kernel
theorem dL_counts_99 : decode cL_counts 99 = .ok (.istore 9, 2) := by decide +kernel
theorem dL_counts_101 : decode cL_counts 101 = .ok (.aload_n 2, 1) := by decide +kernel
theorem dL_counts_102 : decode cL_counts 102 = .ok (.iload 13, 2) := by decide +kernel
theorem dL_counts_104 : decode cL_counts 104 = .ok (.iaload, 1) := by decide +kernel
theorem dL_counts_105 : decode cL_counts 105 = .ok (.invokestatic 20, 3) := by decide +kernel
theorem dL_counts_108 : decode cL_counts 108 = .ok (.iload 10, 2) := by decide +kernel
theorem dL_counts_110 : decode cL_counts 110 = .ok (.if_icmp .le 8, 3) := by decide +kernel
theorem dL_counts_113 : decode cL_counts 113 = .ok (.iload 13, 2) := by decide +kernel
theorem dL_counts_115 : decode cL_counts 115 = .ok (.goto 5, 3) := by decide +kernel
theorem dL_counts_118 : decode cL_counts 118 = .ok (.iload 11, 2) := by decide +kernel
theorem dL_counts_120 : decode cL_counts 120 = .ok (.istore 11, 2) := by decide +kernel
theorem dL_counts_122 : decode cL_counts 122 = .ok (.aload_n 2, 1) := by decide +kernel
theorem dL_counts_123 : decode cL_counts 123 = .ok (.iload 13, 2) := by decide +kernel
theorem dL_counts_125 : decode cL_counts 125 = .ok (.iaload, 1) := by decide +kernel
theorem dL_counts_126 : decode cL_counts 126 = .ok (.invokestatic 20, 3) := by decide +kernel
theorem dL_counts_129 : decode cL_counts 129 = .ok (.iload 10, 2) := by decide +kernel
theorem dL_counts_131 : decode cL_counts 131 = .ok (.if_icmp .le 13, 3) := by decide +kernel
theorem dL_counts_134 : decode cL_counts 134 = .ok (.aload_n 2, 1) := by decide +kernel
theorem dL_counts_135 : decode cL_counts 135 = .ok (.iload 13, 2) := by decide +kernel
theorem dL_counts_137 : decode cL_counts 137 = .ok (.iaload, 1) := by decide +kernel
theorem dL_counts_138 : decode cL_counts 138 = .ok (.invokestatic 20, 3) := by decide +kernel
theorem dL_counts_141 : decode cL_counts 141 = .ok (.goto 5, 3) := by decide +kernel
theorem dL_counts_144 : decode cL_counts 144 = .ok (.iload 10, 2) := by decide +kernel
theorem dL_counts_146 : decode cL_counts 146 = .ok (.istore 10, 2) := by decide +kernel
theorem dL_counts_148 : decode cL_counts 148 = .ok (.iload 12, 2) := by decide +kernel
theorem dL_counts_150 : decode cL_counts 150 = .ok (.aload 4, 2) := by decide +kernel
theorem dL_counts_152 : decode cL_counts 152 = .ok (.iload 13, 2) := by decide +kernel
theorem dL_counts_154 : decode cL_counts 154 = .ok (.iaload, 1) := by decide +kernel
theorem dL_counts_155 : decode cL_counts 155 = .ok (.ifCond .ge 7, 3) := by decide +kernel
theorem dL_counts_158 : decode cL_counts 158 = .ok (.iconst 0, 1) := by decide +kernel
theorem dL_counts_159 : decode cL_counts 159 = .ok (.goto 4, 3) := by decide +kernel
theorem dL_counts_162 : decode cL_counts 162 = .ok (.iconst 1, 1) := by decide +kernel
theorem dL_counts_163 : decode cL_counts 163 = .ok (.iadd, 1) := by decide +kernel
theorem dL_counts_164 : decode cL_counts 164 = .ok (.istore 12, 2) := by decide +kernel
theorem dL_counts_166 : decode cL_counts 166 = .ok (.iinc 13 1, 3) := by decide +kernel
theorem dL_counts_169 : decode cL_counts 169 = .ok (.goto (-145), 3) := by decide +kernel
theorem dL_counts_172 : decode cL_counts 172 = .ok (.iconst 0, 1) := by decide +kernel
theorem dL_counts_173 : decode cL_counts 173 = .ok (.istore 13, 2) := by decide +kernel
theorem dL_counts_175 : decode cL_counts 175 = .ok (.iload 13, 2) := by decide +kernel
theorem dL_counts_177 : decode cL_counts 177 = .ok (.bipush 6, 2) := by decide +kernel
theorem dL_counts_179 : decode cL_counts 179 = .ok (.if_icmp .ge 114, 3) := by decide +kernel
theorem dL_counts_182 : decode cL_counts 182 = .ok (.iconst 0, 1) := by decide +kernel
theorem dL_counts_183 : decode cL_counts 183 = .ok (.istore 14, 2) := by decide +kernel
theorem dL_counts_185 : decode cL_counts 185 = .ok (.iconst 0, 1) := by decide +kernel
theorem dL_counts_186 : decode cL_counts 186 = .ok (.istore 15, 2) := by decide +kernel
theorem dL_counts_188 : decode cL_counts 188 = .ok (.iload 15, 2) := by decide +kernel
theorem dL_counts_190 : decode cL_counts 190 = .ok (.bipush 10, 2) := by decide +kernel
theorem dL_counts_192 : decode cL_counts 192 = .ok (.if_icmp .ge 82, 3) := by decide +kernel
theorem dL_counts_195 : decode cL_counts 195 = .ok (.aload_n 2, 1) := by decide +kernel
theorem dL_counts_196 : decode cL_counts 196 = .ok (.bipush 10, 2) := by decide +kernel
theorem dL_counts_198 : decode cL_counts 198 = .ok (.iload 13, 2) := by decide +kernel
theorem dL_counts_200 : decode cL_counts 200 = .ok (.imul, 1) := by decide +kernel
theorem dL_counts_201 : decode cL_counts 201 = .ok (.iload 15, 2) := by decide +kernel
theorem dL_counts_203 : decode cL_counts 203 = .ok (.iadd, 1) := by decide +kernel
theorem dL_counts_204 : decode cL_counts 204 = .ok (.iaload, 1) := by decide +kernel
theorem dL_counts_205 : decode cL_counts 205 = .ok (.istore 16, 2) := by decide +kernel
theorem dL_counts_207 : decode cL_counts 207 = .ok (.iload 14, 2) := by decide +kernel
theorem dL_counts_209 : decode cL_counts 209 = .ok (.iload 16, 2) := by decide +kernel
theorem dL_counts_211 : decode cL_counts 211 = .ok (.ifCond .le 53, 3) := by decide +kernel
theorem dL_counts_214 : decode cL_counts 214 = .ok (.iload 15, 2) := by decide +kernel
theorem dL_counts_216 : decode cL_counts 216 = .ok (.ifCond .eq 20, 3) := by decide +kernel
theorem dL_counts_219 : decode cL_counts 219 = .ok (.aload_n 2, 1) := by decide +kernel
theorem dL_counts_220 : decode cL_counts 220 = .ok (.bipush 10, 2) := by decide +kernel
theorem dL_counts_222 : decode cL_counts 222 = .ok (.iload 13, 2) := by decide +kernel
theorem dL_counts_224 : decode cL_counts 224 = .ok (.imul, 1) := by decide +kernel
theorem dL_counts_225 : decode cL_counts 225 = .ok (.iload 15, 2) := by decide +kernel
theorem dL_counts_227 : decode cL_counts 227 = .ok (.iadd, 1) := by decide +kernel
theorem dL_counts_228 : decode cL_counts 228 = .ok (.iconst 1, 1) := by decide +kernel
theorem dL_counts_229 : decode cL_counts 229 = .ok (.isub, 1) := by decide +kernel
theorem dL_counts_230 : decode cL_counts 230 = .ok (.iaload, 1) := by decide +kernel
theorem dL_counts_231 : decode cL_counts 231 = .ok (.iload 16, 2) := by decide +kernel
theorem dL_counts_233 : decode cL_counts 233 = .ok (.if_icmp .ge 31, 3) := by decide +kernel
theorem dL_counts_236 : decode cL_counts 236 = .ok (.iload 15, 2) := by decide +kernel
theorem dL_counts_238 : decode cL_counts 238 = .ok (.bipush 9, 2) := by decide +kernel
theorem dL_counts_240 : decode cL_counts 240 = .ok (.if_icmp .eq 20, 3) := by decide +kernel
theorem dL_counts_243 : decode cL_counts 243 = .ok (.aload_n 2, 1) := by decide +kernel
theorem dL_counts_244 : decode cL_counts 244 = .ok (.bipush 10, 2) := by decide +kernel
theorem dL_counts_246 : decode cL_counts 246 = .ok (.iload 13, 2) := by decide +kernel
theorem dL_counts_248 : decode cL_counts 248 = .ok (.imul, 1) := by decide +kernel
theorem dL_counts_249 : decode cL_counts 249 = .ok (.iload 15, 2) := by decide +kernel
theorem dL_counts_251 : decode cL_counts 251 = .ok (.iadd, 1) := by decide +kernel
theorem dL_counts_252 : decode cL_counts 252 = .ok (.iconst 1, 1) := by decide +kernel
theorem dL_counts_253 : decode cL_counts 253 = .ok (.iadd, 1) := by decide +kernel
theorem dL_counts_254 : decode cL_counts 254 = .ok (.iaload, 1) := by decide +kernel
theorem dL_counts_255 : decode cL_counts 255 = .ok (.iload 16, 2) := by decide +kernel
theorem dL_counts_257 : decode cL_counts 257 = .ok (.if_icmp .ge 7, 3) := by decide +kernel
theorem dL_counts_260 : decode cL_counts 260 = .ok (.iconst 1, 1) := by decide +kernel
theorem dL_counts_261 : decode cL_counts 261 = .ok (.goto 4, 3) := by decide +kernel
theorem dL_counts_264 : decode cL_counts 264 = .ok (.iconst 0, 1) := by decide +kernel
theorem dL_counts_265 : decode cL_counts 265 = .ok (.iadd, 1) := by decide +kernel
theorem dL_counts_266 : decode cL_counts 266 = .ok (.istore 14, 2) := by decide +kernel
theorem dL_counts_268 : decode cL_counts 268 = .ok (.iinc 15 1, 3) := by decide +kernel
theorem dL_counts_271 : decode cL_counts 271 = .ok (.goto (-83), 3) := by decide +kernel
theorem dL_counts_274 : decode cL_counts 274 = .ok (.aload_n 0, 1) := by decide +kernel
theorem dL_counts_275 : decode cL_counts 275 = .ok (.iload 13, 2) := by decide +kernel
theorem dL_counts_277 : decode cL_counts 277 = .ok (.invokevirtual 35, 3) := by decide +kernel
theorem dL_counts_280 : decode cL_counts 280 = .ok (.iload 14, 2) := by decide +kernel
theorem dL_counts_282 : decode cL_counts 282 = .ok (.if_icmp .eq 5, 3) := by decide +kernel
theorem dL_counts_285 : decode cL_counts 285 = .ok (.iconst 0, 1) := by decide +kernel
theorem dL_counts_286 : decode cL_counts 286 = .ok (.ireturn, 1) := by decide +kernel
theorem dL_counts_287 : decode cL_counts 287 = .ok (.iinc 13 1, 3) := by decide +kernel
theorem dL_counts_290 : decode cL_counts 290 = .ok (.goto (-115), 3) := by decide +kernel
theorem dL_counts_293 : decode cL_counts 293 = .ok (.aload_n 0, 1) := by decide +kernel
theorem dL_counts_294 : decode cL_counts 294 = .ok (.iconst 0, 1) := by decide +kernel
theorem dL_counts_295 : decode cL_counts 295 = .ok (.invokevirtual 38, 3) := by decide +kernel
theorem dL_counts_298 : decode cL_counts 298 = .ok (.iload 11, 2) := by decide +kernel
theorem dL_counts_300 : decode cL_counts 300 = .ok (.ifCond .ge 8, 3) := by decide +kernel
theorem dL_counts_303 : decode cL_counts 303 = .ok (.bipush (-6), 2) := by decide +kernel
theorem dL_counts_305 : decode cL_counts 305 = .ok (.goto 8, 3) := by decide +kernel
theorem dL_counts_308 : decode cL_counts 308 = .ok (.iload 11, 2) := by decide +kernel
theorem dL_counts_310 : decode cL_counts 310 = .ok (.bipush 10, 2) := by decide +kernel
theorem dL_counts_312 : decode cL_counts 312 = .ok (.irem, 1) := by decide +kernel
theorem dL_counts_313 : decode cL_counts 313 = .ok (.if_icmp .ne 30, 3) := by decide +kernel
theorem dL_counts_316 : decode cL_counts 316 = .ok (.aload_n 0, 1) := by decide +kernel
theorem dL_counts_317 : decode cL_counts 317 = .ok (.iconst 1, 1) := by decide +kernel
theorem dL_counts_318 : decode cL_counts 318 = .ok (.invokevirtual 38, 3) := by decide +kernel
theorem dL_counts_321 : decode cL_counts 321 = .ok (.iload 11, 2) := by decide +kernel
theorem dL_counts_323 : decode cL_counts 323 = .ok (.ifCond .ge 8, 3) := by decide +kernel
theorem dL_counts_326 : decode cL_counts 326 = .ok (.bipush (-6), 2) := by decide +kernel
theorem dL_counts_328 : decode cL_counts 328 = .ok (.goto 8, 3) := by decide +kernel
theorem dL_counts_331 : decode cL_counts 331 = .ok (.iload 11, 2) := by decide +kernel
theorem dL_counts_333 : decode cL_counts 333 = .ok (.bipush 10, 2) := by decide +kernel
theorem dL_counts_335 : decode cL_counts 335 = .ok (.idiv, 1) := by decide +kernel
theorem dL_counts_336 : decode cL_counts 336 = .ok (.if_icmp .ne 7, 3) := by decide +kernel
theorem dL_counts_339 : decode cL_counts 339 = .ok (.iconst 1, 1) := by decide +kernel
theorem dL_counts_340 : decode cL_counts 340 = .ok (.goto 4, 3) := by decide +kernel
theorem dL_counts_343 : decode cL_counts 343 = .ok (.iconst 0, 1) := by decide +kernel
theorem dL_counts_344 : decode cL_counts 344 = .ok (.istore 13, 2) := by decide +kernel
theorem dL_counts_346 : decode cL_counts 346 = .ok (.iload 13, 2) := by decide +kernel
theorem dL_counts_348 : decode cL_counts 348 = .ok (.ifCond .eq 110, 3) := by decide +kernel
theorem dL_counts_351 : decode cL_counts 351 = .ok (.aload_n 0, 1) := by decide +kernel
theorem dL_counts_352 : decode cL_counts 352 = .ok (.iconst 0, 1) := by decide +kernel
theorem dL_counts_353 : decode cL_counts 353 = .ok (.invokevirtual 41, 3) := by decide +kernel
theorem dL_counts_356 : decode cL_counts 356 = .ok (.aload 5, 2) := by decide +kernel
theorem dL_counts_358 : decode cL_counts 358 = .ok (.iconst 4, 1) := by decide +kernel
theorem dL_counts_359 : decode cL_counts 359 = .ok (.iaload, 1) := by decide +kernel
theorem dL_counts_360 : decode cL_counts 360 = .ok (.if_icmp .ne 98, 3) := by decide +kernel
theorem dL_counts_363 : decode cL_counts 363 = .ok (.aload_n 0, 1) := by decide +kernel
theorem dL_counts_364 : decode cL_counts 364 = .ok (.iconst 1, 1) := by decide +kernel
theorem dL_counts_365 : decode cL_counts 365 = .ok (.invokevirtual 41, 3) := by decide +kernel
theorem dL_counts_368 : decode cL_counts 368 = .ok (.iload 6, 2) := by decide +kernel
theorem dL_counts_370 : decode cL_counts 370 = .ok (.if_icmp .ne 88, 3) := by decide +kernel
theorem dL_counts_373 : decode cL_counts 373 = .ok (.aload_n 0, 1) := by decide +kernel
theorem dL_counts_374 : decode cL_counts 374 = .ok (.iconst 2, 1) := by decide +kernel
theorem dL_counts_375 : decode cL_counts 375 = .ok (.invokevirtual 41, 3) := by decide +kernel
theorem dL_counts_378 : decode cL_counts 378 = .ok (.iload 7, 2) := by decide +kernel
theorem dL_counts_380 : decode cL_counts 380 = .ok (.if_icmp .ne 78, 3) := by decide +kernel
theorem dL_counts_383 : decode cL_counts 383 = .ok (.aload_n 0, 1) := by decide +kernel
theorem dL_counts_384 : decode cL_counts 384 = .ok (.iconst 3, 1) := by decide +kernel
theorem dL_counts_385 : decode cL_counts 385 = .ok (.invokevirtual 41, 3) := by decide +kernel
theorem dL_counts_388 : decode cL_counts 388 = .ok (.iload 8, 2) := by decide +kernel
theorem dL_counts_390 : decode cL_counts 390 = .ok (.ldc 44, 2) := by decide +kernel
theorem dL_counts_392 : decode cL_counts 392 = .ok (.iadd, 1) := by decide +kernel
theorem dL_counts_393 : decode cL_counts 393 = .ok (.if_icmp .ne 65, 3) := by decide +kernel
theorem dL_counts_396 : decode cL_counts 396 = .ok (.aload_n 0, 1) := by decide +kernel
theorem dL_counts_397 : decode cL_counts 397 = .ok (.iconst 4, 1) := by decide +kernel
theorem dL_counts_398 : decode cL_counts 398 = .ok (.invokevirtual 41, 3) := by decide +kernel
theorem dL_counts_401 : decode cL_counts 401 = .ok (.iload 9, 2) := by decide +kernel
theorem dL_counts_403 : decode cL_counts 403 = .ok (.if_icmp .ne 55, 3) := by decide +kernel
theorem dL_counts_406 : decode cL_counts 406 = .ok (.aload_n 0, 1) := by decide +kernel
theorem dL_counts_407 : decode cL_counts 407 = .ok (.iconst 5, 1) := by decide +kernel
theorem dL_counts_408 : decode cL_counts 408 = .ok (.invokevirtual 41, 3) := by decide +kernel
theorem dL_counts_411 : decode cL_counts 411 = .ok (.iload 10, 2) := by decide +kernel
theorem dL_counts_413 : decode cL_counts 413 = .ok (.if_icmp .ne 45, 3) := by decide +kernel
theorem dL_counts_416 : decode cL_counts 416 = .ok (.aload_n 0, 1) := by decide +kernel
theorem dL_counts_417 : decode cL_counts 417 = .ok (.bipush 6, 2) := by decide +kernel
theorem dL_counts_419 : decode cL_counts 419 = .ok (.invokevirtual 41, 3) := by decide +kernel
theorem dL_counts_422 : decode cL_counts 422 = .ok (.iload 12, 2) := by decide +kernel
theorem dL_counts_424 : decode cL_counts 424 = .ok (.if_icmp .ne 34, 3) := by decide +kernel
theorem dL_counts_427 : decode cL_counts 427 = .ok (.aload_n 0, 1) := by decide +kernel
theorem dL_counts_428 : decode cL_counts 428 = .ok (.bipush 7, 2) := by decide +kernel
theorem dL_counts_430 : decode cL_counts 430 = .ok (.invokevirtual 41, 3) := by decide +kernel
theorem dL_counts_433 : decode cL_counts 433 = .ok (.aload 5, 2) := by decide +kernel
theorem dL_counts_435 : decode cL_counts 435 = .ok (.iconst 5, 1) := by decide +kernel
theorem dL_counts_436 : decode cL_counts 436 = .ok (.iaload, 1) := by decide +kernel
theorem dL_counts_437 : decode cL_counts 437 = .ok (.if_icmp .ne 21, 3) := by decide +kernel
theorem dL_counts_440 : decode cL_counts 440 = .ok (.aload_n 0, 1) := by decide +kernel
theorem dL_counts_441 : decode cL_counts 441 = .ok (.bipush 8, 2) := by decide +kernel
theorem dL_counts_443 : decode cL_counts 443 = .ok (.invokevirtual 41, 3) := by decide +kernel
theorem dL_counts_446 : decode cL_counts 446 = .ok (.aload 5, 2) := by decide +kernel
theorem dL_counts_448 : decode cL_counts 448 = .ok (.bipush 6, 2) := by decide +kernel
theorem dL_counts_450 : decode cL_counts 450 = .ok (.iaload, 1) := by decide +kernel
theorem dL_counts_451 : decode cL_counts 451 = .ok (.if_icmp .ne 7, 3) := by decide +kernel
theorem dL_counts_454 : decode cL_counts 454 = .ok (.iconst 1, 1) := by decide +kernel
theorem dL_counts_455 : decode cL_counts 455 = .ok (.goto 4, 3) := by decide +kernel
theorem dL_counts_458 : decode cL_counts 458 = .ok (.iconst 0, 1) := by decide +kernel
theorem dL_counts_459 : decode cL_counts 459 = .ok (.ireturn, 1) := by decide +kernel
theorem dL_probe_0 : decode cL_probe 0 = .ok (.bipush (-6), 2) := by decide +kernel
theorem dL_probe_2 : decode cL_probe 2 = .ok (.istore_n 3, 1) := by decide +kernel
theorem dL_probe_3 : decode cL_probe 3 = .ok (.iconst 0, 1) := by decide +kernel
theorem dL_probe_4 : decode cL_probe 4 = .ok (.istore 4, 2) := by decide +kernel
theorem dL_probe_6 : decode cL_probe 6 = .ok (.iload 4, 2) := by decide +kernel
theorem dL_probe_8 : decode cL_probe 8 = .ok (.iload_n 2, 1) := by decide +kernel
theorem dL_probe_9 : decode cL_probe 9 = .ok (.if_icmp .ge 54, 3) := by decide +kernel
theorem dL_probe_12 : decode cL_probe 12 = .ok (.aload_n 0, 1) := by decide +kernel
theorem dL_probe_13 : decode cL_probe 13 = .ok (.iconst 0, 1) := by decide +kernel
theorem dL_probe_14 : decode cL_probe 14 = .ok (.iload 4, 2) := by decide +kernel
theorem dL_probe_16 : decode cL_probe 16 = .ok (.invokevirtual 45, 3) := by decide +kernel
theorem dL_probe_19 : decode cL_probe 19 = .ok (.aload_n 1, 1) := by decide +kernel
theorem dL_probe_20 : decode cL_probe 20 = .ok (.iload 4, 2) := by decide +kernel
theorem dL_probe_22 : decode cL_probe 22 = .ok (.iaload, 1) := by decide +kernel
theorem dL_probe_23 : decode cL_probe 23 = .ok (.sipush 10000, 3) := by decide +kernel
theorem dL_probe_26 : decode cL_probe 26 = .ok (.iadd, 1) := by decide +kernel
theorem dL_probe_27 : decode cL_probe 27 = .ok (.if_icmp .eq 5, 3) := by decide +kernel
theorem dL_probe_30 : decode cL_probe 30 = .ok (.iconst 0, 1) := by decide +kernel
theorem dL_probe_31 : decode cL_probe 31 = .ok (.ireturn, 1) := by decide +kernel
theorem dL_probe_32 : decode cL_probe 32 = .ok (.aload_n 1, 1) := by decide +kernel
theorem dL_probe_33 : decode cL_probe 33 = .ok (.iload 4, 2) := by decide +kernel
theorem dL_probe_35 : decode cL_probe 35 = .ok (.iaload, 1) := by decide +kernel
theorem dL_probe_36 : decode cL_probe 36 = .ok (.sipush 10000, 3) := by decide +kernel
theorem dL_probe_39 : decode cL_probe 39 = .ok (.iadd, 1) := by decide +kernel
theorem dL_probe_40 : decode cL_probe 40 = .ok (.iload_n 3, 1) := by decide +kernel
theorem dL_probe_41 : decode cL_probe 41 = .ok (.if_icmp .le 14, 3) := by decide +kernel
theorem dL_probe_44 : decode cL_probe 44 = .ok (.aload_n 1, 1) := by decide +kernel
theorem dL_probe_45 : decode cL_probe 45 = .ok (.iload 4, 2) := by decide +kernel
theorem dL_probe_47 : decode cL_probe 47 = .ok (.iaload, 1) := by decide +kernel
theorem dL_probe_48 : decode cL_probe 48 = .ok (.sipush 10000, 3) := by decide +kernel
theorem dL_probe_51 : decode cL_probe 51 = .ok (.iadd, 1) := by decide +kernel
theorem dL_probe_52 : decode cL_probe 52 = .ok (.goto 4, 3) := by decide +kernel
theorem dL_probe_55 : decode cL_probe 55 = .ok (.iload_n 3, 1) := by decide +kernel
theorem dL_probe_56 : decode cL_probe 56 = .ok (.istore_n 3, 1) := by decide +kernel
theorem dL_probe_57 : decode cL_probe 57 = .ok (.iinc 4 1, 3) := by decide +kernel
theorem dL_probe_60 : decode cL_probe 60 = .ok (.goto (-54), 3) := by decide +kernel
theorem dL_probe_63 : decode cL_probe 63 = .ok (.bipush (-6), 2) := by decide +kernel
theorem dL_probe_65 : decode cL_probe 65 = .ok (.istore 4, 2) := by decide +kernel
theorem dL_probe_67 : decode cL_probe 67 = .ok (.iconst 0, 1) := by decide +kernel
theorem dL_probe_68 : decode cL_probe 68 = .ok (.istore 5, 2) := by decide +kernel
theorem dL_probe_70 : decode cL_probe 70 = .ok (.iconst 2, 1) := by decide +kernel
theorem dL_probe_71 : decode cL_probe 71 = .ok (.istore 6, 2) := by decide +kernel
theorem dL_probe_73 : decode cL_probe 73 = .ok (.iload 6, 2) := by decide +kernel
theorem dL_probe_75 : decode cL_probe 75 = .ok (.bipush 13, 2) := by decide +kernel
theorem dL_probe_77 : decode cL_probe 77 = .ok (.if_icmp .ge 91, 3) := by decide +kernel
theorem dL_probe_80 : decode cL_probe 80 = .ok (.iload_n 2, 1) := by decide +kernel
theorem dL_probe_81 : decode cL_probe 81 = .ok (.bipush 24, 2) := by decide +kernel
theorem dL_probe_83 : decode cL_probe 83 = .ok (.if_icmp .ne 85, 3) := by decide +kernel
theorem dL_probe_86 : decode cL_probe 86 = .ok (.iconst 0, 1) := by decide +kernel
theorem dL_probe_87 : decode cL_probe 87 = .ok (.istore 7, 2) := by decide +kernel
theorem dL_probe_89 : decode cL_probe 89 = .ok (.iconst 0, 1) := by decide +kernel
theorem dL_probe_90 : decode cL_probe 90 = .ok (.istore 8, 2) := by decide +kernel
theorem dL_probe_92 : decode cL_probe 92 = .ok (.iload 8, 2) := by decide +kernel
theorem dL_probe_94 : decode cL_probe 94 = .ok (.bipush 12, 2) := by decide +kernel
theorem dL_probe_96 : decode cL_probe 96 = .ok (.if_icmp .ge 29, 3) := by decide +kernel
theorem dL_probe_99 : decode cL_probe 99 = .ok (.iload 7, 2) := by decide +kernel
theorem dL_probe_101 : decode cL_probe 101 = .ok (.aload_n 1, 1) := by decide +kernel
theorem dL_probe_102 : decode cL_probe 102 = .ok (.iload 8, 2) := by decide +kernel
theorem dL_probe_104 : decode cL_probe 104 = .ok (.iaload, 1) := by decide +kernel
theorem dL_probe_105 : decode cL_probe 105 = .ok (.aload_n 1, 1) := by decide +kernel
theorem dL_probe_106 : decode cL_probe 106 = .ok (.iload 8, 2) := by decide +kernel
theorem dL_probe_108 : decode cL_probe 108 = .ok (.iload 6, 2) := by decide +kernel
theorem dL_probe_110 : decode cL_probe 110 = .ok (.iadd, 1) := by decide +kernel
theorem dL_probe_111 : decode cL_probe 111 = .ok (.iaload, 1) := by decide +kernel
theorem dL_probe_112 : decode cL_probe 112 = .ok (.isub, 1) := by decide +kernel
theorem dL_probe_113 : decode cL_probe 113 = .ok (.invokestatic 20, 3) := by decide +kernel
theorem dL_probe_116 : decode cL_probe 116 = .ok (.iadd, 1) := by decide +kernel
theorem dL_probe_117 : decode cL_probe 117 = .ok (.istore 7, 2) := by decide +kernel
theorem dL_probe_119 : decode cL_probe 119 = .ok (.iinc 8 1, 3) := by decide +kernel
theorem dL_probe_122 : decode cL_probe 122 = .ok (.goto (-30), 3) := by decide +kernel
theorem dL_probe_125 : decode cL_probe 125 = .ok (.iload 4, 2) := by decide +kernel
theorem dL_probe_127 : decode cL_probe 127 = .ok (.ifCond .lt 10, 3) := by decide +kernel
theorem dL_probe_130 : decode cL_probe 130 = .ok (.iload 7, 2) := by decide +kernel
theorem dL_probe_132 : decode cL_probe 132 = .ok (.iload 5, 2) := by decide +kernel
theorem dL_probe_134 : decode cL_probe 134 = .ok (.if_icmp .ge 8, 3) := by decide +kernel
theorem dL_probe_137 : decode cL_probe 137 = .ok (.iload 6, 2) := by decide +kernel
theorem dL_probe_139 : decode cL_probe 139 = .ok (.goto 5, 3) := by decide +kernel
theorem dL_probe_142 : decode cL_probe 142 = .ok (.iload 4, 2) := by decide +kernel
theorem dL_probe_144 : decode cL_probe 144 = .ok (.istore 4, 2) := by decide +kernel
theorem dL_probe_146 : decode cL_probe 146 = .ok (.iload 4, 2) := by decide +kernel
theorem dL_probe_148 : decode cL_probe 148 = .ok (.iload 6, 2) := by decide +kernel
theorem dL_probe_150 : decode cL_probe 150 = .ok (.if_icmp .ne 8, 3) := by decide +kernel
theorem dL_probe_153 : decode cL_probe 153 = .ok (.iload 7, 2) := by decide +kernel
theorem dL_probe_155 : decode cL_probe 155 = .ok (.goto 5, 3) := by decide +kernel
theorem dL_probe_158 : decode cL_probe 158 = .ok (.iload 5, 2) := by decide +kernel
theorem dL_probe_160 : decode cL_probe 160 = .ok (.istore 5, 2) := by decide +kernel
theorem dL_probe_162 : decode cL_probe 162 = .ok (.iinc 6 1, 3) := by decide +kernel
theorem dL_probe_165 : decode cL_probe 165 = .ok (.goto (-92), 3) := by decide +kernel
theorem dL_probe_168 : decode cL_probe 168 = .ok (.aload_n 0, 1) := by decide +kernel
theorem dL_probe_169 : decode cL_probe 169 = .ok (.iconst 0, 1) := by decide +kernel
theorem dL_probe_170 : decode cL_probe 170 = .ok (.iload_n 2, 1) := by decide +kernel
theorem dL_probe_171 : decode cL_probe 171 = .ok (.invokevirtual 45, 3) := by decide +kernel
theorem dL_probe_174 : decode cL_probe 174 = .ok (.iconst (-1), 1) := by decide +kernel
theorem dL_probe_175 : decode cL_probe 175 = .ok (.if_icmp .ne 38, 3) := by decide +kernel
theorem dL_probe_178 : decode cL_probe 178 = .ok (.aload_n 0, 1) := by decide +kernel
theorem dL_probe_179 : decode cL_probe 179 = .ok (.iconst 0, 1) := by decide +kernel
theorem dL_probe_180 : decode cL_probe 180 = .ok (.iconst 2, 1) := by decide +kernel
theorem dL_probe_181 : decode cL_probe 181 = .ok (.invokevirtual 49, 3) := by decide +kernel
theorem dL_probe_184 : decode cL_probe 184 = .ok (.iload_n 2, 1) := by decide +kernel
theorem dL_probe_185 : decode cL_probe 185 = .ok (.if_icmp .ne 28, 3) := by decide +kernel
theorem dL_probe_188 : decode cL_probe 188 = .ok (.aload_n 0, 1) := by decide +kernel
theorem dL_probe_189 : decode cL_probe 189 = .ok (.iconst 0, 1) := by decide +kernel
theorem dL_probe_190 : decode cL_probe 190 = .ok (.iconst 3, 1) := by decide +kernel
theorem dL_probe_191 : decode cL_probe 191 = .ok (.invokevirtual 49, 3) := by decide +kernel
theorem dL_probe_194 : decode cL_probe 194 = .ok (.iload 4, 2) := by decide +kernel
theorem dL_probe_196 : decode cL_probe 196 = .ok (.if_icmp .ne 17, 3) := by decide +kernel
theorem dL_probe_199 : decode cL_probe 199 = .ok (.aload_n 0, 1) := by decide +kernel
theorem dL_probe_200 : decode cL_probe 200 = .ok (.iconst 0, 1) := by decide +kernel
theorem dL_probe_201 : decode cL_probe 201 = .ok (.iconst 4, 1) := by decide +kernel
theorem dL_probe_202 : decode cL_probe 202 = .ok (.invokevirtual 49, 3) := by decide +kernel
theorem dL_probe_205 : decode cL_probe 205 = .ok (.iload_n 3, 1) := by decide +kernel
theorem dL_probe_206 : decode cL_probe 206 = .ok (.if_icmp .ne 7, 3) := by decide +kernel
theorem dL_probe_209 : decode cL_probe 209 = .ok (.iconst 1, 1) := by decide +kernel
theorem dL_probe_210 : decode cL_probe 210 = .ok (.goto 4, 3) := by decide +kernel
theorem dL_probe_213 : decode cL_probe 213 = .ok (.iconst 0, 1) := by decide +kernel
theorem dL_probe_214 : decode cL_probe 214 = .ok (.ireturn, 1) := by decide +kernel
theorem dL_law_0 : decode cL_law 0 = .ok (.new 24, 3) := by decide +kernel
theorem dL_law_3 : decode cL_law 3 = .ok (.dup, 1) := by decide +kernel
theorem dL_law_4 : decode cL_law 4 = .ok (.invokespecial 52, 3) := by decide +kernel
theorem dL_law_7 : decode cL_law 7 = .ok (.astore_n 1, 1) := by decide +kernel
theorem dL_law_8 : decode cL_law 8 = .ok (.bipush 60, 2) := by decide +kernel
theorem dL_law_10 : decode cL_law 10 = .ok (.newarray .int, 2) := by decide +kernel
theorem dL_law_12 : decode cL_law 12 = .ok (.astore_n 2, 1) := by decide +kernel
theorem dL_law_13 : decode cL_law 13 = .ok (.bipush 60, 2) := by decide +kernel
theorem dL_law_15 : decode cL_law 15 = .ok (.newarray .int, 2) := by decide +kernel
theorem dL_law_17 : decode cL_law 17 = .ok (.astore_n 3, 1) := by decide +kernel
theorem dL_law_18 : decode cL_law 18 = .ok (.bipush 60, 2) := by decide +kernel
theorem dL_law_20 : decode cL_law 20 = .ok (.newarray .int, 2) := by decide +kernel
theorem dL_law_22 : decode cL_law 22 = .ok (.astore 4, 2) := by decide +kernel
theorem dL_law_24 : decode cL_law 24 = .ok (.bipush 60, 2) := by decide +kernel
theorem dL_law_26 : decode cL_law 26 = .ok (.newarray .int, 2) := by decide +kernel
theorem dL_law_28 : decode cL_law 28 = .ok (.astore 5, 2) := by decide +kernel
theorem dL_law_30 : decode cL_law 30 = .ok (.bipush 20, 2) := by decide +kernel
theorem dL_law_32 : decode cL_law 32 = .ok (.newarray .int, 2) := by decide +kernel
theorem dL_law_34 : decode cL_law 34 = .ok (.astore 6, 2) := by decide +kernel
theorem dL_law_36 : decode cL_law 36 = .ok (.bipush 24, 2) := by decide +kernel
theorem dL_law_38 : decode cL_law 38 = .ok (.newarray .int, 2) := by decide +kernel
theorem dL_law_40 : decode cL_law 40 = .ok (.astore 7, 2) := by decide +kernel
theorem dL_law_42 : decode cL_law 42 = .ok (.bipush 7, 2) := by decide +kernel
theorem dL_law_44 : decode cL_law 44 = .ok (.newarray .int, 2) := by decide +kernel
theorem dL_law_46 : decode cL_law 46 = .ok (.astore 8, 2) := by decide +kernel
theorem dL_law_48 : decode cL_law 48 = .ok (.aload_n 0, 1) := by decide +kernel
theorem dL_law_49 : decode cL_law 49 = .ok (.iconst 0, 1) := by decide +kernel
theorem dL_law_50 : decode cL_law 50 = .ok (.invokestatic 53, 3) := by decide +kernel
theorem dL_law_53 : decode cL_law 53 = .ok (.istore 9, 2) := by decide +kernel
theorem dL_law_55 : decode cL_law 55 = .ok (.aload 8, 2) := by decide +kernel
theorem dL_law_57 : decode cL_law 57 = .ok (.iconst 0, 1) := by decide +kernel
theorem dL_law_58 : decode cL_law 58 = .ok (.iload 9, 2) := by decide +kernel
theorem dL_law_60 : decode cL_law 60 = .ok (.iload 9, 2) := by decide +kernel
theorem dL_law_62 : decode cL_law 62 = .ok (.bipush 28, 2) := by decide +kernel
theorem dL_law_64 : decode cL_law 64 = .ok (.ishr, 1) := by decide +kernel
theorem dL_law_65 : decode cL_law 65 = .ok (.iconst 2, 1) := by decide +kernel
theorem dL_law_66 : decode cL_law 66 = .ok (.invokestatic 56, 3) := by decide +kernel
theorem dL_law_69 : decode cL_law 69 = .ok (.ifCond .ne 9, 3) := by decide +kernel
theorem dL_law_72 : decode cL_law 72 = .ok (.sipush 501, 3) := by decide +kernel
theorem dL_law_75 : decode cL_law 75 = .ok (.goto 5, 3) := by decide +kernel
theorem dL_law_78 : decode cL_law 78 = .ok (.bipush 40, 2) := by decide +kernel
theorem dL_law_80 : decode cL_law 80 = .ok (.invokestatic 56, 3) := by decide +kernel
theorem dL_law_83 : decode cL_law 83 = .ok (.iastore, 1) := by decide +kernel
theorem dL_law_84 : decode cL_law 84 = .ok (.aload 8, 2) := by decide +kernel
theorem dL_law_86 : decode cL_law 86 = .ok (.iconst 1, 1) := by decide +kernel
theorem dL_law_87 : decode cL_law 87 = .ok (.iconst 1, 1) := by decide +kernel
theorem dL_law_88 : decode cL_law 88 = .ok (.iload 9, 2) := by decide +kernel
theorem dL_law_90 : decode cL_law 90 = .ok (.bipush 9, 2) := by decide +kernel
theorem dL_law_92 : decode cL_law 92 = .ok (.ishr, 1) := by decide +kernel
theorem dL_law_93 : decode cL_law 93 = .ok (.bipush 8, 2) := by decide +kernel
theorem dL_law_95 : decode cL_law 95 = .ok (.invokestatic 56, 3) := by decide +kernel
theorem dL_law_98 : decode cL_law 98 = .ok (.iadd, 1) := by decide +kernel
theorem dL_law_99 : decode cL_law 99 = .ok (.iastore, 1) := by decide +kernel
theorem dL_law_100 : decode cL_law 100 = .ok (.aload 8, 2) := by decide +kernel
theorem dL_law_102 : decode cL_law 102 = .ok (.iconst 2, 1) := by decide +kernel
theorem dL_law_103 : decode cL_law 103 = .ok (.iconst 1, 1) := by decide +kernel
theorem dL_law_104 : decode cL_law 104 = .ok (.iload 9, 2) := by decide +kernel
theorem dL_law_106 : decode cL_law 106 = .ok (.bipush 12, 2) := by decide +kernel
theorem dL_law_108 : decode cL_law 108 = .ok (.ishr, 1) := by decide +kernel
theorem dL_law_109 : decode cL_law 109 = .ok (.bipush 8, 2) := by decide +kernel
theorem dL_law_111 : decode cL_law 111 = .ok (.invokestatic 56, 3) := by decide +kernel
theorem dL_law_114 : decode cL_law 114 = .ok (.iadd, 1) := by decide +kernel
theorem dL_law_115 : decode cL_law 115 = .ok (.iastore, 1) := by decide +kernel
theorem dL_law_116 : decode cL_law 116 = .ok (.aload 8, 2) := by decide +kernel
theorem dL_law_118 : decode cL_law 118 = .ok (.iconst 3, 1) := by decide +kernel
theorem dL_law_119 : decode cL_law 119 = .ok (.iload 9, 2) := by decide +kernel
theorem dL_law_121 : decode cL_law 121 = .ok (.bipush 15, 2) := by decide +kernel
theorem dL_law_123 : decode cL_law 123 = .ok (.ishr, 1) := by decide +kernel
theorem dL_law_124 : decode cL_law 124 = .ok (.iload 9, 2) := by decide +kernel
theorem dL_law_126 : decode cL_law 126 = .ok (.bipush 27, 2) := by decide +kernel
theorem dL_law_128 : decode cL_law 128 = .ok (.ishr, 1) := by decide +kernel
theorem dL_law_129 : decode cL_law 129 = .ok (.iconst 2, 1) := by decide +kernel
theorem dL_law_130 : decode cL_law 130 = .ok (.invokestatic 56, 3) := by decide +kernel
theorem dL_law_133 : decode cL_law 133 = .ok (.ifCond .ne 9, 3) := by decide +kernel
theorem dL_law_136 : decode cL_law 136 = .ok (.sipush 501, 3) := by decide +kernel
theorem dL_law_139 : decode cL_law 139 = .ok (.goto 5, 3) := by decide +kernel
theorem dL_law_142 : decode cL_law 142 = .ok (.bipush 20, 2) := by decide +kernel
theorem dL_law_144 : decode cL_law 144 = .ok (.invokestatic 56, 3) := by decide +kernel
theorem dL_law_147 : decode cL_law 147 = .ok (.iastore, 1) := by decide +kernel
theorem dL_law_148 : decode cL_law 148 = .ok (.aload_n 1, 1) := by decide +kernel
theorem dL_law_149 : decode cL_law 149 = .ok (.iconst 0, 1) := by decide +kernel
theorem dL_law_150 : decode cL_law 150 = .ok (.aload 8, 2) := by decide +kernel
theorem dL_law_152 : decode cL_law 152 = .ok (.iconst 0, 1) := by decide +kernel
theorem dL_law_153 : decode cL_law 153 = .ok (.iaload, 1) := by decide +kernel
theorem dL_law_154 : decode cL_law 154 = .ok (.invokevirtual 59, 3) := by decide +kernel
theorem dL_law_157 : decode cL_law 157 = .ok (.bipush 10, 2) := by decide +kernel
theorem dL_law_159 : decode cL_law 159 = .ok (.if_icmp .ne 43, 3) := by decide +kernel
theorem dL_law_162 : decode cL_law 162 = .ok (.aload_n 1, 1) := by decide +kernel
theorem dL_law_163 : decode cL_law 163 = .ok (.iconst 1, 1) := by decide +kernel
theorem dL_law_164 : decode cL_law 164 = .ok (.aload 8, 2) := by decide +kernel
theorem dL_law_166 : decode cL_law 166 = .ok (.iconst 1, 1) := by decide +kernel
theorem dL_law_167 : decode cL_law 167 = .ok (.iaload, 1) := by decide +kernel
theorem dL_law_168 : decode cL_law 168 = .ok (.invokevirtual 59, 3) := by decide +kernel
theorem dL_law_171 : decode cL_law 171 = .ok (.bipush 8, 2) := by decide +kernel
theorem dL_law_173 : decode cL_law 173 = .ok (.if_icmp .ne 29, 3) := by decide +kernel
theorem dL_law_176 : decode cL_law 176 = .ok (.aload_n 1, 1) := by decide +kernel
theorem dL_law_177 : decode cL_law 177 = .ok (.iconst 2, 1) := by decide +kernel
theorem dL_law_178 : decode cL_law 178 = .ok (.aload 8, 2) := by decide +kernel
theorem dL_law_180 : decode cL_law 180 = .ok (.iconst 2, 1) := by decide +kernel
theorem dL_law_181 : decode cL_law 181 = .ok (.iaload, 1) := by decide +kernel
theorem dL_law_182 : decode cL_law 182 = .ok (.invokevirtual 59, 3) := by decide +kernel
theorem dL_law_185 : decode cL_law 185 = .ok (.iconst 3, 1) := by decide +kernel
theorem dL_law_186 : decode cL_law 186 = .ok (.if_icmp .ne 16, 3) := by decide +kernel
theorem dL_law_189 : decode cL_law 189 = .ok (.aload_n 1, 1) := by decide +kernel
theorem dL_law_190 : decode cL_law 190 = .ok (.iconst 3, 1) := by decide +kernel
theorem dL_law_191 : decode cL_law 191 = .ok (.aload 8, 2) := by decide +kernel
theorem dL_law_193 : decode cL_law 193 = .ok (.iconst 3, 1) := by decide +kernel
theorem dL_law_194 : decode cL_law 194 = .ok (.iaload, 1) := by decide +kernel
theorem dL_law_195 : decode cL_law 195 = .ok (.invokevirtual 59, 3) := by decide +kernel
theorem dL_law_198 : decode cL_law 198 = .ok (.iconst 5, 1) := by decide +kernel
theorem dL_law_199 : decode cL_law 199 = .ok (.if_icmp .eq 5, 3) := by decide +kernel
theorem dL_law_202 : decode cL_law 202 = .ok (.iconst 0, 1) := by decide +kernel
theorem dL_law_203 : decode cL_law 203 = .ok (.ireturn, 1) := by decide +kernel
theorem dL_law_204 : decode cL_law 204 = .ok (.iconst (-1), 1) := by decide +kernel
theorem dL_law_205 : decode cL_law 205 = .ok (.istore 10, 2) := by decide +kernel
theorem dL_law_207 : decode cL_law 207 = .ok (.iconst 0, 1) := by decide +kernel
theorem dL_law_208 : decode cL_law 208 = .ok (.istore 11, 2) := by decide +kernel
theorem dL_law_210 : decode cL_law 210 = .ok (.iconst 0, 1) := by decide +kernel
theorem dL_law_211 : decode cL_law 211 = .ok (.istore 12, 2) := by decide +kernel
theorem dL_law_213 : decode cL_law 213 = .ok (.iload 12, 2) := by decide +kernel
theorem dL_law_215 : decode cL_law 215 = .ok (.bipush 60, 2) := by decide +kernel
theorem dL_law_217 : decode cL_law 217 = .ok (.if_icmp .ge 15, 3) := by decide +kernel
theorem dL_law_220 : decode cL_law 220 = .ok (.aload 5, 2) := by decide +kernel
theorem dL_law_222 : decode cL_law 222 = .ok (.iload 12, 2) := by decide +kernel
theorem dL_law_224 : decode cL_law 224 = .ok (.iconst (-1), 1) := by decide +kernel
theorem dL_law_225 : decode cL_law 225 = .ok (.iastore, 1) := by decide +kernel
theorem dL_law_226 : decode cL_law 226 = .ok (.iinc 12 1, 3) := by decide +kernel
theorem dL_law_229 : decode cL_law 229 = .ok (.goto (-16), 3) := by decide +kernel
theorem dL_law_232 : decode cL_law 232 = .ok (.iconst 0, 1) := by decide +kernel
theorem dL_law_233 : decode cL_law 233 = .ok (.istore 12, 2) := by decide +kernel
theorem dL_law_235 : decode cL_law 235 = .ok (.iload 12, 2) := by decide +kernel
theorem dL_law_237 : decode cL_law 237 = .ok (.bipush 46, 2) := by decide +kernel
theorem dL_law_239 : decode cL_law 239 = .ok (.if_icmp .ge 1042, 3) := by decide +kernel
theorem dL_law_242 : decode cL_law 242 = .ok (.aload_n 0, 1) := by decide +kernel
theorem dL_law_243 : decode cL_law 243 = .ok (.iconst 1, 1) := by decide +kernel
theorem dL_law_244 : decode cL_law 244 = .ok (.iload 12, 2) := by decide +kernel
theorem dL_law_246 : decode cL_law 246 = .ok (.iadd, 1) := by decide +kernel
theorem dL_law_247 : decode cL_law 247 = .ok (.invokestatic 53, 3) := by decide +kernel
theorem dL_law_250 : decode cL_law 250 = .ok (.istore 13, 2) := by decide +kernel
theorem dL_law_252 : decode cL_law 252 = .ok (.iload 13, 2) := by decide +kernel
theorem dL_law_254 : decode cL_law 254 = .ok (.bipush 13, 2) := by decide +kernel
theorem dL_law_256 : decode cL_law 256 = .ok (.invokestatic 56, 3) := by decide +kernel
theorem dL_law_259 : decode cL_law 259 = .ok (.istore 14, 2) := by decide +kernel
theorem dL_law_261 : decode cL_law 261 = .ok (.iload 13, 2) := by decide +kernel
theorem dL_law_263 : decode cL_law 263 = .ok (.iconst 4, 1) := by decide +kernel
theorem dL_law_264 : decode cL_law 264 = .ok (.ishr, 1) := by decide +kernel
theorem dL_law_265 : decode cL_law 265 = .ok (.bipush 60, 2) := by decide +kernel
theorem dL_law_267 : decode cL_law 267 = .ok (.invokestatic 56, 3) := by decide +kernel
theorem dL_law_270 : decode cL_law 270 = .ok (.istore 15, 2) := by decide +kernel
theorem dL_law_272 : decode cL_law 272 = .ok (.iload 15, 2) := by decide +kernel
theorem dL_law_274 : decode cL_law 274 = .ok (.bipush 10, 2) := by decide +kernel
theorem dL_law_276 : decode cL_law 276 = .ok (.irem, 1) := by decide +kernel
theorem dL_law_277 : decode cL_law 277 = .ok (.istore 16, 2) := by decide +kernel
theorem dL_law_279 : decode cL_law 279 = .ok (.iload 15, 2) := by decide +kernel
theorem dL_law_281 : decode cL_law 281 = .ok (.bipush 10, 2) := by decide +kernel
theorem dL_law_283 : decode cL_law 283 = .ok (.idiv, 1) := by decide +kernel
theorem dL_law_284 : decode cL_law 284 = .ok (.istore 17, 2) := by decide +kernel
theorem dL_law_286 : decode cL_law 286 = .ok (.iconst 1, 1) := by decide +kernel
theorem dL_law_287 : decode cL_law 287 = .ok (.istore 18, 2) := by decide +kernel
theorem dL_law_289 : decode cL_law 289 = .ok (.iload 14, 2) := by decide +kernel
theorem dL_law_291 : decode cL_law 291 = .ok (.iconst 4, 1) := by decide +kernel
theorem dL_law_292 : decode cL_law 292 = .ok (.if_icmp .ge 174, 3) := by decide +kernel
theorem dL_law_295 : decode cL_law 295 = .ok (.iload 13, 2) := by decide +kernel
theorem dL_law_297 : decode cL_law 297 = .ok (.bipush 10, 2) := by decide +kernel
theorem dL_law_299 : decode cL_law 299 = .ok (.ishr, 1) := by decide +kernel
theorem dL_law_300 : decode cL_law 300 = .ok (.iconst 4, 1) := by decide +kernel
theorem dL_law_301 : decode cL_law 301 = .ok (.invokestatic 56, 3) := by decide +kernel
theorem dL_law_304 : decode cL_law 304 = .ok (.istore 19, 2) := by decide +kernel
theorem dL_law_306 : decode cL_law 306 = .ok (.iconst 0, 1) := by decide +kernel
theorem dL_law_307 : decode cL_law 307 = .ok (.istore 20, 2) := by decide +kernel
theorem dL_law_309 : decode cL_law 309 = .ok (.iconst 0, 1) := by decide +kernel
theorem dL_law_310 : decode cL_law 310 = .ok (.istore 21, 2) := by decide +kernel
theorem dL_law_312 : decode cL_law 312 = .ok (.iload 21, 2) := by decide +kernel
theorem dL_law_314 : decode cL_law 314 = .ok (.aload 8, 2) := by decide +kernel
theorem dL_law_316 : decode cL_law 316 = .ok (.iconst 5, 1) := by decide +kernel
theorem dL_law_317 : decode cL_law 317 = .ok (.iaload, 1) := by decide +kernel
theorem dL_law_318 : decode cL_law 318 = .ok (.if_icmp .ge 33, 3) := by decide +kernel
theorem dL_law_321 : decode cL_law 321 = .ok (.iload 20, 2) := by decide +kernel
theorem dL_law_323 : decode cL_law 323 = .ok (.ifCond .ne 15, 3) := by decide +kernel
theorem dL_law_326 : decode cL_law 326 = .ok (.aload 6, 2) := by decide +kernel
theorem dL_law_328 : decode cL_law 328 = .ok (.iconst 4, 1) := by decide +kernel
theorem dL_law_329 : decode cL_law 329 = .ok (.iload 21, 2) := by decide +kernel
theorem dL_law_331 : decode cL_law 331 = .ok (.imul, 1) := by decide +kernel
theorem dL_law_332 : decode cL_law 332 = .ok (.iaload, 1) := by decide +kernel
theorem dL_law_333 : decode cL_law 333 = .ok (.iload 15, 2) := by decide +kernel
theorem dL_law_335 : decode cL_law 335 = .ok (.if_icmp .ne 7, 3) := by decide +kernel
theorem dL_law_338 : decode cL_law 338 = .ok (.iconst 1, 1) := by decide +kernel
theorem dL_law_339 : decode cL_law 339 = .ok (.goto 4, 3) := by decide +kernel
theorem dL_law_342 : decode cL_law 342 = .ok (.iconst 0, 1) := by decide +kernel
theorem dL_law_343 : decode cL_law 343 = .ok (.istore 20, 2) := by decide +kernel
theorem dL_law_345 : decode cL_law 345 = .ok (.iinc 21 1, 3) := by decide +kernel
theorem dL_law_348 : decode cL_law 348 = .ok (.goto (-36), 3) := by decide +kernel
theorem dL_law_351 : decode cL_law 351 = .ok (.iload 19, 2) := by decide +kernel
theorem dL_law_353 : decode cL_law 353 = .ok (.iconst 2, 1) := by decide +kernel
theorem dL_law_354 : decode cL_law 354 = .ok (.if_icmp .ne 8, 3) := by decide +kernel
theorem dL_law_357 : decode cL_law 357 = .ok (.iload 20, 2) := by decide +kernel
theorem dL_law_359 : decode cL_law 359 = .ok (.ifCond .ne 7, 3) := by decide +kernel
theorem dL_law_362 : decode cL_law 362 = .ok (.iconst 1, 1) := by decide +kernel
theorem dL_law_363 : decode cL_law 363 = .ok (.goto 4, 3) := by decide +kernel
theorem dL_law_366 : decode cL_law 366 = .ok (.iconst 0, 1) := by decide +kernel
theorem dL_law_367 : decode cL_law 367 = .ok (.istore 21, 2) := by decide +kernel
theorem dL_law_369 : decode cL_law 369 = .ok (.aload_n 1, 1) := by decide +kernel
theorem dL_law_370 : decode cL_law 370 = .ok (.iload 16, 2) := by decide +kernel
theorem dL_law_372 : decode cL_law 372 = .ok (.iload 17, 2) := by decide +kernel
