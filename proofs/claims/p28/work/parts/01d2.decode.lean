theorem dX5_cell_78 : decode cX5_cell 78 = .ok (.iload 4, 2) := by decide +kernel
theorem dX5_cell_80 : decode cX5_cell 80 = .ok (.iaload, 1) := by decide +kernel
theorem dX5_cell_81 : decode cX5_cell 81 = .ok (.sipush 10000, 3) := by decide +kernel
theorem dX5_cell_84 : decode cX5_cell 84 = .ok (.iadd, 1) := by decide +kernel
theorem dX5_cell_85 : decode cX5_cell 85 = .ok (.ireturn, 1) := by decide +kernel
theorem dX5_cell_86 : decode cX5_cell 86 = .ok (.aload_n 0, 1) := by decide +kernel
theorem dX5_cell_87 : decode cX5_cell 87 = .ok (.getfield 12, 3) := by decide +kernel
theorem dX5_cell_90 : decode cX5_cell 90 = .ok (.getfield 145, 3) := by decide +kernel
theorem dX5_cell_93 : decode cX5_cell 93 = .ok (.iload 4, 2) := by decide +kernel
theorem dX5_cell_95 : decode cX5_cell 95 = .ok (.iaload, 1) := by decide +kernel
theorem dX5_cell_96 : decode cX5_cell 96 = .ok (.sipush 10000, 3) := by decide +kernel
theorem dX5_cell_99 : decode cX5_cell 99 = .ok (.iadd, 1) := by decide +kernel
theorem dX5_cell_100 : decode cX5_cell 100 = .ok (.ireturn, 1) := by decide +kernel
theorem dX5_cell_101 : decode cX5_cell 101 = .ok (.aload_n 0, 1) := by decide +kernel
theorem dX5_cell_102 : decode cX5_cell 102 = .ok (.getfield 12, 3) := by decide +kernel
theorem dX5_cell_105 : decode cX5_cell 105 = .ok (.iload 4, 2) := by decide +kernel
theorem dX5_cell_107 : decode cX5_cell 107 = .ok (.invokevirtual 148, 3) := by decide +kernel
theorem dX5_cell_110 : decode cX5_cell 110 = .ok (.ldc 138, 2) := by decide +kernel
theorem dX5_cell_112 : decode cX5_cell 112 = .ok (.iadd, 1) := by decide +kernel
theorem dX5_cell_113 : decode cX5_cell 113 = .ok (.ireturn, 1) := by decide +kernel
theorem dX5_cell_114 : decode cX5_cell 114 = .ok (.aload_n 0, 1) := by decide +kernel
theorem dX5_cell_115 : decode cX5_cell 115 = .ok (.getfield 12, 3) := by decide +kernel
theorem dX5_cell_118 : decode cX5_cell 118 = .ok (.iload 4, 2) := by decide +kernel
theorem dX5_cell_120 : decode cX5_cell 120 = .ok (.invokevirtual 151, 3) := by decide +kernel
theorem dX5_cell_123 : decode cX5_cell 123 = .ok (.ifCond .eq 7, 3) := by decide +kernel
theorem dX5_cell_126 : decode cX5_cell 126 = .ok (.iconst 1, 1) := by decide +kernel
theorem dX5_cell_127 : decode cX5_cell 127 = .ok (.goto 4, 3) := by decide +kernel
theorem dX5_cell_130 : decode cX5_cell 130 = .ok (.iconst 0, 1) := by decide +kernel
theorem dX5_cell_131 : decode cX5_cell 131 = .ok (.ireturn, 1) := by decide +kernel
theorem dX5_cell_132 : decode cX5_cell 132 = .ok (.aload_n 0, 1) := by decide +kernel
theorem dX5_cell_133 : decode cX5_cell 133 = .ok (.getfield 12, 3) := by decide +kernel
theorem dX5_cell_136 : decode cX5_cell 136 = .ok (.getfield 154, 3) := by decide +kernel
theorem dX5_cell_139 : decode cX5_cell 139 = .ok (.iload 4, 2) := by decide +kernel
theorem dX5_cell_141 : decode cX5_cell 141 = .ok (.iaload, 1) := by decide +kernel
theorem dX5_cell_142 : decode cX5_cell 142 = .ok (.ireturn, 1) := by decide +kernel
theorem dX5_cell_143 : decode cX5_cell 143 = .ok (.aload_n 0, 1) := by decide +kernel
theorem dX5_cell_144 : decode cX5_cell 144 = .ok (.getfield 12, 3) := by decide +kernel
theorem dX5_cell_147 : decode cX5_cell 147 = .ok (.getfield 63, 3) := by decide +kernel
theorem dX5_cell_150 : decode cX5_cell 150 = .ok (.iload 4, 2) := by decide +kernel
theorem dX5_cell_152 : decode cX5_cell 152 = .ok (.invokevirtual 67, 3) := by decide +kernel
theorem dX5_cell_155 : decode cX5_cell 155 = .ok (.ireturn, 1) := by decide +kernel
theorem dX5_cell_156 : decode cX5_cell 156 = .ok (.bipush (-2), 2) := by decide +kernel
theorem dX5_cell_158 : decode cX5_cell 158 = .ok (.ireturn, 1) := by decide +kernel
theorem dX5_ofProbe_0 : decode cX5_ofProbe 0 = .ok (.aload_n 0, 1) := by decide +kernel
theorem dX5_ofProbe_1 : decode cX5_ofProbe 1 = .ok (.iload_n 1, 1) := by decide +kernel
theorem dX5_ofProbe_2 : decode cX5_ofProbe 2 = .ok (.invokevirtual 172, 3) := by decide +kernel
theorem dX5_ofProbe_5 : decode cX5_ofProbe 5 = .ok (.ifCond .ne 5, 3) := by decide +kernel
theorem dX5_ofProbe_8 : decode cX5_ofProbe 8 = .ok (.iconst (-1), 1) := by decide +kernel
theorem dX5_ofProbe_9 : decode cX5_ofProbe 9 = .ok (.ireturn, 1) := by decide +kernel
theorem dX5_ofProbe_10 : decode cX5_ofProbe 10 = .ok (.aload_n 0, 1) := by decide +kernel
theorem dX5_ofProbe_11 : decode cX5_ofProbe 11 = .ok (.getfield 12, 3) := by decide +kernel
theorem dX5_ofProbe_14 : decode cX5_ofProbe 14 = .ok (.getfield 126, 3) := by decide +kernel
theorem dX5_ofProbe_17 : decode cX5_ofProbe 17 = .ok (.astore_n 3, 1) := by decide +kernel
theorem dX5_ofProbe_18 : decode cX5_ofProbe 18 = .ok (.iload_n 2, 1) := by decide +kernel
theorem dX5_ofProbe_19 : decode cX5_ofProbe 19 = .ok (.tableswitch 90 0 4 #[33, 43, 53, 60, 66], 33) := by decide +kernel
theorem dX5_ofProbe_52 : decode cX5_ofProbe 52 = .ok (.aload_n 3, 1) := by decide +kernel
theorem dX5_ofProbe_53 : decode cX5_ofProbe 53 = .ok (.getfield 175, 3) := by decide +kernel
theorem dX5_ofProbe_56 : decode cX5_ofProbe 56 = .ok (.iload_n 1, 1) := by decide +kernel
theorem dX5_ofProbe_57 : decode cX5_ofProbe 57 = .ok (.iaload, 1) := by decide +kernel
theorem dX5_ofProbe_58 : decode cX5_ofProbe 58 = .ok (.bipush 10, 2) := by decide +kernel
theorem dX5_ofProbe_60 : decode cX5_ofProbe 60 = .ok (.irem, 1) := by decide +kernel
theorem dX5_ofProbe_61 : decode cX5_ofProbe 61 = .ok (.ireturn, 1) := by decide +kernel
theorem dX5_ofProbe_62 : decode cX5_ofProbe 62 = .ok (.aload_n 3, 1) := by decide +kernel
theorem dX5_ofProbe_63 : decode cX5_ofProbe 63 = .ok (.getfield 175, 3) := by decide +kernel
theorem dX5_ofProbe_66 : decode cX5_ofProbe 66 = .ok (.iload_n 1, 1) := by decide +kernel
theorem dX5_ofProbe_67 : decode cX5_ofProbe 67 = .ok (.iaload, 1) := by decide +kernel
theorem dX5_ofProbe_68 : decode cX5_ofProbe 68 = .ok (.bipush 10, 2) := by decide +kernel
theorem dX5_ofProbe_70 : decode cX5_ofProbe 70 = .ok (.idiv, 1) := by decide +kernel
theorem dX5_ofProbe_71 : decode cX5_ofProbe 71 = .ok (.ireturn, 1) := by decide +kernel
theorem dX5_ofProbe_72 : decode cX5_ofProbe 72 = .ok (.aload_n 3, 1) := by decide +kernel
theorem dX5_ofProbe_73 : decode cX5_ofProbe 73 = .ok (.getfield 176, 3) := by decide +kernel
theorem dX5_ofProbe_76 : decode cX5_ofProbe 76 = .ok (.iload_n 1, 1) := by decide +kernel
theorem dX5_ofProbe_77 : decode cX5_ofProbe 77 = .ok (.iaload, 1) := by decide +kernel
theorem dX5_ofProbe_78 : decode cX5_ofProbe 78 = .ok (.ireturn, 1) := by decide +kernel
theorem dX5_ofProbe_79 : decode cX5_ofProbe 79 = .ok (.aload_n 3, 1) := by decide +kernel
theorem dX5_ofProbe_80 : decode cX5_ofProbe 80 = .ok (.iload_n 1, 1) := by decide +kernel
theorem dX5_ofProbe_81 : decode cX5_ofProbe 81 = .ok (.invokevirtual 179, 3) := by decide +kernel
theorem dX5_ofProbe_84 : decode cX5_ofProbe 84 = .ok (.ireturn, 1) := by decide +kernel
theorem dX5_ofProbe_85 : decode cX5_ofProbe 85 = .ok (.aload_n 3, 1) := by decide +kernel
theorem dX5_ofProbe_86 : decode cX5_ofProbe 86 = .ok (.getfield 176, 3) := by decide +kernel
theorem dX5_ofProbe_89 : decode cX5_ofProbe 89 = .ok (.iload_n 1, 1) := by decide +kernel
theorem dX5_ofProbe_90 : decode cX5_ofProbe 90 = .ok (.iaload, 1) := by decide +kernel
theorem dX5_ofProbe_91 : decode cX5_ofProbe 91 = .ok (.ifCond .ne 8, 3) := by decide +kernel
theorem dX5_ofProbe_94 : decode cX5_ofProbe 94 = .ok (.bipush (-6), 2) := by decide +kernel
theorem dX5_ofProbe_96 : decode cX5_ofProbe 96 = .ok (.goto 12, 3) := by decide +kernel
theorem dX5_ofProbe_99 : decode cX5_ofProbe 99 = .ok (.aload_n 3, 1) := by decide +kernel
theorem dX5_ofProbe_100 : decode cX5_ofProbe 100 = .ok (.iload_n 1, 1) := by decide +kernel
theorem dX5_ofProbe_101 : decode cX5_ofProbe 101 = .ok (.invokevirtual 182, 3) := by decide +kernel
theorem dX5_ofProbe_104 : decode cX5_ofProbe 104 = .ok (.sipush 10000, 3) := by decide +kernel
theorem dX5_ofProbe_107 : decode cX5_ofProbe 107 = .ok (.iadd, 1) := by decide +kernel
theorem dX5_ofProbe_108 : decode cX5_ofProbe 108 = .ok (.ireturn, 1) := by decide +kernel
theorem dX5_ofProbe_109 : decode cX5_ofProbe 109 = .ok (.bipush (-2), 2) := by decide +kernel
theorem dX5_ofProbe_111 : decode cX5_ofProbe 111 = .ok (.ireturn, 1) := by decide +kernel
theorem dX5_seen_0 : decode cX5_seen 0 = .ok (.aload_n 0, 1) := by decide +kernel
theorem dX5_seen_1 : decode cX5_seen 1 = .ok (.iload_n 1, 1) := by decide +kernel
theorem dX5_seen_2 : decode cX5_seen 2 = .ok (.invokevirtual 172, 3) := by decide +kernel
theorem dX5_seen_5 : decode cX5_seen 5 = .ok (.ifCond .eq 25, 3) := by decide +kernel
theorem dX5_seen_8 : decode cX5_seen 8 = .ok (.iload_n 2, 1) := by decide +kernel
theorem dX5_seen_9 : decode cX5_seen 9 = .ok (.iconst 0, 1) := by decide +kernel
theorem dX5_seen_10 : decode cX5_seen 10 = .ok (.aload_n 0, 1) := by decide +kernel
theorem dX5_seen_11 : decode cX5_seen 11 = .ok (.getfield 12, 3) := by decide +kernel
theorem dX5_seen_14 : decode cX5_seen 14 = .ok (.getfield 126, 3) := by decide +kernel
theorem dX5_seen_17 : decode cX5_seen 17 = .ok (.getfield 176, 3) := by decide +kernel
theorem dX5_seen_20 : decode cX5_seen 20 = .ok (.iload_n 1, 1) := by decide +kernel
theorem dX5_seen_21 : decode cX5_seen 21 = .ok (.iaload, 1) := by decide +kernel
theorem dX5_seen_22 : decode cX5_seen 22 = .ok (.iconst 1, 1) := by decide +kernel
theorem dX5_seen_23 : decode cX5_seen 23 = .ok (.isub, 1) := by decide +kernel
theorem dX5_seen_24 : decode cX5_seen 24 = .ok (.invokestatic 101, 3) := by decide +kernel
theorem dX5_seen_27 : decode cX5_seen 27 = .ok (.ifCond .ne 5, 3) := by decide +kernel
theorem dX5_seen_30 : decode cX5_seen 30 = .ok (.iconst (-1), 1) := by decide +kernel
theorem dX5_seen_31 : decode cX5_seen 31 = .ok (.ireturn, 1) := by decide +kernel
theorem dX5_seen_32 : decode cX5_seen 32 = .ok (.aload_n 0, 1) := by decide +kernel
theorem dX5_seen_33 : decode cX5_seen 33 = .ok (.getfield 12, 3) := by decide +kernel
theorem dX5_seen_36 : decode cX5_seen 36 = .ok (.getfield 126, 3) := by decide +kernel
theorem dX5_seen_39 : decode cX5_seen 39 = .ok (.getfield 185, 3) := by decide +kernel
theorem dX5_seen_42 : decode cX5_seen 42 = .ok (.iload_n 1, 1) := by decide +kernel
theorem dX5_seen_43 : decode cX5_seen 43 = .ok (.aaload, 1) := by decide +kernel
theorem dX5_seen_44 : decode cX5_seen 44 = .ok (.iload_n 2, 1) := by decide +kernel
theorem dX5_seen_45 : decode cX5_seen 45 = .ok (.iaload, 1) := by decide +kernel
theorem dX5_seen_46 : decode cX5_seen 46 = .ok (.sipush 10000, 3) := by decide +kernel
theorem dX5_seen_49 : decode cX5_seen 49 = .ok (.iadd, 1) := by decide +kernel
theorem dX5_seen_50 : decode cX5_seen 50 = .ok (.ireturn, 1) := by decide +kernel
theorem dX5_count_0 : decode cX5_count 0 = .ok (.iload_n 1, 1) := by decide +kernel
theorem dX5_count_1 : decode cX5_count 1 = .ok (.tableswitch 200 0 14 #[75, 83, 91, 107, 118, 126, 141, 149, 160, 171, 171, 171, 171, 184, 192], 75) := by decide +kernel
theorem dX5_count_76 : decode cX5_count 76 = .ok (.aload_n 0, 1) := by decide +kernel
theorem dX5_count_77 : decode cX5_count 77 = .ok (.getfield 12, 3) := by decide +kernel
theorem dX5_count_80 : decode cX5_count 80 = .ok (.getfield 135, 3) := by decide +kernel
theorem dX5_count_83 : decode cX5_count 83 = .ok (.ireturn, 1) := by decide +kernel
theorem dX5_count_84 : decode cX5_count 84 = .ok (.aload_n 0, 1) := by decide +kernel
theorem dX5_count_85 : decode cX5_count 85 = .ok (.getfield 12, 3) := by decide +kernel
theorem dX5_count_88 : decode cX5_count 88 = .ok (.invokevirtual 92, 3) := by decide +kernel
theorem dX5_count_91 : decode cX5_count 91 = .ok (.ireturn, 1) := by decide +kernel
theorem dX5_count_92 : decode cX5_count 92 = .ok (.aload_n 0, 1) := by decide +kernel
theorem dX5_count_93 : decode cX5_count 93 = .ok (.getfield 12, 3) := by decide +kernel
theorem dX5_count_96 : decode cX5_count 96 = .ok (.invokevirtual 92, 3) := by decide +kernel
theorem dX5_count_99 : decode cX5_count 99 = .ok (.aload_n 0, 1) := by decide +kernel
theorem dX5_count_100 : decode cX5_count 100 = .ok (.getfield 12, 3) := by decide +kernel
theorem dX5_count_103 : decode cX5_count 103 = .ok (.invokevirtual 142, 3) := by decide +kernel
theorem dX5_count_106 : decode cX5_count 106 = .ok (.isub, 1) := by decide +kernel
theorem dX5_count_107 : decode cX5_count 107 = .ok (.ireturn, 1) := by decide +kernel
theorem dX5_count_108 : decode cX5_count 108 = .ok (.aload_n 0, 1) := by decide +kernel
theorem dX5_count_109 : decode cX5_count 109 = .ok (.getfield 12, 3) := by decide +kernel
theorem dX5_count_112 : decode cX5_count 112 = .ok (.invokevirtual 188, 3) := by decide +kernel
theorem dX5_count_115 : decode cX5_count 115 = .ok (.ldc 191, 2) := by decide +kernel
theorem dX5_count_117 : decode cX5_count 117 = .ok (.iadd, 1) := by decide +kernel
theorem dX5_count_118 : decode cX5_count 118 = .ok (.ireturn, 1) := by decide +kernel
theorem dX5_count_119 : decode cX5_count 119 = .ok (.aload_n 0, 1) := by decide +kernel
theorem dX5_count_120 : decode cX5_count 120 = .ok (.getfield 12, 3) := by decide +kernel
theorem dX5_count_123 : decode cX5_count 123 = .ok (.invokevirtual 95, 3) := by decide +kernel
theorem dX5_count_126 : decode cX5_count 126 = .ok (.ireturn, 1) := by decide +kernel
theorem dX5_count_127 : decode cX5_count 127 = .ok (.aload_n 0, 1) := by decide +kernel
theorem dX5_count_128 : decode cX5_count 128 = .ok (.getfield 12, 3) := by decide +kernel
theorem dX5_count_131 : decode cX5_count 131 = .ok (.aload_n 0, 1) := by decide +kernel
theorem dX5_count_132 : decode cX5_count 132 = .ok (.getfield 12, 3) := by decide +kernel
theorem dX5_count_135 : decode cX5_count 135 = .ok (.invokevirtual 192, 3) := by decide +kernel
theorem dX5_count_138 : decode cX5_count 138 = .ok (.invokevirtual 195, 3) := by decide +kernel
theorem dX5_count_141 : decode cX5_count 141 = .ok (.ireturn, 1) := by decide +kernel
theorem dX5_count_142 : decode cX5_count 142 = .ok (.aload_n 0, 1) := by decide +kernel
theorem dX5_count_143 : decode cX5_count 143 = .ok (.getfield 12, 3) := by decide +kernel
theorem dX5_count_146 : decode cX5_count 146 = .ok (.invokevirtual 198, 3) := by decide +kernel
theorem dX5_count_149 : decode cX5_count 149 = .ok (.ireturn, 1) := by decide +kernel
theorem dX5_count_150 : decode cX5_count 150 = .ok (.aload_n 0, 1) := by decide +kernel
theorem dX5_count_151 : decode cX5_count 151 = .ok (.getfield 12, 3) := by decide +kernel
theorem dX5_count_154 : decode cX5_count 154 = .ok (.getfield 63, 3) := by decide +kernel
theorem dX5_count_157 : decode cX5_count 157 = .ok (.getfield 105, 3) := by decide +kernel
theorem dX5_count_160 : decode cX5_count 160 = .ok (.ireturn, 1) := by decide +kernel
theorem dX5_count_161 : decode cX5_count 161 = .ok (.aload_n 0, 1) := by decide +kernel
theorem dX5_count_162 : decode cX5_count 162 = .ok (.getfield 12, 3) := by decide +kernel
theorem dX5_count_165 : decode cX5_count 165 = .ok (.getfield 126, 3) := by decide +kernel
theorem dX5_count_168 : decode cX5_count 168 = .ok (.getfield 130, 3) := by decide +kernel
theorem dX5_count_171 : decode cX5_count 171 = .ok (.ireturn, 1) := by decide +kernel
theorem dX5_count_172 : decode cX5_count 172 = .ok (.aload_n 0, 1) := by decide +kernel
theorem dX5_count_173 : decode cX5_count 173 = .ok (.getfield 12, 3) := by decide +kernel
theorem dX5_count_176 : decode cX5_count 176 = .ok (.getfield 52, 3) := by decide +kernel
theorem dX5_count_179 : decode cX5_count 179 = .ok (.iload_n 1, 1) := by decide +kernel
theorem dX5_count_180 : decode cX5_count 180 = .ok (.bipush 9, 2) := by decide +kernel
theorem dX5_count_182 : decode cX5_count 182 = .ok (.isub, 1) := by decide +kernel
theorem dX5_count_183 : decode cX5_count 183 = .ok (.iaload, 1) := by decide +kernel
theorem dX5_count_184 : decode cX5_count 184 = .ok (.ireturn, 1) := by decide +kernel
theorem dX5_count_185 : decode cX5_count 185 = .ok (.aload_n 0, 1) := by decide +kernel
theorem dX5_count_186 : decode cX5_count 186 = .ok (.getfield 37, 3) := by decide +kernel
theorem dX5_count_189 : decode cX5_count 189 = .ok (.getfield 88, 3) := by decide +kernel
theorem dX5_count_192 : decode cX5_count 192 = .ok (.ireturn, 1) := by decide +kernel
theorem dX5_count_193 : decode cX5_count 193 = .ok (.aload_n 0, 1) := by decide +kernel
theorem dX5_count_194 : decode cX5_count 194 = .ok (.getfield 22, 3) := by decide +kernel
theorem dX5_count_197 : decode cX5_count 197 = .ok (.getfield 201, 3) := by decide +kernel
theorem dX5_count_200 : decode cX5_count 200 = .ok (.ireturn, 1) := by decide +kernel
theorem dX5_count_201 : decode cX5_count 201 = .ok (.bipush (-2), 2) := by decide +kernel
theorem dX5_count_203 : decode cX5_count 203 = .ok (.ireturn, 1) := by decide +kernel
theorem dX5_loudest_0 : decode cX5_loudest 0 = .ok (.iload_n 1, 1) := by decide +kernel
theorem dX5_loudest_1 : decode cX5_loudest 1 = .ok (.iconst 0, 1) := by decide +kernel
theorem dX5_loudest_2 : decode cX5_loudest 2 = .ok (.iconst 1, 1) := by decide +kernel
theorem dX5_loudest_3 : decode cX5_loudest 3 = .ok (.invokestatic 101, 3) := by decide +kernel
theorem dX5_loudest_6 : decode cX5_loudest 6 = .ok (.ifCond .ne 6, 3) := by decide +kernel
theorem dX5_loudest_9 : decode cX5_loudest 9 = .ok (.bipush (-2), 2) := by decide +kernel
theorem dX5_loudest_11 : decode cX5_loudest 11 = .ok (.ireturn, 1) := by decide +kernel
theorem dX5_loudest_12 : decode cX5_loudest 12 = .ok (.aload_n 0, 1) := by decide +kernel
theorem dX5_loudest_13 : decode cX5_loudest 13 = .ok (.getfield 12, 3) := by decide +kernel
theorem dX5_loudest_16 : decode cX5_loudest 16 = .ok (.invokevirtual 192, 3) := by decide +kernel
theorem dX5_loudest_19 : decode cX5_loudest 19 = .ok (.istore_n 2, 1) := by decide +kernel
theorem dX5_loudest_20 : decode cX5_loudest 20 = .ok (.aload_n 0, 1) := by decide +kernel
theorem dX5_loudest_21 : decode cX5_loudest 21 = .ok (.getfield 12, 3) := by decide +kernel
theorem dX5_loudest_24 : decode cX5_loudest 24 = .ok (.iload_n 2, 1) := by decide +kernel
theorem dX5_loudest_25 : decode cX5_loudest 25 = .ok (.invokevirtual 195, 3) := by decide +kernel
theorem dX5_loudest_28 : decode cX5_loudest 28 = .ok (.ifCond .ne 6, 3) := by decide +kernel
theorem dX5_loudest_31 : decode cX5_loudest 31 = .ok (.bipush (-6), 2) := by decide +kernel
theorem dX5_loudest_33 : decode cX5_loudest 33 = .ok (.ireturn, 1) := by decide +kernel
theorem dX5_loudest_34 : decode cX5_loudest 34 = .ok (.iload_n 1, 1) := by decide +kernel
theorem dX5_loudest_35 : decode cX5_loudest 35 = .ok (.ifCond .ne 10, 3) := by decide +kernel
theorem dX5_loudest_38 : decode cX5_loudest 38 = .ok (.iload_n 2, 1) := by decide +kernel
theorem dX5_loudest_39 : decode cX5_loudest 39 = .ok (.bipush 10, 2) := by decide +kernel
theorem dX5_loudest_41 : decode cX5_loudest 41 = .ok (.irem, 1) := by decide +kernel
theorem dX5_loudest_42 : decode cX5_loudest 42 = .ok (.goto 7, 3) := by decide +kernel
theorem dX5_loudest_45 : decode cX5_loudest 45 = .ok (.iload_n 2, 1) := by decide +kernel
theorem dX5_loudest_46 : decode cX5_loudest 46 = .ok (.bipush 10, 2) := by decide +kernel
theorem dX5_loudest_48 : decode cX5_loudest 48 = .ok (.idiv, 1) := by decide +kernel
theorem dX5_loudest_49 : decode cX5_loudest 49 = .ok (.ireturn, 1) := by decide +kernel
theorem dX5_crests_0 : decode cX5_crests 0 = .ok (.iload_n 1, 1) := by decide +kernel
theorem dX5_crests_1 : decode cX5_crests 1 = .ok (.iconst 0, 1) := by decide +kernel
theorem dX5_crests_2 : decode cX5_crests 2 = .ok (.iconst 5, 1) := by decide +kernel
theorem dX5_crests_3 : decode cX5_crests 3 = .ok (.invokestatic 101, 3) := by decide +kernel
theorem dX5_crests_6 : decode cX5_crests 6 = .ok (.ifCond .ne 5, 3) := by decide +kernel
theorem dX5_crests_9 : decode cX5_crests 9 = .ok (.iconst (-1), 1) := by decide +kernel
theorem dX5_crests_10 : decode cX5_crests 10 = .ok (.ireturn, 1) := by decide +kernel
theorem dX5_crests_11 : decode cX5_crests 11 = .ok (.iconst 0, 1) := by decide +kernel
theorem dX5_crests_12 : decode cX5_crests 12 = .ok (.istore_n 2, 1) := by decide +kernel
theorem dX5_crests_13 : decode cX5_crests 13 = .ok (.iconst 0, 1) := by decide +kernel
theorem dX5_crests_14 : decode cX5_crests 14 = .ok (.istore_n 3, 1) := by decide +kernel
theorem dX5_crests_15 : decode cX5_crests 15 = .ok (.iload_n 3, 1) := by decide +kernel
theorem dX5_crests_16 : decode cX5_crests 16 = .ok (.bipush 10, 2) := by decide +kernel
theorem dX5_crests_18 : decode cX5_crests 18 = .ok (.if_icmp .ge 24, 3) := by decide +kernel
theorem dX5_crests_21 : decode cX5_crests 21 = .ok (.aload_n 0, 1) := by decide +kernel
theorem dX5_crests_22 : decode cX5_crests 22 = .ok (.getfield 12, 3) := by decide +kernel
theorem dX5_crests_25 : decode cX5_crests 25 = .ok (.iload_n 3, 1) := by decide +kernel
theorem dX5_crests_26 : decode cX5_crests 26 = .ok (.iload_n 1, 1) := by decide +kernel
theorem dX5_crests_27 : decode cX5_crests 27 = .ok (.invokevirtual 202, 3) := by decide +kernel
theorem dX5_crests_30 : decode cX5_crests 30 = .ok (.ifCond .eq 6, 3) := by decide +kernel
theorem dX5_crests_33 : decode cX5_crests 33 = .ok (.iinc 2 1, 3) := by decide +kernel
theorem dX5_crests_36 : decode cX5_crests 36 = .ok (.iinc 3 1, 3) := by decide +kernel
theorem dX5_crests_39 : decode cX5_crests 39 = .ok (.goto (-24), 3) := by decide +kernel
theorem dX5_crests_42 : decode cX5_crests 42 = .ok (.iload_n 2, 1) := by decide +kernel
theorem dX5_crests_43 : decode cX5_crests 43 = .ok (.ireturn, 1) := by decide +kernel
theorem dX5_isDipper_0 : decode cX5_isDipper 0 = .ok (.iload_n 1, 1) := by decide +kernel
theorem dX5_isDipper_1 : decode cX5_isDipper 1 = .ok (.iconst 0, 1) := by decide +kernel
theorem dX5_isDipper_2 : decode cX5_isDipper 2 = .ok (.aload_n 0, 1) := by decide +kernel
theorem dX5_isDipper_3 : decode cX5_isDipper 3 = .ok (.getfield 12, 3) := by decide +kernel
theorem dX5_isDipper_6 : decode cX5_isDipper 6 = .ok (.getfield 63, 3) := by decide +kernel
theorem dX5_isDipper_9 : decode cX5_isDipper 9 = .ok (.getfield 105, 3) := by decide +kernel
theorem dX5_isDipper_12 : decode cX5_isDipper 12 = .ok (.iconst 1, 1) := by decide +kernel
theorem dX5_isDipper_13 : decode cX5_isDipper 13 = .ok (.isub, 1) := by decide +kernel
theorem dX5_isDipper_14 : decode cX5_isDipper 14 = .ok (.invokestatic 101, 3) := by decide +kernel
theorem dX5_isDipper_17 : decode cX5_isDipper 17 = .ok (.ireturn, 1) := by decide +kernel
theorem dX5_isProbe_0 : decode cX5_isProbe 0 = .ok (.iload_n 1, 1) := by decide +kernel
theorem dX5_isProbe_1 : decode cX5_isProbe 1 = .ok (.iconst 0, 1) := by decide +kernel
theorem dX5_isProbe_2 : decode cX5_isProbe 2 = .ok (.aload_n 0, 1) := by decide +kernel
theorem dX5_isProbe_3 : decode cX5_isProbe 3 = .ok (.getfield 12, 3) := by decide +kernel
theorem dX5_isProbe_6 : decode cX5_isProbe 6 = .ok (.getfield 126, 3) := by decide +kernel
theorem dX5_isProbe_9 : decode cX5_isProbe 9 = .ok (.getfield 130, 3) := by decide +kernel
theorem dX5_isProbe_12 : decode cX5_isProbe 12 = .ok (.iconst 1, 1) := by decide +kernel
theorem dX5_isProbe_13 : decode cX5_isProbe 13 = .ok (.isub, 1) := by decide +kernel
theorem dX5_isProbe_14 : decode cX5_isProbe 14 = .ok (.invokestatic 101, 3) := by decide +kernel
theorem dX5_isProbe_17 : decode cX5_isProbe 17 = .ok (.ireturn, 1) := by decide +kernel
theorem dX5_isIn_0 : decode cX5_isIn 0 = .ok (.iload_n 0, 1) := by decide +kernel
theorem dX5_isIn_1 : decode cX5_isIn 1 = .ok (.iload_n 1, 1) := by decide +kernel
theorem dX5_isIn_2 : decode cX5_isIn 2 = .ok (.if_icmp .lt 12, 3) := by decide +kernel
theorem dX5_isIn_5 : decode cX5_isIn 5 = .ok (.iload_n 0, 1) := by decide +kernel
theorem dX5_isIn_6 : decode cX5_isIn 6 = .ok (.iload_n 2, 1) := by decide +kernel
theorem dX5_isIn_7 : decode cX5_isIn 7 = .ok (.if_icmp .gt 7, 3) := by decide +kernel
theorem dX5_isIn_10 : decode cX5_isIn 10 = .ok (.iconst 1, 1) := by decide +kernel
theorem dX5_isIn_11 : decode cX5_isIn 11 = .ok (.goto 4, 3) := by decide +kernel
theorem dX5_isIn_14 : decode cX5_isIn 14 = .ok (.iconst 0, 1) := by decide +kernel
theorem dX5_isIn_15 : decode cX5_isIn 15 = .ok (.ireturn, 1) := by decide +kernel
theorem dX5_isCell_0 : decode cX5_isCell 0 = .ok (.iload_n 0, 1) := by decide +kernel
theorem dX5_isCell_1 : decode cX5_isCell 1 = .ok (.iconst 0, 1) := by decide +kernel
theorem dX5_isCell_2 : decode cX5_isCell 2 = .ok (.bipush 9, 2) := by decide +kernel
theorem dX5_isCell_4 : decode cX5_isCell 4 = .ok (.invokestatic 101, 3) := by decide +kernel
theorem dX5_isCell_7 : decode cX5_isCell 7 = .ok (.ifCond .eq 16, 3) := by decide +kernel
theorem dX5_isCell_10 : decode cX5_isCell 10 = .ok (.iload_n 1, 1) := by decide +kernel
theorem dX5_isCell_11 : decode cX5_isCell 11 = .ok (.iconst 0, 1) := by decide +kernel
theorem dX5_isCell_12 : decode cX5_isCell 12 = .ok (.iconst 5, 1) := by decide +kernel
theorem dX5_isCell_13 : decode cX5_isCell 13 = .ok (.invokestatic 101, 3) := by decide +kernel
theorem dX5_isCell_16 : decode cX5_isCell 16 = .ok (.ifCond .eq 7, 3) := by decide +kernel
theorem dX5_isCell_19 : decode cX5_isCell 19 = .ok (.iconst 1, 1) := by decide +kernel
theorem dX5_isCell_20 : decode cX5_isCell 20 = .ok (.goto 4, 3) := by decide +kernel
theorem dX5_isCell_23 : decode cX5_isCell 23 = .ok (.iconst 0, 1) := by decide +kernel
theorem dX5_isCell_24 : decode cX5_isCell 24 = .ok (.ireturn, 1) := by decide +kernel
theorem dX5_placeOf_0 : decode cX5_placeOf 0 = .ok (.iload_n 1, 1) := by decide +kernel
theorem dX5_placeOf_1 : decode cX5_placeOf 1 = .ok (.bipush 10, 2) := by decide +kernel
theorem dX5_placeOf_3 : decode cX5_placeOf 3 = .ok (.imul, 1) := by decide +kernel
theorem dX5_placeOf_4 : decode cX5_placeOf 4 = .ok (.iload_n 0, 1) := by decide +kernel
theorem dX5_placeOf_5 : decode cX5_placeOf 5 = .ok (.iadd, 1) := by decide +kernel
theorem dX5_placeOf_6 : decode cX5_placeOf 6 = .ok (.ireturn, 1) := by decide +kernel
theorem dX5_bounded_0 : decode cX5_bounded 0 = .ok (.sipush (-9999), 3) := by decide +kernel
theorem dX5_bounded_3 : decode cX5_bounded 3 = .ok (.sipush 9999, 3) := by decide +kernel
theorem dX5_bounded_6 : decode cX5_bounded 6 = .ok (.iload_n 0, 1) := by decide +kernel
theorem dX5_bounded_7 : decode cX5_bounded 7 = .ok (.invokestatic 224, 3) := by decide +kernel
theorem dX5_bounded_10 : decode cX5_bounded 10 = .ok (.invokestatic 229, 3) := by decide +kernel
theorem dX5_bounded_13 : decode cX5_bounded 13 = .ok (.ireturn, 1) := by decide +kernel
theorem dJ9_abs_0f7a4_0 : decode cJ9_abs_0f7a4 0 = .ok (.iload_n 0, 1) := by decide +kernel
theorem dJ9_abs_0f7a4_1 : decode cJ9_abs_0f7a4 1 = .ok (.ifCond .ge 8, 3) := by decide +kernel
theorem dJ9_abs_0f7a4_4 : decode cJ9_abs_0f7a4 4 = .ok (.iload_n 0, 1) := by decide +kernel
theorem dJ9_abs_0f7a4_5 : decode cJ9_abs_0f7a4 5 = .ok (.ineg, 1) := by decide +kernel
theorem dJ9_abs_0f7a4_6 : decode cJ9_abs_0f7a4 6 = .ok (.goto 4, 3) := by decide +kernel
theorem dJ9_abs_0f7a4_9 : decode cJ9_abs_0f7a4 9 = .ok (.iload_n 0, 1) := by decide +kernel
theorem dJ9_abs_0f7a4_10 : decode cJ9_abs_0f7a4 10 = .ok (.ireturn, 1) := by decide +kernel
theorem dJ9_max_7cf53_0 : decode cJ9_max_7cf53 0 = .ok (.iload_n 0, 1) := by decide +kernel
theorem dJ9_max_7cf53_1 : decode cJ9_max_7cf53 1 = .ok (.iload_n 1, 1) := by decide +kernel
theorem dJ9_max_7cf53_2 : decode cJ9_max_7cf53 2 = .ok (.if_icmp .lt 7, 3) := by decide +kernel
theorem dJ9_max_7cf53_5 : decode cJ9_max_7cf53 5 = .ok (.iload_n 0, 1) := by decide +kernel
theorem dJ9_max_7cf53_6 : decode cJ9_max_7cf53 6 = .ok (.goto 4, 3) := by decide +kernel
theorem dJ9_max_7cf53_9 : decode cJ9_max_7cf53 9 = .ok (.iload_n 1, 1) := by decide +kernel
theorem dJ9_max_7cf53_10 : decode cJ9_max_7cf53 10 = .ok (.ireturn, 1) := by decide +kernel
theorem dJ9_min_7cf53_0 : decode cJ9_min_7cf53 0 = .ok (.iload_n 0, 1) := by decide +kernel
theorem dJ9_min_7cf53_1 : decode cJ9_min_7cf53 1 = .ok (.iload_n 1, 1) := by decide +kernel
theorem dJ9_min_7cf53_2 : decode cJ9_min_7cf53 2 = .ok (.if_icmp .gt 7, 3) := by decide +kernel
theorem dJ9_min_7cf53_5 : decode cJ9_min_7cf53 5 = .ok (.iload_n 0, 1) := by decide +kernel
theorem dJ9_min_7cf53_6 : decode cJ9_min_7cf53 6 = .ok (.goto 4, 3) := by decide +kernel
theorem dJ9_min_7cf53_9 : decode cJ9_min_7cf53 9 = .ok (.iload_n 1, 1) := by decide +kernel
theorem dJ9_min_7cf53_10 : decode cJ9_min_7cf53 10 = .ok (.ireturn, 1) := by decide +kernel
theorem dJ7_fill_53178_0 : decode cJ7_fill_53178 0 = .ok (.iconst 0, 1) := by decide +kernel
theorem dJ7_fill_53178_1 : decode cJ7_fill_53178 1 = .ok (.istore_n 2, 1) := by decide +kernel
theorem dJ7_fill_53178_2 : decode cJ7_fill_53178 2 = .ok (.aload_n 0, 1) := by decide +kernel
theorem dJ7_fill_53178_3 : decode cJ7_fill_53178 3 = .ok (.arraylength, 1) := by decide +kernel
theorem dJ7_fill_53178_4 : decode cJ7_fill_53178 4 = .ok (.istore_n 3, 1) := by decide +kernel
theorem dJ7_fill_53178_5 : decode cJ7_fill_53178 5 = .ok (.iload_n 2, 1) := by decide +kernel
theorem dJ7_fill_53178_6 : decode cJ7_fill_53178 6 = .ok (.iload_n 3, 1) := by decide +kernel
theorem dJ7_fill_53178_7 : decode cJ7_fill_53178 7 = .ok (.if_icmp .ge 13, 3) := by decide +kernel
theorem dJ7_fill_53178_10 : decode cJ7_fill_53178 10 = .ok (.aload_n 0, 1) := by decide +kernel
theorem dJ7_fill_53178_11 : decode cJ7_fill_53178 11 = .ok (.iload_n 2, 1) := by decide +kernel
theorem dJ7_fill_53178_12 : decode cJ7_fill_53178 12 = .ok (.iload_n 1, 1) := by decide +kernel
theorem dJ7_fill_53178_13 : decode cJ7_fill_53178 13 = .ok (.iastore, 1) := by decide +kernel
theorem dJ7_fill_53178_14 : decode cJ7_fill_53178 14 = .ok (.iinc 2 1, 3) := by decide +kernel
theorem dJ7_fill_53178_17 : decode cJ7_fill_53178 17 = .ok (.goto (-12), 3) := by decide +kernel
theorem dJ7_fill_53178_20 : decode cJ7_fill_53178 20 = .ok (.return_, 1) := by decide +kernel
theorem dL_cell_0 : decode cL_cell 0 = .ok (.iload_n 1, 1) := by decide +kernel
theorem dL_cell_1 : decode cL_cell 1 = .ok (.aload_n 0, 1) := by decide +kernel
theorem dL_cell_2 : decode cL_cell 2 = .ok (.arraylength, 1) := by decide +kernel
theorem dL_cell_3 : decode cL_cell 3 = .ok (.if_icmp .ge 9, 3) := by decide +kernel
theorem dL_cell_6 : decode cL_cell 6 = .ok (.aload_n 0, 1) := by decide +kernel
theorem dL_cell_7 : decode cL_cell 7 = .ok (.iload_n 1, 1) := by decide +kernel
theorem dL_cell_8 : decode cL_cell 8 = .ok (.iaload, 1) := by decide +kernel
theorem dL_cell_9 : decode cL_cell 9 = .ok (.goto 10, 3) := by decide +kernel
theorem dL_cell_12 : decode cL_cell 12 = .ok (.ldc 7, 2) := by decide +kernel
theorem dL_cell_14 : decode cL_cell 14 = .ok (.iload_n 1, 1) := by decide +kernel
theorem dL_cell_15 : decode cL_cell 15 = .ok (.imul, 1) := by decide +kernel
theorem dL_cell_16 : decode cL_cell 16 = .ok (.ldc 8, 2) := by decide +kernel
theorem dL_cell_18 : decode cL_cell 18 = .ok (.iadd, 1) := by decide +kernel
theorem dL_cell_19 : decode cL_cell 19 = .ok (.ireturn, 1) := by decide +kernel
theorem dL_low_0 : decode cL_low 0 = .ok (.iload_n 0, 1) := by decide +kernel
theorem dL_low_1 : decode cL_low 1 = .ok (.ldc 9, 2) := by decide +kernel
theorem dL_low_3 : decode cL_low 3 = .ok (.iand, 1) := by decide +kernel
theorem dL_low_4 : decode cL_low 4 = .ok (.iload_n 1, 1) := by decide +kernel
theorem dL_low_5 : decode cL_low 5 = .ok (.irem, 1) := by decide +kernel
theorem dL_low_6 : decode cL_low 6 = .ok (.ireturn, 1) := by decide +kernel
theorem dL_at_0 : decode cL_at 0 = .ok (.iload_n 2, 1) := by decide +kernel
theorem dL_at_1 : decode cL_at 1 = .ok (.ifCond .lt 30, 3) := by decide +kernel
theorem dL_at_4 : decode cL_at 4 = .ok (.iload_n 2, 1) := by decide +kernel
theorem dL_at_5 : decode cL_at 5 = .ok (.bipush 9, 2) := by decide +kernel
theorem dL_at_7 : decode cL_at 7 = .ok (.if_icmp .gt 24, 3) := by decide +kernel
theorem dL_at_10 : decode cL_at 10 = .ok (.iload_n 3, 1) := by decide +kernel
theorem dL_at_11 : decode cL_at 11 = .ok (.ifCond .lt 20, 3) := by decide +kernel
theorem dL_at_14 : decode cL_at 14 = .ok (.iload_n 3, 1) := by decide +kernel
theorem dL_at_15 : decode cL_at 15 = .ok (.iconst 5, 1) := by decide +kernel
theorem dL_at_16 : decode cL_at 16 = .ok (.if_icmp .gt 15, 3) := by decide +kernel
theorem dL_at_19 : decode cL_at 19 = .ok (.aload_n 0, 1) := by decide +kernel
theorem dL_at_20 : decode cL_at 20 = .ok (.bipush 10, 2) := by decide +kernel
theorem dL_at_22 : decode cL_at 22 = .ok (.iload_n 3, 1) := by decide +kernel
theorem dL_at_23 : decode cL_at 23 = .ok (.imul, 1) := by decide +kernel
theorem dL_at_24 : decode cL_at 24 = .ok (.iload_n 2, 1) := by decide +kernel
theorem dL_at_25 : decode cL_at 25 = .ok (.iadd, 1) := by decide +kernel
theorem dL_at_26 : decode cL_at 26 = .ok (.iaload, 1) := by decide +kernel
theorem dL_at_27 : decode cL_at 27 = .ok (.iconst 2, 1) := by decide +kernel
theorem dL_at_28 : decode cL_at 28 = .ok (.if_icmp .ne 10, 3) := by decide +kernel
theorem dL_at_31 : decode cL_at 31 = .ok (.aload_n 1, 1) := by decide +kernel
theorem dL_at_32 : decode cL_at 32 = .ok (.iload 4, 2) := by decide +kernel
theorem dL_at_34 : decode cL_at 34 = .ok (.iaload, 1) := by decide +kernel
theorem dL_at_35 : decode cL_at 35 = .ok (.goto 11, 3) := by decide +kernel
theorem dL_at_38 : decode cL_at 38 = .ok (.aload_n 1, 1) := by decide +kernel
theorem dL_at_39 : decode cL_at 39 = .ok (.bipush 10, 2) := by decide +kernel
theorem dL_at_41 : decode cL_at 41 = .ok (.iload_n 3, 1) := by decide +kernel
theorem dL_at_42 : decode cL_at 42 = .ok (.imul, 1) := by decide +kernel
theorem dL_at_43 : decode cL_at 43 = .ok (.iload_n 2, 1) := by decide +kernel
theorem dL_at_44 : decode cL_at 44 = .ok (.iadd, 1) := by decide +kernel
theorem dL_at_45 : decode cL_at 45 = .ok (.iaload, 1) := by decide +kernel
theorem dL_at_46 : decode cL_at 46 = .ok (.ireturn, 1) := by decide +kernel
theorem dL_slope_0 : decode cL_slope 0 = .ok (.iload_n 2, 1) := by decide +kernel
theorem dL_slope_1 : decode cL_slope 1 = .ok (.bipush 10, 2) := by decide +kernel
theorem dL_slope_3 : decode cL_slope 3 = .ok (.irem, 1) := by decide +kernel
theorem dL_slope_4 : decode cL_slope 4 = .ok (.istore_n 3, 1) := by decide +kernel
theorem dL_slope_5 : decode cL_slope 5 = .ok (.iload_n 2, 1) := by decide +kernel
theorem dL_slope_6 : decode cL_slope 6 = .ok (.bipush 10, 2) := by decide +kernel
theorem dL_slope_8 : decode cL_slope 8 = .ok (.idiv, 1) := by decide +kernel
theorem dL_slope_9 : decode cL_slope 9 = .ok (.istore 4, 2) := by decide +kernel
theorem dL_slope_11 : decode cL_slope 11 = .ok (.aload_n 0, 1) := by decide +kernel
theorem dL_slope_12 : decode cL_slope 12 = .ok (.iload_n 2, 1) := by decide +kernel
theorem dL_slope_13 : decode cL_slope 13 = .ok (.iaload, 1) := by decide +kernel
theorem dL_slope_14 : decode cL_slope 14 = .ok (.iconst 2, 1) := by decide +kernel
theorem dL_slope_15 : decode cL_slope 15 = .ok (.if_icmp .ne 7, 3) := by decide +kernel
theorem dL_slope_18 : decode cL_slope 18 = .ok (.iconst 0, 1) := by decide +kernel
theorem dL_slope_19 : decode cL_slope 19 = .ok (.goto 56, 3) := by decide +kernel
theorem dL_slope_22 : decode cL_slope 22 = .ok (.aload_n 0, 1) := by decide +kernel
theorem dL_slope_23 : decode cL_slope 23 = .ok (.aload_n 1, 1) := by decide +kernel
theorem dL_slope_24 : decode cL_slope 24 = .ok (.iload_n 3, 1) := by decide +kernel
theorem dL_slope_25 : decode cL_slope 25 = .ok (.iconst 1, 1) := by decide +kernel
theorem dL_slope_26 : decode cL_slope 26 = .ok (.isub, 1) := by decide +kernel
theorem dL_slope_27 : decode cL_slope 27 = .ok (.iload 4, 2) := by decide +kernel
theorem dL_slope_29 : decode cL_slope 29 = .ok (.iload_n 2, 1) := by decide +kernel
theorem dL_slope_30 : decode cL_slope 30 = .ok (.invokestatic 10, 3) := by decide +kernel
theorem dL_slope_33 : decode cL_slope 33 = .ok (.aload_n 0, 1) := by decide +kernel
theorem dL_slope_34 : decode cL_slope 34 = .ok (.aload_n 1, 1) := by decide +kernel
theorem dL_slope_35 : decode cL_slope 35 = .ok (.iload_n 3, 1) := by decide +kernel
theorem dL_slope_36 : decode cL_slope 36 = .ok (.iconst 1, 1) := by decide +kernel
theorem dL_slope_37 : decode cL_slope 37 = .ok (.iadd, 1) := by decide +kernel
theorem dL_slope_38 : decode cL_slope 38 = .ok (.iload 4, 2) := by decide +kernel
theorem dL_slope_40 : decode cL_slope 40 = .ok (.iload_n 2, 1) := by decide +kernel
theorem dL_slope_41 : decode cL_slope 41 = .ok (.invokestatic 10, 3) := by decide +kernel
theorem dL_slope_44 : decode cL_slope 44 = .ok (.iadd, 1) := by decide +kernel
theorem dL_slope_45 : decode cL_slope 45 = .ok (.aload_n 0, 1) := by decide +kernel
theorem dL_slope_46 : decode cL_slope 46 = .ok (.aload_n 1, 1) := by decide +kernel
theorem dL_slope_47 : decode cL_slope 47 = .ok (.iload_n 3, 1) := by decide +kernel
theorem dL_slope_48 : decode cL_slope 48 = .ok (.iload 4, 2) := by decide +kernel
theorem dL_slope_50 : decode cL_slope 50 = .ok (.iconst 1, 1) := by decide +kernel
theorem dL_slope_51 : decode cL_slope 51 = .ok (.isub, 1) := by decide +kernel
theorem dL_slope_52 : decode cL_slope 52 = .ok (.iload_n 2, 1) := by decide +kernel
theorem dL_slope_53 : decode cL_slope 53 = .ok (.invokestatic 10, 3) := by decide +kernel
theorem dL_slope_56 : decode cL_slope 56 = .ok (.iadd, 1) := by decide +kernel
theorem dL_slope_57 : decode cL_slope 57 = .ok (.aload_n 0, 1) := by decide +kernel
theorem dL_slope_58 : decode cL_slope 58 = .ok (.aload_n 1, 1) := by decide +kernel
theorem dL_slope_59 : decode cL_slope 59 = .ok (.iload_n 3, 1) := by decide +kernel
theorem dL_slope_60 : decode cL_slope 60 = .ok (.iload 4, 2) := by decide +kernel
theorem dL_slope_62 : decode cL_slope 62 = .ok (.iconst 1, 1) := by decide +kernel
theorem dL_slope_63 : decode cL_slope 63 = .ok (.iadd, 1) := by decide +kernel
theorem dL_slope_64 : decode cL_slope 64 = .ok (.iload_n 2, 1) := by decide +kernel
theorem dL_slope_65 : decode cL_slope 65 = .ok (.invokestatic 10, 3) := by decide +kernel
theorem dL_slope_68 : decode cL_slope 68 = .ok (.iadd, 1) := by decide +kernel
theorem dL_slope_69 : decode cL_slope 69 = .ok (.iconst 4, 1) := by decide +kernel
theorem dL_slope_70 : decode cL_slope 70 = .ok (.aload_n 1, 1) := by decide +kernel
theorem dL_slope_71 : decode cL_slope 71 = .ok (.iload_n 2, 1) := by decide +kernel
theorem dL_slope_72 : decode cL_slope 72 = .ok (.iaload, 1) := by decide +kernel
theorem dL_slope_73 : decode cL_slope 73 = .ok (.imul, 1) := by decide +kernel
theorem dL_slope_74 : decode cL_slope 74 = .ok (.isub, 1) := by decide +kernel
theorem dL_slope_75 : decode cL_slope 75 = .ok (.ireturn, 1) := by decide +kernel
theorem dL_amount_0 : decode cL_amount 0 = .ok (.iload_n 0, 1) := by decide +kernel
theorem dL_amount_1 : decode cL_amount 1 = .ok (.ifCond .ge 8, 3) := by decide +kernel
theorem dL_amount_4 : decode cL_amount 4 = .ok (.iload_n 0, 1) := by decide +kernel
theorem dL_amount_5 : decode cL_amount 5 = .ok (.ineg, 1) := by decide +kernel
theorem dL_amount_6 : decode cL_amount 6 = .ok (.goto 4, 3) := by decide +kernel
theorem dL_amount_9 : decode cL_amount 9 = .ok (.iload_n 0, 1) := by decide +kernel
theorem dL_amount_10 : decode cL_amount 10 = .ok (.ireturn, 1) := by decide +kernel
theorem dL_tick_0 : decode cL_tick 0 = .ok (.bipush 60, 2) := by decide +kernel
theorem dL_tick_2 : decode cL_tick 2 = .ok (.newarray .int, 2) := by decide +kernel
theorem dL_tick_4 : decode cL_tick 4 = .ok (.astore 6, 2) := by decide +kernel
theorem dL_tick_6 : decode cL_tick 6 = .ok (.iconst 0, 1) := by decide +kernel
theorem dL_tick_7 : decode cL_tick 7 = .ok (.istore 7, 2) := by decide +kernel
theorem dL_tick_9 : decode cL_tick 9 = .ok (.iload 7, 2) := by decide +kernel
theorem dL_tick_11 : decode cL_tick 11 = .ok (.bipush 60, 2) := by decide +kernel
theorem dL_tick_13 : decode cL_tick 13 = .ok (.if_icmp .ge 303, 3) := by decide +kernel
theorem dL_tick_16 : decode cL_tick 16 = .ok (.aload_n 0, 1) := by decide +kernel
theorem dL_tick_17 : decode cL_tick 17 = .ok (.aload_n 1, 1) := by decide +kernel
theorem dL_tick_18 : decode cL_tick 18 = .ok (.iload 7, 2) := by decide +kernel
theorem dL_tick_20 : decode cL_tick 20 = .ok (.invokestatic 16, 3) := by decide +kernel
theorem dL_tick_23 : decode cL_tick 23 = .ok (.aload_n 0, 1) := by decide +kernel
theorem dL_tick_24 : decode cL_tick 24 = .ok (.iload 7, 2) := by decide +kernel
theorem dL_tick_26 : decode cL_tick 26 = .ok (.iaload, 1) := by decide +kernel
theorem dL_tick_27 : decode cL_tick 27 = .ok (.ifCond .ne 10, 3) := by decide +kernel
theorem dL_tick_30 : decode cL_tick 30 = .ok (.aload 5, 2) := by decide +kernel
theorem dL_tick_32 : decode cL_tick 32 = .ok (.iconst 1, 1) := by decide +kernel
theorem dL_tick_33 : decode cL_tick 33 = .ok (.iaload, 1) := by decide +kernel
theorem dL_tick_34 : decode cL_tick 34 = .ok (.goto 7, 3) := by decide +kernel
theorem dL_tick_37 : decode cL_tick 37 = .ok (.aload 5, 2) := by decide +kernel
theorem dL_tick_39 : decode cL_tick 39 = .ok (.iconst 2, 1) := by decide +kernel
theorem dL_tick_40 : decode cL_tick 40 = .ok (.iaload, 1) := by decide +kernel
theorem dL_tick_41 : decode cL_tick 41 = .ok (.imul, 1) := by decide +kernel
theorem dL_tick_42 : decode cL_tick 42 = .ok (.istore 8, 2) := by decide +kernel
theorem dL_tick_44 : decode cL_tick 44 = .ok (.aload_n 1, 1) := by decide +kernel
theorem dL_tick_45 : decode cL_tick 45 = .ok (.iload 7, 2) := by decide +kernel
theorem dL_tick_47 : decode cL_tick 47 = .ok (.iaload, 1) := by decide +kernel
theorem dL_tick_48 : decode cL_tick 48 = .ok (.aload_n 1, 1) := by decide +kernel
theorem dL_tick_49 : decode cL_tick 49 = .ok (.iload 7, 2) := by decide +kernel
theorem dL_tick_51 : decode cL_tick 51 = .ok (.iaload, 1) := by decide +kernel
theorem dL_tick_52 : decode cL_tick 52 = .ok (.iadd, 1) := by decide +kernel
theorem dL_tick_53 : decode cL_tick 53 = .ok (.aload_n 2, 1) := by decide +kernel
theorem dL_tick_54 : decode cL_tick 54 = .ok (.iload 7, 2) := by decide +kernel
theorem dL_tick_56 : decode cL_tick 56 = .ok (.iaload, 1) := by decide +kernel
theorem dL_tick_57 : decode cL_tick 57 = .ok (.isub, 1) := by decide +kernel
theorem dL_tick_58 : decode cL_tick 58 = .ok (.iload 8, 2) := by decide +kernel
theorem dL_tick_60 : decode cL_tick 60 = .ok (.ifCond .ge 13, 3) := by decide +kernel
theorem dL_tick_63 : decode cL_tick 63 = .ok (.iload 8, 2) := by decide +kernel
theorem dL_tick_65 : decode cL_tick 65 = .ok (.ineg, 1) := by decide +kernel
theorem dL_tick_66 : decode cL_tick 66 = .ok (.bipush 16, 2) := by decide +kernel
theorem dL_tick_68 : decode cL_tick 68 = .ok (.idiv, 1) := by decide +kernel
theorem dL_tick_69 : decode cL_tick 69 = .ok (.ineg, 1) := by decide +kernel
theorem dL_tick_70 : decode cL_tick 70 = .ok (.goto 8, 3) := by decide +kernel
theorem dL_tick_73 : decode cL_tick 73 = .ok (.iload 8, 2) := by decide +kernel
theorem dL_tick_75 : decode cL_tick 75 = .ok (.bipush 16, 2) := by decide +kernel
theorem dL_tick_77 : decode cL_tick 77 = .ok (.idiv, 1) := by decide +kernel
theorem dL_tick_78 : decode cL_tick 78 = .ok (.iadd, 1) := by decide +kernel
theorem dL_tick_79 : decode cL_tick 79 = .ok (.istore 9, 2) := by decide +kernel
theorem dL_tick_81 : decode cL_tick 81 = .ok (.iload 9, 2) := by decide +kernel
theorem dL_tick_83 : decode cL_tick 83 = .ok (.invokestatic 20, 3) := by decide +kernel
theorem dL_tick_86 : decode cL_tick 86 = .ok (.aload 5, 2) := by decide +kernel
theorem dL_tick_88 : decode cL_tick 88 = .ok (.iconst 0, 1) := by decide +kernel
theorem dL_tick_89 : decode cL_tick 89 = .ok (.iaload, 1) := by decide +kernel
theorem dL_tick_90 : decode cL_tick 90 = .ok (.imul, 1) := by decide +kernel
theorem dL_tick_91 : decode cL_tick 91 = .ok (.sipush 1000, 3) := by decide +kernel
theorem dL_tick_94 : decode cL_tick 94 = .ok (.idiv, 1) := by decide +kernel
theorem dL_tick_95 : decode cL_tick 95 = .ok (.istore 10, 2) := by decide +kernel
theorem dL_tick_97 : decode cL_tick 97 = .ok (.iload 9, 2) := by decide +kernel
theorem dL_tick_99 : decode cL_tick 99 = .ok (.ifCond .ge 11, 3) := by decide +kernel
theorem dL_tick_102 : decode cL_tick 102 = .ok (.iload 9, 2) := by decide +kernel
theorem dL_tick_104 : decode cL_tick 104 = .ok (.iload 10, 2) := by decide +kernel
theorem dL_tick_106 : decode cL_tick 106 = .ok (.iadd, 1) := by decide +kernel
theorem dL_tick_107 : decode cL_tick 107 = .ok (.goto 8, 3) := by decide +kernel
theorem dL_tick_110 : decode cL_tick 110 = .ok (.iload 9, 2) := by decide +kernel
theorem dL_tick_112 : decode cL_tick 112 = .ok (.iload 10, 2) := by decide +kernel
theorem dL_tick_114 : decode cL_tick 114 = .ok (.isub, 1) := by decide +kernel
theorem dL_tick_115 : decode cL_tick 115 = .ok (.istore 9, 2) := by decide +kernel
theorem dL_tick_117 : decode cL_tick 117 = .ok (.aload_n 0, 1) := by decide +kernel
theorem dL_tick_118 : decode cL_tick 118 = .ok (.iload 7, 2) := by decide +kernel
theorem dL_tick_120 : decode cL_tick 120 = .ok (.iaload, 1) := by decide +kernel
theorem dL_tick_121 : decode cL_tick 121 = .ok (.iconst 3, 1) := by decide +kernel
theorem dL_tick_122 : decode cL_tick 122 = .ok (.if_icmp .eq 8, 3) := by decide +kernel
theorem dL_tick_125 : decode cL_tick 125 = .ok (.iload 9, 2) := by decide +kernel
theorem dL_tick_127 : decode cL_tick 127 = .ok (.goto 21, 3) := by decide +kernel
theorem dL_tick_130 : decode cL_tick 130 = .ok (.iload 9, 2) := by decide +kernel
theorem dL_tick_132 : decode cL_tick 132 = .ok (.ifCond .ge 12, 3) := by decide +kernel
theorem dL_tick_135 : decode cL_tick 135 = .ok (.iload 9, 2) := by decide +kernel
theorem dL_tick_137 : decode cL_tick 137 = .ok (.ineg, 1) := by decide +kernel
theorem dL_tick_138 : decode cL_tick 138 = .ok (.iconst 2, 1) := by decide +kernel
theorem dL_tick_139 : decode cL_tick 139 = .ok (.idiv, 1) := by decide +kernel
theorem dL_tick_140 : decode cL_tick 140 = .ok (.ineg, 1) := by decide +kernel
theorem dL_tick_141 : decode cL_tick 141 = .ok (.goto 7, 3) := by decide +kernel
theorem dL_tick_144 : decode cL_tick 144 = .ok (.iload 9, 2) := by decide +kernel
theorem dL_tick_146 : decode cL_tick 146 = .ok (.iconst 2, 1) := by decide +kernel
theorem dL_tick_147 : decode cL_tick 147 = .ok (.idiv, 1) := by decide +kernel
theorem dL_tick_148 : decode cL_tick 148 = .ok (.istore 9, 2) := by decide +kernel
theorem dL_tick_150 : decode cL_tick 150 = .ok (.iload 9, 2) := by decide +kernel
theorem dL_tick_152 : decode cL_tick 152 = .ok (.sipush 9999, 3) := by decide +kernel
theorem dL_tick_155 : decode cL_tick 155 = .ok (.if_icmp .le 9, 3) := by decide +kernel
theorem dL_tick_158 : decode cL_tick 158 = .ok (.sipush 9999, 3) := by decide +kernel
theorem dL_tick_161 : decode cL_tick 161 = .ok (.goto 19, 3) := by decide +kernel
theorem dL_tick_164 : decode cL_tick 164 = .ok (.iload 9, 2) := by decide +kernel
theorem dL_tick_166 : decode cL_tick 166 = .ok (.sipush (-9999), 3) := by decide +kernel
theorem dL_tick_169 : decode cL_tick 169 = .ok (.if_icmp .ge 9, 3) := by decide +kernel
theorem dL_tick_172 : decode cL_tick 172 = .ok (.sipush (-9999), 3) := by decide +kernel
theorem dL_tick_175 : decode cL_tick 175 = .ok (.goto 5, 3) := by decide +kernel
theorem dL_tick_178 : decode cL_tick 178 = .ok (.iload 9, 2) := by decide +kernel
theorem dL_tick_180 : decode cL_tick 180 = .ok (.istore 9, 2) := by decide +kernel
theorem dL_tick_182 : decode cL_tick 182 = .ok (.iconst 0, 1) := by decide +kernel
theorem dL_tick_183 : decode cL_tick 183 = .ok (.istore 11, 2) := by decide +kernel
theorem dL_tick_185 : decode cL_tick 185 = .ok (.iload 11, 2) := by decide +kernel
theorem dL_tick_187 : decode cL_tick 187 = .ok (.aload 5, 2) := by decide +kernel
theorem dL_tick_189 : decode cL_tick 189 = .ok (.iconst 5, 1) := by decide +kernel
theorem dL_tick_190 : decode cL_tick 190 = .ok (.iaload, 1) := by decide +kernel
theorem dL_tick_191 : decode cL_tick 191 = .ok (.if_icmp .ge 100, 3) := by decide +kernel
theorem dL_tick_194 : decode cL_tick 194 = .ok (.aload 5, 2) := by decide +kernel
theorem dL_tick_196 : decode cL_tick 196 = .ok (.iconst 4, 1) := by decide +kernel
theorem dL_tick_197 : decode cL_tick 197 = .ok (.iaload, 1) := by decide +kernel
theorem dL_tick_198 : decode cL_tick 198 = .ok (.aload 4, 2) := by decide +kernel
theorem dL_tick_200 : decode cL_tick 200 = .ok (.iconst 4, 1) := by decide +kernel
theorem dL_tick_201 : decode cL_tick 201 = .ok (.iload 11, 2) := by decide +kernel
theorem dL_tick_203 : decode cL_tick 203 = .ok (.imul, 1) := by decide +kernel
theorem dL_tick_204 : decode cL_tick 204 = .ok (.iconst 3, 1) := by decide +kernel
theorem dL_tick_205 : decode cL_tick 205 = .ok (.iadd, 1) := by decide +kernel
theorem dL_tick_206 : decode cL_tick 206 = .ok (.iaload, 1) := by decide +kernel
theorem dL_tick_207 : decode cL_tick 207 = .ok (.iadd, 1) := by decide +kernel
theorem dL_tick_208 : decode cL_tick 208 = .ok (.aload 4, 2) := by decide +kernel
theorem dL_tick_210 : decode cL_tick 210 = .ok (.iconst 4, 1) := by decide +kernel
theorem dL_tick_211 : decode cL_tick 211 = .ok (.iload 11, 2) := by decide +kernel
theorem dL_tick_213 : decode cL_tick 213 = .ok (.imul, 1) := by decide +kernel
theorem dL_tick_214 : decode cL_tick 214 = .ok (.iconst 1, 1) := by decide +kernel
theorem dL_tick_215 : decode cL_tick 215 = .ok (.iadd, 1) := by decide +kernel
theorem dL_tick_216 : decode cL_tick 216 = .ok (.iaload, 1) := by decide +kernel
theorem dL_tick_217 : decode cL_tick 217 = .ok (.irem, 1) := by decide +kernel
theorem dL_tick_218 : decode cL_tick 218 = .ok (.aload 4, 2) := by decide +kernel
theorem dL_tick_220 : decode cL_tick 220 = .ok (.iconst 4, 1) := by decide +kernel
theorem dL_tick_221 : decode cL_tick 221 = .ok (.iload 11, 2) := by decide +kernel
theorem dL_tick_223 : decode cL_tick 223 = .ok (.imul, 1) := by decide +kernel
theorem dL_tick_224 : decode cL_tick 224 = .ok (.iconst 1, 1) := by decide +kernel
theorem dL_tick_225 : decode cL_tick 225 = .ok (.iadd, 1) := by decide +kernel
theorem dL_tick_226 : decode cL_tick 226 = .ok (.iaload, 1) := by decide +kernel
theorem dL_tick_227 : decode cL_tick 227 = .ok (.iconst 2, 1) := by decide +kernel
theorem dL_tick_228 : decode cL_tick 228 = .ok (.idiv, 1) := by decide +kernel
theorem dL_tick_229 : decode cL_tick 229 = .ok (.if_icmp .ge 7, 3) := by decide +kernel
theorem dL_tick_232 : decode cL_tick 232 = .ok (.iconst 1, 1) := by decide +kernel
theorem dL_tick_233 : decode cL_tick 233 = .ok (.goto 4, 3) := by decide +kernel
theorem dL_tick_236 : decode cL_tick 236 = .ok (.iconst 0, 1) := by decide +kernel
theorem dL_tick_237 : decode cL_tick 237 = .ok (.istore 12, 2) := by decide +kernel
theorem dL_tick_239 : decode cL_tick 239 = .ok (.aload 4, 2) := by decide +kernel
theorem dL_tick_241 : decode cL_tick 241 = .ok (.iconst 4, 1) := by decide +kernel
theorem dL_tick_242 : decode cL_tick 242 = .ok (.iload 11, 2) := by decide +kernel
theorem dL_tick_244 : decode cL_tick 244 = .ok (.imul, 1) := by decide +kernel
theorem dL_tick_245 : decode cL_tick 245 = .ok (.iaload, 1) := by decide +kernel
theorem dL_tick_246 : decode cL_tick 246 = .ok (.iload 7, 2) := by decide +kernel
theorem dL_tick_248 : decode cL_tick 248 = .ok (.if_icmp .ne 33, 3) := by decide +kernel
theorem dL_tick_251 : decode cL_tick 251 = .ok (.iload 12, 2) := by decide +kernel
theorem dL_tick_253 : decode cL_tick 253 = .ok (.ifCond .eq 16, 3) := by decide +kernel
theorem dL_tick_256 : decode cL_tick 256 = .ok (.aload 4, 2) := by decide +kernel
theorem dL_tick_258 : decode cL_tick 258 = .ok (.iconst 4, 1) := by decide +kernel
theorem dL_tick_259 : decode cL_tick 259 = .ok (.iload 11, 2) := by decide +kernel
theorem dL_tick_261 : decode cL_tick 261 = .ok (.imul, 1) := by decide +kernel
theorem dL_tick_262 : decode cL_tick 262 = .ok (.iconst 2, 1) := by decide +kernel
theorem dL_tick_263 : decode cL_tick 263 = .ok (.iadd, 1) := by decide +kernel
theorem dL_tick_264 : decode cL_tick 264 = .ok (.iaload, 1) := by decide +kernel
theorem dL_tick_265 : decode cL_tick 265 = .ok (.ineg, 1) := by decide +kernel
theorem dL_tick_266 : decode cL_tick 266 = .ok (.goto 17, 3) := by decide +kernel
theorem dL_tick_269 : decode cL_tick 269 = .ok (.aload 4, 2) := by decide +kernel
theorem dL_tick_271 : decode cL_tick 271 = .ok (.iconst 4, 1) := by decide +kernel
theorem dL_tick_272 : decode cL_tick 272 = .ok (.iload 11, 2) := by decide +kernel
theorem dL_tick_274 : decode cL_tick 274 = .ok (.imul, 1) := by decide +kernel
theorem dL_tick_275 : decode cL_tick 275 = .ok (.iconst 2, 1) := by decide +kernel
theorem dL_tick_276 : decode cL_tick 276 = .ok (.iadd, 1) := by decide +kernel
theorem dL_tick_277 : decode cL_tick 277 = .ok (.iaload, 1) := by decide +kernel
theorem dL_tick_278 : decode cL_tick 278 = .ok (.goto 5, 3) := by decide +kernel
theorem dL_tick_281 : decode cL_tick 281 = .ok (.iload 9, 2) := by decide +kernel
theorem dL_tick_283 : decode cL_tick 283 = .ok (.istore 9, 2) := by decide +kernel
theorem dL_tick_285 : decode cL_tick 285 = .ok (.iinc 11 1, 3) := by decide +kernel
theorem dL_tick_288 : decode cL_tick 288 = .ok (.goto (-103), 3) := by decide +kernel
theorem dL_tick_291 : decode cL_tick 291 = .ok (.aload 6, 2) := by decide +kernel
theorem dL_tick_293 : decode cL_tick 293 = .ok (.iload 7, 2) := by decide +kernel
theorem dL_tick_295 : decode cL_tick 295 = .ok (.aload_n 0, 1) := by decide +kernel
theorem dL_tick_296 : decode cL_tick 296 = .ok (.iload 7, 2) := by decide +kernel
theorem dL_tick_298 : decode cL_tick 298 = .ok (.iaload, 1) := by decide +kernel
theorem dL_tick_299 : decode cL_tick 299 = .ok (.iconst 2, 1) := by decide +kernel
theorem dL_tick_300 : decode cL_tick 300 = .ok (.if_icmp .ne 7, 3) := by decide +kernel
theorem dL_tick_303 : decode cL_tick 303 = .ok (.iconst 0, 1) := by decide +kernel
theorem dL_tick_304 : decode cL_tick 304 = .ok (.goto 5, 3) := by decide +kernel
theorem dL_tick_307 : decode cL_tick 307 = .ok (.iload 9, 2) := by decide +kernel
theorem dL_tick_309 : decode cL_tick 309 = .ok (.iastore, 1) := by decide +kernel
theorem dL_tick_310 : decode cL_tick 310 = .ok (.iinc 7 1, 3) := by decide +kernel
theorem dL_tick_313 : decode cL_tick 313 = .ok (.goto (-304), 3) := by decide +kernel
theorem dL_tick_316 : decode cL_tick 316 = .ok (.iconst 0, 1) := by decide +kernel
theorem dL_tick_317 : decode cL_tick 317 = .ok (.istore 7, 2) := by decide +kernel
theorem dL_tick_319 : decode cL_tick 319 = .ok (.iload 7, 2) := by decide +kernel
theorem dL_tick_321 : decode cL_tick 321 = .ok (.bipush 60, 2) := by decide +kernel
theorem dL_tick_323 : decode cL_tick 323 = .ok (.if_icmp .ge 62, 3) := by decide +kernel
theorem dL_tick_326 : decode cL_tick 326 = .ok (.aload_n 2, 1) := by decide +kernel
theorem dL_tick_327 : decode cL_tick 327 = .ok (.iload 7, 2) := by decide +kernel
theorem dL_tick_329 : decode cL_tick 329 = .ok (.aload_n 1, 1) := by decide +kernel
theorem dL_tick_330 : decode cL_tick 330 = .ok (.iload 7, 2) := by decide +kernel
theorem dL_tick_332 : decode cL_tick 332 = .ok (.iaload, 1) := by decide +kernel
theorem dL_tick_333 : decode cL_tick 333 = .ok (.iastore, 1) := by decide +kernel
theorem dL_tick_334 : decode cL_tick 334 = .ok (.aload_n 1, 1) := by decide +kernel
theorem dL_tick_335 : decode cL_tick 335 = .ok (.iload 7, 2) := by decide +kernel
theorem dL_tick_337 : decode cL_tick 337 = .ok (.aload 6, 2) := by decide +kernel
theorem dL_tick_339 : decode cL_tick 339 = .ok (.iload 7, 2) := by decide +kernel
theorem dL_tick_341 : decode cL_tick 341 = .ok (.iaload, 1) := by decide +kernel
theorem dL_tick_342 : decode cL_tick 342 = .ok (.iastore, 1) := by decide +kernel
theorem dL_tick_343 : decode cL_tick 343 = .ok (.aload_n 3, 1) := by decide +kernel
theorem dL_tick_344 : decode cL_tick 344 = .ok (.iload 7, 2) := by decide +kernel
theorem dL_tick_346 : decode cL_tick 346 = .ok (.aload_n 3, 1) := by decide +kernel
theorem dL_tick_347 : decode cL_tick 347 = .ok (.iload 7, 2) := by decide +kernel
theorem dL_tick_349 : decode cL_tick 349 = .ok (.iaload, 1) := by decide +kernel
theorem dL_tick_350 : decode cL_tick 350 = .ok (.ifCond .ge 24, 3) := by decide +kernel
theorem dL_tick_353 : decode cL_tick 353 = .ok (.aload_n 1, 1) := by decide +kernel
theorem dL_tick_354 : decode cL_tick 354 = .ok (.iload 7, 2) := by decide +kernel
theorem dL_tick_356 : decode cL_tick 356 = .ok (.iaload, 1) := by decide +kernel
theorem dL_tick_357 : decode cL_tick 357 = .ok (.invokestatic 20, 3) := by decide +kernel
theorem dL_tick_360 : decode cL_tick 360 = .ok (.aload 5, 2) := by decide +kernel
theorem dL_tick_362 : decode cL_tick 362 = .ok (.iconst 3, 1) := by decide +kernel
theorem dL_tick_363 : decode cL_tick 363 = .ok (.iaload, 1) := by decide +kernel
theorem dL_tick_364 : decode cL_tick 364 = .ok (.if_icmp .le 10, 3) := by decide +kernel
theorem dL_tick_367 : decode cL_tick 367 = .ok (.aload 5, 2) := by decide +kernel
theorem dL_tick_369 : decode cL_tick 369 = .ok (.iconst 4, 1) := by decide +kernel
theorem dL_tick_370 : decode cL_tick 370 = .ok (.iaload, 1) := by decide +kernel
theorem dL_tick_371 : decode cL_tick 371 = .ok (.goto 7, 3) := by decide +kernel
theorem dL_tick_374 : decode cL_tick 374 = .ok (.aload_n 3, 1) := by decide +kernel
theorem dL_tick_375 : decode cL_tick 375 = .ok (.iload 7, 2) := by decide +kernel
theorem dL_tick_377 : decode cL_tick 377 = .ok (.iaload, 1) := by decide +kernel
theorem dL_tick_378 : decode cL_tick 378 = .ok (.iastore, 1) := by decide +kernel
theorem dL_tick_379 : decode cL_tick 379 = .ok (.iinc 7 1, 3) := by decide +kernel
theorem dL_tick_382 : decode cL_tick 382 = .ok (.goto (-63), 3) := by decide +kernel
theorem dL_tick_385 : decode cL_tick 385 = .ok (.aload 5, 2) := by decide +kernel
theorem dL_tick_387 : decode cL_tick 387 = .ok (.iconst 4, 1) := by decide +kernel
theorem dL_tick_388 : decode cL_tick 388 = .ok (.dup2, 1) := by decide +kernel
theorem dL_tick_389 : decode cL_tick 389 = .ok (.iaload, 1) := by decide +kernel
theorem dL_tick_390 : decode cL_tick 390 = .ok (.iconst 1, 1) := by decide +kernel
theorem dL_tick_391 : decode cL_tick 391 = .ok (.iadd, 1) := by decide +kernel
theorem dL_tick_392 : decode cL_tick 392 = .ok (.iastore, 1) := by decide +kernel
theorem dL_tick_393 : decode cL_tick 393 = .ok (.return_, 1) := by decide +kernel
theorem dL_isStill_0 : decode cL_isStill 0 = .ok (.aload_n 0, 1) := by decide +kernel
theorem dL_isStill_1 : decode cL_isStill 1 = .ok (.iload 4, 2) := by decide +kernel
theorem dL_isStill_3 : decode cL_isStill 3 = .ok (.iaload, 1) := by decide +kernel
theorem dL_isStill_4 : decode cL_isStill 4 = .ok (.iconst 2, 1) := by decide +kernel
theorem dL_isStill_5 : decode cL_isStill 5 = .ok (.if_icmp .eq 29, 3) := by decide +kernel
theorem dL_isStill_8 : decode cL_isStill 8 = .ok (.aload_n 1, 1) := by decide +kernel
theorem dL_isStill_9 : decode cL_isStill 9 = .ok (.iload 4, 2) := by decide +kernel
theorem dL_isStill_11 : decode cL_isStill 11 = .ok (.iaload, 1) := by decide +kernel
theorem dL_isStill_12 : decode cL_isStill 12 = .ok (.invokestatic 20, 3) := by decide +kernel
theorem dL_isStill_15 : decode cL_isStill 15 = .ok (.aload_n 3, 1) := by decide +kernel
theorem dL_isStill_16 : decode cL_isStill 16 = .ok (.iconst 3, 1) := by decide +kernel
theorem dL_isStill_17 : decode cL_isStill 17 = .ok (.iaload, 1) := by decide +kernel
theorem dL_isStill_18 : decode cL_isStill 18 = .ok (.if_icmp .gt 20, 3) := by decide +kernel
theorem dL_isStill_21 : decode cL_isStill 21 = .ok (.aload_n 2, 1) := by decide +kernel
theorem dL_isStill_22 : decode cL_isStill 22 = .ok (.iload 4, 2) := by decide +kernel
theorem dL_isStill_24 : decode cL_isStill 24 = .ok (.iaload, 1) := by decide +kernel
theorem dL_isStill_25 : decode cL_isStill 25 = .ok (.invokestatic 20, 3) := by decide +kernel
theorem dL_isStill_28 : decode cL_isStill 28 = .ok (.aload_n 3, 1) := by decide +kernel
theorem dL_isStill_29 : decode cL_isStill 29 = .ok (.iconst 3, 1) := by decide +kernel
theorem dL_isStill_30 : decode cL_isStill 30 = .ok (.iaload, 1) := by decide +kernel
