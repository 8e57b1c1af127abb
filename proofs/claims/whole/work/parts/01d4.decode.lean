theorem dX6_calm_38 : decode cX6_calm 38 = .ok (.iconst 4, 1) := by decide +kernel
theorem dX6_calm_39 : decode cX6_calm 39 = .ok (.iconst 0, 1) := by decide +kernel
theorem dX6_calm_40 : decode cX6_calm 40 = .ok (.iastore, 1) := by decide +kernel
theorem dX6_calm_41 : decode cX6_calm 41 = .ok (.aload_n 0, 1) := by decide +kernel
theorem dX6_calm_42 : decode cX6_calm 42 = .ok (.invokevirtual 33, 3) := by decide +kernel
theorem dX6_calm_45 : decode cX6_calm 45 = .ok (.return_, 1) := by decide +kernel
theorem dX6_read_0 : decode cX6_read 0 = .ok (.aload_n 0, 1) := by decide +kernel
theorem dX6_read_1 : decode cX6_read 1 = .ok (.invokevirtual 69, 3) := by decide +kernel
theorem dX6_read_4 : decode cX6_read 4 = .ok (.bipush (-6), 2) := by decide +kernel
theorem dX6_read_6 : decode cX6_read 6 = .ok (.if_icmp .eq 6, 3) := by decide +kernel
theorem dX6_read_9 : decode cX6_read 9 = .ok (.bipush (-3), 2) := by decide +kernel
theorem dX6_read_11 : decode cX6_read 11 = .ok (.ireturn, 1) := by decide +kernel
theorem dX6_read_12 : decode cX6_read 12 = .ok (.aload_n 0, 1) := by decide +kernel
theorem dX6_read_13 : decode cX6_read 13 = .ok (.invokevirtual 44, 3) := by decide +kernel
theorem dX6_read_16 : decode cX6_read 16 = .ok (.iconst 0, 1) := by decide +kernel
theorem dX6_read_17 : decode cX6_read 17 = .ok (.istore_n 1, 1) := by decide +kernel
theorem dX6_read_18 : decode cX6_read 18 = .ok (.iload_n 1, 1) := by decide +kernel
theorem dX6_read_19 : decode cX6_read 19 = .ok (.bipush 60, 2) := by decide +kernel
theorem dX6_read_21 : decode cX6_read 21 = .ok (.if_icmp .ge 37, 3) := by decide +kernel
theorem dX6_read_24 : decode cX6_read 24 = .ok (.aload_n 0, 1) := by decide +kernel
theorem dX6_read_25 : decode cX6_read 25 = .ok (.getfield 7, 3) := by decide +kernel
theorem dX6_read_28 : decode cX6_read 28 = .ok (.iconst 5, 1) := by decide +kernel
theorem dX6_read_29 : decode cX6_read 29 = .ok (.iload_n 1, 1) := by decide +kernel
theorem dX6_read_30 : decode cX6_read 30 = .ok (.iadd, 1) := by decide +kernel
theorem dX6_read_31 : decode cX6_read 31 = .ok (.aload_n 0, 1) := by decide +kernel
theorem dX6_read_32 : decode cX6_read 32 = .ok (.getfield 26, 3) := by decide +kernel
theorem dX6_read_35 : decode cX6_read 35 = .ok (.iload_n 1, 1) := by decide +kernel
theorem dX6_read_36 : decode cX6_read 36 = .ok (.bipush 10, 2) := by decide +kernel
theorem dX6_read_38 : decode cX6_read 38 = .ok (.idiv, 1) := by decide +kernel
theorem dX6_read_39 : decode cX6_read 39 = .ok (.bipush 11, 2) := by decide +kernel
theorem dX6_read_41 : decode cX6_read 41 = .ok (.imul, 1) := by decide +kernel
theorem dX6_read_42 : decode cX6_read 42 = .ok (.iload_n 1, 1) := by decide +kernel
theorem dX6_read_43 : decode cX6_read 43 = .ok (.bipush 10, 2) := by decide +kernel
theorem dX6_read_45 : decode cX6_read 45 = .ok (.irem, 1) := by decide +kernel
theorem dX6_read_46 : decode cX6_read 46 = .ok (.iadd, 1) := by decide +kernel
theorem dX6_read_47 : decode cX6_read 47 = .ok (.caload, 1) := by decide +kernel
theorem dX6_read_48 : decode cX6_read 48 = .ok (.invokestatic 73, 3) := by decide +kernel
theorem dX6_read_51 : decode cX6_read 51 = .ok (.iastore, 1) := by decide +kernel
theorem dX6_read_52 : decode cX6_read 52 = .ok (.iinc 1 1, 3) := by decide +kernel
theorem dX6_read_55 : decode cX6_read 55 = .ok (.goto (-37), 3) := by decide +kernel
theorem dX6_read_58 : decode cX6_read 58 = .ok (.aload_n 0, 1) := by decide +kernel
theorem dX6_read_59 : decode cX6_read 59 = .ok (.invokevirtual 76, 3) := by decide +kernel
theorem dX6_read_62 : decode cX6_read 62 = .ok (.sipush 245, 3) := by decide +kernel
theorem dX6_read_65 : decode cX6_read 65 = .ok (.istore_n 1, 1) := by decide +kernel
theorem dX6_read_66 : decode cX6_read 66 = .ok (.iload_n 1, 1) := by decide +kernel
theorem dX6_read_67 : decode cX6_read 67 = .ok (.sipush 345, 3) := by decide +kernel
theorem dX6_read_70 : decode cX6_read 70 = .ok (.if_icmp .ge 16, 3) := by decide +kernel
theorem dX6_read_73 : decode cX6_read 73 = .ok (.aload_n 0, 1) := by decide +kernel
theorem dX6_read_74 : decode cX6_read 74 = .ok (.getfield 7, 3) := by decide +kernel
theorem dX6_read_77 : decode cX6_read 77 = .ok (.iload_n 1, 1) := by decide +kernel
theorem dX6_read_78 : decode cX6_read 78 = .ok (.iconst 0, 1) := by decide +kernel
theorem dX6_read_79 : decode cX6_read 79 = .ok (.iastore, 1) := by decide +kernel
theorem dX6_read_80 : decode cX6_read 80 = .ok (.iinc 1 1, 3) := by decide +kernel
theorem dX6_read_83 : decode cX6_read 83 = .ok (.goto (-17), 3) := by decide +kernel
theorem dX6_read_86 : decode cX6_read 86 = .ok (.aload_n 0, 1) := by decide +kernel
theorem dX6_read_87 : decode cX6_read 87 = .ok (.iconst 0, 1) := by decide +kernel
theorem dX6_read_88 : decode cX6_read 88 = .ok (.putfield 79, 3) := by decide +kernel
theorem dX6_read_91 : decode cX6_read 91 = .ok (.aload_n 0, 1) := by decide +kernel
theorem dX6_read_92 : decode cX6_read 92 = .ok (.invokevirtual 82, 3) := by decide +kernel
theorem dX6_read_95 : decode cX6_read 95 = .ok (.ireturn, 1) := by decide +kernel
theorem dX6_allSizes_0 : decode cX6_allSizes 0 = .ok (.iconst 0, 1) := by decide +kernel
theorem dX6_allSizes_1 : decode cX6_allSizes 1 = .ok (.istore_n 1, 1) := by decide +kernel
theorem dX6_allSizes_2 : decode cX6_allSizes 2 = .ok (.iconst 0, 1) := by decide +kernel
theorem dX6_allSizes_3 : decode cX6_allSizes 3 = .ok (.istore_n 2, 1) := by decide +kernel
theorem dX6_allSizes_4 : decode cX6_allSizes 4 = .ok (.iload_n 2, 1) := by decide +kernel
theorem dX6_allSizes_5 : decode cX6_allSizes 5 = .ok (.bipush 60, 2) := by decide +kernel
theorem dX6_allSizes_7 : decode cX6_allSizes 7 = .ok (.if_icmp .ge 20, 3) := by decide +kernel
theorem dX6_allSizes_10 : decode cX6_allSizes 10 = .ok (.iload_n 1, 1) := by decide +kernel
theorem dX6_allSizes_11 : decode cX6_allSizes 11 = .ok (.aload_n 0, 1) := by decide +kernel
theorem dX6_allSizes_12 : decode cX6_allSizes 12 = .ok (.iload_n 2, 1) := by decide +kernel
theorem dX6_allSizes_13 : decode cX6_allSizes 13 = .ok (.invokevirtual 85, 3) := by decide +kernel
theorem dX6_allSizes_16 : decode cX6_allSizes 16 = .ok (.invokestatic 88, 3) := by decide +kernel
theorem dX6_allSizes_19 : decode cX6_allSizes 19 = .ok (.iadd, 1) := by decide +kernel
theorem dX6_allSizes_20 : decode cX6_allSizes 20 = .ok (.istore_n 1, 1) := by decide +kernel
theorem dX6_allSizes_21 : decode cX6_allSizes 21 = .ok (.iinc 2 1, 3) := by decide +kernel
theorem dX6_allSizes_24 : decode cX6_allSizes 24 = .ok (.goto (-20), 3) := by decide +kernel
theorem dX6_allSizes_27 : decode cX6_allSizes 27 = .ok (.iload_n 1, 1) := by decide +kernel
theorem dX6_allSizes_28 : decode cX6_allSizes 28 = .ok (.ireturn, 1) := by decide +kernel
theorem dX6_clear_0 : decode cX6_clear 0 = .ok (.aload_n 0, 1) := by decide +kernel
theorem dX6_clear_1 : decode cX6_clear 1 = .ok (.invokevirtual 44, 3) := by decide +kernel
theorem dX6_clear_4 : decode cX6_clear 4 = .ok (.aload_n 0, 1) := by decide +kernel
theorem dX6_clear_5 : decode cX6_clear 5 = .ok (.invokevirtual 91, 3) := by decide +kernel
theorem dX6_clear_8 : decode cX6_clear 8 = .ok (.istore_n 1, 1) := by decide +kernel
theorem dX6_clear_9 : decode cX6_clear 9 = .ok (.aload_n 0, 1) := by decide +kernel
theorem dX6_clear_10 : decode cX6_clear 10 = .ok (.invokevirtual 76, 3) := by decide +kernel
theorem dX6_clear_13 : decode cX6_clear 13 = .ok (.iconst 0, 1) := by decide +kernel
theorem dX6_clear_14 : decode cX6_clear 14 = .ok (.istore_n 2, 1) := by decide +kernel
theorem dX6_clear_15 : decode cX6_clear 15 = .ok (.iload_n 2, 1) := by decide +kernel
theorem dX6_clear_16 : decode cX6_clear 16 = .ok (.aload_n 0, 1) := by decide +kernel
theorem dX6_clear_17 : decode cX6_clear 17 = .ok (.getfield 7, 3) := by decide +kernel
theorem dX6_clear_20 : decode cX6_clear 20 = .ok (.sipush 266, 3) := by decide +kernel
theorem dX6_clear_23 : decode cX6_clear 23 = .ok (.iaload, 1) := by decide +kernel
theorem dX6_clear_24 : decode cX6_clear 24 = .ok (.if_icmp .ge 39, 3) := by decide +kernel
theorem dX6_clear_27 : decode cX6_clear 27 = .ok (.iconst 1, 1) := by decide +kernel
theorem dX6_clear_28 : decode cX6_clear 28 = .ok (.istore_n 3, 1) := by decide +kernel
theorem dX6_clear_29 : decode cX6_clear 29 = .ok (.iload_n 3, 1) := by decide +kernel
theorem dX6_clear_30 : decode cX6_clear 30 = .ok (.bipush 26, 2) := by decide +kernel
theorem dX6_clear_32 : decode cX6_clear 32 = .ok (.if_icmp .ge 25, 3) := by decide +kernel
theorem dX6_clear_35 : decode cX6_clear 35 = .ok (.aload_n 0, 1) := by decide +kernel
theorem dX6_clear_36 : decode cX6_clear 36 = .ok (.getfield 7, 3) := by decide +kernel
theorem dX6_clear_39 : decode cX6_clear 39 = .ok (.sipush 267, 3) := by decide +kernel
theorem dX6_clear_42 : decode cX6_clear 42 = .ok (.bipush 26, 2) := by decide +kernel
theorem dX6_clear_44 : decode cX6_clear 44 = .ok (.iload_n 2, 1) := by decide +kernel
theorem dX6_clear_45 : decode cX6_clear 45 = .ok (.imul, 1) := by decide +kernel
theorem dX6_clear_46 : decode cX6_clear 46 = .ok (.iadd, 1) := by decide +kernel
theorem dX6_clear_47 : decode cX6_clear 47 = .ok (.iload_n 3, 1) := by decide +kernel
theorem dX6_clear_48 : decode cX6_clear 48 = .ok (.iadd, 1) := by decide +kernel
theorem dX6_clear_49 : decode cX6_clear 49 = .ok (.iconst 0, 1) := by decide +kernel
theorem dX6_clear_50 : decode cX6_clear 50 = .ok (.iastore, 1) := by decide +kernel
theorem dX6_clear_51 : decode cX6_clear 51 = .ok (.iinc 3 1, 3) := by decide +kernel
theorem dX6_clear_54 : decode cX6_clear 54 = .ok (.goto (-25), 3) := by decide +kernel
theorem dX6_clear_57 : decode cX6_clear 57 = .ok (.iinc 2 1, 3) := by decide +kernel
theorem dX6_clear_60 : decode cX6_clear 60 = .ok (.goto (-45), 3) := by decide +kernel
theorem dX6_clear_63 : decode cX6_clear 63 = .ok (.iload_n 1, 1) := by decide +kernel
theorem dX6_clear_64 : decode cX6_clear 64 = .ok (.ireturn, 1) := by decide +kernel
theorem dX6_dip_0 : decode cX6_dip 0 = .ok (.iload_n 1, 1) := by decide +kernel
theorem dX6_dip_1 : decode cX6_dip 1 = .ok (.iload_n 2, 1) := by decide +kernel
theorem dX6_dip_2 : decode cX6_dip 2 = .ok (.invokestatic 58, 3) := by decide +kernel
theorem dX6_dip_5 : decode cX6_dip 5 = .ok (.ifCond .ne 5, 3) := by decide +kernel
theorem dX6_dip_8 : decode cX6_dip 8 = .ok (.iconst (-1), 1) := by decide +kernel
theorem dX6_dip_9 : decode cX6_dip 9 = .ok (.ireturn, 1) := by decide +kernel
theorem dX6_dip_10 : decode cX6_dip 10 = .ok (.iload_n 3, 1) := by decide +kernel
theorem dX6_dip_11 : decode cX6_dip 11 = .ok (.iconst 2, 1) := by decide +kernel
theorem dX6_dip_12 : decode cX6_dip 12 = .ok (.bipush 40, 2) := by decide +kernel
theorem dX6_dip_14 : decode cX6_dip 14 = .ok (.invokestatic 36, 3) := by decide +kernel
theorem dX6_dip_17 : decode cX6_dip 17 = .ok (.ifCond .eq 27, 3) := by decide +kernel
theorem dX6_dip_20 : decode cX6_dip 20 = .ok (.iload 4, 2) := by decide +kernel
theorem dX6_dip_22 : decode cX6_dip 22 = .ok (.iconst 1, 1) := by decide +kernel
theorem dX6_dip_23 : decode cX6_dip 23 = .ok (.sipush 900, 3) := by decide +kernel
theorem dX6_dip_26 : decode cX6_dip 26 = .ok (.invokestatic 36, 3) := by decide +kernel
theorem dX6_dip_29 : decode cX6_dip 29 = .ok (.ifCond .eq 15, 3) := by decide +kernel
theorem dX6_dip_32 : decode cX6_dip 32 = .ok (.iload 5, 2) := by decide +kernel
theorem dX6_dip_34 : decode cX6_dip 34 = .ok (.iconst 0, 1) := by decide +kernel
theorem dX6_dip_35 : decode cX6_dip 35 = .ok (.iload_n 3, 1) := by decide +kernel
theorem dX6_dip_36 : decode cX6_dip 36 = .ok (.iconst 1, 1) := by decide +kernel
theorem dX6_dip_37 : decode cX6_dip 37 = .ok (.isub, 1) := by decide +kernel
theorem dX6_dip_38 : decode cX6_dip 38 = .ok (.invokestatic 36, 3) := by decide +kernel
theorem dX6_dip_41 : decode cX6_dip 41 = .ok (.ifCond .ne 6, 3) := by decide +kernel
theorem dX6_dip_44 : decode cX6_dip 44 = .ok (.bipush (-2), 2) := by decide +kernel
theorem dX6_dip_46 : decode cX6_dip 46 = .ok (.ireturn, 1) := by decide +kernel
theorem dX6_dip_47 : decode cX6_dip 47 = .ok (.aload_n 0, 1) := by decide +kernel
theorem dX6_dip_48 : decode cX6_dip 48 = .ok (.bipush 10, 2) := by decide +kernel
theorem dX6_dip_50 : decode cX6_dip 50 = .ok (.iload_n 2, 1) := by decide +kernel
theorem dX6_dip_51 : decode cX6_dip 51 = .ok (.imul, 1) := by decide +kernel
theorem dX6_dip_52 : decode cX6_dip 52 = .ok (.iload_n 1, 1) := by decide +kernel
theorem dX6_dip_53 : decode cX6_dip 53 = .ok (.iadd, 1) := by decide +kernel
theorem dX6_dip_54 : decode cX6_dip 54 = .ok (.invokevirtual 65, 3) := by decide +kernel
theorem dX6_dip_57 : decode cX6_dip 57 = .ok (.ifCond .eq 6, 3) := by decide +kernel
theorem dX6_dip_60 : decode cX6_dip 60 = .ok (.bipush (-5), 2) := by decide +kernel
theorem dX6_dip_62 : decode cX6_dip 62 = .ok (.ireturn, 1) := by decide +kernel
theorem dX6_dip_63 : decode cX6_dip 63 = .ok (.aload_n 0, 1) := by decide +kernel
theorem dX6_dip_64 : decode cX6_dip 64 = .ok (.getfield 7, 3) := by decide +kernel
theorem dX6_dip_67 : decode cX6_dip 67 = .ok (.sipush 245, 3) := by decide +kernel
theorem dX6_dip_70 : decode cX6_dip 70 = .ok (.iaload, 1) := by decide +kernel
theorem dX6_dip_71 : decode cX6_dip 71 = .ok (.iconst 5, 1) := by decide +kernel
theorem dX6_dip_72 : decode cX6_dip 72 = .ok (.if_icmp .ne 6, 3) := by decide +kernel
theorem dX6_dip_75 : decode cX6_dip 75 = .ok (.bipush (-4), 2) := by decide +kernel
theorem dX6_dip_77 : decode cX6_dip 77 = .ok (.ireturn, 1) := by decide +kernel
theorem dX6_dip_78 : decode cX6_dip 78 = .ok (.aload_n 0, 1) := by decide +kernel
theorem dX6_dip_79 : decode cX6_dip 79 = .ok (.invokevirtual 44, 3) := by decide +kernel
theorem dX6_dip_82 : decode cX6_dip 82 = .ok (.sipush 246, 3) := by decide +kernel
theorem dX6_dip_85 : decode cX6_dip 85 = .ok (.iconst 4, 1) := by decide +kernel
theorem dX6_dip_86 : decode cX6_dip 86 = .ok (.aload_n 0, 1) := by decide +kernel
theorem dX6_dip_87 : decode cX6_dip 87 = .ok (.getfield 7, 3) := by decide +kernel
theorem dX6_dip_90 : decode cX6_dip 90 = .ok (.sipush 245, 3) := by decide +kernel
theorem dX6_dip_93 : decode cX6_dip 93 = .ok (.iaload, 1) := by decide +kernel
theorem dX6_dip_94 : decode cX6_dip 94 = .ok (.imul, 1) := by decide +kernel
theorem dX6_dip_95 : decode cX6_dip 95 = .ok (.iadd, 1) := by decide +kernel
theorem dX6_dip_96 : decode cX6_dip 96 = .ok (.istore 6, 2) := by decide +kernel
theorem dX6_dip_98 : decode cX6_dip 98 = .ok (.aload_n 0, 1) := by decide +kernel
theorem dX6_dip_99 : decode cX6_dip 99 = .ok (.getfield 7, 3) := by decide +kernel
theorem dX6_dip_102 : decode cX6_dip 102 = .ok (.iload 6, 2) := by decide +kernel
theorem dX6_dip_104 : decode cX6_dip 104 = .ok (.bipush 10, 2) := by decide +kernel
theorem dX6_dip_106 : decode cX6_dip 106 = .ok (.iload_n 2, 1) := by decide +kernel
theorem dX6_dip_107 : decode cX6_dip 107 = .ok (.imul, 1) := by decide +kernel
theorem dX6_dip_108 : decode cX6_dip 108 = .ok (.iload_n 1, 1) := by decide +kernel
theorem dX6_dip_109 : decode cX6_dip 109 = .ok (.iadd, 1) := by decide +kernel
theorem dX6_dip_110 : decode cX6_dip 110 = .ok (.iastore, 1) := by decide +kernel
theorem dX6_dip_111 : decode cX6_dip 111 = .ok (.aload_n 0, 1) := by decide +kernel
theorem dX6_dip_112 : decode cX6_dip 112 = .ok (.getfield 7, 3) := by decide +kernel
theorem dX6_dip_115 : decode cX6_dip 115 = .ok (.iload 6, 2) := by decide +kernel
theorem dX6_dip_117 : decode cX6_dip 117 = .ok (.iconst 1, 1) := by decide +kernel
theorem dX6_dip_118 : decode cX6_dip 118 = .ok (.iadd, 1) := by decide +kernel
theorem dX6_dip_119 : decode cX6_dip 119 = .ok (.iload_n 3, 1) := by decide +kernel
theorem dX6_dip_120 : decode cX6_dip 120 = .ok (.iastore, 1) := by decide +kernel
theorem dX6_dip_121 : decode cX6_dip 121 = .ok (.aload_n 0, 1) := by decide +kernel
theorem dX6_dip_122 : decode cX6_dip 122 = .ok (.getfield 7, 3) := by decide +kernel
theorem dX6_dip_125 : decode cX6_dip 125 = .ok (.iload 6, 2) := by decide +kernel
theorem dX6_dip_127 : decode cX6_dip 127 = .ok (.iconst 2, 1) := by decide +kernel
theorem dX6_dip_128 : decode cX6_dip 128 = .ok (.iadd, 1) := by decide +kernel
theorem dX6_dip_129 : decode cX6_dip 129 = .ok (.iload 4, 2) := by decide +kernel
theorem dX6_dip_131 : decode cX6_dip 131 = .ok (.iastore, 1) := by decide +kernel
theorem dX6_dip_132 : decode cX6_dip 132 = .ok (.aload_n 0, 1) := by decide +kernel
theorem dX6_dip_133 : decode cX6_dip 133 = .ok (.getfield 7, 3) := by decide +kernel
theorem dX6_dip_136 : decode cX6_dip 136 = .ok (.iload 6, 2) := by decide +kernel
theorem dX6_dip_138 : decode cX6_dip 138 = .ok (.iconst 3, 1) := by decide +kernel
theorem dX6_dip_139 : decode cX6_dip 139 = .ok (.iadd, 1) := by decide +kernel
theorem dX6_dip_140 : decode cX6_dip 140 = .ok (.iload 5, 2) := by decide +kernel
theorem dX6_dip_142 : decode cX6_dip 142 = .ok (.iastore, 1) := by decide +kernel
theorem dX6_dip_143 : decode cX6_dip 143 = .ok (.aload_n 0, 1) := by decide +kernel
theorem dX6_dip_144 : decode cX6_dip 144 = .ok (.getfield 7, 3) := by decide +kernel
theorem dX6_dip_147 : decode cX6_dip 147 = .ok (.sipush 245, 3) := by decide +kernel
theorem dX6_dip_150 : decode cX6_dip 150 = .ok (.dup2, 1) := by decide +kernel
theorem dX6_dip_151 : decode cX6_dip 151 = .ok (.iaload, 1) := by decide +kernel
theorem dX6_dip_152 : decode cX6_dip 152 = .ok (.iconst 1, 1) := by decide +kernel
theorem dX6_dip_153 : decode cX6_dip 153 = .ok (.iadd, 1) := by decide +kernel
theorem dX6_dip_154 : decode cX6_dip 154 = .ok (.iastore, 1) := by decide +kernel
theorem dX6_dip_155 : decode cX6_dip 155 = .ok (.aload_n 0, 1) := by decide +kernel
theorem dX6_dip_156 : decode cX6_dip 156 = .ok (.getfield 7, 3) := by decide +kernel
theorem dX6_dip_159 : decode cX6_dip 159 = .ok (.sipush 245, 3) := by decide +kernel
theorem dX6_dip_162 : decode cX6_dip 162 = .ok (.iaload, 1) := by decide +kernel
theorem dX6_dip_163 : decode cX6_dip 163 = .ok (.iconst 1, 1) := by decide +kernel
theorem dX6_dip_164 : decode cX6_dip 164 = .ok (.isub, 1) := by decide +kernel
theorem dX6_dip_165 : decode cX6_dip 165 = .ok (.ireturn, 1) := by decide +kernel
theorem dX6_takeOut_0 : decode cX6_takeOut 0 = .ok (.aload_n 0, 1) := by decide +kernel
theorem dX6_takeOut_1 : decode cX6_takeOut 1 = .ok (.iload_n 1, 1) := by decide +kernel
theorem dX6_takeOut_2 : decode cX6_takeOut 2 = .ok (.invokevirtual 94, 3) := by decide +kernel
theorem dX6_takeOut_5 : decode cX6_takeOut 5 = .ok (.ifCond .ne 5, 3) := by decide +kernel
theorem dX6_takeOut_8 : decode cX6_takeOut 8 = .ok (.iconst (-1), 1) := by decide +kernel
theorem dX6_takeOut_9 : decode cX6_takeOut 9 = .ok (.ireturn, 1) := by decide +kernel
theorem dX6_takeOut_10 : decode cX6_takeOut 10 = .ok (.aload_n 0, 1) := by decide +kernel
theorem dX6_takeOut_11 : decode cX6_takeOut 11 = .ok (.invokevirtual 44, 3) := by decide +kernel
theorem dX6_takeOut_14 : decode cX6_takeOut 14 = .ok (.sipush 246, 3) := by decide +kernel
theorem dX6_takeOut_17 : decode cX6_takeOut 17 = .ok (.iconst 4, 1) := by decide +kernel
theorem dX6_takeOut_18 : decode cX6_takeOut 18 = .ok (.iload_n 1, 1) := by decide +kernel
theorem dX6_takeOut_19 : decode cX6_takeOut 19 = .ok (.imul, 1) := by decide +kernel
theorem dX6_takeOut_20 : decode cX6_takeOut 20 = .ok (.iadd, 1) := by decide +kernel
theorem dX6_takeOut_21 : decode cX6_takeOut 21 = .ok (.istore_n 2, 1) := by decide +kernel
theorem dX6_takeOut_22 : decode cX6_takeOut 22 = .ok (.iload_n 2, 1) := by decide +kernel
theorem dX6_takeOut_23 : decode cX6_takeOut 23 = .ok (.iconst 4, 1) := by decide +kernel
theorem dX6_takeOut_24 : decode cX6_takeOut 24 = .ok (.iadd, 1) := by decide +kernel
theorem dX6_takeOut_25 : decode cX6_takeOut 25 = .ok (.sipush 266, 3) := by decide +kernel
theorem dX6_takeOut_28 : decode cX6_takeOut 28 = .ok (.if_icmp .ge 23, 3) := by decide +kernel
theorem dX6_takeOut_31 : decode cX6_takeOut 31 = .ok (.aload_n 0, 1) := by decide +kernel
theorem dX6_takeOut_32 : decode cX6_takeOut 32 = .ok (.getfield 7, 3) := by decide +kernel
theorem dX6_takeOut_35 : decode cX6_takeOut 35 = .ok (.iload_n 2, 1) := by decide +kernel
theorem dX6_takeOut_36 : decode cX6_takeOut 36 = .ok (.aload_n 0, 1) := by decide +kernel
theorem dX6_takeOut_37 : decode cX6_takeOut 37 = .ok (.getfield 7, 3) := by decide +kernel
theorem dX6_takeOut_40 : decode cX6_takeOut 40 = .ok (.iload_n 2, 1) := by decide +kernel
theorem dX6_takeOut_41 : decode cX6_takeOut 41 = .ok (.iconst 4, 1) := by decide +kernel
theorem dX6_takeOut_42 : decode cX6_takeOut 42 = .ok (.iadd, 1) := by decide +kernel
theorem dX6_takeOut_43 : decode cX6_takeOut 43 = .ok (.iaload, 1) := by decide +kernel
theorem dX6_takeOut_44 : decode cX6_takeOut 44 = .ok (.iastore, 1) := by decide +kernel
theorem dX6_takeOut_45 : decode cX6_takeOut 45 = .ok (.iinc 2 1, 3) := by decide +kernel
theorem dX6_takeOut_48 : decode cX6_takeOut 48 = .ok (.goto (-26), 3) := by decide +kernel
theorem dX6_takeOut_51 : decode cX6_takeOut 51 = .ok (.aload_n 0, 1) := by decide +kernel
theorem dX6_takeOut_52 : decode cX6_takeOut 52 = .ok (.getfield 7, 3) := by decide +kernel
theorem dX6_takeOut_55 : decode cX6_takeOut 55 = .ok (.sipush 245, 3) := by decide +kernel
theorem dX6_takeOut_58 : decode cX6_takeOut 58 = .ok (.dup2, 1) := by decide +kernel
theorem dX6_takeOut_59 : decode cX6_takeOut 59 = .ok (.iaload, 1) := by decide +kernel
theorem dX6_takeOut_60 : decode cX6_takeOut 60 = .ok (.iconst 1, 1) := by decide +kernel
theorem dX6_takeOut_61 : decode cX6_takeOut 61 = .ok (.isub, 1) := by decide +kernel
theorem dX6_takeOut_62 : decode cX6_takeOut 62 = .ok (.iastore, 1) := by decide +kernel
theorem dX6_takeOut_63 : decode cX6_takeOut 63 = .ok (.aload_n 0, 1) := by decide +kernel
theorem dX6_takeOut_64 : decode cX6_takeOut 64 = .ok (.getfield 7, 3) := by decide +kernel
theorem dX6_takeOut_67 : decode cX6_takeOut 67 = .ok (.sipush 245, 3) := by decide +kernel
theorem dX6_takeOut_70 : decode cX6_takeOut 70 = .ok (.iaload, 1) := by decide +kernel
theorem dX6_takeOut_71 : decode cX6_takeOut 71 = .ok (.ireturn, 1) := by decide +kernel
theorem dX6_drop_0 : decode cX6_drop 0 = .ok (.iload_n 1, 1) := by decide +kernel
theorem dX6_drop_1 : decode cX6_drop 1 = .ok (.iload_n 2, 1) := by decide +kernel
theorem dX6_drop_2 : decode cX6_drop 2 = .ok (.invokestatic 58, 3) := by decide +kernel
theorem dX6_drop_5 : decode cX6_drop 5 = .ok (.ifCond .ne 5, 3) := by decide +kernel
theorem dX6_drop_8 : decode cX6_drop 8 = .ok (.iconst (-1), 1) := by decide +kernel
theorem dX6_drop_9 : decode cX6_drop 9 = .ok (.ireturn, 1) := by decide +kernel
theorem dX6_drop_10 : decode cX6_drop 10 = .ok (.iload_n 3, 1) := by decide +kernel
theorem dX6_drop_11 : decode cX6_drop 11 = .ok (.sipush (-999), 3) := by decide +kernel
theorem dX6_drop_14 : decode cX6_drop 14 = .ok (.sipush 999, 3) := by decide +kernel
theorem dX6_drop_17 : decode cX6_drop 17 = .ok (.invokestatic 36, 3) := by decide +kernel
theorem dX6_drop_20 : decode cX6_drop 20 = .ok (.ifCond .ne 6, 3) := by decide +kernel
theorem dX6_drop_23 : decode cX6_drop 23 = .ok (.bipush (-2), 2) := by decide +kernel
theorem dX6_drop_25 : decode cX6_drop 25 = .ok (.ireturn, 1) := by decide +kernel
theorem dX6_drop_26 : decode cX6_drop 26 = .ok (.bipush 10, 2) := by decide +kernel
theorem dX6_drop_28 : decode cX6_drop 28 = .ok (.iload_n 2, 1) := by decide +kernel
theorem dX6_drop_29 : decode cX6_drop 29 = .ok (.imul, 1) := by decide +kernel
theorem dX6_drop_30 : decode cX6_drop 30 = .ok (.iload_n 1, 1) := by decide +kernel
theorem dX6_drop_31 : decode cX6_drop 31 = .ok (.iadd, 1) := by decide +kernel
theorem dX6_drop_32 : decode cX6_drop 32 = .ok (.istore 4, 2) := by decide +kernel
theorem dX6_drop_34 : decode cX6_drop 34 = .ok (.aload_n 0, 1) := by decide +kernel
theorem dX6_drop_35 : decode cX6_drop 35 = .ok (.iload 4, 2) := by decide +kernel
theorem dX6_drop_37 : decode cX6_drop 37 = .ok (.invokevirtual 65, 3) := by decide +kernel
theorem dX6_drop_40 : decode cX6_drop 40 = .ok (.ifCond .eq 6, 3) := by decide +kernel
theorem dX6_drop_43 : decode cX6_drop 43 = .ok (.bipush (-5), 2) := by decide +kernel
theorem dX6_drop_45 : decode cX6_drop 45 = .ok (.ireturn, 1) := by decide +kernel
theorem dX6_drop_46 : decode cX6_drop 46 = .ok (.aload_n 0, 1) := by decide +kernel
theorem dX6_drop_47 : decode cX6_drop 47 = .ok (.invokevirtual 44, 3) := by decide +kernel
theorem dX6_drop_50 : decode cX6_drop 50 = .ok (.aload_n 0, 1) := by decide +kernel
theorem dX6_drop_51 : decode cX6_drop 51 = .ok (.getfield 7, 3) := by decide +kernel
theorem dX6_drop_54 : decode cX6_drop 54 = .ok (.bipush 65, 2) := by decide +kernel
theorem dX6_drop_56 : decode cX6_drop 56 = .ok (.iload 4, 2) := by decide +kernel
theorem dX6_drop_58 : decode cX6_drop 58 = .ok (.iadd, 1) := by decide +kernel
theorem dX6_drop_59 : decode cX6_drop 59 = .ok (.aload_n 0, 1) := by decide +kernel
theorem dX6_drop_60 : decode cX6_drop 60 = .ok (.iload 4, 2) := by decide +kernel
theorem dX6_drop_62 : decode cX6_drop 62 = .ok (.invokevirtual 85, 3) := by decide +kernel
theorem dX6_drop_65 : decode cX6_drop 65 = .ok (.iload_n 3, 1) := by decide +kernel
theorem dX6_drop_66 : decode cX6_drop 66 = .ok (.iadd, 1) := by decide +kernel
theorem dX6_drop_67 : decode cX6_drop 67 = .ok (.invokestatic 97, 3) := by decide +kernel
theorem dX6_drop_70 : decode cX6_drop 70 = .ok (.iastore, 1) := by decide +kernel
theorem dX6_drop_71 : decode cX6_drop 71 = .ok (.aload_n 0, 1) := by decide +kernel
theorem dX6_drop_72 : decode cX6_drop 72 = .ok (.iload 4, 2) := by decide +kernel
theorem dX6_drop_74 : decode cX6_drop 74 = .ok (.invokevirtual 85, 3) := by decide +kernel
theorem dX6_drop_77 : decode cX6_drop 77 = .ok (.sipush 10000, 3) := by decide +kernel
theorem dX6_drop_80 : decode cX6_drop 80 = .ok (.iadd, 1) := by decide +kernel
theorem dX6_drop_81 : decode cX6_drop 81 = .ok (.ireturn, 1) := by decide +kernel
theorem dX6_probe_0 : decode cX6_probe 0 = .ok (.iload_n 1, 1) := by decide +kernel
theorem dX6_probe_1 : decode cX6_probe 1 = .ok (.iload_n 2, 1) := by decide +kernel
theorem dX6_probe_2 : decode cX6_probe 2 = .ok (.invokestatic 58, 3) := by decide +kernel
theorem dX6_probe_5 : decode cX6_probe 5 = .ok (.ifCond .ne 5, 3) := by decide +kernel
theorem dX6_probe_8 : decode cX6_probe 8 = .ok (.iconst (-1), 1) := by decide +kernel
theorem dX6_probe_9 : decode cX6_probe 9 = .ok (.ireturn, 1) := by decide +kernel
theorem dX6_probe_10 : decode cX6_probe 10 = .ok (.aload_n 0, 1) := by decide +kernel
theorem dX6_probe_11 : decode cX6_probe 11 = .ok (.getfield 7, 3) := by decide +kernel
theorem dX6_probe_14 : decode cX6_probe 14 = .ok (.sipush 266, 3) := by decide +kernel
theorem dX6_probe_17 : decode cX6_probe 17 = .ok (.iaload, 1) := by decide +kernel
theorem dX6_probe_18 : decode cX6_probe 18 = .ok (.iconst 3, 1) := by decide +kernel
theorem dX6_probe_19 : decode cX6_probe 19 = .ok (.if_icmp .ne 6, 3) := by decide +kernel
theorem dX6_probe_22 : decode cX6_probe 22 = .ok (.bipush (-4), 2) := by decide +kernel
theorem dX6_probe_24 : decode cX6_probe 24 = .ok (.ireturn, 1) := by decide +kernel
theorem dX6_probe_25 : decode cX6_probe 25 = .ok (.aload_n 0, 1) := by decide +kernel
theorem dX6_probe_26 : decode cX6_probe 26 = .ok (.invokevirtual 44, 3) := by decide +kernel
theorem dX6_probe_29 : decode cX6_probe 29 = .ok (.iconst 0, 1) := by decide +kernel
theorem dX6_probe_30 : decode cX6_probe 30 = .ok (.istore_n 3, 1) := by decide +kernel
theorem dX6_probe_31 : decode cX6_probe 31 = .ok (.iload_n 3, 1) := by decide +kernel
theorem dX6_probe_32 : decode cX6_probe 32 = .ok (.bipush 26, 2) := by decide +kernel
theorem dX6_probe_34 : decode cX6_probe 34 = .ok (.if_icmp .ge 32, 3) := by decide +kernel
theorem dX6_probe_37 : decode cX6_probe 37 = .ok (.aload_n 0, 1) := by decide +kernel
theorem dX6_probe_38 : decode cX6_probe 38 = .ok (.getfield 7, 3) := by decide +kernel
theorem dX6_probe_41 : decode cX6_probe 41 = .ok (.sipush 267, 3) := by decide +kernel
theorem dX6_probe_44 : decode cX6_probe 44 = .ok (.bipush 26, 2) := by decide +kernel
theorem dX6_probe_46 : decode cX6_probe 46 = .ok (.aload_n 0, 1) := by decide +kernel
theorem dX6_probe_47 : decode cX6_probe 47 = .ok (.getfield 7, 3) := by decide +kernel
theorem dX6_probe_50 : decode cX6_probe 50 = .ok (.sipush 266, 3) := by decide +kernel
theorem dX6_probe_53 : decode cX6_probe 53 = .ok (.iaload, 1) := by decide +kernel
theorem dX6_probe_54 : decode cX6_probe 54 = .ok (.imul, 1) := by decide +kernel
theorem dX6_probe_55 : decode cX6_probe 55 = .ok (.iadd, 1) := by decide +kernel
theorem dX6_probe_56 : decode cX6_probe 56 = .ok (.iload_n 3, 1) := by decide +kernel
theorem dX6_probe_57 : decode cX6_probe 57 = .ok (.iadd, 1) := by decide +kernel
theorem dX6_probe_58 : decode cX6_probe 58 = .ok (.iconst 0, 1) := by decide +kernel
theorem dX6_probe_59 : decode cX6_probe 59 = .ok (.iastore, 1) := by decide +kernel
theorem dX6_probe_60 : decode cX6_probe 60 = .ok (.iinc 3 1, 3) := by decide +kernel
theorem dX6_probe_63 : decode cX6_probe 63 = .ok (.goto (-32), 3) := by decide +kernel
theorem dX6_probe_66 : decode cX6_probe 66 = .ok (.aload_n 0, 1) := by decide +kernel
theorem dX6_probe_67 : decode cX6_probe 67 = .ok (.getfield 7, 3) := by decide +kernel
theorem dX6_probe_70 : decode cX6_probe 70 = .ok (.sipush 267, 3) := by decide +kernel
theorem dX6_probe_73 : decode cX6_probe 73 = .ok (.bipush 26, 2) := by decide +kernel
theorem dX6_probe_75 : decode cX6_probe 75 = .ok (.aload_n 0, 1) := by decide +kernel
theorem dX6_probe_76 : decode cX6_probe 76 = .ok (.getfield 7, 3) := by decide +kernel
theorem dX6_probe_79 : decode cX6_probe 79 = .ok (.sipush 266, 3) := by decide +kernel
theorem dX6_probe_82 : decode cX6_probe 82 = .ok (.iaload, 1) := by decide +kernel
theorem dX6_probe_83 : decode cX6_probe 83 = .ok (.imul, 1) := by decide +kernel
theorem dX6_probe_84 : decode cX6_probe 84 = .ok (.iadd, 1) := by decide +kernel
theorem dX6_probe_85 : decode cX6_probe 85 = .ok (.bipush 10, 2) := by decide +kernel
theorem dX6_probe_87 : decode cX6_probe 87 = .ok (.iload_n 2, 1) := by decide +kernel
theorem dX6_probe_88 : decode cX6_probe 88 = .ok (.imul, 1) := by decide +kernel
theorem dX6_probe_89 : decode cX6_probe 89 = .ok (.iload_n 1, 1) := by decide +kernel
theorem dX6_probe_90 : decode cX6_probe 90 = .ok (.iadd, 1) := by decide +kernel
theorem dX6_probe_91 : decode cX6_probe 91 = .ok (.iastore, 1) := by decide +kernel
theorem dX6_probe_92 : decode cX6_probe 92 = .ok (.aload_n 0, 1) := by decide +kernel
theorem dX6_probe_93 : decode cX6_probe 93 = .ok (.getfield 7, 3) := by decide +kernel
theorem dX6_probe_96 : decode cX6_probe 96 = .ok (.sipush 266, 3) := by decide +kernel
theorem dX6_probe_99 : decode cX6_probe 99 = .ok (.dup2, 1) := by decide +kernel
theorem dX6_probe_100 : decode cX6_probe 100 = .ok (.iaload, 1) := by decide +kernel
theorem dX6_probe_101 : decode cX6_probe 101 = .ok (.iconst 1, 1) := by decide +kernel
theorem dX6_probe_102 : decode cX6_probe 102 = .ok (.iadd, 1) := by decide +kernel
theorem dX6_probe_103 : decode cX6_probe 103 = .ok (.iastore, 1) := by decide +kernel
theorem dX6_probe_104 : decode cX6_probe 104 = .ok (.aload_n 0, 1) := by decide +kernel
theorem dX6_probe_105 : decode cX6_probe 105 = .ok (.getfield 7, 3) := by decide +kernel
theorem dX6_probe_108 : decode cX6_probe 108 = .ok (.sipush 266, 3) := by decide +kernel
theorem dX6_probe_111 : decode cX6_probe 111 = .ok (.iaload, 1) := by decide +kernel
theorem dX6_probe_112 : decode cX6_probe 112 = .ok (.iconst 1, 1) := by decide +kernel
theorem dX6_probe_113 : decode cX6_probe 113 = .ok (.isub, 1) := by decide +kernel
theorem dX6_probe_114 : decode cX6_probe 114 = .ok (.ireturn, 1) := by decide +kernel
theorem dX6_from_0 : decode cX6_from 0 = .ok (.iload_n 2, 1) := by decide +kernel
theorem dX6_from_1 : decode cX6_from 1 = .ok (.iload_n 3, 1) := by decide +kernel
theorem dX6_from_2 : decode cX6_from 2 = .ok (.invokestatic 58, 3) := by decide +kernel
theorem dX6_from_5 : decode cX6_from 5 = .ok (.ifCond .eq 35, 3) := by decide +kernel
theorem dX6_from_8 : decode cX6_from 8 = .ok (.aload_n 0, 1) := by decide +kernel
theorem dX6_from_9 : decode cX6_from 9 = .ok (.bipush 10, 2) := by decide +kernel
theorem dX6_from_11 : decode cX6_from 11 = .ok (.iload_n 3, 1) := by decide +kernel
theorem dX6_from_12 : decode cX6_from 12 = .ok (.imul, 1) := by decide +kernel
theorem dX6_from_13 : decode cX6_from 13 = .ok (.iload_n 2, 1) := by decide +kernel
theorem dX6_from_14 : decode cX6_from 14 = .ok (.iadd, 1) := by decide +kernel
theorem dX6_from_15 : decode cX6_from 15 = .ok (.invokevirtual 65, 3) := by decide +kernel
theorem dX6_from_18 : decode cX6_from 18 = .ok (.ifCond .ne 22, 3) := by decide +kernel
theorem dX6_from_21 : decode cX6_from 21 = .ok (.aload_n 0, 1) := by decide +kernel
theorem dX6_from_22 : decode cX6_from 22 = .ok (.bipush 10, 2) := by decide +kernel
theorem dX6_from_24 : decode cX6_from 24 = .ok (.iload_n 3, 1) := by decide +kernel
theorem dX6_from_25 : decode cX6_from 25 = .ok (.imul, 1) := by decide +kernel
theorem dX6_from_26 : decode cX6_from 26 = .ok (.iload_n 2, 1) := by decide +kernel
theorem dX6_from_27 : decode cX6_from 27 = .ok (.iadd, 1) := by decide +kernel
theorem dX6_from_28 : decode cX6_from 28 = .ok (.invokevirtual 85, 3) := by decide +kernel
theorem dX6_from_31 : decode cX6_from 31 = .ok (.aload_n 0, 1) := by decide +kernel
theorem dX6_from_32 : decode cX6_from 32 = .ok (.iload_n 1, 1) := by decide +kernel
theorem dX6_from_33 : decode cX6_from 33 = .ok (.invokevirtual 85, 3) := by decide +kernel
theorem dX6_from_36 : decode cX6_from 36 = .ok (.isub, 1) := by decide +kernel
theorem dX6_from_37 : decode cX6_from 37 = .ok (.goto 4, 3) := by decide +kernel
theorem dX6_from_40 : decode cX6_from 40 = .ok (.iconst 0, 1) := by decide +kernel
theorem dX6_from_41 : decode cX6_from 41 = .ok (.ireturn, 1) := by decide +kernel
theorem dX6_slope_0 : decode cX6_slope 0 = .ok (.iload_n 1, 1) := by decide +kernel
theorem dX6_slope_1 : decode cX6_slope 1 = .ok (.bipush 10, 2) := by decide +kernel
theorem dX6_slope_3 : decode cX6_slope 3 = .ok (.irem, 1) := by decide +kernel
theorem dX6_slope_4 : decode cX6_slope 4 = .ok (.istore_n 2, 1) := by decide +kernel
theorem dX6_slope_5 : decode cX6_slope 5 = .ok (.iload_n 1, 1) := by decide +kernel
theorem dX6_slope_6 : decode cX6_slope 6 = .ok (.bipush 10, 2) := by decide +kernel
theorem dX6_slope_8 : decode cX6_slope 8 = .ok (.idiv, 1) := by decide +kernel
theorem dX6_slope_9 : decode cX6_slope 9 = .ok (.istore_n 3, 1) := by decide +kernel
theorem dX6_slope_10 : decode cX6_slope 10 = .ok (.aload_n 0, 1) := by decide +kernel
theorem dX6_slope_11 : decode cX6_slope 11 = .ok (.iload_n 1, 1) := by decide +kernel
theorem dX6_slope_12 : decode cX6_slope 12 = .ok (.invokevirtual 65, 3) := by decide +kernel
theorem dX6_slope_15 : decode cX6_slope 15 = .ok (.ifCond .eq 7, 3) := by decide +kernel
theorem dX6_slope_18 : decode cX6_slope 18 = .ok (.iconst 0, 1) := by decide +kernel
theorem dX6_slope_19 : decode cX6_slope 19 = .ok (.goto 42, 3) := by decide +kernel
theorem dX6_slope_22 : decode cX6_slope 22 = .ok (.aload_n 0, 1) := by decide +kernel
theorem dX6_slope_23 : decode cX6_slope 23 = .ok (.iload_n 1, 1) := by decide +kernel
theorem dX6_slope_24 : decode cX6_slope 24 = .ok (.iload_n 2, 1) := by decide +kernel
theorem dX6_slope_25 : decode cX6_slope 25 = .ok (.iconst 1, 1) := by decide +kernel
theorem dX6_slope_26 : decode cX6_slope 26 = .ok (.isub, 1) := by decide +kernel
theorem dX6_slope_27 : decode cX6_slope 27 = .ok (.iload_n 3, 1) := by decide +kernel
theorem dX6_slope_28 : decode cX6_slope 28 = .ok (.invokevirtual 100, 3) := by decide +kernel
theorem dX6_slope_31 : decode cX6_slope 31 = .ok (.aload_n 0, 1) := by decide +kernel
theorem dX6_slope_32 : decode cX6_slope 32 = .ok (.iload_n 1, 1) := by decide +kernel
theorem dX6_slope_33 : decode cX6_slope 33 = .ok (.iload_n 2, 1) := by decide +kernel
theorem dX6_slope_34 : decode cX6_slope 34 = .ok (.iconst 1, 1) := by decide +kernel
theorem dX6_slope_35 : decode cX6_slope 35 = .ok (.iadd, 1) := by decide +kernel
theorem dX6_slope_36 : decode cX6_slope 36 = .ok (.iload_n 3, 1) := by decide +kernel
theorem dX6_slope_37 : decode cX6_slope 37 = .ok (.invokevirtual 100, 3) := by decide +kernel
theorem dX6_slope_40 : decode cX6_slope 40 = .ok (.iadd, 1) := by decide +kernel
theorem dX6_slope_41 : decode cX6_slope 41 = .ok (.aload_n 0, 1) := by decide +kernel
theorem dX6_slope_42 : decode cX6_slope 42 = .ok (.iload_n 1, 1) := by decide +kernel
theorem dX6_slope_43 : decode cX6_slope 43 = .ok (.iload_n 2, 1) := by decide +kernel
theorem dX6_slope_44 : decode cX6_slope 44 = .ok (.iload_n 3, 1) := by decide +kernel
theorem dX6_slope_45 : decode cX6_slope 45 = .ok (.iconst 1, 1) := by decide +kernel
theorem dX6_slope_46 : decode cX6_slope 46 = .ok (.isub, 1) := by decide +kernel
theorem dX6_slope_47 : decode cX6_slope 47 = .ok (.invokevirtual 100, 3) := by decide +kernel
theorem dX6_slope_50 : decode cX6_slope 50 = .ok (.iadd, 1) := by decide +kernel
theorem dX6_slope_51 : decode cX6_slope 51 = .ok (.aload_n 0, 1) := by decide +kernel
theorem dX6_slope_52 : decode cX6_slope 52 = .ok (.iload_n 1, 1) := by decide +kernel
theorem dX6_slope_53 : decode cX6_slope 53 = .ok (.iload_n 2, 1) := by decide +kernel
theorem dX6_slope_54 : decode cX6_slope 54 = .ok (.iload_n 3, 1) := by decide +kernel
theorem dX6_slope_55 : decode cX6_slope 55 = .ok (.iconst 1, 1) := by decide +kernel
theorem dX6_slope_56 : decode cX6_slope 56 = .ok (.iadd, 1) := by decide +kernel
theorem dX6_slope_57 : decode cX6_slope 57 = .ok (.invokevirtual 100, 3) := by decide +kernel
theorem dX6_slope_60 : decode cX6_slope 60 = .ok (.iadd, 1) := by decide +kernel
theorem dX6_slope_61 : decode cX6_slope 61 = .ok (.ireturn, 1) := by decide +kernel
theorem dX6_isUp_0 : decode cX6_isUp 0 = .ok (.aload_n 0, 1) := by decide +kernel
theorem dX6_isUp_1 : decode cX6_isUp 1 = .ok (.getfield 7, 3) := by decide +kernel
theorem dX6_isUp_4 : decode cX6_isUp 4 = .ok (.iconst 4, 1) := by decide +kernel
theorem dX6_isUp_5 : decode cX6_isUp 5 = .ok (.iaload, 1) := by decide +kernel
theorem dX6_isUp_6 : decode cX6_isUp 6 = .ok (.aload_n 0, 1) := by decide +kernel
theorem dX6_isUp_7 : decode cX6_isUp 7 = .ok (.iload_n 1, 1) := by decide +kernel
theorem dX6_isUp_8 : decode cX6_isUp 8 = .ok (.iconst 3, 1) := by decide +kernel
theorem dX6_isUp_9 : decode cX6_isUp 9 = .ok (.invokevirtual 54, 3) := by decide +kernel
theorem dX6_isUp_12 : decode cX6_isUp 12 = .ok (.iadd, 1) := by decide +kernel
theorem dX6_isUp_13 : decode cX6_isUp 13 = .ok (.aload_n 0, 1) := by decide +kernel
theorem dX6_isUp_14 : decode cX6_isUp 14 = .ok (.iload_n 1, 1) := by decide +kernel
theorem dX6_isUp_15 : decode cX6_isUp 15 = .ok (.iconst 1, 1) := by decide +kernel
theorem dX6_isUp_16 : decode cX6_isUp 16 = .ok (.invokevirtual 54, 3) := by decide +kernel
theorem dX6_isUp_19 : decode cX6_isUp 19 = .ok (.irem, 1) := by decide +kernel
theorem dX6_isUp_20 : decode cX6_isUp 20 = .ok (.aload_n 0, 1) := by decide +kernel
theorem dX6_isUp_21 : decode cX6_isUp 21 = .ok (.iload_n 1, 1) := by decide +kernel
theorem dX6_isUp_22 : decode cX6_isUp 22 = .ok (.iconst 1, 1) := by decide +kernel
theorem dX6_isUp_23 : decode cX6_isUp 23 = .ok (.invokevirtual 54, 3) := by decide +kernel
theorem dX6_isUp_26 : decode cX6_isUp 26 = .ok (.iconst 2, 1) := by decide +kernel
theorem dX6_isUp_27 : decode cX6_isUp 27 = .ok (.idiv, 1) := by decide +kernel
theorem dX6_isUp_28 : decode cX6_isUp 28 = .ok (.if_icmp .lt 7, 3) := by decide +kernel
theorem dX6_isUp_31 : decode cX6_isUp 31 = .ok (.iconst 1, 1) := by decide +kernel
theorem dX6_isUp_32 : decode cX6_isUp 32 = .ok (.goto 4, 3) := by decide +kernel
theorem dX6_isUp_35 : decode cX6_isUp 35 = .ok (.iconst 0, 1) := by decide +kernel
theorem dX6_isUp_36 : decode cX6_isUp 36 = .ok (.ireturn, 1) := by decide +kernel
theorem dX6_heightThen_0 : decode cX6_heightThen 0 = .ok (.aload_n 0, 1) := by decide +kernel
theorem dX6_heightThen_1 : decode cX6_heightThen 1 = .ok (.iload_n 1, 1) := by decide +kernel
theorem dX6_heightThen_2 : decode cX6_heightThen 2 = .ok (.invokevirtual 65, 3) := by decide +kernel
theorem dX6_heightThen_5 : decode cX6_heightThen 5 = .ok (.ifCond .eq 5, 3) := by decide +kernel
theorem dX6_heightThen_8 : decode cX6_heightThen 8 = .ok (.iconst 0, 1) := by decide +kernel
theorem dX6_heightThen_9 : decode cX6_heightThen 9 = .ok (.ireturn, 1) := by decide +kernel
theorem dX6_heightThen_10 : decode cX6_heightThen 10 = .ok (.aload_n 0, 1) := by decide +kernel
theorem dX6_heightThen_11 : decode cX6_heightThen 11 = .ok (.iload_n 1, 1) := by decide +kernel
theorem dX6_heightThen_12 : decode cX6_heightThen 12 = .ok (.invokevirtual 62, 3) := by decide +kernel
theorem dX6_heightThen_15 : decode cX6_heightThen 15 = .ok (.istore_n 2, 1) := by decide +kernel
theorem dX6_heightThen_16 : decode cX6_heightThen 16 = .ok (.iload_n 2, 1) := by decide +kernel
theorem dX6_heightThen_17 : decode cX6_heightThen 17 = .ok (.bipush (-6), 2) := by decide +kernel
theorem dX6_heightThen_19 : decode cX6_heightThen 19 = .ok (.if_icmp .eq 28, 3) := by decide +kernel
theorem dX6_heightThen_22 : decode cX6_heightThen 22 = .ok (.aload_n 0, 1) := by decide +kernel
theorem dX6_heightThen_23 : decode cX6_heightThen 23 = .ok (.iload_n 2, 1) := by decide +kernel
theorem dX6_heightThen_24 : decode cX6_heightThen 24 = .ok (.invokevirtual 104, 3) := by decide +kernel
theorem dX6_heightThen_27 : decode cX6_heightThen 27 = .ok (.ifCond .eq 12, 3) := by decide +kernel
theorem dX6_heightThen_30 : decode cX6_heightThen 30 = .ok (.aload_n 0, 1) := by decide +kernel
theorem dX6_heightThen_31 : decode cX6_heightThen 31 = .ok (.iload_n 2, 1) := by decide +kernel
theorem dX6_heightThen_32 : decode cX6_heightThen 32 = .ok (.iconst 2, 1) := by decide +kernel
theorem dX6_heightThen_33 : decode cX6_heightThen 33 = .ok (.invokevirtual 54, 3) := by decide +kernel
theorem dX6_heightThen_36 : decode cX6_heightThen 36 = .ok (.goto 10, 3) := by decide +kernel
theorem dX6_heightThen_39 : decode cX6_heightThen 39 = .ok (.aload_n 0, 1) := by decide +kernel
theorem dX6_heightThen_40 : decode cX6_heightThen 40 = .ok (.iload_n 2, 1) := by decide +kernel
theorem dX6_heightThen_41 : decode cX6_heightThen 41 = .ok (.iconst 2, 1) := by decide +kernel
theorem dX6_heightThen_42 : decode cX6_heightThen 42 = .ok (.invokevirtual 54, 3) := by decide +kernel
theorem dX6_heightThen_45 : decode cX6_heightThen 45 = .ok (.ineg, 1) := by decide +kernel
theorem dX6_heightThen_46 : decode cX6_heightThen 46 = .ok (.ireturn, 1) := by decide +kernel
theorem dX6_heightThen_47 : decode cX6_heightThen 47 = .ok (.aload_n 0, 1) := by decide +kernel
theorem dX6_heightThen_48 : decode cX6_heightThen 48 = .ok (.getfield 7, 3) := by decide +kernel
theorem dX6_heightThen_51 : decode cX6_heightThen 51 = .ok (.iconst 5, 1) := by decide +kernel
theorem dX6_heightThen_52 : decode cX6_heightThen 52 = .ok (.iload_n 1, 1) := by decide +kernel
theorem dX6_heightThen_53 : decode cX6_heightThen 53 = .ok (.iadd, 1) := by decide +kernel
theorem dX6_heightThen_54 : decode cX6_heightThen 54 = .ok (.iaload, 1) := by decide +kernel
theorem dX6_heightThen_55 : decode cX6_heightThen 55 = .ok (.ifCond .ne 12, 3) := by decide +kernel
theorem dX6_heightThen_58 : decode cX6_heightThen 58 = .ok (.aload_n 0, 1) := by decide +kernel
theorem dX6_heightThen_59 : decode cX6_heightThen 59 = .ok (.getfield 7, 3) := by decide +kernel
theorem dX6_heightThen_62 : decode cX6_heightThen 62 = .ok (.iconst 1, 1) := by decide +kernel
theorem dX6_heightThen_63 : decode cX6_heightThen 63 = .ok (.iaload, 1) := by decide +kernel
theorem dX6_heightThen_64 : decode cX6_heightThen 64 = .ok (.goto 9, 3) := by decide +kernel
theorem dX6_heightThen_67 : decode cX6_heightThen 67 = .ok (.aload_n 0, 1) := by decide +kernel
theorem dX6_heightThen_68 : decode cX6_heightThen 68 = .ok (.getfield 7, 3) := by decide +kernel
theorem dX6_heightThen_71 : decode cX6_heightThen 71 = .ok (.iconst 2, 1) := by decide +kernel
theorem dX6_heightThen_72 : decode cX6_heightThen 72 = .ok (.iaload, 1) := by decide +kernel
theorem dX6_heightThen_73 : decode cX6_heightThen 73 = .ok (.istore_n 3, 1) := by decide +kernel
theorem dX6_heightThen_74 : decode cX6_heightThen 74 = .ok (.iconst 2, 1) := by decide +kernel
theorem dX6_heightThen_75 : decode cX6_heightThen 75 = .ok (.aload_n 0, 1) := by decide +kernel
theorem dX6_heightThen_76 : decode cX6_heightThen 76 = .ok (.iload_n 1, 1) := by decide +kernel
theorem dX6_heightThen_77 : decode cX6_heightThen 77 = .ok (.invokevirtual 85, 3) := by decide +kernel
theorem dX6_heightThen_80 : decode cX6_heightThen 80 = .ok (.imul, 1) := by decide +kernel
theorem dX6_heightThen_81 : decode cX6_heightThen 81 = .ok (.aload_n 0, 1) := by decide +kernel
theorem dX6_heightThen_82 : decode cX6_heightThen 82 = .ok (.getfield 7, 3) := by decide +kernel
theorem dX6_heightThen_85 : decode cX6_heightThen 85 = .ok (.bipush 125, 2) := by decide +kernel
theorem dX6_heightThen_87 : decode cX6_heightThen 87 = .ok (.iload_n 1, 1) := by decide +kernel
theorem dX6_heightThen_88 : decode cX6_heightThen 88 = .ok (.iadd, 1) := by decide +kernel
theorem dX6_heightThen_89 : decode cX6_heightThen 89 = .ok (.iaload, 1) := by decide +kernel
theorem dX6_heightThen_90 : decode cX6_heightThen 90 = .ok (.isub, 1) := by decide +kernel
theorem dX6_heightThen_91 : decode cX6_heightThen 91 = .ok (.aload_n 0, 1) := by decide +kernel
theorem dX6_heightThen_92 : decode cX6_heightThen 92 = .ok (.iload_n 1, 1) := by decide +kernel
theorem dX6_heightThen_93 : decode cX6_heightThen 93 = .ok (.invokevirtual 107, 3) := by decide +kernel
theorem dX6_heightThen_96 : decode cX6_heightThen 96 = .ok (.iload_n 3, 1) := by decide +kernel
theorem dX6_heightThen_97 : decode cX6_heightThen 97 = .ok (.imul, 1) := by decide +kernel
theorem dX6_heightThen_98 : decode cX6_heightThen 98 = .ok (.bipush 16, 2) := by decide +kernel
theorem dX6_heightThen_100 : decode cX6_heightThen 100 = .ok (.idiv, 1) := by decide +kernel
theorem dX6_heightThen_101 : decode cX6_heightThen 101 = .ok (.iadd, 1) := by decide +kernel
theorem dX6_heightThen_102 : decode cX6_heightThen 102 = .ok (.istore 4, 2) := by decide +kernel
theorem dX6_heightThen_104 : decode cX6_heightThen 104 = .ok (.iload 4, 2) := by decide +kernel
theorem dX6_heightThen_106 : decode cX6_heightThen 106 = .ok (.iload 4, 2) := by decide +kernel
theorem dX6_heightThen_108 : decode cX6_heightThen 108 = .ok (.aload_n 0, 1) := by decide +kernel
theorem dX6_heightThen_109 : decode cX6_heightThen 109 = .ok (.getfield 7, 3) := by decide +kernel
theorem dX6_heightThen_112 : decode cX6_heightThen 112 = .ok (.iconst 0, 1) := by decide +kernel
theorem dX6_heightThen_113 : decode cX6_heightThen 113 = .ok (.iaload, 1) := by decide +kernel
theorem dX6_heightThen_114 : decode cX6_heightThen 114 = .ok (.imul, 1) := by decide +kernel
theorem dX6_heightThen_115 : decode cX6_heightThen 115 = .ok (.sipush 1000, 3) := by decide +kernel
theorem dX6_heightThen_118 : decode cX6_heightThen 118 = .ok (.idiv, 1) := by decide +kernel
theorem dX6_heightThen_119 : decode cX6_heightThen 119 = .ok (.isub, 1) := by decide +kernel
theorem dX6_heightThen_120 : decode cX6_heightThen 120 = .ok (.istore 4, 2) := by decide +kernel
theorem dX6_heightThen_122 : decode cX6_heightThen 122 = .ok (.aload_n 0, 1) := by decide +kernel
theorem dX6_heightThen_123 : decode cX6_heightThen 123 = .ok (.getfield 7, 3) := by decide +kernel
theorem dX6_heightThen_126 : decode cX6_heightThen 126 = .ok (.iconst 5, 1) := by decide +kernel
theorem dX6_heightThen_127 : decode cX6_heightThen 127 = .ok (.iload_n 1, 1) := by decide +kernel
theorem dX6_heightThen_128 : decode cX6_heightThen 128 = .ok (.iadd, 1) := by decide +kernel
theorem dX6_heightThen_129 : decode cX6_heightThen 129 = .ok (.iaload, 1) := by decide +kernel
theorem dX6_heightThen_130 : decode cX6_heightThen 130 = .ok (.iconst 3, 1) := by decide +kernel
theorem dX6_heightThen_131 : decode cX6_heightThen 131 = .ok (.if_icmp .ne 10, 3) := by decide +kernel
theorem dX6_heightThen_134 : decode cX6_heightThen 134 = .ok (.iload 4, 2) := by decide +kernel
theorem dX6_heightThen_136 : decode cX6_heightThen 136 = .ok (.iconst 2, 1) := by decide +kernel
theorem dX6_heightThen_137 : decode cX6_heightThen 137 = .ok (.idiv, 1) := by decide +kernel
theorem dX6_heightThen_138 : decode cX6_heightThen 138 = .ok (.goto 5, 3) := by decide +kernel
theorem dX6_heightThen_141 : decode cX6_heightThen 141 = .ok (.iload 4, 2) := by decide +kernel
theorem dX6_heightThen_143 : decode cX6_heightThen 143 = .ok (.istore 4, 2) := by decide +kernel
theorem dX6_heightThen_145 : decode cX6_heightThen 145 = .ok (.iload 4, 2) := by decide +kernel
theorem dX6_heightThen_147 : decode cX6_heightThen 147 = .ok (.invokestatic 97, 3) := by decide +kernel
theorem dX6_heightThen_150 : decode cX6_heightThen 150 = .ok (.ireturn, 1) := by decide +kernel
theorem dX6_see_0 : decode cX6_see 0 = .ok (.sipush 267, 3) := by decide +kernel
theorem dX6_see_3 : decode cX6_see 3 = .ok (.bipush 26, 2) := by decide +kernel
theorem dX6_see_5 : decode cX6_see 5 = .ok (.iload_n 1, 1) := by decide +kernel
theorem dX6_see_6 : decode cX6_see 6 = .ok (.imul, 1) := by decide +kernel
theorem dX6_see_7 : decode cX6_see 7 = .ok (.iadd, 1) := by decide +kernel
theorem dX6_see_8 : decode cX6_see 8 = .ok (.istore_n 2, 1) := by decide +kernel
theorem dX6_see_9 : decode cX6_see 9 = .ok (.bipush 24, 2) := by decide +kernel
theorem dX6_see_11 : decode cX6_see 11 = .ok (.istore_n 3, 1) := by decide +kernel
theorem dX6_see_12 : decode cX6_see 12 = .ok (.iload_n 3, 1) := by decide +kernel
theorem dX6_see_13 : decode cX6_see 13 = .ok (.iconst 1, 1) := by decide +kernel
theorem dX6_see_14 : decode cX6_see 14 = .ok (.if_icmp .le 27, 3) := by decide +kernel
theorem dX6_see_17 : decode cX6_see 17 = .ok (.aload_n 0, 1) := by decide +kernel
theorem dX6_see_18 : decode cX6_see 18 = .ok (.getfield 7, 3) := by decide +kernel
theorem dX6_see_21 : decode cX6_see 21 = .ok (.iload_n 2, 1) := by decide +kernel
theorem dX6_see_22 : decode cX6_see 22 = .ok (.iconst 1, 1) := by decide +kernel
theorem dX6_see_23 : decode cX6_see 23 = .ok (.iadd, 1) := by decide +kernel
theorem dX6_see_24 : decode cX6_see 24 = .ok (.iload_n 3, 1) := by decide +kernel
theorem dX6_see_25 : decode cX6_see 25 = .ok (.iadd, 1) := by decide +kernel
theorem dX6_see_26 : decode cX6_see 26 = .ok (.aload_n 0, 1) := by decide +kernel
theorem dX6_see_27 : decode cX6_see 27 = .ok (.getfield 7, 3) := by decide +kernel
theorem dX6_see_30 : decode cX6_see 30 = .ok (.iload_n 2, 1) := by decide +kernel
theorem dX6_see_31 : decode cX6_see 31 = .ok (.iload_n 3, 1) := by decide +kernel
theorem dX6_see_32 : decode cX6_see 32 = .ok (.iadd, 1) := by decide +kernel
theorem dX6_see_33 : decode cX6_see 33 = .ok (.iaload, 1) := by decide +kernel
theorem dX6_see_34 : decode cX6_see 34 = .ok (.iastore, 1) := by decide +kernel
theorem dX6_see_35 : decode cX6_see 35 = .ok (.iinc 3 (-1), 3) := by decide +kernel
theorem dX6_see_38 : decode cX6_see 38 = .ok (.goto (-26), 3) := by decide +kernel
theorem dX6_see_41 : decode cX6_see 41 = .ok (.aload_n 0, 1) := by decide +kernel
theorem dX6_see_42 : decode cX6_see 42 = .ok (.getfield 7, 3) := by decide +kernel
theorem dX6_see_45 : decode cX6_see 45 = .ok (.iload_n 2, 1) := by decide +kernel
theorem dX6_see_46 : decode cX6_see 46 = .ok (.iconst 2, 1) := by decide +kernel
theorem dX6_see_47 : decode cX6_see 47 = .ok (.iadd, 1) := by decide +kernel
theorem dX6_see_48 : decode cX6_see 48 = .ok (.aload_n 0, 1) := by decide +kernel
theorem dX6_see_49 : decode cX6_see 49 = .ok (.aload_n 0, 1) := by decide +kernel
theorem dX6_see_50 : decode cX6_see 50 = .ok (.getfield 7, 3) := by decide +kernel
theorem dX6_see_53 : decode cX6_see 53 = .ok (.iload_n 2, 1) := by decide +kernel
theorem dX6_see_54 : decode cX6_see 54 = .ok (.iaload, 1) := by decide +kernel
theorem dX6_see_55 : decode cX6_see 55 = .ok (.invokevirtual 85, 3) := by decide +kernel
theorem dX6_see_58 : decode cX6_see 58 = .ok (.iastore, 1) := by decide +kernel
theorem dX6_see_59 : decode cX6_see 59 = .ok (.aload_n 0, 1) := by decide +kernel
theorem dX6_see_60 : decode cX6_see 60 = .ok (.getfield 7, 3) := by decide +kernel
theorem dX6_see_63 : decode cX6_see 63 = .ok (.iload_n 2, 1) := by decide +kernel
theorem dX6_see_64 : decode cX6_see 64 = .ok (.iconst 1, 1) := by decide +kernel
theorem dX6_see_65 : decode cX6_see 65 = .ok (.iadd, 1) := by decide +kernel
theorem dX6_see_66 : decode cX6_see 66 = .ok (.aload_n 0, 1) := by decide +kernel
theorem dX6_see_67 : decode cX6_see 67 = .ok (.getfield 7, 3) := by decide +kernel
theorem dX6_see_70 : decode cX6_see 70 = .ok (.iload_n 2, 1) := by decide +kernel
theorem dX6_see_71 : decode cX6_see 71 = .ok (.iconst 1, 1) := by decide +kernel
theorem dX6_see_72 : decode cX6_see 72 = .ok (.iadd, 1) := by decide +kernel
theorem dX6_see_73 : decode cX6_see 73 = .ok (.iaload, 1) := by decide +kernel
theorem dX6_see_74 : decode cX6_see 74 = .ok (.bipush 24, 2) := by decide +kernel
theorem dX6_see_76 : decode cX6_see 76 = .ok (.if_icmp .ge 16, 3) := by decide +kernel
theorem dX6_see_79 : decode cX6_see 79 = .ok (.aload_n 0, 1) := by decide +kernel
theorem dX6_see_80 : decode cX6_see 80 = .ok (.getfield 7, 3) := by decide +kernel
theorem dX6_see_83 : decode cX6_see 83 = .ok (.iload_n 2, 1) := by decide +kernel
theorem dX6_see_84 : decode cX6_see 84 = .ok (.iconst 1, 1) := by decide +kernel
theorem dX6_see_85 : decode cX6_see 85 = .ok (.iadd, 1) := by decide +kernel
theorem dX6_see_86 : decode cX6_see 86 = .ok (.iaload, 1) := by decide +kernel
theorem dX6_see_87 : decode cX6_see 87 = .ok (.iconst 1, 1) := by decide +kernel
theorem dX6_see_88 : decode cX6_see 88 = .ok (.iadd, 1) := by decide +kernel
theorem dX6_see_89 : decode cX6_see 89 = .ok (.goto 5, 3) := by decide +kernel
theorem dX6_see_92 : decode cX6_see 92 = .ok (.bipush 24, 2) := by decide +kernel
theorem dX6_see_94 : decode cX6_see 94 = .ok (.iastore, 1) := by decide +kernel
theorem dX6_see_95 : decode cX6_see 95 = .ok (.return_, 1) := by decide +kernel
theorem dX6_tick_0 : decode cX6_tick 0 = .ok (.iconst 0, 1) := by decide +kernel
theorem dX6_tick_1 : decode cX6_tick 1 = .ok (.istore_n 1, 1) := by decide +kernel
theorem dX6_tick_2 : decode cX6_tick 2 = .ok (.iload_n 1, 1) := by decide +kernel
theorem dX6_tick_3 : decode cX6_tick 3 = .ok (.bipush 60, 2) := by decide +kernel
theorem dX6_tick_5 : decode cX6_tick 5 = .ok (.if_icmp .ge 20, 3) := by decide +kernel
theorem dX6_tick_8 : decode cX6_tick 8 = .ok (.aload_n 0, 1) := by decide +kernel
theorem dX6_tick_9 : decode cX6_tick 9 = .ok (.getfield 30, 3) := by decide +kernel
theorem dX6_tick_12 : decode cX6_tick 12 = .ok (.iload_n 1, 1) := by decide +kernel
theorem dX6_tick_13 : decode cX6_tick 13 = .ok (.aload_n 0, 1) := by decide +kernel
theorem dX6_tick_14 : decode cX6_tick 14 = .ok (.iload_n 1, 1) := by decide +kernel
theorem dX6_tick_15 : decode cX6_tick 15 = .ok (.invokevirtual 110, 3) := by decide +kernel
theorem dX6_tick_18 : decode cX6_tick 18 = .ok (.iastore, 1) := by decide +kernel
theorem dX6_tick_19 : decode cX6_tick 19 = .ok (.iinc 1 1, 3) := by decide +kernel
theorem dX6_tick_22 : decode cX6_tick 22 = .ok (.goto (-20), 3) := by decide +kernel
theorem dX6_tick_25 : decode cX6_tick 25 = .ok (.iconst 0, 1) := by decide +kernel
theorem dX6_tick_26 : decode cX6_tick 26 = .ok (.istore_n 1, 1) := by decide +kernel
theorem dX6_tick_27 : decode cX6_tick 27 = .ok (.iload_n 1, 1) := by decide +kernel
theorem dX6_tick_28 : decode cX6_tick 28 = .ok (.bipush 60, 2) := by decide +kernel
theorem dX6_tick_30 : decode cX6_tick 30 = .ok (.if_icmp .ge 99, 3) := by decide +kernel
theorem dX6_tick_33 : decode cX6_tick 33 = .ok (.aload_n 0, 1) := by decide +kernel
theorem dX6_tick_34 : decode cX6_tick 34 = .ok (.getfield 7, 3) := by decide +kernel
theorem dX6_tick_37 : decode cX6_tick 37 = .ok (.bipush 125, 2) := by decide +kernel
theorem dX6_tick_39 : decode cX6_tick 39 = .ok (.iload_n 1, 1) := by decide +kernel
theorem dX6_tick_40 : decode cX6_tick 40 = .ok (.iadd, 1) := by decide +kernel
theorem dX6_tick_41 : decode cX6_tick 41 = .ok (.aload_n 0, 1) := by decide +kernel
theorem dX6_tick_42 : decode cX6_tick 42 = .ok (.iload_n 1, 1) := by decide +kernel
theorem dX6_tick_43 : decode cX6_tick 43 = .ok (.invokevirtual 85, 3) := by decide +kernel
theorem dX6_tick_46 : decode cX6_tick 46 = .ok (.iastore, 1) := by decide +kernel
theorem dX6_tick_47 : decode cX6_tick 47 = .ok (.aload_n 0, 1) := by decide +kernel
theorem dX6_tick_48 : decode cX6_tick 48 = .ok (.getfield 7, 3) := by decide +kernel
theorem dX6_tick_51 : decode cX6_tick 51 = .ok (.bipush 65, 2) := by decide +kernel
theorem dX6_tick_53 : decode cX6_tick 53 = .ok (.iload_n 1, 1) := by decide +kernel
theorem dX6_tick_54 : decode cX6_tick 54 = .ok (.iadd, 1) := by decide +kernel
theorem dX6_tick_55 : decode cX6_tick 55 = .ok (.aload_n 0, 1) := by decide +kernel
theorem dX6_tick_56 : decode cX6_tick 56 = .ok (.getfield 30, 3) := by decide +kernel
theorem dX6_tick_59 : decode cX6_tick 59 = .ok (.iload_n 1, 1) := by decide +kernel
theorem dX6_tick_60 : decode cX6_tick 60 = .ok (.iaload, 1) := by decide +kernel
theorem dX6_tick_61 : decode cX6_tick 61 = .ok (.iastore, 1) := by decide +kernel
theorem dX6_tick_62 : decode cX6_tick 62 = .ok (.aload_n 0, 1) := by decide +kernel
theorem dX6_tick_63 : decode cX6_tick 63 = .ok (.getfield 7, 3) := by decide +kernel
theorem dX6_tick_66 : decode cX6_tick 66 = .ok (.sipush 185, 3) := by decide +kernel
theorem dX6_tick_69 : decode cX6_tick 69 = .ok (.iload_n 1, 1) := by decide +kernel
theorem dX6_tick_70 : decode cX6_tick 70 = .ok (.iadd, 1) := by decide +kernel
theorem dX6_tick_71 : decode cX6_tick 71 = .ok (.aload_n 0, 1) := by decide +kernel
theorem dX6_tick_72 : decode cX6_tick 72 = .ok (.getfield 7, 3) := by decide +kernel
theorem dX6_tick_75 : decode cX6_tick 75 = .ok (.sipush 185, 3) := by decide +kernel
theorem dX6_tick_78 : decode cX6_tick 78 = .ok (.iload_n 1, 1) := by decide +kernel
theorem dX6_tick_79 : decode cX6_tick 79 = .ok (.iadd, 1) := by decide +kernel
theorem dX6_tick_80 : decode cX6_tick 80 = .ok (.iaload, 1) := by decide +kernel
theorem dX6_tick_81 : decode cX6_tick 81 = .ok (.bipush (-6), 2) := by decide +kernel
theorem dX6_tick_83 : decode cX6_tick 83 = .ok (.if_icmp .ne 29, 3) := by decide +kernel
theorem dX6_tick_86 : decode cX6_tick 86 = .ok (.aload_n 0, 1) := by decide +kernel
theorem dX6_tick_87 : decode cX6_tick 87 = .ok (.iload_n 1, 1) := by decide +kernel
theorem dX6_tick_88 : decode cX6_tick 88 = .ok (.invokevirtual 85, 3) := by decide +kernel
theorem dX6_tick_91 : decode cX6_tick 91 = .ok (.invokestatic 88, 3) := by decide +kernel
theorem dX6_tick_94 : decode cX6_tick 94 = .ok (.aload_n 0, 1) := by decide +kernel
theorem dX6_tick_95 : decode cX6_tick 95 = .ok (.getfield 7, 3) := by decide +kernel
theorem dX6_tick_98 : decode cX6_tick 98 = .ok (.iconst 3, 1) := by decide +kernel
theorem dX6_tick_99 : decode cX6_tick 99 = .ok (.iaload, 1) := by decide +kernel
theorem dX6_tick_100 : decode cX6_tick 100 = .ok (.if_icmp .le 12, 3) := by decide +kernel
theorem dX6_tick_103 : decode cX6_tick 103 = .ok (.aload_n 0, 1) := by decide +kernel
theorem dX6_tick_104 : decode cX6_tick 104 = .ok (.getfield 7, 3) := by decide +kernel
theorem dX6_tick_107 : decode cX6_tick 107 = .ok (.iconst 4, 1) := by decide +kernel
theorem dX6_tick_108 : decode cX6_tick 108 = .ok (.iaload, 1) := by decide +kernel
theorem dX6_tick_109 : decode cX6_tick 109 = .ok (.goto 13, 3) := by decide +kernel
theorem dX6_tick_112 : decode cX6_tick 112 = .ok (.aload_n 0, 1) := by decide +kernel
theorem dX6_tick_113 : decode cX6_tick 113 = .ok (.getfield 7, 3) := by decide +kernel
theorem dX6_tick_116 : decode cX6_tick 116 = .ok (.sipush 185, 3) := by decide +kernel
theorem dX6_tick_119 : decode cX6_tick 119 = .ok (.iload_n 1, 1) := by decide +kernel
theorem dX6_tick_120 : decode cX6_tick 120 = .ok (.iadd, 1) := by decide +kernel
theorem dX6_tick_121 : decode cX6_tick 121 = .ok (.iaload, 1) := by decide +kernel
theorem dX6_tick_122 : decode cX6_tick 122 = .ok (.iastore, 1) := by decide +kernel
theorem dX6_tick_123 : decode cX6_tick 123 = .ok (.iinc 1 1, 3) := by decide +kernel
theorem dX6_tick_126 : decode cX6_tick 126 = .ok (.goto (-99), 3) := by decide +kernel
