theorem dX6_tick_129 : decode cX6_tick 129 = .ok (.iconst 0, 1) := by decide +kernel
theorem dX6_tick_130 : decode cX6_tick 130 = .ok (.istore_n 1, 1) := by decide +kernel
theorem dX6_tick_131 : decode cX6_tick 131 = .ok (.iload_n 1, 1) := by decide +kernel
theorem dX6_tick_132 : decode cX6_tick 132 = .ok (.aload_n 0, 1) := by decide +kernel
theorem dX6_tick_133 : decode cX6_tick 133 = .ok (.getfield 7, 3) := by decide +kernel
theorem dX6_tick_136 : decode cX6_tick 136 = .ok (.sipush 266, 3) := by decide +kernel
theorem dX6_tick_139 : decode cX6_tick 139 = .ok (.iaload, 1) := by decide +kernel
theorem dX6_tick_140 : decode cX6_tick 140 = .ok (.if_icmp .ge 14, 3) := by decide +kernel
theorem dX6_tick_143 : decode cX6_tick 143 = .ok (.aload_n 0, 1) := by decide +kernel
theorem dX6_tick_144 : decode cX6_tick 144 = .ok (.iload_n 1, 1) := by decide +kernel
theorem dX6_tick_145 : decode cX6_tick 145 = .ok (.invokevirtual 113, 3) := by decide +kernel
theorem dX6_tick_148 : decode cX6_tick 148 = .ok (.iinc 1 1, 3) := by decide +kernel
theorem dX6_tick_151 : decode cX6_tick 151 = .ok (.goto (-20), 3) := by decide +kernel
theorem dX6_tick_154 : decode cX6_tick 154 = .ok (.aload_n 0, 1) := by decide +kernel
theorem dX6_tick_155 : decode cX6_tick 155 = .ok (.getfield 7, 3) := by decide +kernel
theorem dX6_tick_158 : decode cX6_tick 158 = .ok (.iconst 4, 1) := by decide +kernel
theorem dX6_tick_159 : decode cX6_tick 159 = .ok (.dup2, 1) := by decide +kernel
theorem dX6_tick_160 : decode cX6_tick 160 = .ok (.iaload, 1) := by decide +kernel
theorem dX6_tick_161 : decode cX6_tick 161 = .ok (.iconst 1, 1) := by decide +kernel
theorem dX6_tick_162 : decode cX6_tick 162 = .ok (.iadd, 1) := by decide +kernel
theorem dX6_tick_163 : decode cX6_tick 163 = .ok (.iastore, 1) := by decide +kernel
theorem dX6_tick_164 : decode cX6_tick 164 = .ok (.return_, 1) := by decide +kernel
theorem dX6_isStill_0 : decode cX6_isStill 0 = .ok (.aload_n 0, 1) := by decide +kernel
theorem dX6_isStill_1 : decode cX6_isStill 1 = .ok (.iload_n 1, 1) := by decide +kernel
theorem dX6_isStill_2 : decode cX6_isStill 2 = .ok (.invokevirtual 85, 3) := by decide +kernel
theorem dX6_isStill_5 : decode cX6_isStill 5 = .ok (.invokestatic 88, 3) := by decide +kernel
theorem dX6_isStill_8 : decode cX6_isStill 8 = .ok (.aload_n 0, 1) := by decide +kernel
theorem dX6_isStill_9 : decode cX6_isStill 9 = .ok (.getfield 7, 3) := by decide +kernel
theorem dX6_isStill_12 : decode cX6_isStill 12 = .ok (.iconst 3, 1) := by decide +kernel
theorem dX6_isStill_13 : decode cX6_isStill 13 = .ok (.iaload, 1) := by decide +kernel
theorem dX6_isStill_14 : decode cX6_isStill 14 = .ok (.if_icmp .gt 28, 3) := by decide +kernel
theorem dX6_isStill_17 : decode cX6_isStill 17 = .ok (.aload_n 0, 1) := by decide +kernel
theorem dX6_isStill_18 : decode cX6_isStill 18 = .ok (.getfield 7, 3) := by decide +kernel
theorem dX6_isStill_21 : decode cX6_isStill 21 = .ok (.bipush 125, 2) := by decide +kernel
theorem dX6_isStill_23 : decode cX6_isStill 23 = .ok (.iload_n 1, 1) := by decide +kernel
theorem dX6_isStill_24 : decode cX6_isStill 24 = .ok (.iadd, 1) := by decide +kernel
theorem dX6_isStill_25 : decode cX6_isStill 25 = .ok (.iaload, 1) := by decide +kernel
theorem dX6_isStill_26 : decode cX6_isStill 26 = .ok (.invokestatic 88, 3) := by decide +kernel
theorem dX6_isStill_29 : decode cX6_isStill 29 = .ok (.aload_n 0, 1) := by decide +kernel
theorem dX6_isStill_30 : decode cX6_isStill 30 = .ok (.getfield 7, 3) := by decide +kernel
theorem dX6_isStill_33 : decode cX6_isStill 33 = .ok (.iconst 3, 1) := by decide +kernel
theorem dX6_isStill_34 : decode cX6_isStill 34 = .ok (.iaload, 1) := by decide +kernel
theorem dX6_isStill_35 : decode cX6_isStill 35 = .ok (.if_icmp .gt 7, 3) := by decide +kernel
theorem dX6_isStill_38 : decode cX6_isStill 38 = .ok (.iconst 1, 1) := by decide +kernel
theorem dX6_isStill_39 : decode cX6_isStill 39 = .ok (.goto 4, 3) := by decide +kernel
theorem dX6_isStill_42 : decode cX6_isStill 42 = .ok (.iconst 0, 1) := by decide +kernel
theorem dX6_isStill_43 : decode cX6_isStill 43 = .ok (.ireturn, 1) := by decide +kernel
theorem dX6_stillOnes_0 : decode cX6_stillOnes 0 = .ok (.iconst 0, 1) := by decide +kernel
theorem dX6_stillOnes_1 : decode cX6_stillOnes 1 = .ok (.istore_n 1, 1) := by decide +kernel
theorem dX6_stillOnes_2 : decode cX6_stillOnes 2 = .ok (.iconst 0, 1) := by decide +kernel
theorem dX6_stillOnes_3 : decode cX6_stillOnes 3 = .ok (.istore_n 2, 1) := by decide +kernel
theorem dX6_stillOnes_4 : decode cX6_stillOnes 4 = .ok (.iload_n 2, 1) := by decide +kernel
theorem dX6_stillOnes_5 : decode cX6_stillOnes 5 = .ok (.bipush 60, 2) := by decide +kernel
theorem dX6_stillOnes_7 : decode cX6_stillOnes 7 = .ok (.if_icmp .ge 33, 3) := by decide +kernel
theorem dX6_stillOnes_10 : decode cX6_stillOnes 10 = .ok (.iload_n 1, 1) := by decide +kernel
theorem dX6_stillOnes_11 : decode cX6_stillOnes 11 = .ok (.aload_n 0, 1) := by decide +kernel
theorem dX6_stillOnes_12 : decode cX6_stillOnes 12 = .ok (.iload_n 2, 1) := by decide +kernel
theorem dX6_stillOnes_13 : decode cX6_stillOnes 13 = .ok (.invokevirtual 65, 3) := by decide +kernel
theorem dX6_stillOnes_16 : decode cX6_stillOnes 16 = .ok (.ifCond .ne 15, 3) := by decide +kernel
theorem dX6_stillOnes_19 : decode cX6_stillOnes 19 = .ok (.aload_n 0, 1) := by decide +kernel
theorem dX6_stillOnes_20 : decode cX6_stillOnes 20 = .ok (.iload_n 2, 1) := by decide +kernel
theorem dX6_stillOnes_21 : decode cX6_stillOnes 21 = .ok (.invokevirtual 117, 3) := by decide +kernel
theorem dX6_stillOnes_24 : decode cX6_stillOnes 24 = .ok (.ifCond .eq 7, 3) := by decide +kernel
theorem dX6_stillOnes_27 : decode cX6_stillOnes 27 = .ok (.iconst 1, 1) := by decide +kernel
theorem dX6_stillOnes_28 : decode cX6_stillOnes 28 = .ok (.goto 4, 3) := by decide +kernel
theorem dX6_stillOnes_31 : decode cX6_stillOnes 31 = .ok (.iconst 0, 1) := by decide +kernel
theorem dX6_stillOnes_32 : decode cX6_stillOnes 32 = .ok (.iadd, 1) := by decide +kernel
theorem dX6_stillOnes_33 : decode cX6_stillOnes 33 = .ok (.istore_n 1, 1) := by decide +kernel
theorem dX6_stillOnes_34 : decode cX6_stillOnes 34 = .ok (.iinc 2 1, 3) := by decide +kernel
theorem dX6_stillOnes_37 : decode cX6_stillOnes 37 = .ok (.goto (-33), 3) := by decide +kernel
theorem dX6_stillOnes_40 : decode cX6_stillOnes 40 = .ok (.iload_n 1, 1) := by decide +kernel
theorem dX6_stillOnes_41 : decode cX6_stillOnes 41 = .ok (.ireturn, 1) := by decide +kernel
theorem dX6_ticks_0 : decode cX6_ticks 0 = .ok (.iconst 0, 1) := by decide +kernel
theorem dX6_ticks_1 : decode cX6_ticks 1 = .ok (.istore_n 2, 1) := by decide +kernel
theorem dX6_ticks_2 : decode cX6_ticks 2 = .ok (.iload_n 2, 1) := by decide +kernel
theorem dX6_ticks_3 : decode cX6_ticks 3 = .ok (.iload_n 1, 1) := by decide +kernel
theorem dX6_ticks_4 : decode cX6_ticks 4 = .ok (.if_icmp .ge 13, 3) := by decide +kernel
theorem dX6_ticks_7 : decode cX6_ticks 7 = .ok (.aload_n 0, 1) := by decide +kernel
theorem dX6_ticks_8 : decode cX6_ticks 8 = .ok (.invokevirtual 120, 3) := by decide +kernel
theorem dX6_ticks_11 : decode cX6_ticks 11 = .ok (.iinc 2 1, 3) := by decide +kernel
theorem dX6_ticks_14 : decode cX6_ticks 14 = .ok (.goto (-12), 3) := by decide +kernel
theorem dX6_ticks_17 : decode cX6_ticks 17 = .ok (.return_, 1) := by decide +kernel
theorem dX6_pass_0 : decode cX6_pass 0 = .ok (.iload_n 1, 1) := by decide +kernel
theorem dX6_pass_1 : decode cX6_pass 1 = .ok (.iconst 1, 1) := by decide +kernel
theorem dX6_pass_2 : decode cX6_pass 2 = .ok (.bipush 100, 2) := by decide +kernel
theorem dX6_pass_4 : decode cX6_pass 4 = .ok (.invokestatic 36, 3) := by decide +kernel
theorem dX6_pass_7 : decode cX6_pass 7 = .ok (.ifCond .ne 6, 3) := by decide +kernel
theorem dX6_pass_10 : decode cX6_pass 10 = .ok (.bipush (-2), 2) := by decide +kernel
theorem dX6_pass_12 : decode cX6_pass 12 = .ok (.ireturn, 1) := by decide +kernel
theorem dX6_pass_13 : decode cX6_pass 13 = .ok (.aload_n 0, 1) := by decide +kernel
theorem dX6_pass_14 : decode cX6_pass 14 = .ok (.getfield 7, 3) := by decide +kernel
theorem dX6_pass_17 : decode cX6_pass 17 = .ok (.iconst 4, 1) := by decide +kernel
theorem dX6_pass_18 : decode cX6_pass 18 = .ok (.iaload, 1) := by decide +kernel
theorem dX6_pass_19 : decode cX6_pass 19 = .ok (.iload_n 1, 1) := by decide +kernel
theorem dX6_pass_20 : decode cX6_pass 20 = .ok (.iadd, 1) := by decide +kernel
theorem dX6_pass_21 : decode cX6_pass 21 = .ok (.ldc 123, 2) := by decide +kernel
theorem dX6_pass_23 : decode cX6_pass 23 = .ok (.if_icmp .le 6, 3) := by decide +kernel
theorem dX6_pass_26 : decode cX6_pass 26 = .ok (.bipush (-4), 2) := by decide +kernel
theorem dX6_pass_28 : decode cX6_pass 28 = .ok (.ireturn, 1) := by decide +kernel
theorem dX6_pass_29 : decode cX6_pass 29 = .ok (.aload_n 0, 1) := by decide +kernel
theorem dX6_pass_30 : decode cX6_pass 30 = .ok (.invokevirtual 44, 3) := by decide +kernel
theorem dX6_pass_33 : decode cX6_pass 33 = .ok (.aload_n 0, 1) := by decide +kernel
theorem dX6_pass_34 : decode cX6_pass 34 = .ok (.iload_n 1, 1) := by decide +kernel
theorem dX6_pass_35 : decode cX6_pass 35 = .ok (.invokevirtual 124, 3) := by decide +kernel
theorem dX6_pass_38 : decode cX6_pass 38 = .ok (.aload_n 0, 1) := by decide +kernel
theorem dX6_pass_39 : decode cX6_pass 39 = .ok (.invokevirtual 82, 3) := by decide +kernel
theorem dX6_pass_42 : decode cX6_pass 42 = .ok (.aload_n 0, 1) := by decide +kernel
theorem dX6_pass_43 : decode cX6_pass 43 = .ok (.invokevirtual 127, 3) := by decide +kernel
theorem dX6_pass_46 : decode cX6_pass 46 = .ok (.isub, 1) := by decide +kernel
theorem dX6_pass_47 : decode cX6_pass 47 = .ok (.ireturn, 1) := by decide +kernel
theorem dX6_cell_0 : decode cX6_cell 0 = .ok (.iload_n 1, 1) := by decide +kernel
theorem dX6_cell_1 : decode cX6_cell 1 = .ok (.iload_n 2, 1) := by decide +kernel
theorem dX6_cell_2 : decode cX6_cell 2 = .ok (.invokestatic 58, 3) := by decide +kernel
theorem dX6_cell_5 : decode cX6_cell 5 = .ok (.ifCond .ne 5, 3) := by decide +kernel
theorem dX6_cell_8 : decode cX6_cell 8 = .ok (.iconst (-1), 1) := by decide +kernel
theorem dX6_cell_9 : decode cX6_cell 9 = .ok (.ireturn, 1) := by decide +kernel
theorem dX6_cell_10 : decode cX6_cell 10 = .ok (.bipush 10, 2) := by decide +kernel
theorem dX6_cell_12 : decode cX6_cell 12 = .ok (.iload_n 2, 1) := by decide +kernel
theorem dX6_cell_13 : decode cX6_cell 13 = .ok (.imul, 1) := by decide +kernel
theorem dX6_cell_14 : decode cX6_cell 14 = .ok (.iload_n 1, 1) := by decide +kernel
theorem dX6_cell_15 : decode cX6_cell 15 = .ok (.iadd, 1) := by decide +kernel
theorem dX6_cell_16 : decode cX6_cell 16 = .ok (.istore 4, 2) := by decide +kernel
theorem dX6_cell_18 : decode cX6_cell 18 = .ok (.iload_n 3, 1) := by decide +kernel
theorem dX6_cell_19 : decode cX6_cell 19 = .ok (.tableswitch 130 0 6 #[41, 51, 62, 77, 87, 111, 123], 41) := by decide +kernel
theorem dX6_cell_60 : decode cX6_cell 60 = .ok (.aload_n 0, 1) := by decide +kernel
theorem dX6_cell_61 : decode cX6_cell 61 = .ok (.getfield 7, 3) := by decide +kernel
theorem dX6_cell_64 : decode cX6_cell 64 = .ok (.iconst 5, 1) := by decide +kernel
theorem dX6_cell_65 : decode cX6_cell 65 = .ok (.iload 4, 2) := by decide +kernel
theorem dX6_cell_67 : decode cX6_cell 67 = .ok (.iadd, 1) := by decide +kernel
theorem dX6_cell_68 : decode cX6_cell 68 = .ok (.iaload, 1) := by decide +kernel
theorem dX6_cell_69 : decode cX6_cell 69 = .ok (.ireturn, 1) := by decide +kernel
theorem dX6_cell_70 : decode cX6_cell 70 = .ok (.aload_n 0, 1) := by decide +kernel
theorem dX6_cell_71 : decode cX6_cell 71 = .ok (.iload 4, 2) := by decide +kernel
theorem dX6_cell_73 : decode cX6_cell 73 = .ok (.invokevirtual 85, 3) := by decide +kernel
theorem dX6_cell_76 : decode cX6_cell 76 = .ok (.sipush 10000, 3) := by decide +kernel
theorem dX6_cell_79 : decode cX6_cell 79 = .ok (.iadd, 1) := by decide +kernel
theorem dX6_cell_80 : decode cX6_cell 80 = .ok (.ireturn, 1) := by decide +kernel
theorem dX6_cell_81 : decode cX6_cell 81 = .ok (.aload_n 0, 1) := by decide +kernel
theorem dX6_cell_82 : decode cX6_cell 82 = .ok (.getfield 7, 3) := by decide +kernel
theorem dX6_cell_85 : decode cX6_cell 85 = .ok (.bipush 125, 2) := by decide +kernel
theorem dX6_cell_87 : decode cX6_cell 87 = .ok (.iload 4, 2) := by decide +kernel
theorem dX6_cell_89 : decode cX6_cell 89 = .ok (.iadd, 1) := by decide +kernel
theorem dX6_cell_90 : decode cX6_cell 90 = .ok (.iaload, 1) := by decide +kernel
theorem dX6_cell_91 : decode cX6_cell 91 = .ok (.sipush 10000, 3) := by decide +kernel
theorem dX6_cell_94 : decode cX6_cell 94 = .ok (.iadd, 1) := by decide +kernel
theorem dX6_cell_95 : decode cX6_cell 95 = .ok (.ireturn, 1) := by decide +kernel
theorem dX6_cell_96 : decode cX6_cell 96 = .ok (.aload_n 0, 1) := by decide +kernel
theorem dX6_cell_97 : decode cX6_cell 97 = .ok (.iload 4, 2) := by decide +kernel
theorem dX6_cell_99 : decode cX6_cell 99 = .ok (.invokevirtual 107, 3) := by decide +kernel
theorem dX6_cell_102 : decode cX6_cell 102 = .ok (.ldc 123, 2) := by decide +kernel
theorem dX6_cell_104 : decode cX6_cell 104 = .ok (.iadd, 1) := by decide +kernel
theorem dX6_cell_105 : decode cX6_cell 105 = .ok (.ireturn, 1) := by decide +kernel
theorem dX6_cell_106 : decode cX6_cell 106 = .ok (.aload_n 0, 1) := by decide +kernel
theorem dX6_cell_107 : decode cX6_cell 107 = .ok (.iload 4, 2) := by decide +kernel
theorem dX6_cell_109 : decode cX6_cell 109 = .ok (.invokevirtual 65, 3) := by decide +kernel
theorem dX6_cell_112 : decode cX6_cell 112 = .ok (.ifCond .ne 12, 3) := by decide +kernel
theorem dX6_cell_115 : decode cX6_cell 115 = .ok (.aload_n 0, 1) := by decide +kernel
theorem dX6_cell_116 : decode cX6_cell 116 = .ok (.iload 4, 2) := by decide +kernel
theorem dX6_cell_118 : decode cX6_cell 118 = .ok (.invokevirtual 117, 3) := by decide +kernel
theorem dX6_cell_121 : decode cX6_cell 121 = .ok (.ifCond .eq 7, 3) := by decide +kernel
theorem dX6_cell_124 : decode cX6_cell 124 = .ok (.iconst 1, 1) := by decide +kernel
theorem dX6_cell_125 : decode cX6_cell 125 = .ok (.goto 4, 3) := by decide +kernel
theorem dX6_cell_128 : decode cX6_cell 128 = .ok (.iconst 0, 1) := by decide +kernel
theorem dX6_cell_129 : decode cX6_cell 129 = .ok (.ireturn, 1) := by decide +kernel
theorem dX6_cell_130 : decode cX6_cell 130 = .ok (.aload_n 0, 1) := by decide +kernel
theorem dX6_cell_131 : decode cX6_cell 131 = .ok (.getfield 7, 3) := by decide +kernel
theorem dX6_cell_134 : decode cX6_cell 134 = .ok (.sipush 185, 3) := by decide +kernel
theorem dX6_cell_137 : decode cX6_cell 137 = .ok (.iload 4, 2) := by decide +kernel
theorem dX6_cell_139 : decode cX6_cell 139 = .ok (.iadd, 1) := by decide +kernel
theorem dX6_cell_140 : decode cX6_cell 140 = .ok (.iaload, 1) := by decide +kernel
theorem dX6_cell_141 : decode cX6_cell 141 = .ok (.ireturn, 1) := by decide +kernel
theorem dX6_cell_142 : decode cX6_cell 142 = .ok (.aload_n 0, 1) := by decide +kernel
theorem dX6_cell_143 : decode cX6_cell 143 = .ok (.iload 4, 2) := by decide +kernel
theorem dX6_cell_145 : decode cX6_cell 145 = .ok (.invokevirtual 62, 3) := by decide +kernel
theorem dX6_cell_148 : decode cX6_cell 148 = .ok (.ireturn, 1) := by decide +kernel
theorem dX6_cell_149 : decode cX6_cell 149 = .ok (.bipush (-2), 2) := by decide +kernel
theorem dX6_cell_151 : decode cX6_cell 151 = .ok (.ireturn, 1) := by decide +kernel
theorem dX6_dipper_0 : decode cX6_dipper 0 = .ok (.aload_n 0, 1) := by decide +kernel
theorem dX6_dipper_1 : decode cX6_dipper 1 = .ok (.iload_n 1, 1) := by decide +kernel
theorem dX6_dipper_2 : decode cX6_dipper 2 = .ok (.invokevirtual 94, 3) := by decide +kernel
theorem dX6_dipper_5 : decode cX6_dipper 5 = .ok (.ifCond .ne 5, 3) := by decide +kernel
theorem dX6_dipper_8 : decode cX6_dipper 8 = .ok (.iconst (-1), 1) := by decide +kernel
theorem dX6_dipper_9 : decode cX6_dipper 9 = .ok (.ireturn, 1) := by decide +kernel
theorem dX6_dipper_10 : decode cX6_dipper 10 = .ok (.iload_n 2, 1) := by decide +kernel
theorem dX6_dipper_11 : decode cX6_dipper 11 = .ok (.tableswitch 80 0 5 #[37, 47, 57, 57, 57, 66], 37) := by decide +kernel
theorem dX6_dipper_48 : decode cX6_dipper 48 = .ok (.aload_n 0, 1) := by decide +kernel
theorem dX6_dipper_49 : decode cX6_dipper 49 = .ok (.iload_n 1, 1) := by decide +kernel
theorem dX6_dipper_50 : decode cX6_dipper 50 = .ok (.iconst 0, 1) := by decide +kernel
theorem dX6_dipper_51 : decode cX6_dipper 51 = .ok (.invokevirtual 54, 3) := by decide +kernel
theorem dX6_dipper_54 : decode cX6_dipper 54 = .ok (.bipush 10, 2) := by decide +kernel
theorem dX6_dipper_56 : decode cX6_dipper 56 = .ok (.irem, 1) := by decide +kernel
theorem dX6_dipper_57 : decode cX6_dipper 57 = .ok (.ireturn, 1) := by decide +kernel
theorem dX6_dipper_58 : decode cX6_dipper 58 = .ok (.aload_n 0, 1) := by decide +kernel
theorem dX6_dipper_59 : decode cX6_dipper 59 = .ok (.iload_n 1, 1) := by decide +kernel
theorem dX6_dipper_60 : decode cX6_dipper 60 = .ok (.iconst 0, 1) := by decide +kernel
theorem dX6_dipper_61 : decode cX6_dipper 61 = .ok (.invokevirtual 54, 3) := by decide +kernel
theorem dX6_dipper_64 : decode cX6_dipper 64 = .ok (.bipush 10, 2) := by decide +kernel
theorem dX6_dipper_66 : decode cX6_dipper 66 = .ok (.idiv, 1) := by decide +kernel
theorem dX6_dipper_67 : decode cX6_dipper 67 = .ok (.ireturn, 1) := by decide +kernel
theorem dX6_dipper_68 : decode cX6_dipper 68 = .ok (.aload_n 0, 1) := by decide +kernel
theorem dX6_dipper_69 : decode cX6_dipper 69 = .ok (.iload_n 1, 1) := by decide +kernel
theorem dX6_dipper_70 : decode cX6_dipper 70 = .ok (.iload_n 2, 1) := by decide +kernel
theorem dX6_dipper_71 : decode cX6_dipper 71 = .ok (.iconst 1, 1) := by decide +kernel
theorem dX6_dipper_72 : decode cX6_dipper 72 = .ok (.isub, 1) := by decide +kernel
theorem dX6_dipper_73 : decode cX6_dipper 73 = .ok (.invokevirtual 54, 3) := by decide +kernel
theorem dX6_dipper_76 : decode cX6_dipper 76 = .ok (.ireturn, 1) := by decide +kernel
theorem dX6_dipper_77 : decode cX6_dipper 77 = .ok (.aload_n 0, 1) := by decide +kernel
theorem dX6_dipper_78 : decode cX6_dipper 78 = .ok (.iload_n 1, 1) := by decide +kernel
theorem dX6_dipper_79 : decode cX6_dipper 79 = .ok (.invokevirtual 104, 3) := by decide +kernel
theorem dX6_dipper_82 : decode cX6_dipper 82 = .ok (.ifCond .eq 7, 3) := by decide +kernel
theorem dX6_dipper_85 : decode cX6_dipper 85 = .ok (.iconst 1, 1) := by decide +kernel
theorem dX6_dipper_86 : decode cX6_dipper 86 = .ok (.goto 4, 3) := by decide +kernel
theorem dX6_dipper_89 : decode cX6_dipper 89 = .ok (.iconst 0, 1) := by decide +kernel
theorem dX6_dipper_90 : decode cX6_dipper 90 = .ok (.ireturn, 1) := by decide +kernel
theorem dX6_dipper_91 : decode cX6_dipper 91 = .ok (.bipush (-2), 2) := by decide +kernel
theorem dX6_dipper_93 : decode cX6_dipper 93 = .ok (.ireturn, 1) := by decide +kernel
theorem dX6_seenBy_0 : decode cX6_seenBy 0 = .ok (.aload_n 0, 1) := by decide +kernel
theorem dX6_seenBy_1 : decode cX6_seenBy 1 = .ok (.getfield 7, 3) := by decide +kernel
theorem dX6_seenBy_4 : decode cX6_seenBy 4 = .ok (.sipush 267, 3) := by decide +kernel
theorem dX6_seenBy_7 : decode cX6_seenBy 7 = .ok (.bipush 26, 2) := by decide +kernel
theorem dX6_seenBy_9 : decode cX6_seenBy 9 = .ok (.iload_n 1, 1) := by decide +kernel
theorem dX6_seenBy_10 : decode cX6_seenBy 10 = .ok (.imul, 1) := by decide +kernel
theorem dX6_seenBy_11 : decode cX6_seenBy 11 = .ok (.iadd, 1) := by decide +kernel
theorem dX6_seenBy_12 : decode cX6_seenBy 12 = .ok (.iconst 2, 1) := by decide +kernel
theorem dX6_seenBy_13 : decode cX6_seenBy 13 = .ok (.iadd, 1) := by decide +kernel
theorem dX6_seenBy_14 : decode cX6_seenBy 14 = .ok (.iload_n 2, 1) := by decide +kernel
theorem dX6_seenBy_15 : decode cX6_seenBy 15 = .ok (.iadd, 1) := by decide +kernel
theorem dX6_seenBy_16 : decode cX6_seenBy 16 = .ok (.iaload, 1) := by decide +kernel
theorem dX6_seenBy_17 : decode cX6_seenBy 17 = .ok (.ireturn, 1) := by decide +kernel
theorem dX6_seenMany_0 : decode cX6_seenMany 0 = .ok (.aload_n 0, 1) := by decide +kernel
theorem dX6_seenMany_1 : decode cX6_seenMany 1 = .ok (.getfield 7, 3) := by decide +kernel
theorem dX6_seenMany_4 : decode cX6_seenMany 4 = .ok (.sipush 267, 3) := by decide +kernel
theorem dX6_seenMany_7 : decode cX6_seenMany 7 = .ok (.bipush 26, 2) := by decide +kernel
theorem dX6_seenMany_9 : decode cX6_seenMany 9 = .ok (.iload_n 1, 1) := by decide +kernel
theorem dX6_seenMany_10 : decode cX6_seenMany 10 = .ok (.imul, 1) := by decide +kernel
theorem dX6_seenMany_11 : decode cX6_seenMany 11 = .ok (.iadd, 1) := by decide +kernel
theorem dX6_seenMany_12 : decode cX6_seenMany 12 = .ok (.iconst 1, 1) := by decide +kernel
theorem dX6_seenMany_13 : decode cX6_seenMany 13 = .ok (.iadd, 1) := by decide +kernel
theorem dX6_seenMany_14 : decode cX6_seenMany 14 = .ok (.iaload, 1) := by decide +kernel
theorem dX6_seenMany_15 : decode cX6_seenMany 15 = .ok (.ireturn, 1) := by decide +kernel
theorem dX6_beat_0 : decode cX6_beat 0 = .ok (.aload_n 0, 1) := by decide +kernel
theorem dX6_beat_1 : decode cX6_beat 1 = .ok (.iload_n 1, 1) := by decide +kernel
theorem dX6_beat_2 : decode cX6_beat 2 = .ok (.invokevirtual 130, 3) := by decide +kernel
theorem dX6_beat_5 : decode cX6_beat 5 = .ok (.bipush 24, 2) := by decide +kernel
theorem dX6_beat_7 : decode cX6_beat 7 = .ok (.if_icmp .ge 6, 3) := by decide +kernel
theorem dX6_beat_10 : decode cX6_beat 10 = .ok (.bipush (-6), 2) := by decide +kernel
theorem dX6_beat_12 : decode cX6_beat 12 = .ok (.ireturn, 1) := by decide +kernel
theorem dX6_beat_13 : decode cX6_beat 13 = .ok (.bipush (-6), 2) := by decide +kernel
theorem dX6_beat_15 : decode cX6_beat 15 = .ok (.istore_n 2, 1) := by decide +kernel
theorem dX6_beat_16 : decode cX6_beat 16 = .ok (.iconst 0, 1) := by decide +kernel
theorem dX6_beat_17 : decode cX6_beat 17 = .ok (.istore_n 3, 1) := by decide +kernel
theorem dX6_beat_18 : decode cX6_beat 18 = .ok (.iconst 2, 1) := by decide +kernel
theorem dX6_beat_19 : decode cX6_beat 19 = .ok (.istore 4, 2) := by decide +kernel
theorem dX6_beat_21 : decode cX6_beat 21 = .ok (.iload 4, 2) := by decide +kernel
theorem dX6_beat_23 : decode cX6_beat 23 = .ok (.bipush 12, 2) := by decide +kernel
theorem dX6_beat_25 : decode cX6_beat 25 = .ok (.if_icmp .gt 97, 3) := by decide +kernel
theorem dX6_beat_28 : decode cX6_beat 28 = .ok (.iconst 0, 1) := by decide +kernel
theorem dX6_beat_29 : decode cX6_beat 29 = .ok (.istore 5, 2) := by decide +kernel
theorem dX6_beat_31 : decode cX6_beat 31 = .ok (.iconst 0, 1) := by decide +kernel
theorem dX6_beat_32 : decode cX6_beat 32 = .ok (.istore 6, 2) := by decide +kernel
theorem dX6_beat_34 : decode cX6_beat 34 = .ok (.iload 6, 2) := by decide +kernel
theorem dX6_beat_36 : decode cX6_beat 36 = .ok (.bipush 12, 2) := by decide +kernel
theorem dX6_beat_38 : decode cX6_beat 38 = .ok (.if_icmp .ge 35, 3) := by decide +kernel
theorem dX6_beat_41 : decode cX6_beat 41 = .ok (.iload 5, 2) := by decide +kernel
theorem dX6_beat_43 : decode cX6_beat 43 = .ok (.aload_n 0, 1) := by decide +kernel
theorem dX6_beat_44 : decode cX6_beat 44 = .ok (.iload_n 1, 1) := by decide +kernel
theorem dX6_beat_45 : decode cX6_beat 45 = .ok (.iload 6, 2) := by decide +kernel
theorem dX6_beat_47 : decode cX6_beat 47 = .ok (.invokevirtual 133, 3) := by decide +kernel
theorem dX6_beat_50 : decode cX6_beat 50 = .ok (.aload_n 0, 1) := by decide +kernel
theorem dX6_beat_51 : decode cX6_beat 51 = .ok (.iload_n 1, 1) := by decide +kernel
theorem dX6_beat_52 : decode cX6_beat 52 = .ok (.iload 6, 2) := by decide +kernel
theorem dX6_beat_54 : decode cX6_beat 54 = .ok (.iload 4, 2) := by decide +kernel
theorem dX6_beat_56 : decode cX6_beat 56 = .ok (.iadd, 1) := by decide +kernel
theorem dX6_beat_57 : decode cX6_beat 57 = .ok (.invokevirtual 133, 3) := by decide +kernel
theorem dX6_beat_60 : decode cX6_beat 60 = .ok (.isub, 1) := by decide +kernel
theorem dX6_beat_61 : decode cX6_beat 61 = .ok (.invokestatic 88, 3) := by decide +kernel
theorem dX6_beat_64 : decode cX6_beat 64 = .ok (.iadd, 1) := by decide +kernel
theorem dX6_beat_65 : decode cX6_beat 65 = .ok (.istore 5, 2) := by decide +kernel
theorem dX6_beat_67 : decode cX6_beat 67 = .ok (.iinc 6 1, 3) := by decide +kernel
theorem dX6_beat_70 : decode cX6_beat 70 = .ok (.goto (-36), 3) := by decide +kernel
theorem dX6_beat_73 : decode cX6_beat 73 = .ok (.iload_n 2, 1) := by decide +kernel
theorem dX6_beat_74 : decode cX6_beat 74 = .ok (.bipush (-6), 2) := by decide +kernel
theorem dX6_beat_76 : decode cX6_beat 76 = .ok (.if_icmp .eq 9, 3) := by decide +kernel
theorem dX6_beat_79 : decode cX6_beat 79 = .ok (.iload 5, 2) := by decide +kernel
theorem dX6_beat_81 : decode cX6_beat 81 = .ok (.iload_n 3, 1) := by decide +kernel
theorem dX6_beat_82 : decode cX6_beat 82 = .ok (.if_icmp .ge 7, 3) := by decide +kernel
theorem dX6_beat_85 : decode cX6_beat 85 = .ok (.iconst 1, 1) := by decide +kernel
theorem dX6_beat_86 : decode cX6_beat 86 = .ok (.goto 4, 3) := by decide +kernel
theorem dX6_beat_89 : decode cX6_beat 89 = .ok (.iconst 0, 1) := by decide +kernel
theorem dX6_beat_90 : decode cX6_beat 90 = .ok (.istore 6, 2) := by decide +kernel
theorem dX6_beat_92 : decode cX6_beat 92 = .ok (.iload 6, 2) := by decide +kernel
theorem dX6_beat_94 : decode cX6_beat 94 = .ok (.ifCond .eq 8, 3) := by decide +kernel
theorem dX6_beat_97 : decode cX6_beat 97 = .ok (.iload 4, 2) := by decide +kernel
theorem dX6_beat_99 : decode cX6_beat 99 = .ok (.goto 4, 3) := by decide +kernel
theorem dX6_beat_102 : decode cX6_beat 102 = .ok (.iload_n 2, 1) := by decide +kernel
theorem dX6_beat_103 : decode cX6_beat 103 = .ok (.istore_n 2, 1) := by decide +kernel
theorem dX6_beat_104 : decode cX6_beat 104 = .ok (.iload 6, 2) := by decide +kernel
theorem dX6_beat_106 : decode cX6_beat 106 = .ok (.ifCond .eq 8, 3) := by decide +kernel
theorem dX6_beat_109 : decode cX6_beat 109 = .ok (.iload 5, 2) := by decide +kernel
theorem dX6_beat_111 : decode cX6_beat 111 = .ok (.goto 4, 3) := by decide +kernel
theorem dX6_beat_114 : decode cX6_beat 114 = .ok (.iload_n 3, 1) := by decide +kernel
theorem dX6_beat_115 : decode cX6_beat 115 = .ok (.istore_n 3, 1) := by decide +kernel
theorem dX6_beat_116 : decode cX6_beat 116 = .ok (.iinc 4 1, 3) := by decide +kernel
theorem dX6_beat_119 : decode cX6_beat 119 = .ok (.goto (-98), 3) := by decide +kernel
theorem dX6_beat_122 : decode cX6_beat 122 = .ok (.iload_n 2, 1) := by decide +kernel
theorem dX6_beat_123 : decode cX6_beat 123 = .ok (.ireturn, 1) := by decide +kernel
theorem dX6_greatestSeen_0 : decode cX6_greatestSeen 0 = .ok (.bipush (-6), 2) := by decide +kernel
theorem dX6_greatestSeen_2 : decode cX6_greatestSeen 2 = .ok (.istore_n 2, 1) := by decide +kernel
theorem dX6_greatestSeen_3 : decode cX6_greatestSeen 3 = .ok (.iconst 0, 1) := by decide +kernel
theorem dX6_greatestSeen_4 : decode cX6_greatestSeen 4 = .ok (.istore_n 3, 1) := by decide +kernel
theorem dX6_greatestSeen_5 : decode cX6_greatestSeen 5 = .ok (.iload_n 3, 1) := by decide +kernel
theorem dX6_greatestSeen_6 : decode cX6_greatestSeen 6 = .ok (.aload_n 0, 1) := by decide +kernel
theorem dX6_greatestSeen_7 : decode cX6_greatestSeen 7 = .ok (.iload_n 1, 1) := by decide +kernel
theorem dX6_greatestSeen_8 : decode cX6_greatestSeen 8 = .ok (.invokevirtual 130, 3) := by decide +kernel
theorem dX6_greatestSeen_11 : decode cX6_greatestSeen 11 = .ok (.if_icmp .ge 34, 3) := by decide +kernel
theorem dX6_greatestSeen_14 : decode cX6_greatestSeen 14 = .ok (.aload_n 0, 1) := by decide +kernel
theorem dX6_greatestSeen_15 : decode cX6_greatestSeen 15 = .ok (.iload_n 1, 1) := by decide +kernel
theorem dX6_greatestSeen_16 : decode cX6_greatestSeen 16 = .ok (.iload_n 3, 1) := by decide +kernel
theorem dX6_greatestSeen_17 : decode cX6_greatestSeen 17 = .ok (.invokevirtual 133, 3) := by decide +kernel
theorem dX6_greatestSeen_20 : decode cX6_greatestSeen 20 = .ok (.sipush 10000, 3) := by decide +kernel
theorem dX6_greatestSeen_23 : decode cX6_greatestSeen 23 = .ok (.iadd, 1) := by decide +kernel
theorem dX6_greatestSeen_24 : decode cX6_greatestSeen 24 = .ok (.istore 4, 2) := by decide +kernel
theorem dX6_greatestSeen_26 : decode cX6_greatestSeen 26 = .ok (.iload 4, 2) := by decide +kernel
theorem dX6_greatestSeen_28 : decode cX6_greatestSeen 28 = .ok (.iload_n 2, 1) := by decide +kernel
theorem dX6_greatestSeen_29 : decode cX6_greatestSeen 29 = .ok (.if_icmp .le 8, 3) := by decide +kernel
theorem dX6_greatestSeen_32 : decode cX6_greatestSeen 32 = .ok (.iload 4, 2) := by decide +kernel
theorem dX6_greatestSeen_34 : decode cX6_greatestSeen 34 = .ok (.goto 4, 3) := by decide +kernel
theorem dX6_greatestSeen_37 : decode cX6_greatestSeen 37 = .ok (.iload_n 2, 1) := by decide +kernel
theorem dX6_greatestSeen_38 : decode cX6_greatestSeen 38 = .ok (.istore_n 2, 1) := by decide +kernel
theorem dX6_greatestSeen_39 : decode cX6_greatestSeen 39 = .ok (.iinc 3 1, 3) := by decide +kernel
theorem dX6_greatestSeen_42 : decode cX6_greatestSeen 42 = .ok (.goto (-37), 3) := by decide +kernel
theorem dX6_greatestSeen_45 : decode cX6_greatestSeen 45 = .ok (.iload_n 2, 1) := by decide +kernel
theorem dX6_greatestSeen_46 : decode cX6_greatestSeen 46 = .ok (.ireturn, 1) := by decide +kernel
theorem dX6_ofProbe_0 : decode cX6_ofProbe 0 = .ok (.aload_n 0, 1) := by decide +kernel
theorem dX6_ofProbe_1 : decode cX6_ofProbe 1 = .ok (.iload_n 1, 1) := by decide +kernel
theorem dX6_ofProbe_2 : decode cX6_ofProbe 2 = .ok (.invokevirtual 136, 3) := by decide +kernel
theorem dX6_ofProbe_5 : decode cX6_ofProbe 5 = .ok (.ifCond .ne 5, 3) := by decide +kernel
theorem dX6_ofProbe_8 : decode cX6_ofProbe 8 = .ok (.iconst (-1), 1) := by decide +kernel
theorem dX6_ofProbe_9 : decode cX6_ofProbe 9 = .ok (.ireturn, 1) := by decide +kernel
theorem dX6_ofProbe_10 : decode cX6_ofProbe 10 = .ok (.aload_n 0, 1) := by decide +kernel
theorem dX6_ofProbe_11 : decode cX6_ofProbe 11 = .ok (.getfield 7, 3) := by decide +kernel
theorem dX6_ofProbe_14 : decode cX6_ofProbe 14 = .ok (.sipush 267, 3) := by decide +kernel
theorem dX6_ofProbe_17 : decode cX6_ofProbe 17 = .ok (.bipush 26, 2) := by decide +kernel
theorem dX6_ofProbe_19 : decode cX6_ofProbe 19 = .ok (.iload_n 1, 1) := by decide +kernel
theorem dX6_ofProbe_20 : decode cX6_ofProbe 20 = .ok (.imul, 1) := by decide +kernel
theorem dX6_ofProbe_21 : decode cX6_ofProbe 21 = .ok (.iadd, 1) := by decide +kernel
theorem dX6_ofProbe_22 : decode cX6_ofProbe 22 = .ok (.iaload, 1) := by decide +kernel
theorem dX6_ofProbe_23 : decode cX6_ofProbe 23 = .ok (.istore_n 3, 1) := by decide +kernel
theorem dX6_ofProbe_24 : decode cX6_ofProbe 24 = .ok (.iload_n 2, 1) := by decide +kernel
theorem dX6_ofProbe_25 : decode cX6_ofProbe 25 = .ok (.tableswitch 63 0 4 #[35, 40, 45, 51, 57], 35) := by decide +kernel
theorem dX6_ofProbe_60 : decode cX6_ofProbe 60 = .ok (.iload_n 3, 1) := by decide +kernel
theorem dX6_ofProbe_61 : decode cX6_ofProbe 61 = .ok (.bipush 10, 2) := by decide +kernel
theorem dX6_ofProbe_63 : decode cX6_ofProbe 63 = .ok (.irem, 1) := by decide +kernel
theorem dX6_ofProbe_64 : decode cX6_ofProbe 64 = .ok (.ireturn, 1) := by decide +kernel
theorem dX6_ofProbe_65 : decode cX6_ofProbe 65 = .ok (.iload_n 3, 1) := by decide +kernel
theorem dX6_ofProbe_66 : decode cX6_ofProbe 66 = .ok (.bipush 10, 2) := by decide +kernel
theorem dX6_ofProbe_68 : decode cX6_ofProbe 68 = .ok (.idiv, 1) := by decide +kernel
theorem dX6_ofProbe_69 : decode cX6_ofProbe 69 = .ok (.ireturn, 1) := by decide +kernel
theorem dX6_ofProbe_70 : decode cX6_ofProbe 70 = .ok (.aload_n 0, 1) := by decide +kernel
theorem dX6_ofProbe_71 : decode cX6_ofProbe 71 = .ok (.iload_n 1, 1) := by decide +kernel
theorem dX6_ofProbe_72 : decode cX6_ofProbe 72 = .ok (.invokevirtual 130, 3) := by decide +kernel
theorem dX6_ofProbe_75 : decode cX6_ofProbe 75 = .ok (.ireturn, 1) := by decide +kernel
theorem dX6_ofProbe_76 : decode cX6_ofProbe 76 = .ok (.aload_n 0, 1) := by decide +kernel
theorem dX6_ofProbe_77 : decode cX6_ofProbe 77 = .ok (.iload_n 1, 1) := by decide +kernel
theorem dX6_ofProbe_78 : decode cX6_ofProbe 78 = .ok (.invokevirtual 139, 3) := by decide +kernel
theorem dX6_ofProbe_81 : decode cX6_ofProbe 81 = .ok (.ireturn, 1) := by decide +kernel
theorem dX6_ofProbe_82 : decode cX6_ofProbe 82 = .ok (.aload_n 0, 1) := by decide +kernel
theorem dX6_ofProbe_83 : decode cX6_ofProbe 83 = .ok (.iload_n 1, 1) := by decide +kernel
theorem dX6_ofProbe_84 : decode cX6_ofProbe 84 = .ok (.invokevirtual 142, 3) := by decide +kernel
theorem dX6_ofProbe_87 : decode cX6_ofProbe 87 = .ok (.ireturn, 1) := by decide +kernel
theorem dX6_ofProbe_88 : decode cX6_ofProbe 88 = .ok (.bipush (-2), 2) := by decide +kernel
theorem dX6_ofProbe_90 : decode cX6_ofProbe 90 = .ok (.ireturn, 1) := by decide +kernel
theorem dX6_seen_0 : decode cX6_seen 0 = .ok (.aload_n 0, 1) := by decide +kernel
theorem dX6_seen_1 : decode cX6_seen 1 = .ok (.iload_n 1, 1) := by decide +kernel
theorem dX6_seen_2 : decode cX6_seen 2 = .ok (.invokevirtual 136, 3) := by decide +kernel
theorem dX6_seen_5 : decode cX6_seen 5 = .ok (.ifCond .eq 31, 3) := by decide +kernel
theorem dX6_seen_8 : decode cX6_seen 8 = .ok (.iload_n 2, 1) := by decide +kernel
theorem dX6_seen_9 : decode cX6_seen 9 = .ok (.iconst 0, 1) := by decide +kernel
theorem dX6_seen_10 : decode cX6_seen 10 = .ok (.aload_n 0, 1) := by decide +kernel
theorem dX6_seen_11 : decode cX6_seen 11 = .ok (.iload_n 1, 1) := by decide +kernel
theorem dX6_seen_12 : decode cX6_seen 12 = .ok (.invokevirtual 130, 3) := by decide +kernel
theorem dX6_seen_15 : decode cX6_seen 15 = .ok (.iconst 1, 1) := by decide +kernel
theorem dX6_seen_16 : decode cX6_seen 16 = .ok (.isub, 1) := by decide +kernel
theorem dX6_seen_17 : decode cX6_seen 17 = .ok (.invokestatic 36, 3) := by decide +kernel
theorem dX6_seen_20 : decode cX6_seen 20 = .ok (.ifCond .eq 16, 3) := by decide +kernel
theorem dX6_seen_23 : decode cX6_seen 23 = .ok (.aload_n 0, 1) := by decide +kernel
theorem dX6_seen_24 : decode cX6_seen 24 = .ok (.iload_n 1, 1) := by decide +kernel
theorem dX6_seen_25 : decode cX6_seen 25 = .ok (.iload_n 2, 1) := by decide +kernel
theorem dX6_seen_26 : decode cX6_seen 26 = .ok (.invokevirtual 133, 3) := by decide +kernel
theorem dX6_seen_29 : decode cX6_seen 29 = .ok (.sipush 10000, 3) := by decide +kernel
theorem dX6_seen_32 : decode cX6_seen 32 = .ok (.iadd, 1) := by decide +kernel
theorem dX6_seen_33 : decode cX6_seen 33 = .ok (.goto 4, 3) := by decide +kernel
theorem dX6_seen_36 : decode cX6_seen 36 = .ok (.iconst (-1), 1) := by decide +kernel
theorem dX6_seen_37 : decode cX6_seen 37 = .ok (.ireturn, 1) := by decide +kernel
theorem dX6_sum_0 : decode cX6_sum 0 = .ok (.iconst 0, 1) := by decide +kernel
theorem dX6_sum_1 : decode cX6_sum 1 = .ok (.istore_n 1, 1) := by decide +kernel
theorem dX6_sum_2 : decode cX6_sum 2 = .ok (.iconst 0, 1) := by decide +kernel
theorem dX6_sum_3 : decode cX6_sum 3 = .ok (.istore_n 2, 1) := by decide +kernel
theorem dX6_sum_4 : decode cX6_sum 4 = .ok (.iload_n 2, 1) := by decide +kernel
theorem dX6_sum_5 : decode cX6_sum 5 = .ok (.bipush 60, 2) := by decide +kernel
theorem dX6_sum_7 : decode cX6_sum 7 = .ok (.if_icmp .ge 17, 3) := by decide +kernel
theorem dX6_sum_10 : decode cX6_sum 10 = .ok (.iload_n 1, 1) := by decide +kernel
theorem dX6_sum_11 : decode cX6_sum 11 = .ok (.aload_n 0, 1) := by decide +kernel
theorem dX6_sum_12 : decode cX6_sum 12 = .ok (.iload_n 2, 1) := by decide +kernel
theorem dX6_sum_13 : decode cX6_sum 13 = .ok (.invokevirtual 85, 3) := by decide +kernel
theorem dX6_sum_16 : decode cX6_sum 16 = .ok (.iadd, 1) := by decide +kernel
theorem dX6_sum_17 : decode cX6_sum 17 = .ok (.istore_n 1, 1) := by decide +kernel
theorem dX6_sum_18 : decode cX6_sum 18 = .ok (.iinc 2 1, 3) := by decide +kernel
theorem dX6_sum_21 : decode cX6_sum 21 = .ok (.goto (-17), 3) := by decide +kernel
theorem dX6_sum_24 : decode cX6_sum 24 = .ok (.iload_n 1, 1) := by decide +kernel
theorem dX6_sum_25 : decode cX6_sum 25 = .ok (.ireturn, 1) := by decide +kernel
theorem dX6_greatest_0 : decode cX6_greatest 0 = .ok (.iconst 0, 1) := by decide +kernel
theorem dX6_greatest_1 : decode cX6_greatest 1 = .ok (.istore_n 1, 1) := by decide +kernel
theorem dX6_greatest_2 : decode cX6_greatest 2 = .ok (.iconst 0, 1) := by decide +kernel
theorem dX6_greatest_3 : decode cX6_greatest 3 = .ok (.istore_n 2, 1) := by decide +kernel
theorem dX6_greatest_4 : decode cX6_greatest 4 = .ok (.iload_n 2, 1) := by decide +kernel
theorem dX6_greatest_5 : decode cX6_greatest 5 = .ok (.bipush 60, 2) := by decide +kernel
theorem dX6_greatest_7 : decode cX6_greatest 7 = .ok (.if_icmp .ge 34, 3) := by decide +kernel
theorem dX6_greatest_10 : decode cX6_greatest 10 = .ok (.aload_n 0, 1) := by decide +kernel
theorem dX6_greatest_11 : decode cX6_greatest 11 = .ok (.iload_n 2, 1) := by decide +kernel
theorem dX6_greatest_12 : decode cX6_greatest 12 = .ok (.invokevirtual 85, 3) := by decide +kernel
theorem dX6_greatest_15 : decode cX6_greatest 15 = .ok (.invokestatic 88, 3) := by decide +kernel
theorem dX6_greatest_18 : decode cX6_greatest 18 = .ok (.iload_n 1, 1) := by decide +kernel
theorem dX6_greatest_19 : decode cX6_greatest 19 = .ok (.if_icmp .le 14, 3) := by decide +kernel
theorem dX6_greatest_22 : decode cX6_greatest 22 = .ok (.aload_n 0, 1) := by decide +kernel
theorem dX6_greatest_23 : decode cX6_greatest 23 = .ok (.iload_n 2, 1) := by decide +kernel
theorem dX6_greatest_24 : decode cX6_greatest 24 = .ok (.invokevirtual 85, 3) := by decide +kernel
theorem dX6_greatest_27 : decode cX6_greatest 27 = .ok (.invokestatic 88, 3) := by decide +kernel
theorem dX6_greatest_30 : decode cX6_greatest 30 = .ok (.goto 4, 3) := by decide +kernel
theorem dX6_greatest_33 : decode cX6_greatest 33 = .ok (.iload_n 1, 1) := by decide +kernel
theorem dX6_greatest_34 : decode cX6_greatest 34 = .ok (.istore_n 1, 1) := by decide +kernel
theorem dX6_greatest_35 : decode cX6_greatest 35 = .ok (.iinc 2 1, 3) := by decide +kernel
theorem dX6_greatest_38 : decode cX6_greatest 38 = .ok (.goto (-34), 3) := by decide +kernel
theorem dX6_greatest_41 : decode cX6_greatest 41 = .ok (.iload_n 1, 1) := by decide +kernel
theorem dX6_greatest_42 : decode cX6_greatest 42 = .ok (.ireturn, 1) := by decide +kernel
theorem dX6_come_0 : decode cX6_come 0 = .ok (.iconst 0, 1) := by decide +kernel
theorem dX6_come_1 : decode cX6_come 1 = .ok (.istore_n 1, 1) := by decide +kernel
theorem dX6_come_2 : decode cX6_come 2 = .ok (.iconst 0, 1) := by decide +kernel
theorem dX6_come_3 : decode cX6_come 3 = .ok (.istore_n 2, 1) := by decide +kernel
theorem dX6_come_4 : decode cX6_come 4 = .ok (.iload_n 2, 1) := by decide +kernel
theorem dX6_come_5 : decode cX6_come 5 = .ok (.bipush 60, 2) := by decide +kernel
theorem dX6_come_7 : decode cX6_come 7 = .ok (.if_icmp .ge 32, 3) := by decide +kernel
theorem dX6_come_10 : decode cX6_come 10 = .ok (.iload_n 1, 1) := by decide +kernel
theorem dX6_come_11 : decode cX6_come 11 = .ok (.aload_n 0, 1) := by decide +kernel
theorem dX6_come_12 : decode cX6_come 12 = .ok (.getfield 7, 3) := by decide +kernel
theorem dX6_come_15 : decode cX6_come 15 = .ok (.sipush 185, 3) := by decide +kernel
theorem dX6_come_18 : decode cX6_come 18 = .ok (.iload_n 2, 1) := by decide +kernel
theorem dX6_come_19 : decode cX6_come 19 = .ok (.iadd, 1) := by decide +kernel
theorem dX6_come_20 : decode cX6_come 20 = .ok (.iaload, 1) := by decide +kernel
theorem dX6_come_21 : decode cX6_come 21 = .ok (.bipush (-6), 2) := by decide +kernel
theorem dX6_come_23 : decode cX6_come 23 = .ok (.if_icmp .ne 7, 3) := by decide +kernel
theorem dX6_come_26 : decode cX6_come 26 = .ok (.iconst 0, 1) := by decide +kernel
theorem dX6_come_27 : decode cX6_come 27 = .ok (.goto 4, 3) := by decide +kernel
theorem dX6_come_30 : decode cX6_come 30 = .ok (.iconst 1, 1) := by decide +kernel
theorem dX6_come_31 : decode cX6_come 31 = .ok (.iadd, 1) := by decide +kernel
theorem dX6_come_32 : decode cX6_come 32 = .ok (.istore_n 1, 1) := by decide +kernel
theorem dX6_come_33 : decode cX6_come 33 = .ok (.iinc 2 1, 3) := by decide +kernel
theorem dX6_come_36 : decode cX6_come 36 = .ok (.goto (-32), 3) := by decide +kernel
theorem dX6_come_39 : decode cX6_come 39 = .ok (.iload_n 1, 1) := by decide +kernel
theorem dX6_come_40 : decode cX6_come 40 = .ok (.ireturn, 1) := by decide +kernel
theorem dX6_count_0 : decode cX6_count 0 = .ok (.iload_n 1, 1) := by decide +kernel
theorem dX6_count_1 : decode cX6_count 1 = .ok (.tableswitch 153 0 14 #[75, 82, 87, 92, 100, 105, 110, 115, 124, 133, 133, 133, 133, 143, 148], 75) := by decide +kernel
theorem dX6_count_76 : decode cX6_count 76 = .ok (.aload_n 0, 1) := by decide +kernel
theorem dX6_count_77 : decode cX6_count 77 = .ok (.getfield 7, 3) := by decide +kernel
theorem dX6_count_80 : decode cX6_count 80 = .ok (.iconst 4, 1) := by decide +kernel
theorem dX6_count_81 : decode cX6_count 81 = .ok (.iaload, 1) := by decide +kernel
theorem dX6_count_82 : decode cX6_count 82 = .ok (.ireturn, 1) := by decide +kernel
theorem dX6_count_83 : decode cX6_count 83 = .ok (.aload_n 0, 1) := by decide +kernel
theorem dX6_count_84 : decode cX6_count 84 = .ok (.invokevirtual 82, 3) := by decide +kernel
theorem dX6_count_87 : decode cX6_count 87 = .ok (.ireturn, 1) := by decide +kernel
theorem dX6_count_88 : decode cX6_count 88 = .ok (.aload_n 0, 1) := by decide +kernel
theorem dX6_count_89 : decode cX6_count 89 = .ok (.invokevirtual 127, 3) := by decide +kernel
theorem dX6_count_92 : decode cX6_count 92 = .ok (.ireturn, 1) := by decide +kernel
theorem dX6_count_93 : decode cX6_count 93 = .ok (.aload_n 0, 1) := by decide +kernel
theorem dX6_count_94 : decode cX6_count 94 = .ok (.invokevirtual 145, 3) := by decide +kernel
theorem dX6_count_97 : decode cX6_count 97 = .ok (.ldc 148, 2) := by decide +kernel
theorem dX6_count_99 : decode cX6_count 99 = .ok (.iadd, 1) := by decide +kernel
theorem dX6_count_100 : decode cX6_count 100 = .ok (.ireturn, 1) := by decide +kernel
theorem dX6_count_101 : decode cX6_count 101 = .ok (.aload_n 0, 1) := by decide +kernel
theorem dX6_count_102 : decode cX6_count 102 = .ok (.invokevirtual 91, 3) := by decide +kernel
theorem dX6_count_105 : decode cX6_count 105 = .ok (.ireturn, 1) := by decide +kernel
theorem dX6_count_106 : decode cX6_count 106 = .ok (.aload_n 0, 1) := by decide +kernel
theorem dX6_count_107 : decode cX6_count 107 = .ok (.invokevirtual 149, 3) := by decide +kernel
theorem dX6_count_110 : decode cX6_count 110 = .ok (.ireturn, 1) := by decide +kernel
theorem dX6_count_111 : decode cX6_count 111 = .ok (.aload_n 0, 1) := by decide +kernel
theorem dX6_count_112 : decode cX6_count 112 = .ok (.invokevirtual 152, 3) := by decide +kernel
theorem dX6_count_115 : decode cX6_count 115 = .ok (.ireturn, 1) := by decide +kernel
theorem dX6_count_116 : decode cX6_count 116 = .ok (.aload_n 0, 1) := by decide +kernel
theorem dX6_count_117 : decode cX6_count 117 = .ok (.getfield 7, 3) := by decide +kernel
theorem dX6_count_120 : decode cX6_count 120 = .ok (.sipush 245, 3) := by decide +kernel
theorem dX6_count_123 : decode cX6_count 123 = .ok (.iaload, 1) := by decide +kernel
theorem dX6_count_124 : decode cX6_count 124 = .ok (.ireturn, 1) := by decide +kernel
theorem dX6_count_125 : decode cX6_count 125 = .ok (.aload_n 0, 1) := by decide +kernel
theorem dX6_count_126 : decode cX6_count 126 = .ok (.getfield 7, 3) := by decide +kernel
theorem dX6_count_129 : decode cX6_count 129 = .ok (.sipush 266, 3) := by decide +kernel
theorem dX6_count_132 : decode cX6_count 132 = .ok (.iaload, 1) := by decide +kernel
theorem dX6_count_133 : decode cX6_count 133 = .ok (.ireturn, 1) := by decide +kernel
theorem dX6_count_134 : decode cX6_count 134 = .ok (.aload_n 0, 1) := by decide +kernel
theorem dX6_count_135 : decode cX6_count 135 = .ok (.getfield 7, 3) := by decide +kernel
theorem dX6_count_138 : decode cX6_count 138 = .ok (.iload_n 1, 1) := by decide +kernel
theorem dX6_count_139 : decode cX6_count 139 = .ok (.bipush 9, 2) := by decide +kernel
theorem dX6_count_141 : decode cX6_count 141 = .ok (.isub, 1) := by decide +kernel
theorem dX6_count_142 : decode cX6_count 142 = .ok (.iaload, 1) := by decide +kernel
theorem dX6_count_143 : decode cX6_count 143 = .ok (.ireturn, 1) := by decide +kernel
theorem dX6_count_144 : decode cX6_count 144 = .ok (.aload_n 0, 1) := by decide +kernel
theorem dX6_count_145 : decode cX6_count 145 = .ok (.getfield 79, 3) := by decide +kernel
theorem dX6_count_148 : decode cX6_count 148 = .ok (.ireturn, 1) := by decide +kernel
theorem dX6_count_149 : decode cX6_count 149 = .ok (.aload_n 0, 1) := by decide +kernel
theorem dX6_count_150 : decode cX6_count 150 = .ok (.getfield 40, 3) := by decide +kernel
theorem dX6_count_153 : decode cX6_count 153 = .ok (.ireturn, 1) := by decide +kernel
theorem dX6_count_154 : decode cX6_count 154 = .ok (.bipush (-2), 2) := by decide +kernel
theorem dX6_count_156 : decode cX6_count 156 = .ok (.ireturn, 1) := by decide +kernel
theorem dX6_loudest_0 : decode cX6_loudest 0 = .ok (.iload_n 1, 1) := by decide +kernel
theorem dX6_loudest_1 : decode cX6_loudest 1 = .ok (.iconst 0, 1) := by decide +kernel
theorem dX6_loudest_2 : decode cX6_loudest 2 = .ok (.iconst 1, 1) := by decide +kernel
theorem dX6_loudest_3 : decode cX6_loudest 3 = .ok (.invokestatic 36, 3) := by decide +kernel
theorem dX6_loudest_6 : decode cX6_loudest 6 = .ok (.ifCond .ne 6, 3) := by decide +kernel
theorem dX6_loudest_9 : decode cX6_loudest 9 = .ok (.bipush (-2), 2) := by decide +kernel
theorem dX6_loudest_11 : decode cX6_loudest 11 = .ok (.ireturn, 1) := by decide +kernel
theorem dX6_loudest_12 : decode cX6_loudest 12 = .ok (.aload_n 0, 1) := by decide +kernel
theorem dX6_loudest_13 : decode cX6_loudest 13 = .ok (.invokevirtual 149, 3) := by decide +kernel
theorem dX6_loudest_16 : decode cX6_loudest 16 = .ok (.istore_n 2, 1) := by decide +kernel
theorem dX6_loudest_17 : decode cX6_loudest 17 = .ok (.iconst 0, 1) := by decide +kernel
theorem dX6_loudest_18 : decode cX6_loudest 18 = .ok (.istore_n 3, 1) := by decide +kernel
theorem dX6_loudest_19 : decode cX6_loudest 19 = .ok (.iload_n 3, 1) := by decide +kernel
theorem dX6_loudest_20 : decode cX6_loudest 20 = .ok (.bipush 60, 2) := by decide +kernel
theorem dX6_loudest_22 : decode cX6_loudest 22 = .ok (.if_icmp .ge 41, 3) := by decide +kernel
theorem dX6_loudest_25 : decode cX6_loudest 25 = .ok (.iload_n 2, 1) := by decide +kernel
theorem dX6_loudest_26 : decode cX6_loudest 26 = .ok (.ifCond .le 37, 3) := by decide +kernel
theorem dX6_loudest_29 : decode cX6_loudest 29 = .ok (.aload_n 0, 1) := by decide +kernel
theorem dX6_loudest_30 : decode cX6_loudest 30 = .ok (.iload_n 3, 1) := by decide +kernel
theorem dX6_loudest_31 : decode cX6_loudest 31 = .ok (.invokevirtual 85, 3) := by decide +kernel
theorem dX6_loudest_34 : decode cX6_loudest 34 = .ok (.invokestatic 88, 3) := by decide +kernel
theorem dX6_loudest_37 : decode cX6_loudest 37 = .ok (.iload_n 2, 1) := by decide +kernel
theorem dX6_loudest_38 : decode cX6_loudest 38 = .ok (.if_icmp .ne 19, 3) := by decide +kernel
theorem dX6_loudest_41 : decode cX6_loudest 41 = .ok (.iload_n 1, 1) := by decide +kernel
theorem dX6_loudest_42 : decode cX6_loudest 42 = .ok (.ifCond .ne 10, 3) := by decide +kernel
theorem dX6_loudest_45 : decode cX6_loudest 45 = .ok (.iload_n 3, 1) := by decide +kernel
theorem dX6_loudest_46 : decode cX6_loudest 46 = .ok (.bipush 10, 2) := by decide +kernel
theorem dX6_loudest_48 : decode cX6_loudest 48 = .ok (.irem, 1) := by decide +kernel
theorem dX6_loudest_49 : decode cX6_loudest 49 = .ok (.goto 7, 3) := by decide +kernel
theorem dX6_loudest_52 : decode cX6_loudest 52 = .ok (.iload_n 3, 1) := by decide +kernel
theorem dX6_loudest_53 : decode cX6_loudest 53 = .ok (.bipush 10, 2) := by decide +kernel
theorem dX6_loudest_55 : decode cX6_loudest 55 = .ok (.idiv, 1) := by decide +kernel
theorem dX6_loudest_56 : decode cX6_loudest 56 = .ok (.ireturn, 1) := by decide +kernel
theorem dX6_loudest_57 : decode cX6_loudest 57 = .ok (.iinc 3 1, 3) := by decide +kernel
theorem dX6_loudest_60 : decode cX6_loudest 60 = .ok (.goto (-41), 3) := by decide +kernel
theorem dX6_loudest_63 : decode cX6_loudest 63 = .ok (.bipush (-6), 2) := by decide +kernel
theorem dX6_loudest_65 : decode cX6_loudest 65 = .ok (.ireturn, 1) := by decide +kernel
theorem dX6_heightAt_0 : decode cX6_heightAt 0 = .ok (.iload_n 1, 1) := by decide +kernel
theorem dX6_heightAt_1 : decode cX6_heightAt 1 = .ok (.iload_n 2, 1) := by decide +kernel
theorem dX6_heightAt_2 : decode cX6_heightAt 2 = .ok (.invokestatic 58, 3) := by decide +kernel
theorem dX6_heightAt_5 : decode cX6_heightAt 5 = .ok (.ifCond .eq 16, 3) := by decide +kernel
theorem dX6_heightAt_8 : decode cX6_heightAt 8 = .ok (.aload_n 0, 1) := by decide +kernel
theorem dX6_heightAt_9 : decode cX6_heightAt 9 = .ok (.bipush 10, 2) := by decide +kernel
theorem dX6_heightAt_11 : decode cX6_heightAt 11 = .ok (.iload_n 2, 1) := by decide +kernel
theorem dX6_heightAt_12 : decode cX6_heightAt 12 = .ok (.imul, 1) := by decide +kernel
theorem dX6_heightAt_13 : decode cX6_heightAt 13 = .ok (.iload_n 1, 1) := by decide +kernel
theorem dX6_heightAt_14 : decode cX6_heightAt 14 = .ok (.iadd, 1) := by decide +kernel
theorem dX6_heightAt_15 : decode cX6_heightAt 15 = .ok (.invokevirtual 85, 3) := by decide +kernel
theorem dX6_heightAt_18 : decode cX6_heightAt 18 = .ok (.goto 4, 3) := by decide +kernel
theorem dX6_heightAt_21 : decode cX6_heightAt 21 = .ok (.iconst 0, 1) := by decide +kernel
theorem dX6_heightAt_22 : decode cX6_heightAt 22 = .ok (.ireturn, 1) := by decide +kernel
theorem dX6_crests_0 : decode cX6_crests 0 = .ok (.iload_n 1, 1) := by decide +kernel
theorem dX6_crests_1 : decode cX6_crests 1 = .ok (.iconst 0, 1) := by decide +kernel
theorem dX6_crests_2 : decode cX6_crests 2 = .ok (.iconst 5, 1) := by decide +kernel
theorem dX6_crests_3 : decode cX6_crests 3 = .ok (.invokestatic 36, 3) := by decide +kernel
theorem dX6_crests_6 : decode cX6_crests 6 = .ok (.ifCond .ne 5, 3) := by decide +kernel
theorem dX6_crests_9 : decode cX6_crests 9 = .ok (.iconst (-1), 1) := by decide +kernel
theorem dX6_crests_10 : decode cX6_crests 10 = .ok (.ireturn, 1) := by decide +kernel
theorem dX6_crests_11 : decode cX6_crests 11 = .ok (.iconst 0, 1) := by decide +kernel
theorem dX6_crests_12 : decode cX6_crests 12 = .ok (.istore_n 2, 1) := by decide +kernel
theorem dX6_crests_13 : decode cX6_crests 13 = .ok (.iconst 0, 1) := by decide +kernel
theorem dX6_crests_14 : decode cX6_crests 14 = .ok (.istore_n 3, 1) := by decide +kernel
theorem dX6_crests_15 : decode cX6_crests 15 = .ok (.iload_n 3, 1) := by decide +kernel
theorem dX6_crests_16 : decode cX6_crests 16 = .ok (.bipush 10, 2) := by decide +kernel
theorem dX6_crests_18 : decode cX6_crests 18 = .ok (.if_icmp .ge 56, 3) := by decide +kernel
theorem dX6_crests_21 : decode cX6_crests 21 = .ok (.aload_n 0, 1) := by decide +kernel
theorem dX6_crests_22 : decode cX6_crests 22 = .ok (.iload_n 3, 1) := by decide +kernel
theorem dX6_crests_23 : decode cX6_crests 23 = .ok (.iload_n 1, 1) := by decide +kernel
theorem dX6_crests_24 : decode cX6_crests 24 = .ok (.invokevirtual 155, 3) := by decide +kernel
theorem dX6_crests_27 : decode cX6_crests 27 = .ok (.istore 4, 2) := by decide +kernel
theorem dX6_crests_29 : decode cX6_crests 29 = .ok (.iload_n 2, 1) := by decide +kernel
theorem dX6_crests_30 : decode cX6_crests 30 = .ok (.iload 4, 2) := by decide +kernel
theorem dX6_crests_32 : decode cX6_crests 32 = .ok (.ifCond .le 33, 3) := by decide +kernel
theorem dX6_crests_35 : decode cX6_crests 35 = .ok (.iload 4, 2) := by decide +kernel
theorem dX6_crests_37 : decode cX6_crests 37 = .ok (.aload_n 0, 1) := by decide +kernel
theorem dX6_crests_38 : decode cX6_crests 38 = .ok (.iload_n 3, 1) := by decide +kernel
theorem dX6_crests_39 : decode cX6_crests 39 = .ok (.iconst 1, 1) := by decide +kernel
theorem dX6_crests_40 : decode cX6_crests 40 = .ok (.isub, 1) := by decide +kernel
theorem dX6_crests_41 : decode cX6_crests 41 = .ok (.iload_n 1, 1) := by decide +kernel
theorem dX6_crests_42 : decode cX6_crests 42 = .ok (.invokevirtual 155, 3) := by decide +kernel
theorem dX6_crests_45 : decode cX6_crests 45 = .ok (.if_icmp .le 20, 3) := by decide +kernel
theorem dX6_crests_48 : decode cX6_crests 48 = .ok (.iload 4, 2) := by decide +kernel
theorem dX6_crests_50 : decode cX6_crests 50 = .ok (.aload_n 0, 1) := by decide +kernel
theorem dX6_crests_51 : decode cX6_crests 51 = .ok (.iload_n 3, 1) := by decide +kernel
theorem dX6_crests_52 : decode cX6_crests 52 = .ok (.iconst 1, 1) := by decide +kernel
theorem dX6_crests_53 : decode cX6_crests 53 = .ok (.iadd, 1) := by decide +kernel
theorem dX6_crests_54 : decode cX6_crests 54 = .ok (.iload_n 1, 1) := by decide +kernel
theorem dX6_crests_55 : decode cX6_crests 55 = .ok (.invokevirtual 155, 3) := by decide +kernel
theorem dX6_crests_58 : decode cX6_crests 58 = .ok (.if_icmp .le 7, 3) := by decide +kernel
theorem dX6_crests_61 : decode cX6_crests 61 = .ok (.iconst 1, 1) := by decide +kernel
theorem dX6_crests_62 : decode cX6_crests 62 = .ok (.goto 4, 3) := by decide +kernel
theorem dX6_crests_65 : decode cX6_crests 65 = .ok (.iconst 0, 1) := by decide +kernel
theorem dX6_crests_66 : decode cX6_crests 66 = .ok (.iadd, 1) := by decide +kernel
theorem dX6_crests_67 : decode cX6_crests 67 = .ok (.istore_n 2, 1) := by decide +kernel
theorem dX6_crests_68 : decode cX6_crests 68 = .ok (.iinc 3 1, 3) := by decide +kernel
theorem dX6_crests_71 : decode cX6_crests 71 = .ok (.goto (-56), 3) := by decide +kernel
theorem dX6_crests_74 : decode cX6_crests 74 = .ok (.iload_n 2, 1) := by decide +kernel
theorem dX6_crests_75 : decode cX6_crests 75 = .ok (.ireturn, 1) := by decide +kernel
theorem dX6_ifPassed_0 : decode cX6_ifPassed 0 = .ok (.iload_n 1, 1) := by decide +kernel
theorem dX6_ifPassed_1 : decode cX6_ifPassed 1 = .ok (.iload_n 2, 1) := by decide +kernel
theorem dX6_ifPassed_2 : decode cX6_ifPassed 2 = .ok (.invokestatic 58, 3) := by decide +kernel
theorem dX6_ifPassed_5 : decode cX6_ifPassed 5 = .ok (.ifCond .ne 5, 3) := by decide +kernel
theorem dX6_ifPassed_8 : decode cX6_ifPassed 8 = .ok (.iconst (-1), 1) := by decide +kernel
theorem dX6_ifPassed_9 : decode cX6_ifPassed 9 = .ok (.ireturn, 1) := by decide +kernel
theorem dX6_ifPassed_10 : decode cX6_ifPassed 10 = .ok (.iload_n 3, 1) := by decide +kernel
theorem dX6_ifPassed_11 : decode cX6_ifPassed 11 = .ok (.iconst 1, 1) := by decide +kernel
theorem dX6_ifPassed_12 : decode cX6_ifPassed 12 = .ok (.bipush 60, 2) := by decide +kernel
theorem dX6_ifPassed_14 : decode cX6_ifPassed 14 = .ok (.invokestatic 36, 3) := by decide +kernel
theorem dX6_ifPassed_17 : decode cX6_ifPassed 17 = .ok (.ifCond .ne 6, 3) := by decide +kernel
theorem dX6_ifPassed_20 : decode cX6_ifPassed 20 = .ok (.bipush (-2), 2) := by decide +kernel
theorem dX6_ifPassed_22 : decode cX6_ifPassed 22 = .ok (.ireturn, 1) := by decide +kernel
theorem dX6_ifPassed_23 : decode cX6_ifPassed 23 = .ok (.aload_n 0, 1) := by decide +kernel
theorem dX6_ifPassed_24 : decode cX6_ifPassed 24 = .ok (.invokevirtual 158, 3) := by decide +kernel
theorem dX6_ifPassed_27 : decode cX6_ifPassed 27 = .ok (.aload_n 0, 1) := by decide +kernel
theorem dX6_ifPassed_28 : decode cX6_ifPassed 28 = .ok (.iload_n 3, 1) := by decide +kernel
theorem dX6_ifPassed_29 : decode cX6_ifPassed 29 = .ok (.invokevirtual 124, 3) := by decide +kernel
theorem dX6_ifPassed_32 : decode cX6_ifPassed 32 = .ok (.aload_n 0, 1) := by decide +kernel
theorem dX6_ifPassed_33 : decode cX6_ifPassed 33 = .ok (.bipush 10, 2) := by decide +kernel
theorem dX6_ifPassed_35 : decode cX6_ifPassed 35 = .ok (.iload_n 2, 1) := by decide +kernel
theorem dX6_ifPassed_36 : decode cX6_ifPassed 36 = .ok (.imul, 1) := by decide +kernel
theorem dX6_ifPassed_37 : decode cX6_ifPassed 37 = .ok (.iload_n 1, 1) := by decide +kernel
theorem dX6_ifPassed_38 : decode cX6_ifPassed 38 = .ok (.iadd, 1) := by decide +kernel
theorem dX6_ifPassed_39 : decode cX6_ifPassed 39 = .ok (.invokevirtual 85, 3) := by decide +kernel
theorem dX6_ifPassed_42 : decode cX6_ifPassed 42 = .ok (.sipush 10000, 3) := by decide +kernel
theorem dX6_ifPassed_45 : decode cX6_ifPassed 45 = .ok (.iadd, 1) := by decide +kernel
theorem dX6_ifPassed_46 : decode cX6_ifPassed 46 = .ok (.istore 4, 2) := by decide +kernel
theorem dX6_ifPassed_48 : decode cX6_ifPassed 48 = .ok (.aload_n 0, 1) := by decide +kernel
theorem dX6_ifPassed_49 : decode cX6_ifPassed 49 = .ok (.invokevirtual 161, 3) := by decide +kernel
theorem dX6_ifPassed_52 : decode cX6_ifPassed 52 = .ok (.iload 4, 2) := by decide +kernel
theorem dX6_ifPassed_54 : decode cX6_ifPassed 54 = .ok (.ireturn, 1) := by decide +kernel
theorem dX6_comes_0 : decode cX6_comes 0 = .ok (.iload_n 1, 1) := by decide +kernel
theorem dX6_comes_1 : decode cX6_comes 1 = .ok (.iload_n 2, 1) := by decide +kernel
theorem dX6_comes_2 : decode cX6_comes 2 = .ok (.invokestatic 58, 3) := by decide +kernel
theorem dX6_comes_5 : decode cX6_comes 5 = .ok (.ifCond .ne 5, 3) := by decide +kernel
theorem dX6_comes_8 : decode cX6_comes 8 = .ok (.iconst (-1), 1) := by decide +kernel
theorem dX6_comes_9 : decode cX6_comes 9 = .ok (.ireturn, 1) := by decide +kernel
theorem dX6_comes_10 : decode cX6_comes 10 = .ok (.bipush 10, 2) := by decide +kernel
theorem dX6_comes_12 : decode cX6_comes 12 = .ok (.iload_n 2, 1) := by decide +kernel
theorem dX6_comes_13 : decode cX6_comes 13 = .ok (.imul, 1) := by decide +kernel
theorem dX6_comes_14 : decode cX6_comes 14 = .ok (.iload_n 1, 1) := by decide +kernel
theorem dX6_comes_15 : decode cX6_comes 15 = .ok (.iadd, 1) := by decide +kernel
theorem dX6_comes_16 : decode cX6_comes 16 = .ok (.istore_n 3, 1) := by decide +kernel
theorem dX6_comes_17 : decode cX6_comes 17 = .ok (.aload_n 0, 1) := by decide +kernel
theorem dX6_comes_18 : decode cX6_comes 18 = .ok (.iload_n 3, 1) := by decide +kernel
theorem dX6_comes_19 : decode cX6_comes 19 = .ok (.invokevirtual 117, 3) := by decide +kernel
theorem dX6_comes_22 : decode cX6_comes 22 = .ok (.ifCond .ne 6, 3) := by decide +kernel
theorem dX6_comes_25 : decode cX6_comes 25 = .ok (.bipush (-5), 2) := by decide +kernel
theorem dX6_comes_27 : decode cX6_comes 27 = .ok (.ireturn, 1) := by decide +kernel
theorem dX6_comes_28 : decode cX6_comes 28 = .ok (.aload_n 0, 1) := by decide +kernel
theorem dX6_comes_29 : decode cX6_comes 29 = .ok (.invokevirtual 158, 3) := by decide +kernel
theorem dX6_comes_32 : decode cX6_comes 32 = .ok (.bipush (-6), 2) := by decide +kernel
theorem dX6_comes_34 : decode cX6_comes 34 = .ok (.istore 4, 2) := by decide +kernel
theorem dX6_comes_36 : decode cX6_comes 36 = .ok (.iconst 1, 1) := by decide +kernel
theorem dX6_comes_37 : decode cX6_comes 37 = .ok (.istore 5, 2) := by decide +kernel
theorem dX6_comes_39 : decode cX6_comes 39 = .ok (.iload 5, 2) := by decide +kernel
theorem dX6_comes_41 : decode cX6_comes 41 = .ok (.bipush 80, 2) := by decide +kernel
theorem dX6_comes_43 : decode cX6_comes 43 = .ok (.if_icmp .gt 37, 3) := by decide +kernel
theorem dX6_comes_46 : decode cX6_comes 46 = .ok (.iload 4, 2) := by decide +kernel
theorem dX6_comes_48 : decode cX6_comes 48 = .ok (.bipush (-6), 2) := by decide +kernel
theorem dX6_comes_50 : decode cX6_comes 50 = .ok (.if_icmp .ne 30, 3) := by decide +kernel
theorem dX6_comes_53 : decode cX6_comes 53 = .ok (.aload_n 0, 1) := by decide +kernel
theorem dX6_comes_54 : decode cX6_comes 54 = .ok (.invokevirtual 120, 3) := by decide +kernel
theorem dX6_comes_57 : decode cX6_comes 57 = .ok (.aload_n 0, 1) := by decide +kernel
theorem dX6_comes_58 : decode cX6_comes 58 = .ok (.iload_n 3, 1) := by decide +kernel
theorem dX6_comes_59 : decode cX6_comes 59 = .ok (.invokevirtual 117, 3) := by decide +kernel
theorem dX6_comes_62 : decode cX6_comes 62 = .ok (.ifCond .eq 8, 3) := by decide +kernel
theorem dX6_comes_65 : decode cX6_comes 65 = .ok (.bipush (-6), 2) := by decide +kernel
theorem dX6_comes_67 : decode cX6_comes 67 = .ok (.goto 5, 3) := by decide +kernel
theorem dX6_comes_70 : decode cX6_comes 70 = .ok (.iload 5, 2) := by decide +kernel
theorem dX6_comes_72 : decode cX6_comes 72 = .ok (.istore 4, 2) := by decide +kernel
theorem dX6_comes_74 : decode cX6_comes 74 = .ok (.iinc 5 1, 3) := by decide +kernel
theorem dX6_comes_77 : decode cX6_comes 77 = .ok (.goto (-38), 3) := by decide +kernel
theorem dX6_comes_80 : decode cX6_comes 80 = .ok (.aload_n 0, 1) := by decide +kernel
theorem dX6_comes_81 : decode cX6_comes 81 = .ok (.invokevirtual 161, 3) := by decide +kernel
theorem dX6_comes_84 : decode cX6_comes 84 = .ok (.iload 4, 2) := by decide +kernel
theorem dX6_comes_86 : decode cX6_comes 86 = .ok (.ireturn, 1) := by decide +kernel
theorem dX6_hush_0 : decode cX6_hush 0 = .ok (.aload_n 0, 1) := by decide +kernel
theorem dX6_hush_1 : decode cX6_hush 1 = .ok (.iload_n 1, 1) := by decide +kernel
theorem dX6_hush_2 : decode cX6_hush 2 = .ok (.invokevirtual 94, 3) := by decide +kernel
theorem dX6_hush_5 : decode cX6_hush 5 = .ok (.ifCond .eq 11, 3) := by decide +kernel
theorem dX6_hush_8 : decode cX6_hush 8 = .ok (.iload_n 2, 1) := by decide +kernel
theorem dX6_hush_9 : decode cX6_hush 9 = .ok (.iload_n 3, 1) := by decide +kernel
theorem dX6_hush_10 : decode cX6_hush 10 = .ok (.invokestatic 58, 3) := by decide +kernel
theorem dX6_hush_13 : decode cX6_hush 13 = .ok (.ifCond .ne 5, 3) := by decide +kernel
theorem dX6_hush_16 : decode cX6_hush 16 = .ok (.iconst (-1), 1) := by decide +kernel
theorem dX6_hush_17 : decode cX6_hush 17 = .ok (.ireturn, 1) := by decide +kernel
theorem dX6_hush_18 : decode cX6_hush 18 = .ok (.iload 4, 2) := by decide +kernel
theorem dX6_hush_20 : decode cX6_hush 20 = .ok (.iconst 1, 1) := by decide +kernel
