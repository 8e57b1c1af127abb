theorem dX5_read_20 : decode cX5_read 20 = .ok (.getfield 12, 3) := by decide +kernel
theorem dX5_read_23 : decode cX5_read 23 = .ok (.invokevirtual 48, 3) := by decide +kernel
theorem dX5_read_26 : decode cX5_read 26 = .ok (.aload_n 0, 1) := by decide +kernel
theorem dX5_read_27 : decode cX5_read 27 = .ok (.getfield 12, 3) := by decide +kernel
theorem dX5_read_30 : decode cX5_read 30 = .ok (.aload_n 0, 1) := by decide +kernel
theorem dX5_read_31 : decode cX5_read 31 = .ok (.getfield 37, 3) := by decide +kernel
theorem dX5_read_34 : decode cX5_read 34 = .ok (.invokevirtual 84, 3) := by decide +kernel
theorem dX5_read_37 : decode cX5_read 37 = .ok (.aload_n 0, 1) := by decide +kernel
theorem dX5_read_38 : decode cX5_read 38 = .ok (.getfield 37, 3) := by decide +kernel
theorem dX5_read_41 : decode cX5_read 41 = .ok (.iconst 0, 1) := by decide +kernel
theorem dX5_read_42 : decode cX5_read 42 = .ok (.putfield 88, 3) := by decide +kernel
theorem dX5_read_45 : decode cX5_read 45 = .ok (.aload_n 0, 1) := by decide +kernel
theorem dX5_read_46 : decode cX5_read 46 = .ok (.getfield 12, 3) := by decide +kernel
theorem dX5_read_49 : decode cX5_read 49 = .ok (.invokevirtual 92, 3) := by decide +kernel
theorem dX5_read_52 : decode cX5_read 52 = .ok (.ireturn, 1) := by decide +kernel
theorem dX5_clear_0 : decode cX5_clear 0 = .ok (.aload_n 0, 1) := by decide +kernel
theorem dX5_clear_1 : decode cX5_clear 1 = .ok (.getfield 22, 3) := by decide +kernel
theorem dX5_clear_4 : decode cX5_clear 4 = .ok (.aload_n 0, 1) := by decide +kernel
theorem dX5_clear_5 : decode cX5_clear 5 = .ok (.getfield 12, 3) := by decide +kernel
theorem dX5_clear_8 : decode cX5_clear 8 = .ok (.invokevirtual 48, 3) := by decide +kernel
theorem dX5_clear_11 : decode cX5_clear 11 = .ok (.aload_n 0, 1) := by decide +kernel
theorem dX5_clear_12 : decode cX5_clear 12 = .ok (.getfield 12, 3) := by decide +kernel
theorem dX5_clear_15 : decode cX5_clear 15 = .ok (.invokevirtual 95, 3) := by decide +kernel
theorem dX5_clear_18 : decode cX5_clear 18 = .ok (.istore_n 1, 1) := by decide +kernel
theorem dX5_clear_19 : decode cX5_clear 19 = .ok (.aload_n 0, 1) := by decide +kernel
theorem dX5_clear_20 : decode cX5_clear 20 = .ok (.getfield 12, 3) := by decide +kernel
theorem dX5_clear_23 : decode cX5_clear 23 = .ok (.invokevirtual 98, 3) := by decide +kernel
theorem dX5_clear_26 : decode cX5_clear 26 = .ok (.iload_n 1, 1) := by decide +kernel
theorem dX5_clear_27 : decode cX5_clear 27 = .ok (.ireturn, 1) := by decide +kernel
theorem dX5_dip_0 : decode cX5_dip 0 = .ok (.iload_n 1, 1) := by decide +kernel
theorem dX5_dip_1 : decode cX5_dip 1 = .ok (.iload_n 2, 1) := by decide +kernel
theorem dX5_dip_2 : decode cX5_dip 2 = .ok (.invokestatic 55, 3) := by decide +kernel
theorem dX5_dip_5 : decode cX5_dip 5 = .ok (.ifCond .ne 5, 3) := by decide +kernel
theorem dX5_dip_8 : decode cX5_dip 8 = .ok (.iconst (-1), 1) := by decide +kernel
theorem dX5_dip_9 : decode cX5_dip 9 = .ok (.ireturn, 1) := by decide +kernel
theorem dX5_dip_10 : decode cX5_dip 10 = .ok (.iload_n 3, 1) := by decide +kernel
theorem dX5_dip_11 : decode cX5_dip 11 = .ok (.iconst 2, 1) := by decide +kernel
theorem dX5_dip_12 : decode cX5_dip 12 = .ok (.bipush 40, 2) := by decide +kernel
theorem dX5_dip_14 : decode cX5_dip 14 = .ok (.invokestatic 101, 3) := by decide +kernel
theorem dX5_dip_17 : decode cX5_dip 17 = .ok (.ifCond .eq 27, 3) := by decide +kernel
theorem dX5_dip_20 : decode cX5_dip 20 = .ok (.iload 4, 2) := by decide +kernel
theorem dX5_dip_22 : decode cX5_dip 22 = .ok (.iconst 1, 1) := by decide +kernel
theorem dX5_dip_23 : decode cX5_dip 23 = .ok (.sipush 900, 3) := by decide +kernel
theorem dX5_dip_26 : decode cX5_dip 26 = .ok (.invokestatic 101, 3) := by decide +kernel
theorem dX5_dip_29 : decode cX5_dip 29 = .ok (.ifCond .eq 15, 3) := by decide +kernel
theorem dX5_dip_32 : decode cX5_dip 32 = .ok (.iload 5, 2) := by decide +kernel
theorem dX5_dip_34 : decode cX5_dip 34 = .ok (.iconst 0, 1) := by decide +kernel
theorem dX5_dip_35 : decode cX5_dip 35 = .ok (.iload_n 3, 1) := by decide +kernel
theorem dX5_dip_36 : decode cX5_dip 36 = .ok (.iconst 1, 1) := by decide +kernel
theorem dX5_dip_37 : decode cX5_dip 37 = .ok (.isub, 1) := by decide +kernel
theorem dX5_dip_38 : decode cX5_dip 38 = .ok (.invokestatic 101, 3) := by decide +kernel
theorem dX5_dip_41 : decode cX5_dip 41 = .ok (.ifCond .ne 6, 3) := by decide +kernel
theorem dX5_dip_44 : decode cX5_dip 44 = .ok (.bipush (-2), 2) := by decide +kernel
theorem dX5_dip_46 : decode cX5_dip 46 = .ok (.ireturn, 1) := by decide +kernel
theorem dX5_dip_47 : decode cX5_dip 47 = .ok (.iload_n 1, 1) := by decide +kernel
theorem dX5_dip_48 : decode cX5_dip 48 = .ok (.iload_n 2, 1) := by decide +kernel
theorem dX5_dip_49 : decode cX5_dip 49 = .ok (.invokestatic 59, 3) := by decide +kernel
theorem dX5_dip_52 : decode cX5_dip 52 = .ok (.istore 6, 2) := by decide +kernel
theorem dX5_dip_54 : decode cX5_dip 54 = .ok (.aload_n 0, 1) := by decide +kernel
theorem dX5_dip_55 : decode cX5_dip 55 = .ok (.getfield 12, 3) := by decide +kernel
theorem dX5_dip_58 : decode cX5_dip 58 = .ok (.getfield 73, 3) := by decide +kernel
theorem dX5_dip_61 : decode cX5_dip 61 = .ok (.iload 6, 2) := by decide +kernel
theorem dX5_dip_63 : decode cX5_dip 63 = .ok (.iaload, 1) := by decide +kernel
theorem dX5_dip_64 : decode cX5_dip 64 = .ok (.iconst 2, 1) := by decide +kernel
theorem dX5_dip_65 : decode cX5_dip 65 = .ok (.if_icmp .ne 6, 3) := by decide +kernel
theorem dX5_dip_68 : decode cX5_dip 68 = .ok (.bipush (-5), 2) := by decide +kernel
theorem dX5_dip_70 : decode cX5_dip 70 = .ok (.ireturn, 1) := by decide +kernel
theorem dX5_dip_71 : decode cX5_dip 71 = .ok (.aload_n 0, 1) := by decide +kernel
theorem dX5_dip_72 : decode cX5_dip 72 = .ok (.getfield 12, 3) := by decide +kernel
theorem dX5_dip_75 : decode cX5_dip 75 = .ok (.getfield 63, 3) := by decide +kernel
theorem dX5_dip_78 : decode cX5_dip 78 = .ok (.getfield 105, 3) := by decide +kernel
theorem dX5_dip_81 : decode cX5_dip 81 = .ok (.iconst 5, 1) := by decide +kernel
theorem dX5_dip_82 : decode cX5_dip 82 = .ok (.if_icmp .lt 6, 3) := by decide +kernel
theorem dX5_dip_85 : decode cX5_dip 85 = .ok (.bipush (-4), 2) := by decide +kernel
theorem dX5_dip_87 : decode cX5_dip 87 = .ok (.ireturn, 1) := by decide +kernel
theorem dX5_dip_88 : decode cX5_dip 88 = .ok (.aload_n 0, 1) := by decide +kernel
theorem dX5_dip_89 : decode cX5_dip 89 = .ok (.getfield 22, 3) := by decide +kernel
theorem dX5_dip_92 : decode cX5_dip 92 = .ok (.aload_n 0, 1) := by decide +kernel
theorem dX5_dip_93 : decode cX5_dip 93 = .ok (.getfield 12, 3) := by decide +kernel
theorem dX5_dip_96 : decode cX5_dip 96 = .ok (.invokevirtual 48, 3) := by decide +kernel
theorem dX5_dip_99 : decode cX5_dip 99 = .ok (.aload_n 0, 1) := by decide +kernel
theorem dX5_dip_100 : decode cX5_dip 100 = .ok (.getfield 12, 3) := by decide +kernel
theorem dX5_dip_103 : decode cX5_dip 103 = .ok (.getfield 63, 3) := by decide +kernel
theorem dX5_dip_106 : decode cX5_dip 106 = .ok (.iload 6, 2) := by decide +kernel
theorem dX5_dip_108 : decode cX5_dip 108 = .ok (.iload_n 3, 1) := by decide +kernel
theorem dX5_dip_109 : decode cX5_dip 109 = .ok (.iload 4, 2) := by decide +kernel
theorem dX5_dip_111 : decode cX5_dip 111 = .ok (.iload 5, 2) := by decide +kernel
theorem dX5_dip_113 : decode cX5_dip 113 = .ok (.invokevirtual 108, 3) := by decide +kernel
theorem dX5_dip_116 : decode cX5_dip 116 = .ok (.ireturn, 1) := by decide +kernel
theorem dX5_takeOut_0 : decode cX5_takeOut 0 = .ok (.aload_n 0, 1) := by decide +kernel
theorem dX5_takeOut_1 : decode cX5_takeOut 1 = .ok (.iload_n 1, 1) := by decide +kernel
theorem dX5_takeOut_2 : decode cX5_takeOut 2 = .ok (.invokevirtual 112, 3) := by decide +kernel
theorem dX5_takeOut_5 : decode cX5_takeOut 5 = .ok (.ifCond .ne 5, 3) := by decide +kernel
theorem dX5_takeOut_8 : decode cX5_takeOut 8 = .ok (.iconst (-1), 1) := by decide +kernel
theorem dX5_takeOut_9 : decode cX5_takeOut 9 = .ok (.ireturn, 1) := by decide +kernel
theorem dX5_takeOut_10 : decode cX5_takeOut 10 = .ok (.aload_n 0, 1) := by decide +kernel
theorem dX5_takeOut_11 : decode cX5_takeOut 11 = .ok (.getfield 22, 3) := by decide +kernel
theorem dX5_takeOut_14 : decode cX5_takeOut 14 = .ok (.aload_n 0, 1) := by decide +kernel
theorem dX5_takeOut_15 : decode cX5_takeOut 15 = .ok (.getfield 12, 3) := by decide +kernel
theorem dX5_takeOut_18 : decode cX5_takeOut 18 = .ok (.invokevirtual 48, 3) := by decide +kernel
theorem dX5_takeOut_21 : decode cX5_takeOut 21 = .ok (.aload_n 0, 1) := by decide +kernel
theorem dX5_takeOut_22 : decode cX5_takeOut 22 = .ok (.getfield 12, 3) := by decide +kernel
theorem dX5_takeOut_25 : decode cX5_takeOut 25 = .ok (.getfield 63, 3) := by decide +kernel
theorem dX5_takeOut_28 : decode cX5_takeOut 28 = .ok (.iload_n 1, 1) := by decide +kernel
theorem dX5_takeOut_29 : decode cX5_takeOut 29 = .ok (.invokevirtual 116, 3) := by decide +kernel
theorem dX5_takeOut_32 : decode cX5_takeOut 32 = .ok (.aload_n 0, 1) := by decide +kernel
theorem dX5_takeOut_33 : decode cX5_takeOut 33 = .ok (.getfield 12, 3) := by decide +kernel
theorem dX5_takeOut_36 : decode cX5_takeOut 36 = .ok (.getfield 63, 3) := by decide +kernel
theorem dX5_takeOut_39 : decode cX5_takeOut 39 = .ok (.getfield 105, 3) := by decide +kernel
theorem dX5_takeOut_42 : decode cX5_takeOut 42 = .ok (.ireturn, 1) := by decide +kernel
theorem dX5_drop_0 : decode cX5_drop 0 = .ok (.iload_n 1, 1) := by decide +kernel
theorem dX5_drop_1 : decode cX5_drop 1 = .ok (.iload_n 2, 1) := by decide +kernel
theorem dX5_drop_2 : decode cX5_drop 2 = .ok (.invokestatic 55, 3) := by decide +kernel
theorem dX5_drop_5 : decode cX5_drop 5 = .ok (.ifCond .ne 5, 3) := by decide +kernel
theorem dX5_drop_8 : decode cX5_drop 8 = .ok (.iconst (-1), 1) := by decide +kernel
theorem dX5_drop_9 : decode cX5_drop 9 = .ok (.ireturn, 1) := by decide +kernel
theorem dX5_drop_10 : decode cX5_drop 10 = .ok (.iload_n 3, 1) := by decide +kernel
theorem dX5_drop_11 : decode cX5_drop 11 = .ok (.sipush (-999), 3) := by decide +kernel
theorem dX5_drop_14 : decode cX5_drop 14 = .ok (.sipush 999, 3) := by decide +kernel
theorem dX5_drop_17 : decode cX5_drop 17 = .ok (.invokestatic 101, 3) := by decide +kernel
theorem dX5_drop_20 : decode cX5_drop 20 = .ok (.ifCond .ne 6, 3) := by decide +kernel
theorem dX5_drop_23 : decode cX5_drop 23 = .ok (.bipush (-2), 2) := by decide +kernel
theorem dX5_drop_25 : decode cX5_drop 25 = .ok (.ireturn, 1) := by decide +kernel
theorem dX5_drop_26 : decode cX5_drop 26 = .ok (.iload_n 1, 1) := by decide +kernel
theorem dX5_drop_27 : decode cX5_drop 27 = .ok (.iload_n 2, 1) := by decide +kernel
theorem dX5_drop_28 : decode cX5_drop 28 = .ok (.invokestatic 59, 3) := by decide +kernel
theorem dX5_drop_31 : decode cX5_drop 31 = .ok (.istore 4, 2) := by decide +kernel
theorem dX5_drop_33 : decode cX5_drop 33 = .ok (.aload_n 0, 1) := by decide +kernel
theorem dX5_drop_34 : decode cX5_drop 34 = .ok (.getfield 12, 3) := by decide +kernel
theorem dX5_drop_37 : decode cX5_drop 37 = .ok (.getfield 73, 3) := by decide +kernel
theorem dX5_drop_40 : decode cX5_drop 40 = .ok (.iload 4, 2) := by decide +kernel
theorem dX5_drop_42 : decode cX5_drop 42 = .ok (.iaload, 1) := by decide +kernel
theorem dX5_drop_43 : decode cX5_drop 43 = .ok (.iconst 2, 1) := by decide +kernel
theorem dX5_drop_44 : decode cX5_drop 44 = .ok (.if_icmp .ne 6, 3) := by decide +kernel
theorem dX5_drop_47 : decode cX5_drop 47 = .ok (.bipush (-5), 2) := by decide +kernel
theorem dX5_drop_49 : decode cX5_drop 49 = .ok (.ireturn, 1) := by decide +kernel
theorem dX5_drop_50 : decode cX5_drop 50 = .ok (.aload_n 0, 1) := by decide +kernel
theorem dX5_drop_51 : decode cX5_drop 51 = .ok (.getfield 22, 3) := by decide +kernel
theorem dX5_drop_54 : decode cX5_drop 54 = .ok (.aload_n 0, 1) := by decide +kernel
theorem dX5_drop_55 : decode cX5_drop 55 = .ok (.getfield 12, 3) := by decide +kernel
theorem dX5_drop_58 : decode cX5_drop 58 = .ok (.invokevirtual 48, 3) := by decide +kernel
theorem dX5_drop_61 : decode cX5_drop 61 = .ok (.aload_n 0, 1) := by decide +kernel
theorem dX5_drop_62 : decode cX5_drop 62 = .ok (.getfield 12, 3) := by decide +kernel
theorem dX5_drop_65 : decode cX5_drop 65 = .ok (.getfield 120, 3) := by decide +kernel
theorem dX5_drop_68 : decode cX5_drop 68 = .ok (.iload 4, 2) := by decide +kernel
theorem dX5_drop_70 : decode cX5_drop 70 = .ok (.aload_n 0, 1) := by decide +kernel
theorem dX5_drop_71 : decode cX5_drop 71 = .ok (.getfield 12, 3) := by decide +kernel
theorem dX5_drop_74 : decode cX5_drop 74 = .ok (.getfield 120, 3) := by decide +kernel
theorem dX5_drop_77 : decode cX5_drop 77 = .ok (.iload 4, 2) := by decide +kernel
theorem dX5_drop_79 : decode cX5_drop 79 = .ok (.iaload, 1) := by decide +kernel
theorem dX5_drop_80 : decode cX5_drop 80 = .ok (.iload_n 3, 1) := by decide +kernel
theorem dX5_drop_81 : decode cX5_drop 81 = .ok (.iadd, 1) := by decide +kernel
theorem dX5_drop_82 : decode cX5_drop 82 = .ok (.invokestatic 123, 3) := by decide +kernel
theorem dX5_drop_85 : decode cX5_drop 85 = .ok (.iastore, 1) := by decide +kernel
theorem dX5_drop_86 : decode cX5_drop 86 = .ok (.aload_n 0, 1) := by decide +kernel
theorem dX5_drop_87 : decode cX5_drop 87 = .ok (.getfield 12, 3) := by decide +kernel
theorem dX5_drop_90 : decode cX5_drop 90 = .ok (.getfield 120, 3) := by decide +kernel
theorem dX5_drop_93 : decode cX5_drop 93 = .ok (.iload 4, 2) := by decide +kernel
theorem dX5_drop_95 : decode cX5_drop 95 = .ok (.iaload, 1) := by decide +kernel
theorem dX5_drop_96 : decode cX5_drop 96 = .ok (.sipush 10000, 3) := by decide +kernel
theorem dX5_drop_99 : decode cX5_drop 99 = .ok (.iadd, 1) := by decide +kernel
theorem dX5_drop_100 : decode cX5_drop 100 = .ok (.ireturn, 1) := by decide +kernel
theorem dX5_probe_0 : decode cX5_probe 0 = .ok (.iload_n 1, 1) := by decide +kernel
theorem dX5_probe_1 : decode cX5_probe 1 = .ok (.iload_n 2, 1) := by decide +kernel
theorem dX5_probe_2 : decode cX5_probe 2 = .ok (.invokestatic 55, 3) := by decide +kernel
theorem dX5_probe_5 : decode cX5_probe 5 = .ok (.ifCond .ne 5, 3) := by decide +kernel
theorem dX5_probe_8 : decode cX5_probe 8 = .ok (.iconst (-1), 1) := by decide +kernel
theorem dX5_probe_9 : decode cX5_probe 9 = .ok (.ireturn, 1) := by decide +kernel
theorem dX5_probe_10 : decode cX5_probe 10 = .ok (.aload_n 0, 1) := by decide +kernel
theorem dX5_probe_11 : decode cX5_probe 11 = .ok (.getfield 12, 3) := by decide +kernel
theorem dX5_probe_14 : decode cX5_probe 14 = .ok (.getfield 126, 3) := by decide +kernel
theorem dX5_probe_17 : decode cX5_probe 17 = .ok (.getfield 130, 3) := by decide +kernel
theorem dX5_probe_20 : decode cX5_probe 20 = .ok (.iconst 3, 1) := by decide +kernel
theorem dX5_probe_21 : decode cX5_probe 21 = .ok (.if_icmp .lt 6, 3) := by decide +kernel
theorem dX5_probe_24 : decode cX5_probe 24 = .ok (.bipush (-4), 2) := by decide +kernel
theorem dX5_probe_26 : decode cX5_probe 26 = .ok (.ireturn, 1) := by decide +kernel
theorem dX5_probe_27 : decode cX5_probe 27 = .ok (.aload_n 0, 1) := by decide +kernel
theorem dX5_probe_28 : decode cX5_probe 28 = .ok (.getfield 22, 3) := by decide +kernel
theorem dX5_probe_31 : decode cX5_probe 31 = .ok (.aload_n 0, 1) := by decide +kernel
theorem dX5_probe_32 : decode cX5_probe 32 = .ok (.getfield 12, 3) := by decide +kernel
theorem dX5_probe_35 : decode cX5_probe 35 = .ok (.invokevirtual 48, 3) := by decide +kernel
theorem dX5_probe_38 : decode cX5_probe 38 = .ok (.aload_n 0, 1) := by decide +kernel
theorem dX5_probe_39 : decode cX5_probe 39 = .ok (.getfield 12, 3) := by decide +kernel
theorem dX5_probe_42 : decode cX5_probe 42 = .ok (.getfield 126, 3) := by decide +kernel
theorem dX5_probe_45 : decode cX5_probe 45 = .ok (.iload_n 1, 1) := by decide +kernel
theorem dX5_probe_46 : decode cX5_probe 46 = .ok (.iload_n 2, 1) := by decide +kernel
theorem dX5_probe_47 : decode cX5_probe 47 = .ok (.invokestatic 59, 3) := by decide +kernel
theorem dX5_probe_50 : decode cX5_probe 50 = .ok (.invokevirtual 133, 3) := by decide +kernel
theorem dX5_probe_53 : decode cX5_probe 53 = .ok (.ireturn, 1) := by decide +kernel
theorem dX5_pass_0 : decode cX5_pass 0 = .ok (.iload_n 1, 1) := by decide +kernel
theorem dX5_pass_1 : decode cX5_pass 1 = .ok (.iconst 1, 1) := by decide +kernel
theorem dX5_pass_2 : decode cX5_pass 2 = .ok (.bipush 100, 2) := by decide +kernel
theorem dX5_pass_4 : decode cX5_pass 4 = .ok (.invokestatic 101, 3) := by decide +kernel
theorem dX5_pass_7 : decode cX5_pass 7 = .ok (.ifCond .ne 6, 3) := by decide +kernel
theorem dX5_pass_10 : decode cX5_pass 10 = .ok (.bipush (-2), 2) := by decide +kernel
theorem dX5_pass_12 : decode cX5_pass 12 = .ok (.ireturn, 1) := by decide +kernel
theorem dX5_pass_13 : decode cX5_pass 13 = .ok (.aload_n 0, 1) := by decide +kernel
theorem dX5_pass_14 : decode cX5_pass 14 = .ok (.getfield 12, 3) := by decide +kernel
theorem dX5_pass_17 : decode cX5_pass 17 = .ok (.getfield 135, 3) := by decide +kernel
theorem dX5_pass_20 : decode cX5_pass 20 = .ok (.iload_n 1, 1) := by decide +kernel
theorem dX5_pass_21 : decode cX5_pass 21 = .ok (.iadd, 1) := by decide +kernel
theorem dX5_pass_22 : decode cX5_pass 22 = .ok (.ldc 138, 2) := by decide +kernel
theorem dX5_pass_24 : decode cX5_pass 24 = .ok (.if_icmp .le 6, 3) := by decide +kernel
theorem dX5_pass_27 : decode cX5_pass 27 = .ok (.bipush (-4), 2) := by decide +kernel
theorem dX5_pass_29 : decode cX5_pass 29 = .ok (.ireturn, 1) := by decide +kernel
theorem dX5_pass_30 : decode cX5_pass 30 = .ok (.aload_n 0, 1) := by decide +kernel
theorem dX5_pass_31 : decode cX5_pass 31 = .ok (.getfield 22, 3) := by decide +kernel
theorem dX5_pass_34 : decode cX5_pass 34 = .ok (.aload_n 0, 1) := by decide +kernel
theorem dX5_pass_35 : decode cX5_pass 35 = .ok (.getfield 12, 3) := by decide +kernel
theorem dX5_pass_38 : decode cX5_pass 38 = .ok (.invokevirtual 48, 3) := by decide +kernel
theorem dX5_pass_41 : decode cX5_pass 41 = .ok (.aload_n 0, 1) := by decide +kernel
theorem dX5_pass_42 : decode cX5_pass 42 = .ok (.getfield 12, 3) := by decide +kernel
theorem dX5_pass_45 : decode cX5_pass 45 = .ok (.iload_n 1, 1) := by decide +kernel
theorem dX5_pass_46 : decode cX5_pass 46 = .ok (.invokevirtual 139, 3) := by decide +kernel
theorem dX5_pass_49 : decode cX5_pass 49 = .ok (.aload_n 0, 1) := by decide +kernel
theorem dX5_pass_50 : decode cX5_pass 50 = .ok (.getfield 12, 3) := by decide +kernel
theorem dX5_pass_53 : decode cX5_pass 53 = .ok (.invokevirtual 142, 3) := by decide +kernel
theorem dX5_pass_56 : decode cX5_pass 56 = .ok (.ireturn, 1) := by decide +kernel
theorem dX5_cell_0 : decode cX5_cell 0 = .ok (.iload_n 1, 1) := by decide +kernel
theorem dX5_cell_1 : decode cX5_cell 1 = .ok (.iload_n 2, 1) := by decide +kernel
theorem dX5_cell_2 : decode cX5_cell 2 = .ok (.invokestatic 55, 3) := by decide +kernel
theorem dX5_cell_5 : decode cX5_cell 5 = .ok (.ifCond .ne 5, 3) := by decide +kernel
theorem dX5_cell_8 : decode cX5_cell 8 = .ok (.iconst (-1), 1) := by decide +kernel
theorem dX5_cell_9 : decode cX5_cell 9 = .ok (.ireturn, 1) := by decide +kernel
theorem dX5_cell_10 : decode cX5_cell 10 = .ok (.iload_n 1, 1) := by decide +kernel
theorem dX5_cell_11 : decode cX5_cell 11 = .ok (.iload_n 2, 1) := by decide +kernel
theorem dX5_cell_12 : decode cX5_cell 12 = .ok (.invokestatic 59, 3) := by decide +kernel
theorem dX5_cell_15 : decode cX5_cell 15 = .ok (.istore 4, 2) := by decide +kernel
theorem dX5_cell_17 : decode cX5_cell 17 = .ok (.iload_n 3, 1) := by decide +kernel
theorem dX5_cell_18 : decode cX5_cell 18 = .ok (.tableswitch 138 0 6 #[42, 53, 68, 83, 96, 114, 125], 42) := by decide +kernel
theorem dX5_cell_60 : decode cX5_cell 60 = .ok (.aload_n 0, 1) := by decide +kernel
theorem dX5_cell_61 : decode cX5_cell 61 = .ok (.getfield 12, 3) := by decide +kernel
theorem dX5_cell_64 : decode cX5_cell 64 = .ok (.getfield 73, 3) := by decide +kernel
theorem dX5_cell_67 : decode cX5_cell 67 = .ok (.iload 4, 2) := by decide +kernel
theorem dX5_cell_69 : decode cX5_cell 69 = .ok (.iaload, 1) := by decide +kernel
theorem dX5_cell_70 : decode cX5_cell 70 = .ok (.ireturn, 1) := by decide +kernel
theorem dX5_cell_71 : decode cX5_cell 71 = .ok (.aload_n 0, 1) := by decide +kernel
theorem dX5_cell_72 : decode cX5_cell 72 = .ok (.getfield 12, 3) := by decide +kernel
theorem dX5_cell_75 : decode cX5_cell 75 = .ok (.getfield 120, 3) := by decide +kernel
theorem dX5_cell_78 : decode cX5_cell 78 = .ok (.iload 4, 2) := by decide +kernel
theorem dX5_cell_80 : decode cX5_cell 80 = .ok (.iaload, 1) := by decide +kernel
theorem dX5_cell_81 : decode cX5_cell 81 = .ok (.sipush 10000, 3) := by decide +kernel
theorem dX5_cell_84 : decode cX5_cell 84 = .ok (.iadd, 1) := by decide +kernel
theorem dX5_cell_85 : decode cX5_cell 85 = .ok (.ireturn, 1) := by decide +kernel
theorem dX5_cell_86 : decode cX5_cell 86 = .ok (.aload_n 0, 1) := by decide +kernel
theorem dX5_cell_87 : decode cX5_cell 87 = .ok (.getfield 12, 3) := by decide +kernel
theorem dX5_cell_90 : decode cX5_cell 90 = .ok (.getfield 145, 3) := by decide +kernel
theorem dX5_cell_93 : decode cX5_cell 93 = .ok (.iload 4, 2) := by decide +kernel
theorem dX5_cell_95 : decode cX5_cell 95 = .ok (.iaload, 1) := by decide +kernel
theorem dX5_cell_96 : decode cX5_cell 96 = .ok (.sipush 10000, 3) := by decide +kernel
theorem dX5_cell_99 : decode cX5_cell 99 = .ok (.iadd, 1) := by decide +kernel
theorem dX5_cell_100 : decode cX5_cell 100 = .ok (.ireturn, 1) := by decide +kernel
theorem dX5_cell_101 : decode cX5_cell 101 = .ok (.aload_n 0, 1) := by decide +kernel
theorem dX5_cell_102 : decode cX5_cell 102 = .ok (.getfield 12, 3) := by decide +kernel
theorem dX5_cell_105 : decode cX5_cell 105 = .ok (.iload 4, 2) := by decide +kernel
theorem dX5_cell_107 : decode cX5_cell 107 = .ok (.invokevirtual 148, 3) := by decide +kernel
theorem dX5_cell_110 : decode cX5_cell 110 = .ok (.ldc 138, 2) := by decide +kernel
theorem dX5_cell_112 : decode cX5_cell 112 = .ok (.iadd, 1) := by decide +kernel
theorem dX5_cell_113 : decode cX5_cell 113 = .ok (.ireturn, 1) := by decide +kernel
theorem dX5_cell_114 : decode cX5_cell 114 = .ok (.aload_n 0, 1) := by decide +kernel
theorem dX5_cell_115 : decode cX5_cell 115 = .ok (.getfield 12, 3) := by decide +kernel
theorem dX5_cell_118 : decode cX5_cell 118 = .ok (.iload 4, 2) := by decide +kernel
theorem dX5_cell_120 : decode cX5_cell 120 = .ok (.invokevirtual 151, 3) := by decide +kernel
theorem dX5_cell_123 : decode cX5_cell 123 = .ok (.ifCond .eq 7, 3) := by decide +kernel
theorem dX5_cell_126 : decode cX5_cell 126 = .ok (.iconst 1, 1) := by decide +kernel
theorem dX5_cell_127 : decode cX5_cell 127 = .ok (.goto 4, 3) := by decide +kernel
theorem dX5_cell_130 : decode cX5_cell 130 = .ok (.iconst 0, 1) := by decide +kernel
theorem dX5_cell_131 : decode cX5_cell 131 = .ok (.ireturn, 1) := by decide +kernel
theorem dX5_cell_132 : decode cX5_cell 132 = .ok (.aload_n 0, 1) := by decide +kernel
theorem dX5_cell_133 : decode cX5_cell 133 = .ok (.getfield 12, 3) := by decide +kernel
theorem dX5_cell_136 : decode cX5_cell 136 = .ok (.getfield 154, 3) := by decide +kernel
theorem dX5_cell_139 : decode cX5_cell 139 = .ok (.iload 4, 2) := by decide +kernel
theorem dX5_cell_141 : decode cX5_cell 141 = .ok (.iaload, 1) := by decide +kernel
theorem dX5_cell_142 : decode cX5_cell 142 = .ok (.ireturn, 1) := by decide +kernel
theorem dX5_cell_143 : decode cX5_cell 143 = .ok (.aload_n 0, 1) := by decide +kernel
theorem dX5_cell_144 : decode cX5_cell 144 = .ok (.getfield 12, 3) := by decide +kernel
theorem dX5_cell_147 : decode cX5_cell 147 = .ok (.getfield 63, 3) := by decide +kernel
theorem dX5_cell_150 : decode cX5_cell 150 = .ok (.iload 4, 2) := by decide +kernel
theorem dX5_cell_152 : decode cX5_cell 152 = .ok (.invokevirtual 67, 3) := by decide +kernel
theorem dX5_cell_155 : decode cX5_cell 155 = .ok (.ireturn, 1) := by decide +kernel
theorem dX5_cell_156 : decode cX5_cell 156 = .ok (.bipush (-2), 2) := by decide +kernel
theorem dX5_cell_158 : decode cX5_cell 158 = .ok (.ireturn, 1) := by decide +kernel
theorem dX5_dipper_0 : decode cX5_dipper 0 = .ok (.aload_n 0, 1) := by decide +kernel
theorem dX5_dipper_1 : decode cX5_dipper 1 = .ok (.iload_n 1, 1) := by decide +kernel
theorem dX5_dipper_2 : decode cX5_dipper 2 = .ok (.invokevirtual 112, 3) := by decide +kernel
theorem dX5_dipper_5 : decode cX5_dipper 5 = .ok (.ifCond .ne 5, 3) := by decide +kernel
theorem dX5_dipper_8 : decode cX5_dipper 8 = .ok (.iconst (-1), 1) := by decide +kernel
theorem dX5_dipper_9 : decode cX5_dipper 9 = .ok (.ireturn, 1) := by decide +kernel
theorem dX5_dipper_10 : decode cX5_dipper 10 = .ok (.aload_n 0, 1) := by decide +kernel
theorem dX5_dipper_11 : decode cX5_dipper 11 = .ok (.getfield 12, 3) := by decide +kernel
theorem dX5_dipper_14 : decode cX5_dipper 14 = .ok (.getfield 63, 3) := by decide +kernel
theorem dX5_dipper_17 : decode cX5_dipper 17 = .ok (.astore_n 3, 1) := by decide +kernel
theorem dX5_dipper_18 : decode cX5_dipper 18 = .ok (.iload_n 2, 1) := by decide +kernel
theorem dX5_dipper_19 : decode cX5_dipper 19 = .ok (.tableswitch 99 0 5 #[37, 47, 57, 64, 71, 78], 37) := by decide +kernel
theorem dX5_dipper_56 : decode cX5_dipper 56 = .ok (.aload_n 3, 1) := by decide +kernel
theorem dX5_dipper_57 : decode cX5_dipper 57 = .ok (.getfield 157, 3) := by decide +kernel
theorem dX5_dipper_60 : decode cX5_dipper 60 = .ok (.iload_n 1, 1) := by decide +kernel
theorem dX5_dipper_61 : decode cX5_dipper 61 = .ok (.iaload, 1) := by decide +kernel
theorem dX5_dipper_62 : decode cX5_dipper 62 = .ok (.bipush 10, 2) := by decide +kernel
theorem dX5_dipper_64 : decode cX5_dipper 64 = .ok (.irem, 1) := by decide +kernel
theorem dX5_dipper_65 : decode cX5_dipper 65 = .ok (.ireturn, 1) := by decide +kernel
theorem dX5_dipper_66 : decode cX5_dipper 66 = .ok (.aload_n 3, 1) := by decide +kernel
theorem dX5_dipper_67 : decode cX5_dipper 67 = .ok (.getfield 157, 3) := by decide +kernel
theorem dX5_dipper_70 : decode cX5_dipper 70 = .ok (.iload_n 1, 1) := by decide +kernel
theorem dX5_dipper_71 : decode cX5_dipper 71 = .ok (.iaload, 1) := by decide +kernel
theorem dX5_dipper_72 : decode cX5_dipper 72 = .ok (.bipush 10, 2) := by decide +kernel
theorem dX5_dipper_74 : decode cX5_dipper 74 = .ok (.idiv, 1) := by decide +kernel
theorem dX5_dipper_75 : decode cX5_dipper 75 = .ok (.ireturn, 1) := by decide +kernel
theorem dX5_dipper_76 : decode cX5_dipper 76 = .ok (.aload_n 3, 1) := by decide +kernel
theorem dX5_dipper_77 : decode cX5_dipper 77 = .ok (.getfield 160, 3) := by decide +kernel
theorem dX5_dipper_80 : decode cX5_dipper 80 = .ok (.iload_n 1, 1) := by decide +kernel
theorem dX5_dipper_81 : decode cX5_dipper 81 = .ok (.iaload, 1) := by decide +kernel
theorem dX5_dipper_82 : decode cX5_dipper 82 = .ok (.ireturn, 1) := by decide +kernel
theorem dX5_dipper_83 : decode cX5_dipper 83 = .ok (.aload_n 3, 1) := by decide +kernel
theorem dX5_dipper_84 : decode cX5_dipper 84 = .ok (.getfield 163, 3) := by decide +kernel
theorem dX5_dipper_87 : decode cX5_dipper 87 = .ok (.iload_n 1, 1) := by decide +kernel
theorem dX5_dipper_88 : decode cX5_dipper 88 = .ok (.iaload, 1) := by decide +kernel
theorem dX5_dipper_89 : decode cX5_dipper 89 = .ok (.ireturn, 1) := by decide +kernel
theorem dX5_dipper_90 : decode cX5_dipper 90 = .ok (.aload_n 3, 1) := by decide +kernel
theorem dX5_dipper_91 : decode cX5_dipper 91 = .ok (.getfield 166, 3) := by decide +kernel
theorem dX5_dipper_94 : decode cX5_dipper 94 = .ok (.iload_n 1, 1) := by decide +kernel
theorem dX5_dipper_95 : decode cX5_dipper 95 = .ok (.iaload, 1) := by decide +kernel
theorem dX5_dipper_96 : decode cX5_dipper 96 = .ok (.ireturn, 1) := by decide +kernel
theorem dX5_dipper_97 : decode cX5_dipper 97 = .ok (.aload_n 3, 1) := by decide +kernel
theorem dX5_dipper_98 : decode cX5_dipper 98 = .ok (.iload_n 1, 1) := by decide +kernel
theorem dX5_dipper_99 : decode cX5_dipper 99 = .ok (.aload_n 0, 1) := by decide +kernel
theorem dX5_dipper_100 : decode cX5_dipper 100 = .ok (.getfield 12, 3) := by decide +kernel
theorem dX5_dipper_103 : decode cX5_dipper 103 = .ok (.getfield 135, 3) := by decide +kernel
theorem dX5_dipper_106 : decode cX5_dipper 106 = .ok (.invokevirtual 169, 3) := by decide +kernel
theorem dX5_dipper_109 : decode cX5_dipper 109 = .ok (.ifCond .eq 7, 3) := by decide +kernel
theorem dX5_dipper_112 : decode cX5_dipper 112 = .ok (.iconst 1, 1) := by decide +kernel
theorem dX5_dipper_113 : decode cX5_dipper 113 = .ok (.goto 4, 3) := by decide +kernel
theorem dX5_dipper_116 : decode cX5_dipper 116 = .ok (.iconst 0, 1) := by decide +kernel
theorem dX5_dipper_117 : decode cX5_dipper 117 = .ok (.ireturn, 1) := by decide +kernel
theorem dX5_dipper_118 : decode cX5_dipper 118 = .ok (.bipush (-2), 2) := by decide +kernel
theorem dX5_dipper_120 : decode cX5_dipper 120 = .ok (.ireturn, 1) := by decide +kernel
theorem dX5_ofProbe_0 : decode cX5_ofProbe 0 = .ok (.aload_n 0, 1) := by decide +kernel
theorem dX5_ofProbe_1 : decode cX5_ofProbe 1 = .ok (.iload_n 1, 1) := by decide +kernel
theorem dX5_ofProbe_2 : decode cX5_ofProbe 2 = .ok (.invokevirtual 172, 3) := by decide +kernel
theorem dX5_ofProbe_5 : decode cX5_ofProbe 5 = .ok (.ifCond .ne 5, 3) := by decide +kernel
theorem dX5_ofProbe_8 : decode cX5_ofProbe 8 = .ok (.iconst (-1), 1) := by decide +kernel
theorem dX5_ofProbe_9 : decode cX5_ofProbe 9 = .ok (.ireturn, 1) := by decide +kernel
theorem dX5_ofProbe_10 : decode cX5_ofProbe 10 = .ok (.aload_n 0, 1) := by decide +kernel
theorem dX5_ofProbe_11 : decode cX5_ofProbe 11 = .ok (.getfield 12, 3) := by decide +kernel
theorem dX5_ofProbe_14 : decode cX5_ofProbe 14 = .ok (.getfield 126, 3) := by decide +kernel
theorem dX5_ofProbe_17 : decode cX5_ofProbe 17 = .ok (.astore_n 3, 1) := by decide +kernel
theorem dX5_ofProbe_18 : decode cX5_ofProbe 18 = .ok (.iload_n 2, 1) := by decide +kernel
theorem dX5_ofProbe_19 : decode cX5_ofProbe 19 = .ok (.tableswitch 90 0 4 #[33, 43, 53, 60, 66], 33) := by decide +kernel
theorem dX5_ofProbe_52 : decode cX5_ofProbe 52 = .ok (.aload_n 3, 1) := by decide +kernel
theorem dX5_ofProbe_53 : decode cX5_ofProbe 53 = .ok (.getfield 175, 3) := by decide +kernel
theorem dX5_ofProbe_56 : decode cX5_ofProbe 56 = .ok (.iload_n 1, 1) := by decide +kernel
theorem dX5_ofProbe_57 : decode cX5_ofProbe 57 = .ok (.iaload, 1) := by decide +kernel
theorem dX5_ofProbe_58 : decode cX5_ofProbe 58 = .ok (.bipush 10, 2) := by decide +kernel
theorem dX5_ofProbe_60 : decode cX5_ofProbe 60 = .ok (.irem, 1) := by decide +kernel
theorem dX5_ofProbe_61 : decode cX5_ofProbe 61 = .ok (.ireturn, 1) := by decide +kernel
theorem dX5_ofProbe_62 : decode cX5_ofProbe 62 = .ok (.aload_n 3, 1) := by decide +kernel
theorem dX5_ofProbe_63 : decode cX5_ofProbe 63 = .ok (.getfield 175, 3) := by decide +kernel
theorem dX5_ofProbe_66 : decode cX5_ofProbe 66 = .ok (.iload_n 1, 1) := by decide +kernel
theorem dX5_ofProbe_67 : decode cX5_ofProbe 67 = .ok (.iaload, 1) := by decide +kernel
theorem dX5_ofProbe_68 : decode cX5_ofProbe 68 = .ok (.bipush 10, 2) := by decide +kernel
theorem dX5_ofProbe_70 : decode cX5_ofProbe 70 = .ok (.idiv, 1) := by decide +kernel
theorem dX5_ofProbe_71 : decode cX5_ofProbe 71 = .ok (.ireturn, 1) := by decide +kernel
theorem dX5_ofProbe_72 : decode cX5_ofProbe 72 = .ok (.aload_n 3, 1) := by decide +kernel
theorem dX5_ofProbe_73 : decode cX5_ofProbe 73 = .ok (.getfield 176, 3) := by decide +kernel
theorem dX5_ofProbe_76 : decode cX5_ofProbe 76 = .ok (.iload_n 1, 1) := by decide +kernel
theorem dX5_ofProbe_77 : decode cX5_ofProbe 77 = .ok (.iaload, 1) := by decide +kernel
theorem dX5_ofProbe_78 : decode cX5_ofProbe 78 = .ok (.ireturn, 1) := by decide +kernel
theorem dX5_ofProbe_79 : decode cX5_ofProbe 79 = .ok (.aload_n 3, 1) := by decide +kernel
theorem dX5_ofProbe_80 : decode cX5_ofProbe 80 = .ok (.iload_n 1, 1) := by decide +kernel
theorem dX5_ofProbe_81 : decode cX5_ofProbe 81 = .ok (.invokevirtual 179, 3) := by decide +kernel
theorem dX5_ofProbe_84 : decode cX5_ofProbe 84 = .ok (.ireturn, 1) := by decide +kernel
theorem dX5_ofProbe_85 : decode cX5_ofProbe 85 = .ok (.aload_n 3, 1) := by decide +kernel
theorem dX5_ofProbe_86 : decode cX5_ofProbe 86 = .ok (.getfield 176, 3) := by decide +kernel
theorem dX5_ofProbe_89 : decode cX5_ofProbe 89 = .ok (.iload_n 1, 1) := by decide +kernel
theorem dX5_ofProbe_90 : decode cX5_ofProbe 90 = .ok (.iaload, 1) := by decide +kernel
theorem dX5_ofProbe_91 : decode cX5_ofProbe 91 = .ok (.ifCond .ne 8, 3) := by decide +kernel
theorem dX5_ofProbe_94 : decode cX5_ofProbe 94 = .ok (.bipush (-6), 2) := by decide +kernel
theorem dX5_ofProbe_96 : decode cX5_ofProbe 96 = .ok (.goto 12, 3) := by decide +kernel
theorem dX5_ofProbe_99 : decode cX5_ofProbe 99 = .ok (.aload_n 3, 1) := by decide +kernel
theorem dX5_ofProbe_100 : decode cX5_ofProbe 100 = .ok (.iload_n 1, 1) := by decide +kernel
theorem dX5_ofProbe_101 : decode cX5_ofProbe 101 = .ok (.invokevirtual 182, 3) := by decide +kernel
theorem dX5_ofProbe_104 : decode cX5_ofProbe 104 = .ok (.sipush 10000, 3) := by decide +kernel
theorem dX5_ofProbe_107 : decode cX5_ofProbe 107 = .ok (.iadd, 1) := by decide +kernel
theorem dX5_ofProbe_108 : decode cX5_ofProbe 108 = .ok (.ireturn, 1) := by decide +kernel
theorem dX5_ofProbe_109 : decode cX5_ofProbe 109 = .ok (.bipush (-2), 2) := by decide +kernel
theorem dX5_ofProbe_111 : decode cX5_ofProbe 111 = .ok (.ireturn, 1) := by decide +kernel
theorem dX5_seen_0 : decode cX5_seen 0 = .ok (.aload_n 0, 1) := by decide +kernel
theorem dX5_seen_1 : decode cX5_seen 1 = .ok (.iload_n 1, 1) := by decide +kernel
theorem dX5_seen_2 : decode cX5_seen 2 = .ok (.invokevirtual 172, 3) := by decide +kernel
theorem dX5_seen_5 : decode cX5_seen 5 = .ok (.ifCond .eq 25, 3) := by decide +kernel
theorem dX5_seen_8 : decode cX5_seen 8 = .ok (.iload_n 2, 1) := by decide +kernel
theorem dX5_seen_9 : decode cX5_seen 9 = .ok (.iconst 0, 1) := by decide +kernel
theorem dX5_seen_10 : decode cX5_seen 10 = .ok (.aload_n 0, 1) := by decide +kernel
theorem dX5_seen_11 : decode cX5_seen 11 = .ok (.getfield 12, 3) := by decide +kernel
theorem dX5_seen_14 : decode cX5_seen 14 = .ok (.getfield 126, 3) := by decide +kernel
theorem dX5_seen_17 : decode cX5_seen 17 = .ok (.getfield 176, 3) := by decide +kernel
theorem dX5_seen_20 : decode cX5_seen 20 = .ok (.iload_n 1, 1) := by decide +kernel
theorem dX5_seen_21 : decode cX5_seen 21 = .ok (.iaload, 1) := by decide +kernel
theorem dX5_seen_22 : decode cX5_seen 22 = .ok (.iconst 1, 1) := by decide +kernel
theorem dX5_seen_23 : decode cX5_seen 23 = .ok (.isub, 1) := by decide +kernel
theorem dX5_seen_24 : decode cX5_seen 24 = .ok (.invokestatic 101, 3) := by decide +kernel
theorem dX5_seen_27 : decode cX5_seen 27 = .ok (.ifCond .ne 5, 3) := by decide +kernel
theorem dX5_seen_30 : decode cX5_seen 30 = .ok (.iconst (-1), 1) := by decide +kernel
theorem dX5_seen_31 : decode cX5_seen 31 = .ok (.ireturn, 1) := by decide +kernel
theorem dX5_seen_32 : decode cX5_seen 32 = .ok (.aload_n 0, 1) := by decide +kernel
theorem dX5_seen_33 : decode cX5_seen 33 = .ok (.getfield 12, 3) := by decide +kernel
theorem dX5_seen_36 : decode cX5_seen 36 = .ok (.getfield 126, 3) := by decide +kernel
theorem dX5_seen_39 : decode cX5_seen 39 = .ok (.getfield 185, 3) := by decide +kernel
theorem dX5_seen_42 : decode cX5_seen 42 = .ok (.iload_n 1, 1) := by decide +kernel
theorem dX5_seen_43 : decode cX5_seen 43 = .ok (.aaload, 1) := by decide +kernel
theorem dX5_seen_44 : decode cX5_seen 44 = .ok (.iload_n 2, 1) := by decide +kernel
theorem dX5_seen_45 : decode cX5_seen 45 = .ok (.iaload, 1) := by decide +kernel
theorem dX5_seen_46 : decode cX5_seen 46 = .ok (.sipush 10000, 3) := by decide +kernel
theorem dX5_seen_49 : decode cX5_seen 49 = .ok (.iadd, 1) := by decide +kernel
theorem dX5_seen_50 : decode cX5_seen 50 = .ok (.ireturn, 1) := by decide +kernel
theorem dX5_count_0 : decode cX5_count 0 = .ok (.iload_n 1, 1) := by decide +kernel
theorem dX5_count_1 : decode cX5_count 1 = .ok (.tableswitch 200 0 14 #[75, 83, 91, 107, 118, 126, 141, 149, 160, 171, 171, 171, 171, 184, 192], 75) := by decide +kernel
theorem dX5_count_76 : decode cX5_count 76 = .ok (.aload_n 0, 1) := by decide +kernel
theorem dX5_count_77 : decode cX5_count 77 = .ok (.getfield 12, 3) := by decide +kernel
theorem dX5_count_80 : decode cX5_count 80 = .ok (.getfield 135, 3) := by decide +kernel
theorem dX5_count_83 : decode cX5_count 83 = .ok (.ireturn, 1) := by decide +kernel
theorem dX5_count_84 : decode cX5_count 84 = .ok (.aload_n 0, 1) := by decide +kernel
theorem dX5_count_85 : decode cX5_count 85 = .ok (.getfield 12, 3) := by decide +kernel
theorem dX5_count_88 : decode cX5_count 88 = .ok (.invokevirtual 92, 3) := by decide +kernel
theorem dX5_count_91 : decode cX5_count 91 = .ok (.ireturn, 1) := by decide +kernel
theorem dX5_count_92 : decode cX5_count 92 = .ok (.aload_n 0, 1) := by decide +kernel
theorem dX5_count_93 : decode cX5_count 93 = .ok (.getfield 12, 3) := by decide +kernel
theorem dX5_count_96 : decode cX5_count 96 = .ok (.invokevirtual 92, 3) := by decide +kernel
theorem dX5_count_99 : decode cX5_count 99 = .ok (.aload_n 0, 1) := by decide +kernel
theorem dX5_count_100 : decode cX5_count 100 = .ok (.getfield 12, 3) := by decide +kernel
theorem dX5_count_103 : decode cX5_count 103 = .ok (.invokevirtual 142, 3) := by decide +kernel
theorem dX5_count_106 : decode cX5_count 106 = .ok (.isub, 1) := by decide +kernel
theorem dX5_count_107 : decode cX5_count 107 = .ok (.ireturn, 1) := by decide +kernel
theorem dX5_count_108 : decode cX5_count 108 = .ok (.aload_n 0, 1) := by decide +kernel
theorem dX5_count_109 : decode cX5_count 109 = .ok (.getfield 12, 3) := by decide +kernel
theorem dX5_count_112 : decode cX5_count 112 = .ok (.invokevirtual 188, 3) := by decide +kernel
theorem dX5_count_115 : decode cX5_count 115 = .ok (.ldc 191, 2) := by decide +kernel
theorem dX5_count_117 : decode cX5_count 117 = .ok (.iadd, 1) := by decide +kernel
theorem dX5_count_118 : decode cX5_count 118 = .ok (.ireturn, 1) := by decide +kernel
theorem dX5_count_119 : decode cX5_count 119 = .ok (.aload_n 0, 1) := by decide +kernel
theorem dX5_count_120 : decode cX5_count 120 = .ok (.getfield 12, 3) := by decide +kernel
theorem dX5_count_123 : decode cX5_count 123 = .ok (.invokevirtual 95, 3) := by decide +kernel
theorem dX5_count_126 : decode cX5_count 126 = .ok (.ireturn, 1) := by decide +kernel
theorem dX5_count_127 : decode cX5_count 127 = .ok (.aload_n 0, 1) := by decide +kernel
theorem dX5_count_128 : decode cX5_count 128 = .ok (.getfield 12, 3) := by decide +kernel
theorem dX5_count_131 : decode cX5_count 131 = .ok (.aload_n 0, 1) := by decide +kernel
theorem dX5_count_132 : decode cX5_count 132 = .ok (.getfield 12, 3) := by decide +kernel
theorem dX5_count_135 : decode cX5_count 135 = .ok (.invokevirtual 192, 3) := by decide +kernel
theorem dX5_count_138 : decode cX5_count 138 = .ok (.invokevirtual 195, 3) := by decide +kernel
theorem dX5_count_141 : decode cX5_count 141 = .ok (.ireturn, 1) := by decide +kernel
theorem dX5_count_142 : decode cX5_count 142 = .ok (.aload_n 0, 1) := by decide +kernel
theorem dX5_count_143 : decode cX5_count 143 = .ok (.getfield 12, 3) := by decide +kernel
theorem dX5_count_146 : decode cX5_count 146 = .ok (.invokevirtual 198, 3) := by decide +kernel
theorem dX5_count_149 : decode cX5_count 149 = .ok (.ireturn, 1) := by decide +kernel
theorem dX5_count_150 : decode cX5_count 150 = .ok (.aload_n 0, 1) := by decide +kernel
theorem dX5_count_151 : decode cX5_count 151 = .ok (.getfield 12, 3) := by decide +kernel
theorem dX5_count_154 : decode cX5_count 154 = .ok (.getfield 63, 3) := by decide +kernel
theorem dX5_count_157 : decode cX5_count 157 = .ok (.getfield 105, 3) := by decide +kernel
theorem dX5_count_160 : decode cX5_count 160 = .ok (.ireturn, 1) := by decide +kernel
theorem dX5_count_161 : decode cX5_count 161 = .ok (.aload_n 0, 1) := by decide +kernel
theorem dX5_count_162 : decode cX5_count 162 = .ok (.getfield 12, 3) := by decide +kernel
theorem dX5_count_165 : decode cX5_count 165 = .ok (.getfield 126, 3) := by decide +kernel
theorem dX5_count_168 : decode cX5_count 168 = .ok (.getfield 130, 3) := by decide +kernel
theorem dX5_count_171 : decode cX5_count 171 = .ok (.ireturn, 1) := by decide +kernel
theorem dX5_count_172 : decode cX5_count 172 = .ok (.aload_n 0, 1) := by decide +kernel
theorem dX5_count_173 : decode cX5_count 173 = .ok (.getfield 12, 3) := by decide +kernel
theorem dX5_count_176 : decode cX5_count 176 = .ok (.getfield 52, 3) := by decide +kernel
theorem dX5_count_179 : decode cX5_count 179 = .ok (.iload_n 1, 1) := by decide +kernel
theorem dX5_count_180 : decode cX5_count 180 = .ok (.bipush 9, 2) := by decide +kernel
theorem dX5_count_182 : decode cX5_count 182 = .ok (.isub, 1) := by decide +kernel
theorem dX5_count_183 : decode cX5_count 183 = .ok (.iaload, 1) := by decide +kernel
theorem dX5_count_184 : decode cX5_count 184 = .ok (.ireturn, 1) := by decide +kernel
theorem dX5_count_185 : decode cX5_count 185 = .ok (.aload_n 0, 1) := by decide +kernel
theorem dX5_count_186 : decode cX5_count 186 = .ok (.getfield 37, 3) := by decide +kernel
theorem dX5_count_189 : decode cX5_count 189 = .ok (.getfield 88, 3) := by decide +kernel
theorem dX5_count_192 : decode cX5_count 192 = .ok (.ireturn, 1) := by decide +kernel
theorem dX5_count_193 : decode cX5_count 193 = .ok (.aload_n 0, 1) := by decide +kernel
theorem dX5_count_194 : decode cX5_count 194 = .ok (.getfield 22, 3) := by decide +kernel
theorem dX5_count_197 : decode cX5_count 197 = .ok (.getfield 201, 3) := by decide +kernel
theorem dX5_count_200 : decode cX5_count 200 = .ok (.ireturn, 1) := by decide +kernel
theorem dX5_count_201 : decode cX5_count 201 = .ok (.bipush (-2), 2) := by decide +kernel
theorem dX5_count_203 : decode cX5_count 203 = .ok (.ireturn, 1) := by decide +kernel
theorem dX5_loudest_0 : decode cX5_loudest 0 = .ok (.iload_n 1, 1) := by decide +kernel
theorem dX5_loudest_1 : decode cX5_loudest 1 = .ok (.iconst 0, 1) := by decide +kernel
theorem dX5_loudest_2 : decode cX5_loudest 2 = .ok (.iconst 1, 1) := by decide +kernel
theorem dX5_loudest_3 : decode cX5_loudest 3 = .ok (.invokestatic 101, 3) := by decide +kernel
theorem dX5_loudest_6 : decode cX5_loudest 6 = .ok (.ifCond .ne 6, 3) := by decide +kernel
theorem dX5_loudest_9 : decode cX5_loudest 9 = .ok (.bipush (-2), 2) := by decide +kernel
theorem dX5_loudest_11 : decode cX5_loudest 11 = .ok (.ireturn, 1) := by decide +kernel
theorem dX5_loudest_12 : decode cX5_loudest 12 = .ok (.aload_n 0, 1) := by decide +kernel
theorem dX5_loudest_13 : decode cX5_loudest 13 = .ok (.getfield 12, 3) := by decide +kernel
theorem dX5_loudest_16 : decode cX5_loudest 16 = .ok (.invokevirtual 192, 3) := by decide +kernel
theorem dX5_loudest_19 : decode cX5_loudest 19 = .ok (.istore_n 2, 1) := by decide +kernel
theorem dX5_loudest_20 : decode cX5_loudest 20 = .ok (.aload_n 0, 1) := by decide +kernel
theorem dX5_loudest_21 : decode cX5_loudest 21 = .ok (.getfield 12, 3) := by decide +kernel
theorem dX5_loudest_24 : decode cX5_loudest 24 = .ok (.iload_n 2, 1) := by decide +kernel
theorem dX5_loudest_25 : decode cX5_loudest 25 = .ok (.invokevirtual 195, 3) := by decide +kernel
theorem dX5_loudest_28 : decode cX5_loudest 28 = .ok (.ifCond .ne 6, 3) := by decide +kernel
theorem dX5_loudest_31 : decode cX5_loudest 31 = .ok (.bipush (-6), 2) := by decide +kernel
theorem dX5_loudest_33 : decode cX5_loudest 33 = .ok (.ireturn, 1) := by decide +kernel
theorem dX5_loudest_34 : decode cX5_loudest 34 = .ok (.iload_n 1, 1) := by decide +kernel
theorem dX5_loudest_35 : decode cX5_loudest 35 = .ok (.ifCond .ne 10, 3) := by decide +kernel
theorem dX5_loudest_38 : decode cX5_loudest 38 = .ok (.iload_n 2, 1) := by decide +kernel
theorem dX5_loudest_39 : decode cX5_loudest 39 = .ok (.bipush 10, 2) := by decide +kernel
theorem dX5_loudest_41 : decode cX5_loudest 41 = .ok (.irem, 1) := by decide +kernel
theorem dX5_loudest_42 : decode cX5_loudest 42 = .ok (.goto 7, 3) := by decide +kernel
theorem dX5_loudest_45 : decode cX5_loudest 45 = .ok (.iload_n 2, 1) := by decide +kernel
theorem dX5_loudest_46 : decode cX5_loudest 46 = .ok (.bipush 10, 2) := by decide +kernel
theorem dX5_loudest_48 : decode cX5_loudest 48 = .ok (.idiv, 1) := by decide +kernel
theorem dX5_loudest_49 : decode cX5_loudest 49 = .ok (.ireturn, 1) := by decide +kernel
theorem dX5_crests_0 : decode cX5_crests 0 = .ok (.iload_n 1, 1) := by decide +kernel
theorem dX5_crests_1 : decode cX5_crests 1 = .ok (.iconst 0, 1) := by decide +kernel
theorem dX5_crests_2 : decode cX5_crests 2 = .ok (.iconst 5, 1) := by decide +kernel
theorem dX5_crests_3 : decode cX5_crests 3 = .ok (.invokestatic 101, 3) := by decide +kernel
theorem dX5_crests_6 : decode cX5_crests 6 = .ok (.ifCond .ne 5, 3) := by decide +kernel
theorem dX5_crests_9 : decode cX5_crests 9 = .ok (.iconst (-1), 1) := by decide +kernel
theorem dX5_crests_10 : decode cX5_crests 10 = .ok (.ireturn, 1) := by decide +kernel
theorem dX5_crests_11 : decode cX5_crests 11 = .ok (.iconst 0, 1) := by decide +kernel
theorem dX5_crests_12 : decode cX5_crests 12 = .ok (.istore_n 2, 1) := by decide +kernel
theorem dX5_crests_13 : decode cX5_crests 13 = .ok (.iconst 0, 1) := by decide +kernel
theorem dX5_crests_14 : decode cX5_crests 14 = .ok (.istore_n 3, 1) := by decide +kernel
theorem dX5_crests_15 : decode cX5_crests 15 = .ok (.iload_n 3, 1) := by decide +kernel
theorem dX5_crests_16 : decode cX5_crests 16 = .ok (.bipush 10, 2) := by decide +kernel
theorem dX5_crests_18 : decode cX5_crests 18 = .ok (.if_icmp .ge 24, 3) := by decide +kernel
theorem dX5_crests_21 : decode cX5_crests 21 = .ok (.aload_n 0, 1) := by decide +kernel
theorem dX5_crests_22 : decode cX5_crests 22 = .ok (.getfield 12, 3) := by decide +kernel
theorem dX5_crests_25 : decode cX5_crests 25 = .ok (.iload_n 3, 1) := by decide +kernel
theorem dX5_crests_26 : decode cX5_crests 26 = .ok (.iload_n 1, 1) := by decide +kernel
theorem dX5_crests_27 : decode cX5_crests 27 = .ok (.invokevirtual 202, 3) := by decide +kernel
theorem dX5_crests_30 : decode cX5_crests 30 = .ok (.ifCond .eq 6, 3) := by decide +kernel
theorem dX5_crests_33 : decode cX5_crests 33 = .ok (.iinc 2 1, 3) := by decide +kernel
theorem dX5_crests_36 : decode cX5_crests 36 = .ok (.iinc 3 1, 3) := by decide +kernel
theorem dX5_crests_39 : decode cX5_crests 39 = .ok (.goto (-24), 3) := by decide +kernel
theorem dX5_crests_42 : decode cX5_crests 42 = .ok (.iload_n 2, 1) := by decide +kernel
theorem dX5_crests_43 : decode cX5_crests 43 = .ok (.ireturn, 1) := by decide +kernel
theorem dX5_ifPassed_0 : decode cX5_ifPassed 0 = .ok (.iload_n 1, 1) := by decide +kernel
theorem dX5_ifPassed_1 : decode cX5_ifPassed 1 = .ok (.iload_n 2, 1) := by decide +kernel
theorem dX5_ifPassed_2 : decode cX5_ifPassed 2 = .ok (.invokestatic 55, 3) := by decide +kernel
theorem dX5_ifPassed_5 : decode cX5_ifPassed 5 = .ok (.ifCond .ne 5, 3) := by decide +kernel
theorem dX5_ifPassed_8 : decode cX5_ifPassed 8 = .ok (.iconst (-1), 1) := by decide +kernel
theorem dX5_ifPassed_9 : decode cX5_ifPassed 9 = .ok (.ireturn, 1) := by decide +kernel
theorem dX5_ifPassed_10 : decode cX5_ifPassed 10 = .ok (.iload_n 3, 1) := by decide +kernel
theorem dX5_ifPassed_11 : decode cX5_ifPassed 11 = .ok (.iconst 1, 1) := by decide +kernel
theorem dX5_ifPassed_12 : decode cX5_ifPassed 12 = .ok (.bipush 60, 2) := by decide +kernel
theorem dX5_ifPassed_14 : decode cX5_ifPassed 14 = .ok (.invokestatic 101, 3) := by decide +kernel
theorem dX5_ifPassed_17 : decode cX5_ifPassed 17 = .ok (.ifCond .ne 6, 3) := by decide +kernel
theorem dX5_ifPassed_20 : decode cX5_ifPassed 20 = .ok (.bipush (-2), 2) := by decide +kernel
theorem dX5_ifPassed_22 : decode cX5_ifPassed 22 = .ok (.ireturn, 1) := by decide +kernel
theorem dX5_ifPassed_23 : decode cX5_ifPassed 23 = .ok (.aload_n 0, 1) := by decide +kernel
theorem dX5_ifPassed_24 : decode cX5_ifPassed 24 = .ok (.getfield 16, 3) := by decide +kernel
theorem dX5_ifPassed_27 : decode cX5_ifPassed 27 = .ok (.aload_n 0, 1) := by decide +kernel
theorem dX5_ifPassed_28 : decode cX5_ifPassed 28 = .ok (.getfield 12, 3) := by decide +kernel
theorem dX5_ifPassed_31 : decode cX5_ifPassed 31 = .ok (.invokevirtual 205, 3) := by decide +kernel
theorem dX5_ifPassed_34 : decode cX5_ifPassed 34 = .ok (.aload_n 0, 1) := by decide +kernel
theorem dX5_ifPassed_35 : decode cX5_ifPassed 35 = .ok (.getfield 16, 3) := by decide +kernel
theorem dX5_ifPassed_38 : decode cX5_ifPassed 38 = .ok (.iload_n 3, 1) := by decide +kernel
theorem dX5_ifPassed_39 : decode cX5_ifPassed 39 = .ok (.invokevirtual 139, 3) := by decide +kernel
theorem dX5_ifPassed_42 : decode cX5_ifPassed 42 = .ok (.aload_n 0, 1) := by decide +kernel
theorem dX5_ifPassed_43 : decode cX5_ifPassed 43 = .ok (.getfield 16, 3) := by decide +kernel
theorem dX5_ifPassed_46 : decode cX5_ifPassed 46 = .ok (.getfield 120, 3) := by decide +kernel
theorem dX5_ifPassed_49 : decode cX5_ifPassed 49 = .ok (.iload_n 1, 1) := by decide +kernel
theorem dX5_ifPassed_50 : decode cX5_ifPassed 50 = .ok (.iload_n 2, 1) := by decide +kernel
theorem dX5_ifPassed_51 : decode cX5_ifPassed 51 = .ok (.invokestatic 59, 3) := by decide +kernel
theorem dX5_ifPassed_54 : decode cX5_ifPassed 54 = .ok (.iaload, 1) := by decide +kernel
theorem dX5_ifPassed_55 : decode cX5_ifPassed 55 = .ok (.sipush 10000, 3) := by decide +kernel
theorem dX5_ifPassed_58 : decode cX5_ifPassed 58 = .ok (.iadd, 1) := by decide +kernel
theorem dX5_ifPassed_59 : decode cX5_ifPassed 59 = .ok (.ireturn, 1) := by decide +kernel
theorem dX5_comes_0 : decode cX5_comes 0 = .ok (.iload_n 1, 1) := by decide +kernel
theorem dX5_comes_1 : decode cX5_comes 1 = .ok (.iload_n 2, 1) := by decide +kernel
theorem dX5_comes_2 : decode cX5_comes 2 = .ok (.invokestatic 55, 3) := by decide +kernel
theorem dX5_comes_5 : decode cX5_comes 5 = .ok (.ifCond .ne 5, 3) := by decide +kernel
theorem dX5_comes_8 : decode cX5_comes 8 = .ok (.iconst (-1), 1) := by decide +kernel
theorem dX5_comes_9 : decode cX5_comes 9 = .ok (.ireturn, 1) := by decide +kernel
theorem dX5_comes_10 : decode cX5_comes 10 = .ok (.iload_n 1, 1) := by decide +kernel
theorem dX5_comes_11 : decode cX5_comes 11 = .ok (.iload_n 2, 1) := by decide +kernel
theorem dX5_comes_12 : decode cX5_comes 12 = .ok (.invokestatic 59, 3) := by decide +kernel
theorem dX5_comes_15 : decode cX5_comes 15 = .ok (.istore_n 3, 1) := by decide +kernel
theorem dX5_comes_16 : decode cX5_comes 16 = .ok (.aload_n 0, 1) := by decide +kernel
theorem dX5_comes_17 : decode cX5_comes 17 = .ok (.getfield 12, 3) := by decide +kernel
theorem dX5_comes_20 : decode cX5_comes 20 = .ok (.iload_n 3, 1) := by decide +kernel
theorem dX5_comes_21 : decode cX5_comes 21 = .ok (.invokevirtual 151, 3) := by decide +kernel
theorem dX5_comes_24 : decode cX5_comes 24 = .ok (.ifCond .ne 6, 3) := by decide +kernel
theorem dX5_comes_27 : decode cX5_comes 27 = .ok (.bipush (-5), 2) := by decide +kernel
theorem dX5_comes_29 : decode cX5_comes 29 = .ok (.ireturn, 1) := by decide +kernel
theorem dX5_comes_30 : decode cX5_comes 30 = .ok (.aload_n 0, 1) := by decide +kernel
theorem dX5_comes_31 : decode cX5_comes 31 = .ok (.getfield 16, 3) := by decide +kernel
theorem dX5_comes_34 : decode cX5_comes 34 = .ok (.aload_n 0, 1) := by decide +kernel
theorem dX5_comes_35 : decode cX5_comes 35 = .ok (.getfield 12, 3) := by decide +kernel
theorem dX5_comes_38 : decode cX5_comes 38 = .ok (.invokevirtual 205, 3) := by decide +kernel
theorem dX5_comes_41 : decode cX5_comes 41 = .ok (.iconst 1, 1) := by decide +kernel
theorem dX5_comes_42 : decode cX5_comes 42 = .ok (.istore 4, 2) := by decide +kernel
theorem dX5_comes_44 : decode cX5_comes 44 = .ok (.iload 4, 2) := by decide +kernel
theorem dX5_comes_46 : decode cX5_comes 46 = .ok (.bipush 80, 2) := by decide +kernel
theorem dX5_comes_48 : decode cX5_comes 48 = .ok (.if_icmp .gt 30, 3) := by decide +kernel
theorem dX5_comes_51 : decode cX5_comes 51 = .ok (.aload_n 0, 1) := by decide +kernel
theorem dX5_comes_52 : decode cX5_comes 52 = .ok (.getfield 16, 3) := by decide +kernel
theorem dX5_comes_55 : decode cX5_comes 55 = .ok (.invokevirtual 208, 3) := by decide +kernel
theorem dX5_comes_58 : decode cX5_comes 58 = .ok (.aload_n 0, 1) := by decide +kernel
theorem dX5_comes_59 : decode cX5_comes 59 = .ok (.getfield 16, 3) := by decide +kernel
theorem dX5_comes_62 : decode cX5_comes 62 = .ok (.iload_n 3, 1) := by decide +kernel
theorem dX5_comes_63 : decode cX5_comes 63 = .ok (.invokevirtual 151, 3) := by decide +kernel
theorem dX5_comes_66 : decode cX5_comes 66 = .ok (.ifCond .ne 6, 3) := by decide +kernel
theorem dX5_comes_69 : decode cX5_comes 69 = .ok (.iload 4, 2) := by decide +kernel
theorem dX5_comes_71 : decode cX5_comes 71 = .ok (.ireturn, 1) := by decide +kernel
theorem dX5_comes_72 : decode cX5_comes 72 = .ok (.iinc 4 1, 3) := by decide +kernel
theorem dX5_comes_75 : decode cX5_comes 75 = .ok (.goto (-31), 3) := by decide +kernel
theorem dX5_comes_78 : decode cX5_comes 78 = .ok (.bipush (-6), 2) := by decide +kernel
theorem dX5_comes_80 : decode cX5_comes 80 = .ok (.ireturn, 1) := by decide +kernel
theorem dX5_hush_0 : decode cX5_hush 0 = .ok (.aload_n 0, 1) := by decide +kernel
theorem dX5_hush_1 : decode cX5_hush 1 = .ok (.iload_n 1, 1) := by decide +kernel
theorem dX5_hush_2 : decode cX5_hush 2 = .ok (.invokevirtual 112, 3) := by decide +kernel
theorem dX5_hush_5 : decode cX5_hush 5 = .ok (.ifCond .eq 11, 3) := by decide +kernel
theorem dX5_hush_8 : decode cX5_hush 8 = .ok (.iload_n 2, 1) := by decide +kernel
theorem dX5_hush_9 : decode cX5_hush 9 = .ok (.iload_n 3, 1) := by decide +kernel
theorem dX5_hush_10 : decode cX5_hush 10 = .ok (.invokestatic 55, 3) := by decide +kernel
theorem dX5_hush_13 : decode cX5_hush 13 = .ok (.ifCond .ne 5, 3) := by decide +kernel
theorem dX5_hush_16 : decode cX5_hush 16 = .ok (.iconst (-1), 1) := by decide +kernel
theorem dX5_hush_17 : decode cX5_hush 17 = .ok (.ireturn, 1) := by decide +kernel
theorem dX5_hush_18 : decode cX5_hush 18 = .ok (.iload 4, 2) := by decide +kernel
theorem dX5_hush_20 : decode cX5_hush 20 = .ok (.iconst 1, 1) := by decide +kernel
theorem dX5_hush_21 : decode cX5_hush 21 = .ok (.bipush 30, 2) := by decide +kernel
theorem dX5_hush_23 : decode cX5_hush 23 = .ok (.invokestatic 101, 3) := by decide +kernel
theorem dX5_hush_26 : decode cX5_hush 26 = .ok (.ifCond .eq 13, 3) := by decide +kernel
theorem dX5_hush_29 : decode cX5_hush 29 = .ok (.iload 5, 2) := by decide +kernel
theorem dX5_hush_31 : decode cX5_hush 31 = .ok (.iconst 0, 1) := by decide +kernel
theorem dX5_hush_32 : decode cX5_hush 32 = .ok (.iconst 1, 1) := by decide +kernel
theorem dX5_hush_33 : decode cX5_hush 33 = .ok (.invokestatic 101, 3) := by decide +kernel
theorem dX5_hush_36 : decode cX5_hush 36 = .ok (.ifCond .ne 6, 3) := by decide +kernel
theorem dX5_hush_39 : decode cX5_hush 39 = .ok (.bipush (-2), 2) := by decide +kernel
theorem dX5_hush_41 : decode cX5_hush 41 = .ok (.ireturn, 1) := by decide +kernel
theorem dX5_hush_42 : decode cX5_hush 42 = .ok (.iload_n 2, 1) := by decide +kernel
theorem dX5_hush_43 : decode cX5_hush 43 = .ok (.iload_n 3, 1) := by decide +kernel
theorem dX5_hush_44 : decode cX5_hush 44 = .ok (.invokestatic 59, 3) := by decide +kernel
theorem dX5_hush_47 : decode cX5_hush 47 = .ok (.istore 6, 2) := by decide +kernel
theorem dX5_hush_49 : decode cX5_hush 49 = .ok (.iconst 0, 1) := by decide +kernel
theorem dX5_hush_50 : decode cX5_hush 50 = .ok (.istore 7, 2) := by decide +kernel
theorem dX5_hush_52 : decode cX5_hush 52 = .ok (.aload_n 0, 1) := by decide +kernel
theorem dX5_hush_53 : decode cX5_hush 53 = .ok (.iload_n 1, 1) := by decide +kernel
theorem dX5_hush_54 : decode cX5_hush 54 = .ok (.iconst 0, 1) := by decide +kernel
theorem dX5_hush_55 : decode cX5_hush 55 = .ok (.iload 6, 2) := by decide +kernel
theorem dX5_hush_57 : decode cX5_hush 57 = .ok (.iload 4, 2) := by decide +kernel
theorem dX5_hush_59 : decode cX5_hush 59 = .ok (.invokevirtual 211, 3) := by decide +kernel
theorem dX5_hush_62 : decode cX5_hush 62 = .ok (.istore 8, 2) := by decide +kernel
theorem dX5_hush_64 : decode cX5_hush 64 = .ok (.iconst 1, 1) := by decide +kernel
theorem dX5_hush_65 : decode cX5_hush 65 = .ok (.istore 9, 2) := by decide +kernel
theorem dX5_hush_67 : decode cX5_hush 67 = .ok (.iload 9, 2) := by decide +kernel
theorem dX5_hush_69 : decode cX5_hush 69 = .ok (.aload_n 0, 1) := by decide +kernel
theorem dX5_hush_70 : decode cX5_hush 70 = .ok (.getfield 12, 3) := by decide +kernel
theorem dX5_hush_73 : decode cX5_hush 73 = .ok (.getfield 63, 3) := by decide +kernel
theorem dX5_hush_76 : decode cX5_hush 76 = .ok (.getfield 160, 3) := by decide +kernel
theorem dX5_hush_79 : decode cX5_hush 79 = .ok (.iload_n 1, 1) := by decide +kernel
theorem dX5_hush_80 : decode cX5_hush 80 = .ok (.iaload, 1) := by decide +kernel
theorem dX5_hush_81 : decode cX5_hush 81 = .ok (.if_icmp .ge 37, 3) := by decide +kernel
theorem dX5_hush_84 : decode cX5_hush 84 = .ok (.aload_n 0, 1) := by decide +kernel
theorem dX5_hush_85 : decode cX5_hush 85 = .ok (.iload_n 1, 1) := by decide +kernel
theorem dX5_hush_86 : decode cX5_hush 86 = .ok (.iload 9, 2) := by decide +kernel
theorem dX5_hush_88 : decode cX5_hush 88 = .ok (.iload 6, 2) := by decide +kernel
theorem dX5_hush_90 : decode cX5_hush 90 = .ok (.iload 4, 2) := by decide +kernel
theorem dX5_hush_92 : decode cX5_hush 92 = .ok (.invokevirtual 211, 3) := by decide +kernel
theorem dX5_hush_95 : decode cX5_hush 95 = .ok (.istore 10, 2) := by decide +kernel
theorem dX5_hush_97 : decode cX5_hush 97 = .ok (.iload 10, 2) := by decide +kernel
theorem dX5_hush_99 : decode cX5_hush 99 = .ok (.iload 8, 2) := by decide +kernel
theorem dX5_hush_101 : decode cX5_hush 101 = .ok (.if_icmp .ge 11, 3) := by decide +kernel
theorem dX5_hush_104 : decode cX5_hush 104 = .ok (.iload 9, 2) := by decide +kernel
theorem dX5_hush_106 : decode cX5_hush 106 = .ok (.istore 7, 2) := by decide +kernel
theorem dX5_hush_108 : decode cX5_hush 108 = .ok (.iload 10, 2) := by decide +kernel
theorem dX5_hush_110 : decode cX5_hush 110 = .ok (.istore 8, 2) := by decide +kernel
theorem dX5_hush_112 : decode cX5_hush 112 = .ok (.iinc 9 1, 3) := by decide +kernel
theorem dX5_hush_115 : decode cX5_hush 115 = .ok (.goto (-48), 3) := by decide +kernel
theorem dX5_hush_118 : decode cX5_hush 118 = .ok (.iload 5, 2) := by decide +kernel
theorem dX5_hush_120 : decode cX5_hush 120 = .ok (.ifCond .ne 8, 3) := by decide +kernel
theorem dX5_hush_123 : decode cX5_hush 123 = .ok (.iload 7, 2) := by decide +kernel
theorem dX5_hush_125 : decode cX5_hush 125 = .ok (.goto 5, 3) := by decide +kernel
theorem dX5_hush_128 : decode cX5_hush 128 = .ok (.iload 8, 2) := by decide +kernel
theorem dX5_hush_130 : decode cX5_hush 130 = .ok (.ireturn, 1) := by decide +kernel
theorem dX5_put_0 : decode cX5_put 0 = .ok (.lload_n 1, 1) := by decide +kernel
theorem dX5_put_1 : decode cX5_put 1 = .ok (.invokestatic 214, 3) := by decide +kernel
theorem dX5_put_4 : decode cX5_put 4 = .ok (.istore_n 3, 1) := by decide +kernel
theorem dX5_put_5 : decode cX5_put 5 = .ok (.iload_n 3, 1) := by decide +kernel
theorem dX5_put_6 : decode cX5_put 6 = .ok (.ifCond .ne 6, 3) := by decide +kernel
theorem dX5_put_9 : decode cX5_put 9 = .ok (.bipush (-2), 2) := by decide +kernel
theorem dX5_put_11 : decode cX5_put 11 = .ok (.ireturn, 1) := by decide +kernel
theorem dX5_put_12 : decode cX5_put 12 = .ok (.aload_n 0, 1) := by decide +kernel
theorem dX5_put_13 : decode cX5_put 13 = .ok (.getfield 37, 3) := by decide +kernel
theorem dX5_put_16 : decode cX5_put 16 = .ok (.getfield 88, 3) := by decide +kernel
theorem dX5_put_19 : decode cX5_put 19 = .ok (.iload_n 3, 1) := by decide +kernel
theorem dX5_put_20 : decode cX5_put 20 = .ok (.iadd, 1) := by decide +kernel
theorem dX5_put_21 : decode cX5_put 21 = .ok (.bipush 72, 2) := by decide +kernel
theorem dX5_put_23 : decode cX5_put 23 = .ok (.if_icmp .le 6, 3) := by decide +kernel
theorem dX5_put_26 : decode cX5_put 26 = .ok (.bipush (-4), 2) := by decide +kernel
theorem dX5_put_28 : decode cX5_put 28 = .ok (.ireturn, 1) := by decide +kernel
theorem dX5_put_29 : decode cX5_put 29 = .ok (.aload_n 0, 1) := by decide +kernel
theorem dX5_put_30 : decode cX5_put 30 = .ok (.getfield 37, 3) := by decide +kernel
theorem dX5_put_33 : decode cX5_put 33 = .ok (.lload_n 1, 1) := by decide +kernel
theorem dX5_put_34 : decode cX5_put 34 = .ok (.iload_n 3, 1) := by decide +kernel
theorem dX5_put_35 : decode cX5_put 35 = .ok (.invokevirtual 218, 3) := by decide +kernel
theorem dX5_put_38 : decode cX5_put 38 = .ok (.aload_n 0, 1) := by decide +kernel
theorem dX5_put_39 : decode cX5_put 39 = .ok (.getfield 37, 3) := by decide +kernel
theorem dX5_put_42 : decode cX5_put 42 = .ok (.getfield 88, 3) := by decide +kernel
theorem dX5_put_45 : decode cX5_put 45 = .ok (.ireturn, 1) := by decide +kernel
