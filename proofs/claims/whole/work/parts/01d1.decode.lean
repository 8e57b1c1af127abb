theorem dX4_init_33 : decode cX4_init 33 = .ok (.aload_n 0, 1) := by decide +kernel
theorem dX4_init_34 : decode cX4_init 34 = .ok (.bipush 60, 2) := by decide +kernel
theorem dX4_init_36 : decode cX4_init 36 = .ok (.newarray .int, 2) := by decide +kernel
theorem dX4_init_38 : decode cX4_init 38 = .ok (.putfield 29, 3) := by decide +kernel
theorem dX4_init_41 : decode cX4_init 41 = .ok (.aload_n 0, 1) := by decide +kernel
theorem dX4_init_42 : decode cX4_init 42 = .ok (.bipush 60, 2) := by decide +kernel
theorem dX4_init_44 : decode cX4_init 44 = .ok (.newarray .int, 2) := by decide +kernel
theorem dX4_init_46 : decode cX4_init 46 = .ok (.putfield 32, 3) := by decide +kernel
theorem dX4_init_49 : decode cX4_init 49 = .ok (.aload_n 0, 1) := by decide +kernel
theorem dX4_init_50 : decode cX4_init 50 = .ok (.new 35, 3) := by decide +kernel
theorem dX4_init_53 : decode cX4_init 53 = .ok (.dup, 1) := by decide +kernel
theorem dX4_init_54 : decode cX4_init 54 = .ok (.invokespecial 37, 3) := by decide +kernel
theorem dX4_init_57 : decode cX4_init 57 = .ok (.putfield 38, 3) := by decide +kernel
theorem dX4_init_60 : decode cX4_init 60 = .ok (.aload_n 0, 1) := by decide +kernel
theorem dX4_init_61 : decode cX4_init 61 = .ok (.new 42, 3) := by decide +kernel
theorem dX4_init_64 : decode cX4_init 64 = .ok (.dup, 1) := by decide +kernel
theorem dX4_init_65 : decode cX4_init 65 = .ok (.invokespecial 44, 3) := by decide +kernel
theorem dX4_init_68 : decode cX4_init 68 = .ok (.putfield 45, 3) := by decide +kernel
theorem dX4_init_71 : decode cX4_init 71 = .ok (.aload_n 0, 1) := by decide +kernel
theorem dX4_init_72 : decode cX4_init 72 = .ok (.iconst 0, 1) := by decide +kernel
theorem dX4_init_73 : decode cX4_init 73 = .ok (.putfield 49, 3) := by decide +kernel
theorem dX4_init_76 : decode cX4_init 76 = .ok (.aload_n 0, 1) := by decide +kernel
theorem dX4_init_77 : decode cX4_init 77 = .ok (.getfield 32, 3) := by decide +kernel
theorem dX4_init_80 : decode cX4_init 80 = .ok (.bipush (-6), 2) := by decide +kernel
theorem dX4_init_82 : decode cX4_init 82 = .ok (.invokestatic 53, 3) := by decide +kernel
theorem dX4_init_85 : decode cX4_init 85 = .ok (.return_, 1) := by decide +kernel
theorem dX4_become_0 : decode cX4_become 0 = .ok (.aload_n 1, 1) := by decide +kernel
theorem dX4_become_1 : decode cX4_become 1 = .ok (.getfield 18, 3) := by decide +kernel
theorem dX4_become_4 : decode cX4_become 4 = .ok (.iconst 0, 1) := by decide +kernel
theorem dX4_become_5 : decode cX4_become 5 = .ok (.aload_n 0, 1) := by decide +kernel
theorem dX4_become_6 : decode cX4_become 6 = .ok (.getfield 18, 3) := by decide +kernel
theorem dX4_become_9 : decode cX4_become 9 = .ok (.iconst 0, 1) := by decide +kernel
theorem dX4_become_10 : decode cX4_become 10 = .ok (.iconst 4, 1) := by decide +kernel
theorem dX4_become_11 : decode cX4_become 11 = .ok (.invokestatic 59, 3) := by decide +kernel
theorem dX4_become_14 : decode cX4_become 14 = .ok (.aload_n 1, 1) := by decide +kernel
theorem dX4_become_15 : decode cX4_become 15 = .ok (.getfield 23, 3) := by decide +kernel
theorem dX4_become_18 : decode cX4_become 18 = .ok (.iconst 0, 1) := by decide +kernel
theorem dX4_become_19 : decode cX4_become 19 = .ok (.aload_n 0, 1) := by decide +kernel
theorem dX4_become_20 : decode cX4_become 20 = .ok (.getfield 23, 3) := by decide +kernel
theorem dX4_become_23 : decode cX4_become 23 = .ok (.iconst 0, 1) := by decide +kernel
theorem dX4_become_24 : decode cX4_become 24 = .ok (.bipush 60, 2) := by decide +kernel
theorem dX4_become_26 : decode cX4_become 26 = .ok (.invokestatic 59, 3) := by decide +kernel
theorem dX4_become_29 : decode cX4_become 29 = .ok (.aload_n 1, 1) := by decide +kernel
theorem dX4_become_30 : decode cX4_become 30 = .ok (.getfield 26, 3) := by decide +kernel
theorem dX4_become_33 : decode cX4_become 33 = .ok (.iconst 0, 1) := by decide +kernel
theorem dX4_become_34 : decode cX4_become 34 = .ok (.aload_n 0, 1) := by decide +kernel
theorem dX4_become_35 : decode cX4_become 35 = .ok (.getfield 26, 3) := by decide +kernel
theorem dX4_become_38 : decode cX4_become 38 = .ok (.iconst 0, 1) := by decide +kernel
theorem dX4_become_39 : decode cX4_become 39 = .ok (.bipush 60, 2) := by decide +kernel
theorem dX4_become_41 : decode cX4_become 41 = .ok (.invokestatic 59, 3) := by decide +kernel
theorem dX4_become_44 : decode cX4_become 44 = .ok (.aload_n 1, 1) := by decide +kernel
theorem dX4_become_45 : decode cX4_become 45 = .ok (.getfield 29, 3) := by decide +kernel
theorem dX4_become_48 : decode cX4_become 48 = .ok (.iconst 0, 1) := by decide +kernel
theorem dX4_become_49 : decode cX4_become 49 = .ok (.aload_n 0, 1) := by decide +kernel
theorem dX4_become_50 : decode cX4_become 50 = .ok (.getfield 29, 3) := by decide +kernel
theorem dX4_become_53 : decode cX4_become 53 = .ok (.iconst 0, 1) := by decide +kernel
theorem dX4_become_54 : decode cX4_become 54 = .ok (.bipush 60, 2) := by decide +kernel
theorem dX4_become_56 : decode cX4_become 56 = .ok (.invokestatic 59, 3) := by decide +kernel
theorem dX4_become_59 : decode cX4_become 59 = .ok (.aload_n 1, 1) := by decide +kernel
theorem dX4_become_60 : decode cX4_become 60 = .ok (.getfield 32, 3) := by decide +kernel
theorem dX4_become_63 : decode cX4_become 63 = .ok (.iconst 0, 1) := by decide +kernel
theorem dX4_become_64 : decode cX4_become 64 = .ok (.aload_n 0, 1) := by decide +kernel
theorem dX4_become_65 : decode cX4_become 65 = .ok (.getfield 32, 3) := by decide +kernel
theorem dX4_become_68 : decode cX4_become 68 = .ok (.iconst 0, 1) := by decide +kernel
theorem dX4_become_69 : decode cX4_become 69 = .ok (.bipush 60, 2) := by decide +kernel
theorem dX4_become_71 : decode cX4_become 71 = .ok (.invokestatic 59, 3) := by decide +kernel
theorem dX4_become_74 : decode cX4_become 74 = .ok (.aload_n 0, 1) := by decide +kernel
theorem dX4_become_75 : decode cX4_become 75 = .ok (.getfield 38, 3) := by decide +kernel
theorem dX4_become_78 : decode cX4_become 78 = .ok (.aload_n 1, 1) := by decide +kernel
theorem dX4_become_79 : decode cX4_become 79 = .ok (.getfield 38, 3) := by decide +kernel
theorem dX4_become_82 : decode cX4_become 82 = .ok (.invokevirtual 65, 3) := by decide +kernel
theorem dX4_become_85 : decode cX4_become 85 = .ok (.aload_n 0, 1) := by decide +kernel
theorem dX4_become_86 : decode cX4_become 86 = .ok (.getfield 45, 3) := by decide +kernel
theorem dX4_become_89 : decode cX4_become 89 = .ok (.aload_n 1, 1) := by decide +kernel
theorem dX4_become_90 : decode cX4_become 90 = .ok (.getfield 45, 3) := by decide +kernel
theorem dX4_become_93 : decode cX4_become 93 = .ok (.invokevirtual 69, 3) := by decide +kernel
theorem dX4_become_96 : decode cX4_become 96 = .ok (.aload_n 0, 1) := by decide +kernel
theorem dX4_become_97 : decode cX4_become 97 = .ok (.aload_n 1, 1) := by decide +kernel
theorem dX4_become_98 : decode cX4_become 98 = .ok (.getfield 49, 3) := by decide +kernel
theorem dX4_become_101 : decode cX4_become 101 = .ok (.putfield 49, 3) := by decide +kernel
theorem dX4_become_104 : decode cX4_become 104 = .ok (.return_, 1) := by decide +kernel
theorem dX4_lay_0 : decode cX4_lay 0 = .ok (.aload_n 0, 1) := by decide +kernel
theorem dX4_lay_1 : decode cX4_lay 1 = .ok (.getfield 23, 3) := by decide +kernel
theorem dX4_lay_4 : decode cX4_lay 4 = .ok (.iload_n 1, 1) := by decide +kernel
theorem dX4_lay_5 : decode cX4_lay 5 = .ok (.iload_n 2, 1) := by decide +kernel
theorem dX4_lay_6 : decode cX4_lay 6 = .ok (.iastore, 1) := by decide +kernel
theorem dX4_lay_7 : decode cX4_lay 7 = .ok (.iload_n 2, 1) := by decide +kernel
theorem dX4_lay_8 : decode cX4_lay 8 = .ok (.iconst 2, 1) := by decide +kernel
theorem dX4_lay_9 : decode cX4_lay 9 = .ok (.if_icmp .ne 17, 3) := by decide +kernel
theorem dX4_lay_12 : decode cX4_lay 12 = .ok (.aload_n 0, 1) := by decide +kernel
theorem dX4_lay_13 : decode cX4_lay 13 = .ok (.getfield 26, 3) := by decide +kernel
theorem dX4_lay_16 : decode cX4_lay 16 = .ok (.iload_n 1, 1) := by decide +kernel
theorem dX4_lay_17 : decode cX4_lay 17 = .ok (.iconst 0, 1) := by decide +kernel
theorem dX4_lay_18 : decode cX4_lay 18 = .ok (.iastore, 1) := by decide +kernel
theorem dX4_lay_19 : decode cX4_lay 19 = .ok (.aload_n 0, 1) := by decide +kernel
theorem dX4_lay_20 : decode cX4_lay 20 = .ok (.getfield 29, 3) := by decide +kernel
theorem dX4_lay_23 : decode cX4_lay 23 = .ok (.iload_n 1, 1) := by decide +kernel
theorem dX4_lay_24 : decode cX4_lay 24 = .ok (.iconst 0, 1) := by decide +kernel
theorem dX4_lay_25 : decode cX4_lay 25 = .ok (.iastore, 1) := by decide +kernel
theorem dX4_lay_26 : decode cX4_lay 26 = .ok (.return_, 1) := by decide +kernel
theorem dX4_layAll_0 : decode cX4_layAll 0 = .ok (.iconst 0, 1) := by decide +kernel
theorem dX4_layAll_1 : decode cX4_layAll 1 = .ok (.istore_n 2, 1) := by decide +kernel
theorem dX4_layAll_2 : decode cX4_layAll 2 = .ok (.iload_n 2, 1) := by decide +kernel
theorem dX4_layAll_3 : decode cX4_layAll 3 = .ok (.bipush 60, 2) := by decide +kernel
theorem dX4_layAll_5 : decode cX4_layAll 5 = .ok (.if_icmp .ge 20, 3) := by decide +kernel
theorem dX4_layAll_8 : decode cX4_layAll 8 = .ok (.aload_n 0, 1) := by decide +kernel
theorem dX4_layAll_9 : decode cX4_layAll 9 = .ok (.getfield 23, 3) := by decide +kernel
theorem dX4_layAll_12 : decode cX4_layAll 12 = .ok (.iload_n 2, 1) := by decide +kernel
theorem dX4_layAll_13 : decode cX4_layAll 13 = .ok (.aload_n 1, 1) := by decide +kernel
theorem dX4_layAll_14 : decode cX4_layAll 14 = .ok (.iload_n 2, 1) := by decide +kernel
theorem dX4_layAll_15 : decode cX4_layAll 15 = .ok (.invokevirtual 72, 3) := by decide +kernel
theorem dX4_layAll_18 : decode cX4_layAll 18 = .ok (.iastore, 1) := by decide +kernel
theorem dX4_layAll_19 : decode cX4_layAll 19 = .ok (.iinc 2 1, 3) := by decide +kernel
theorem dX4_layAll_22 : decode cX4_layAll 22 = .ok (.goto (-20), 3) := by decide +kernel
theorem dX4_layAll_25 : decode cX4_layAll 25 = .ok (.aload_n 0, 1) := by decide +kernel
theorem dX4_layAll_26 : decode cX4_layAll 26 = .ok (.getfield 38, 3) := by decide +kernel
theorem dX4_layAll_29 : decode cX4_layAll 29 = .ok (.iconst 0, 1) := by decide +kernel
theorem dX4_layAll_30 : decode cX4_layAll 30 = .ok (.putfield 78, 3) := by decide +kernel
theorem dX4_layAll_33 : decode cX4_layAll 33 = .ok (.aload_n 0, 1) := by decide +kernel
theorem dX4_layAll_34 : decode cX4_layAll 34 = .ok (.getfield 45, 3) := by decide +kernel
theorem dX4_layAll_37 : decode cX4_layAll 37 = .ok (.iconst 0, 1) := by decide +kernel
theorem dX4_layAll_38 : decode cX4_layAll 38 = .ok (.putfield 81, 3) := by decide +kernel
theorem dX4_layAll_41 : decode cX4_layAll 41 = .ok (.aload_n 0, 1) := by decide +kernel
theorem dX4_layAll_42 : decode cX4_layAll 42 = .ok (.invokevirtual 82, 3) := by decide +kernel
theorem dX4_layAll_45 : decode cX4_layAll 45 = .ok (.return_, 1) := by decide +kernel
theorem dX4_calm_0 : decode cX4_calm 0 = .ok (.aload_n 0, 1) := by decide +kernel
theorem dX4_calm_1 : decode cX4_calm 1 = .ok (.getfield 26, 3) := by decide +kernel
theorem dX4_calm_4 : decode cX4_calm 4 = .ok (.iconst 0, 1) := by decide +kernel
theorem dX4_calm_5 : decode cX4_calm 5 = .ok (.invokestatic 53, 3) := by decide +kernel
theorem dX4_calm_8 : decode cX4_calm 8 = .ok (.aload_n 0, 1) := by decide +kernel
theorem dX4_calm_9 : decode cX4_calm 9 = .ok (.getfield 29, 3) := by decide +kernel
theorem dX4_calm_12 : decode cX4_calm 12 = .ok (.iconst 0, 1) := by decide +kernel
theorem dX4_calm_13 : decode cX4_calm 13 = .ok (.invokestatic 53, 3) := by decide +kernel
theorem dX4_calm_16 : decode cX4_calm 16 = .ok (.aload_n 0, 1) := by decide +kernel
theorem dX4_calm_17 : decode cX4_calm 17 = .ok (.getfield 32, 3) := by decide +kernel
theorem dX4_calm_20 : decode cX4_calm 20 = .ok (.bipush (-6), 2) := by decide +kernel
theorem dX4_calm_22 : decode cX4_calm 22 = .ok (.invokestatic 53, 3) := by decide +kernel
theorem dX4_calm_25 : decode cX4_calm 25 = .ok (.aload_n 0, 1) := by decide +kernel
theorem dX4_calm_26 : decode cX4_calm 26 = .ok (.getfield 45, 3) := by decide +kernel
theorem dX4_calm_29 : decode cX4_calm 29 = .ok (.invokevirtual 85, 3) := by decide +kernel
theorem dX4_calm_32 : decode cX4_calm 32 = .ok (.aload_n 0, 1) := by decide +kernel
theorem dX4_calm_33 : decode cX4_calm 33 = .ok (.iconst 0, 1) := by decide +kernel
theorem dX4_calm_34 : decode cX4_calm 34 = .ok (.putfield 49, 3) := by decide +kernel
theorem dX4_calm_37 : decode cX4_calm 37 = .ok (.return_, 1) := by decide +kernel
theorem dX4_run_0 : decode cX4_run 0 = .ok (.iconst 0, 1) := by decide +kernel
theorem dX4_run_1 : decode cX4_run 1 = .ok (.istore_n 2, 1) := by decide +kernel
theorem dX4_run_2 : decode cX4_run 2 = .ok (.iload_n 2, 1) := by decide +kernel
theorem dX4_run_3 : decode cX4_run 3 = .ok (.iload_n 1, 1) := by decide +kernel
theorem dX4_run_4 : decode cX4_run 4 = .ok (.if_icmp .ge 13, 3) := by decide +kernel
theorem dX4_run_7 : decode cX4_run 7 = .ok (.aload_n 0, 1) := by decide +kernel
theorem dX4_run_8 : decode cX4_run 8 = .ok (.invokevirtual 88, 3) := by decide +kernel
theorem dX4_run_11 : decode cX4_run 11 = .ok (.iinc 2 1, 3) := by decide +kernel
theorem dX4_run_14 : decode cX4_run 14 = .ok (.goto (-12), 3) := by decide +kernel
theorem dX4_run_17 : decode cX4_run 17 = .ok (.return_, 1) := by decide +kernel
theorem dX4_step_0 : decode cX4_step 0 = .ok (.aload_n 0, 1) := by decide +kernel
theorem dX4_step_1 : decode cX4_step 1 = .ok (.getfield 29, 3) := by decide +kernel
theorem dX4_step_4 : decode cX4_step 4 = .ok (.astore_n 1, 1) := by decide +kernel
theorem dX4_step_5 : decode cX4_step 5 = .ok (.iconst 0, 1) := by decide +kernel
theorem dX4_step_6 : decode cX4_step 6 = .ok (.istore_n 2, 1) := by decide +kernel
theorem dX4_step_7 : decode cX4_step 7 = .ok (.iload_n 2, 1) := by decide +kernel
theorem dX4_step_8 : decode cX4_step 8 = .ok (.bipush 60, 2) := by decide +kernel
theorem dX4_step_10 : decode cX4_step 10 = .ok (.if_icmp .ge 31, 3) := by decide +kernel
theorem dX4_step_13 : decode cX4_step 13 = .ok (.aload_n 1, 1) := by decide +kernel
theorem dX4_step_14 : decode cX4_step 14 = .ok (.iload_n 2, 1) := by decide +kernel
theorem dX4_step_15 : decode cX4_step 15 = .ok (.aload_n 0, 1) := by decide +kernel
theorem dX4_step_16 : decode cX4_step 16 = .ok (.getfield 23, 3) := by decide +kernel
theorem dX4_step_19 : decode cX4_step 19 = .ok (.iload_n 2, 1) := by decide +kernel
theorem dX4_step_20 : decode cX4_step 20 = .ok (.iaload, 1) := by decide +kernel
theorem dX4_step_21 : decode cX4_step 21 = .ok (.iconst 2, 1) := by decide +kernel
theorem dX4_step_22 : decode cX4_step 22 = .ok (.if_icmp .ne 7, 3) := by decide +kernel
theorem dX4_step_25 : decode cX4_step 25 = .ok (.iconst 0, 1) := by decide +kernel
theorem dX4_step_26 : decode cX4_step 26 = .ok (.goto 8, 3) := by decide +kernel
theorem dX4_step_29 : decode cX4_step 29 = .ok (.aload_n 0, 1) := by decide +kernel
theorem dX4_step_30 : decode cX4_step 30 = .ok (.iload_n 2, 1) := by decide +kernel
theorem dX4_step_31 : decode cX4_step 31 = .ok (.invokevirtual 91, 3) := by decide +kernel
theorem dX4_step_34 : decode cX4_step 34 = .ok (.iastore, 1) := by decide +kernel
theorem dX4_step_35 : decode cX4_step 35 = .ok (.iinc 2 1, 3) := by decide +kernel
theorem dX4_step_38 : decode cX4_step 38 = .ok (.goto (-31), 3) := by decide +kernel
theorem dX4_step_41 : decode cX4_step 41 = .ok (.aload_n 0, 1) := by decide +kernel
theorem dX4_step_42 : decode cX4_step 42 = .ok (.getfield 38, 3) := by decide +kernel
theorem dX4_step_45 : decode cX4_step 45 = .ok (.aload_n 1, 1) := by decide +kernel
theorem dX4_step_46 : decode cX4_step 46 = .ok (.aload_n 0, 1) := by decide +kernel
theorem dX4_step_47 : decode cX4_step 47 = .ok (.getfield 49, 3) := by decide +kernel
theorem dX4_step_50 : decode cX4_step 50 = .ok (.invokevirtual 94, 3) := by decide +kernel
theorem dX4_step_53 : decode cX4_step 53 = .ok (.aload_n 0, 1) := by decide +kernel
theorem dX4_step_54 : decode cX4_step 54 = .ok (.aload_n 0, 1) := by decide +kernel
theorem dX4_step_55 : decode cX4_step 55 = .ok (.getfield 26, 3) := by decide +kernel
theorem dX4_step_58 : decode cX4_step 58 = .ok (.putfield 29, 3) := by decide +kernel
theorem dX4_step_61 : decode cX4_step 61 = .ok (.aload_n 0, 1) := by decide +kernel
theorem dX4_step_62 : decode cX4_step 62 = .ok (.aload_n 1, 1) := by decide +kernel
theorem dX4_step_63 : decode cX4_step 63 = .ok (.putfield 26, 3) := by decide +kernel
theorem dX4_step_66 : decode cX4_step 66 = .ok (.aload_n 0, 1) := by decide +kernel
theorem dX4_step_67 : decode cX4_step 67 = .ok (.invokevirtual 97, 3) := by decide +kernel
theorem dX4_step_70 : decode cX4_step 70 = .ok (.aload_n 0, 1) := by decide +kernel
theorem dX4_step_71 : decode cX4_step 71 = .ok (.getfield 45, 3) := by decide +kernel
theorem dX4_step_74 : decode cX4_step 74 = .ok (.aload_n 0, 1) := by decide +kernel
theorem dX4_step_75 : decode cX4_step 75 = .ok (.getfield 26, 3) := by decide +kernel
theorem dX4_step_78 : decode cX4_step 78 = .ok (.invokevirtual 100, 3) := by decide +kernel
theorem dX4_step_81 : decode cX4_step 81 = .ok (.aload_n 0, 1) := by decide +kernel
theorem dX4_step_82 : decode cX4_step 82 = .ok (.dup, 1) := by decide +kernel
theorem dX4_step_83 : decode cX4_step 83 = .ok (.getfield 49, 3) := by decide +kernel
theorem dX4_step_86 : decode cX4_step 86 = .ok (.iconst 1, 1) := by decide +kernel
theorem dX4_step_87 : decode cX4_step 87 = .ok (.iadd, 1) := by decide +kernel
theorem dX4_step_88 : decode cX4_step 88 = .ok (.putfield 49, 3) := by decide +kernel
theorem dX4_step_91 : decode cX4_step 91 = .ok (.return_, 1) := by decide +kernel
theorem dX4_nextHeight_0 : decode cX4_nextHeight 0 = .ok (.aload_n 0, 1) := by decide +kernel
theorem dX4_nextHeight_1 : decode cX4_nextHeight 1 = .ok (.getfield 23, 3) := by decide +kernel
theorem dX4_nextHeight_4 : decode cX4_nextHeight 4 = .ok (.iload_n 1, 1) := by decide +kernel
theorem dX4_nextHeight_5 : decode cX4_nextHeight 5 = .ok (.iaload, 1) := by decide +kernel
theorem dX4_nextHeight_6 : decode cX4_nextHeight 6 = .ok (.istore_n 2, 1) := by decide +kernel
theorem dX4_nextHeight_7 : decode cX4_nextHeight 7 = .ok (.iload_n 2, 1) := by decide +kernel
theorem dX4_nextHeight_8 : decode cX4_nextHeight 8 = .ok (.ifCond .ne 12, 3) := by decide +kernel
theorem dX4_nextHeight_11 : decode cX4_nextHeight 11 = .ok (.aload_n 0, 1) := by decide +kernel
theorem dX4_nextHeight_12 : decode cX4_nextHeight 12 = .ok (.getfield 18, 3) := by decide +kernel
theorem dX4_nextHeight_15 : decode cX4_nextHeight 15 = .ok (.iconst 1, 1) := by decide +kernel
theorem dX4_nextHeight_16 : decode cX4_nextHeight 16 = .ok (.iaload, 1) := by decide +kernel
theorem dX4_nextHeight_17 : decode cX4_nextHeight 17 = .ok (.goto 9, 3) := by decide +kernel
theorem dX4_nextHeight_20 : decode cX4_nextHeight 20 = .ok (.aload_n 0, 1) := by decide +kernel
theorem dX4_nextHeight_21 : decode cX4_nextHeight 21 = .ok (.getfield 18, 3) := by decide +kernel
theorem dX4_nextHeight_24 : decode cX4_nextHeight 24 = .ok (.iconst 2, 1) := by decide +kernel
theorem dX4_nextHeight_25 : decode cX4_nextHeight 25 = .ok (.iaload, 1) := by decide +kernel
theorem dX4_nextHeight_26 : decode cX4_nextHeight 26 = .ok (.istore_n 3, 1) := by decide +kernel
theorem dX4_nextHeight_27 : decode cX4_nextHeight 27 = .ok (.iconst 2, 1) := by decide +kernel
theorem dX4_nextHeight_28 : decode cX4_nextHeight 28 = .ok (.aload_n 0, 1) := by decide +kernel
theorem dX4_nextHeight_29 : decode cX4_nextHeight 29 = .ok (.getfield 26, 3) := by decide +kernel
theorem dX4_nextHeight_32 : decode cX4_nextHeight 32 = .ok (.iload_n 1, 1) := by decide +kernel
theorem dX4_nextHeight_33 : decode cX4_nextHeight 33 = .ok (.iaload, 1) := by decide +kernel
theorem dX4_nextHeight_34 : decode cX4_nextHeight 34 = .ok (.imul, 1) := by decide +kernel
theorem dX4_nextHeight_35 : decode cX4_nextHeight 35 = .ok (.aload_n 0, 1) := by decide +kernel
theorem dX4_nextHeight_36 : decode cX4_nextHeight 36 = .ok (.getfield 29, 3) := by decide +kernel
theorem dX4_nextHeight_39 : decode cX4_nextHeight 39 = .ok (.iload_n 1, 1) := by decide +kernel
theorem dX4_nextHeight_40 : decode cX4_nextHeight 40 = .ok (.iaload, 1) := by decide +kernel
theorem dX4_nextHeight_41 : decode cX4_nextHeight 41 = .ok (.isub, 1) := by decide +kernel
theorem dX4_nextHeight_42 : decode cX4_nextHeight 42 = .ok (.aload_n 0, 1) := by decide +kernel
theorem dX4_nextHeight_43 : decode cX4_nextHeight 43 = .ok (.iload_n 1, 1) := by decide +kernel
theorem dX4_nextHeight_44 : decode cX4_nextHeight 44 = .ok (.invokevirtual 104, 3) := by decide +kernel
theorem dX4_nextHeight_47 : decode cX4_nextHeight 47 = .ok (.iload_n 3, 1) := by decide +kernel
theorem dX4_nextHeight_48 : decode cX4_nextHeight 48 = .ok (.imul, 1) := by decide +kernel
theorem dX4_nextHeight_49 : decode cX4_nextHeight 49 = .ok (.bipush 16, 2) := by decide +kernel
theorem dX4_nextHeight_51 : decode cX4_nextHeight 51 = .ok (.idiv, 1) := by decide +kernel
theorem dX4_nextHeight_52 : decode cX4_nextHeight 52 = .ok (.iadd, 1) := by decide +kernel
theorem dX4_nextHeight_53 : decode cX4_nextHeight 53 = .ok (.istore 4, 2) := by decide +kernel
theorem dX4_nextHeight_55 : decode cX4_nextHeight 55 = .ok (.iload 4, 2) := by decide +kernel
theorem dX4_nextHeight_57 : decode cX4_nextHeight 57 = .ok (.iload 4, 2) := by decide +kernel
theorem dX4_nextHeight_59 : decode cX4_nextHeight 59 = .ok (.aload_n 0, 1) := by decide +kernel
theorem dX4_nextHeight_60 : decode cX4_nextHeight 60 = .ok (.getfield 18, 3) := by decide +kernel
theorem dX4_nextHeight_63 : decode cX4_nextHeight 63 = .ok (.iconst 0, 1) := by decide +kernel
theorem dX4_nextHeight_64 : decode cX4_nextHeight 64 = .ok (.iaload, 1) := by decide +kernel
theorem dX4_nextHeight_65 : decode cX4_nextHeight 65 = .ok (.imul, 1) := by decide +kernel
theorem dX4_nextHeight_66 : decode cX4_nextHeight 66 = .ok (.sipush 1000, 3) := by decide +kernel
theorem dX4_nextHeight_69 : decode cX4_nextHeight 69 = .ok (.idiv, 1) := by decide +kernel
theorem dX4_nextHeight_70 : decode cX4_nextHeight 70 = .ok (.isub, 1) := by decide +kernel
theorem dX4_nextHeight_71 : decode cX4_nextHeight 71 = .ok (.istore 4, 2) := by decide +kernel
theorem dX4_nextHeight_73 : decode cX4_nextHeight 73 = .ok (.iload_n 2, 1) := by decide +kernel
theorem dX4_nextHeight_74 : decode cX4_nextHeight 74 = .ok (.iconst 3, 1) := by decide +kernel
theorem dX4_nextHeight_75 : decode cX4_nextHeight 75 = .ok (.if_icmp .ne 9, 3) := by decide +kernel
theorem dX4_nextHeight_78 : decode cX4_nextHeight 78 = .ok (.iload 4, 2) := by decide +kernel
theorem dX4_nextHeight_80 : decode cX4_nextHeight 80 = .ok (.iconst 2, 1) := by decide +kernel
theorem dX4_nextHeight_81 : decode cX4_nextHeight 81 = .ok (.idiv, 1) := by decide +kernel
theorem dX4_nextHeight_82 : decode cX4_nextHeight 82 = .ok (.istore 4, 2) := by decide +kernel
theorem dX4_nextHeight_84 : decode cX4_nextHeight 84 = .ok (.iload 4, 2) := by decide +kernel
theorem dX4_nextHeight_86 : decode cX4_nextHeight 86 = .ok (.invokestatic 107, 3) := by decide +kernel
theorem dX4_nextHeight_89 : decode cX4_nextHeight 89 = .ok (.ireturn, 1) := by decide +kernel
theorem dX4_keepFirsts_0 : decode cX4_keepFirsts 0 = .ok (.iconst 0, 1) := by decide +kernel
theorem dX4_keepFirsts_1 : decode cX4_keepFirsts 1 = .ok (.istore_n 1, 1) := by decide +kernel
theorem dX4_keepFirsts_2 : decode cX4_keepFirsts 2 = .ok (.iload_n 1, 1) := by decide +kernel
theorem dX4_keepFirsts_3 : decode cX4_keepFirsts 3 = .ok (.bipush 60, 2) := by decide +kernel
theorem dX4_keepFirsts_5 : decode cX4_keepFirsts 5 = .ok (.if_icmp .ge 44, 3) := by decide +kernel
theorem dX4_keepFirsts_8 : decode cX4_keepFirsts 8 = .ok (.aload_n 0, 1) := by decide +kernel
theorem dX4_keepFirsts_9 : decode cX4_keepFirsts 9 = .ok (.getfield 32, 3) := by decide +kernel
theorem dX4_keepFirsts_12 : decode cX4_keepFirsts 12 = .ok (.iload_n 1, 1) := by decide +kernel
theorem dX4_keepFirsts_13 : decode cX4_keepFirsts 13 = .ok (.iaload, 1) := by decide +kernel
theorem dX4_keepFirsts_14 : decode cX4_keepFirsts 14 = .ok (.bipush (-6), 2) := by decide +kernel
theorem dX4_keepFirsts_16 : decode cX4_keepFirsts 16 = .ok (.if_icmp .ne 27, 3) := by decide +kernel
theorem dX4_keepFirsts_19 : decode cX4_keepFirsts 19 = .ok (.aload_n 0, 1) := by decide +kernel
theorem dX4_keepFirsts_20 : decode cX4_keepFirsts 20 = .ok (.iload_n 1, 1) := by decide +kernel
theorem dX4_keepFirsts_21 : decode cX4_keepFirsts 21 = .ok (.invokevirtual 110, 3) := by decide +kernel
theorem dX4_keepFirsts_24 : decode cX4_keepFirsts 24 = .ok (.aload_n 0, 1) := by decide +kernel
theorem dX4_keepFirsts_25 : decode cX4_keepFirsts 25 = .ok (.getfield 18, 3) := by decide +kernel
theorem dX4_keepFirsts_28 : decode cX4_keepFirsts 28 = .ok (.iconst 3, 1) := by decide +kernel
theorem dX4_keepFirsts_29 : decode cX4_keepFirsts 29 = .ok (.iaload, 1) := by decide +kernel
theorem dX4_keepFirsts_30 : decode cX4_keepFirsts 30 = .ok (.if_icmp .le 13, 3) := by decide +kernel
theorem dX4_keepFirsts_33 : decode cX4_keepFirsts 33 = .ok (.aload_n 0, 1) := by decide +kernel
theorem dX4_keepFirsts_34 : decode cX4_keepFirsts 34 = .ok (.getfield 32, 3) := by decide +kernel
theorem dX4_keepFirsts_37 : decode cX4_keepFirsts 37 = .ok (.iload_n 1, 1) := by decide +kernel
theorem dX4_keepFirsts_38 : decode cX4_keepFirsts 38 = .ok (.aload_n 0, 1) := by decide +kernel
theorem dX4_keepFirsts_39 : decode cX4_keepFirsts 39 = .ok (.getfield 49, 3) := by decide +kernel
theorem dX4_keepFirsts_42 : decode cX4_keepFirsts 42 = .ok (.iastore, 1) := by decide +kernel
theorem dX4_keepFirsts_43 : decode cX4_keepFirsts 43 = .ok (.iinc 1 1, 3) := by decide +kernel
theorem dX4_keepFirsts_46 : decode cX4_keepFirsts 46 = .ok (.goto (-44), 3) := by decide +kernel
theorem dX4_keepFirsts_49 : decode cX4_keepFirsts 49 = .ok (.return_, 1) := by decide +kernel
theorem dX4_slopeAt_0 : decode cX4_slopeAt 0 = .ok (.aload_n 0, 1) := by decide +kernel
theorem dX4_slopeAt_1 : decode cX4_slopeAt 1 = .ok (.getfield 23, 3) := by decide +kernel
theorem dX4_slopeAt_4 : decode cX4_slopeAt 4 = .ok (.iload_n 1, 1) := by decide +kernel
theorem dX4_slopeAt_5 : decode cX4_slopeAt 5 = .ok (.iaload, 1) := by decide +kernel
theorem dX4_slopeAt_6 : decode cX4_slopeAt 6 = .ok (.iconst 2, 1) := by decide +kernel
theorem dX4_slopeAt_7 : decode cX4_slopeAt 7 = .ok (.if_icmp .ne 5, 3) := by decide +kernel
theorem dX4_slopeAt_10 : decode cX4_slopeAt 10 = .ok (.iconst 0, 1) := by decide +kernel
theorem dX4_slopeAt_11 : decode cX4_slopeAt 11 = .ok (.ireturn, 1) := by decide +kernel
theorem dX4_slopeAt_12 : decode cX4_slopeAt 12 = .ok (.iload_n 1, 1) := by decide +kernel
theorem dX4_slopeAt_13 : decode cX4_slopeAt 13 = .ok (.bipush 10, 2) := by decide +kernel
theorem dX4_slopeAt_15 : decode cX4_slopeAt 15 = .ok (.irem, 1) := by decide +kernel
theorem dX4_slopeAt_16 : decode cX4_slopeAt 16 = .ok (.istore_n 2, 1) := by decide +kernel
theorem dX4_slopeAt_17 : decode cX4_slopeAt 17 = .ok (.iload_n 1, 1) := by decide +kernel
theorem dX4_slopeAt_18 : decode cX4_slopeAt 18 = .ok (.bipush 10, 2) := by decide +kernel
theorem dX4_slopeAt_20 : decode cX4_slopeAt 20 = .ok (.idiv, 1) := by decide +kernel
theorem dX4_slopeAt_21 : decode cX4_slopeAt 21 = .ok (.istore_n 3, 1) := by decide +kernel
theorem dX4_slopeAt_22 : decode cX4_slopeAt 22 = .ok (.iload_n 2, 1) := by decide +kernel
theorem dX4_slopeAt_23 : decode cX4_slopeAt 23 = .ok (.ifCond .le 14, 3) := by decide +kernel
theorem dX4_slopeAt_26 : decode cX4_slopeAt 26 = .ok (.aload_n 0, 1) := by decide +kernel
theorem dX4_slopeAt_27 : decode cX4_slopeAt 27 = .ok (.iload_n 1, 1) := by decide +kernel
theorem dX4_slopeAt_28 : decode cX4_slopeAt 28 = .ok (.iload_n 1, 1) := by decide +kernel
theorem dX4_slopeAt_29 : decode cX4_slopeAt 29 = .ok (.iconst 1, 1) := by decide +kernel
theorem dX4_slopeAt_30 : decode cX4_slopeAt 30 = .ok (.isub, 1) := by decide +kernel
theorem dX4_slopeAt_31 : decode cX4_slopeAt 31 = .ok (.invokevirtual 113, 3) := by decide +kernel
theorem dX4_slopeAt_34 : decode cX4_slopeAt 34 = .ok (.goto 4, 3) := by decide +kernel
theorem dX4_slopeAt_37 : decode cX4_slopeAt 37 = .ok (.iconst 0, 1) := by decide +kernel
theorem dX4_slopeAt_38 : decode cX4_slopeAt 38 = .ok (.istore 4, 2) := by decide +kernel
theorem dX4_slopeAt_40 : decode cX4_slopeAt 40 = .ok (.iload 4, 2) := by decide +kernel
theorem dX4_slopeAt_42 : decode cX4_slopeAt 42 = .ok (.iload_n 2, 1) := by decide +kernel
theorem dX4_slopeAt_43 : decode cX4_slopeAt 43 = .ok (.bipush 9, 2) := by decide +kernel
theorem dX4_slopeAt_45 : decode cX4_slopeAt 45 = .ok (.if_icmp .ge 14, 3) := by decide +kernel
theorem dX4_slopeAt_48 : decode cX4_slopeAt 48 = .ok (.aload_n 0, 1) := by decide +kernel
theorem dX4_slopeAt_49 : decode cX4_slopeAt 49 = .ok (.iload_n 1, 1) := by decide +kernel
theorem dX4_slopeAt_50 : decode cX4_slopeAt 50 = .ok (.iload_n 1, 1) := by decide +kernel
theorem dX4_slopeAt_51 : decode cX4_slopeAt 51 = .ok (.iconst 1, 1) := by decide +kernel
theorem dX4_slopeAt_52 : decode cX4_slopeAt 52 = .ok (.iadd, 1) := by decide +kernel
theorem dX4_slopeAt_53 : decode cX4_slopeAt 53 = .ok (.invokevirtual 113, 3) := by decide +kernel
theorem dX4_slopeAt_56 : decode cX4_slopeAt 56 = .ok (.goto 4, 3) := by decide +kernel
theorem dX4_slopeAt_59 : decode cX4_slopeAt 59 = .ok (.iconst 0, 1) := by decide +kernel
theorem dX4_slopeAt_60 : decode cX4_slopeAt 60 = .ok (.iadd, 1) := by decide +kernel
theorem dX4_slopeAt_61 : decode cX4_slopeAt 61 = .ok (.istore 4, 2) := by decide +kernel
theorem dX4_slopeAt_63 : decode cX4_slopeAt 63 = .ok (.iload 4, 2) := by decide +kernel
theorem dX4_slopeAt_65 : decode cX4_slopeAt 65 = .ok (.iload_n 3, 1) := by decide +kernel
theorem dX4_slopeAt_66 : decode cX4_slopeAt 66 = .ok (.ifCond .le 15, 3) := by decide +kernel
theorem dX4_slopeAt_69 : decode cX4_slopeAt 69 = .ok (.aload_n 0, 1) := by decide +kernel
theorem dX4_slopeAt_70 : decode cX4_slopeAt 70 = .ok (.iload_n 1, 1) := by decide +kernel
theorem dX4_slopeAt_71 : decode cX4_slopeAt 71 = .ok (.iload_n 1, 1) := by decide +kernel
theorem dX4_slopeAt_72 : decode cX4_slopeAt 72 = .ok (.bipush 10, 2) := by decide +kernel
theorem dX4_slopeAt_74 : decode cX4_slopeAt 74 = .ok (.isub, 1) := by decide +kernel
theorem dX4_slopeAt_75 : decode cX4_slopeAt 75 = .ok (.invokevirtual 113, 3) := by decide +kernel
theorem dX4_slopeAt_78 : decode cX4_slopeAt 78 = .ok (.goto 4, 3) := by decide +kernel
theorem dX4_slopeAt_81 : decode cX4_slopeAt 81 = .ok (.iconst 0, 1) := by decide +kernel
theorem dX4_slopeAt_82 : decode cX4_slopeAt 82 = .ok (.iadd, 1) := by decide +kernel
theorem dX4_slopeAt_83 : decode cX4_slopeAt 83 = .ok (.istore 4, 2) := by decide +kernel
theorem dX4_slopeAt_85 : decode cX4_slopeAt 85 = .ok (.iload 4, 2) := by decide +kernel
theorem dX4_slopeAt_87 : decode cX4_slopeAt 87 = .ok (.iload_n 3, 1) := by decide +kernel
theorem dX4_slopeAt_88 : decode cX4_slopeAt 88 = .ok (.iconst 5, 1) := by decide +kernel
theorem dX4_slopeAt_89 : decode cX4_slopeAt 89 = .ok (.if_icmp .ge 15, 3) := by decide +kernel
theorem dX4_slopeAt_92 : decode cX4_slopeAt 92 = .ok (.aload_n 0, 1) := by decide +kernel
theorem dX4_slopeAt_93 : decode cX4_slopeAt 93 = .ok (.iload_n 1, 1) := by decide +kernel
theorem dX4_slopeAt_94 : decode cX4_slopeAt 94 = .ok (.iload_n 1, 1) := by decide +kernel
theorem dX4_slopeAt_95 : decode cX4_slopeAt 95 = .ok (.bipush 10, 2) := by decide +kernel
theorem dX4_slopeAt_97 : decode cX4_slopeAt 97 = .ok (.iadd, 1) := by decide +kernel
theorem dX4_slopeAt_98 : decode cX4_slopeAt 98 = .ok (.invokevirtual 113, 3) := by decide +kernel
theorem dX4_slopeAt_101 : decode cX4_slopeAt 101 = .ok (.goto 4, 3) := by decide +kernel
theorem dX4_slopeAt_104 : decode cX4_slopeAt 104 = .ok (.iconst 0, 1) := by decide +kernel
theorem dX4_slopeAt_105 : decode cX4_slopeAt 105 = .ok (.iadd, 1) := by decide +kernel
theorem dX4_slopeAt_106 : decode cX4_slopeAt 106 = .ok (.istore 4, 2) := by decide +kernel
theorem dX4_slopeAt_108 : decode cX4_slopeAt 108 = .ok (.iload 4, 2) := by decide +kernel
theorem dX4_slopeAt_110 : decode cX4_slopeAt 110 = .ok (.ireturn, 1) := by decide +kernel
theorem dX4_rise_0 : decode cX4_rise 0 = .ok (.aload_n 0, 1) := by decide +kernel
theorem dX4_rise_1 : decode cX4_rise 1 = .ok (.getfield 23, 3) := by decide +kernel
theorem dX4_rise_4 : decode cX4_rise 4 = .ok (.iload_n 2, 1) := by decide +kernel
theorem dX4_rise_5 : decode cX4_rise 5 = .ok (.iaload, 1) := by decide +kernel
theorem dX4_rise_6 : decode cX4_rise 6 = .ok (.iconst 2, 1) := by decide +kernel
theorem dX4_rise_7 : decode cX4_rise 7 = .ok (.if_icmp .ne 7, 3) := by decide +kernel
theorem dX4_rise_10 : decode cX4_rise 10 = .ok (.iconst 0, 1) := by decide +kernel
theorem dX4_rise_11 : decode cX4_rise 11 = .ok (.goto 16, 3) := by decide +kernel
theorem dX4_rise_14 : decode cX4_rise 14 = .ok (.aload_n 0, 1) := by decide +kernel
theorem dX4_rise_15 : decode cX4_rise 15 = .ok (.getfield 26, 3) := by decide +kernel
theorem dX4_rise_18 : decode cX4_rise 18 = .ok (.iload_n 2, 1) := by decide +kernel
theorem dX4_rise_19 : decode cX4_rise 19 = .ok (.iaload, 1) := by decide +kernel
theorem dX4_rise_20 : decode cX4_rise 20 = .ok (.aload_n 0, 1) := by decide +kernel
theorem dX4_rise_21 : decode cX4_rise 21 = .ok (.getfield 26, 3) := by decide +kernel
theorem dX4_rise_24 : decode cX4_rise 24 = .ok (.iload_n 1, 1) := by decide +kernel
theorem dX4_rise_25 : decode cX4_rise 25 = .ok (.iaload, 1) := by decide +kernel
theorem dX4_rise_26 : decode cX4_rise 26 = .ok (.isub, 1) := by decide +kernel
theorem dX4_rise_27 : decode cX4_rise 27 = .ok (.ireturn, 1) := by decide +kernel
theorem dX4_heightAt_0 : decode cX4_heightAt 0 = .ok (.iload_n 1, 1) := by decide +kernel
theorem dX4_heightAt_1 : decode cX4_heightAt 1 = .ok (.iload_n 2, 1) := by decide +kernel
theorem dX4_heightAt_2 : decode cX4_heightAt 2 = .ok (.invokestatic 117, 3) := by decide +kernel
theorem dX4_heightAt_5 : decode cX4_heightAt 5 = .ok (.ifCond .eq 16, 3) := by decide +kernel
theorem dX4_heightAt_8 : decode cX4_heightAt 8 = .ok (.aload_n 0, 1) := by decide +kernel
theorem dX4_heightAt_9 : decode cX4_heightAt 9 = .ok (.getfield 26, 3) := by decide +kernel
theorem dX4_heightAt_12 : decode cX4_heightAt 12 = .ok (.iload_n 1, 1) := by decide +kernel
theorem dX4_heightAt_13 : decode cX4_heightAt 13 = .ok (.iload_n 2, 1) := by decide +kernel
theorem dX4_heightAt_14 : decode cX4_heightAt 14 = .ok (.invokestatic 121, 3) := by decide +kernel
theorem dX4_heightAt_17 : decode cX4_heightAt 17 = .ok (.iaload, 1) := by decide +kernel
theorem dX4_heightAt_18 : decode cX4_heightAt 18 = .ok (.goto 4, 3) := by decide +kernel
theorem dX4_heightAt_21 : decode cX4_heightAt 21 = .ok (.iconst 0, 1) := by decide +kernel
theorem dX4_heightAt_22 : decode cX4_heightAt 22 = .ok (.ireturn, 1) := by decide +kernel
theorem dX4_loudnessOf_0 : decode cX4_loudnessOf 0 = .ok (.aload_n 0, 1) := by decide +kernel
theorem dX4_loudnessOf_1 : decode cX4_loudnessOf 1 = .ok (.getfield 26, 3) := by decide +kernel
theorem dX4_loudnessOf_4 : decode cX4_loudnessOf 4 = .ok (.iload_n 1, 1) := by decide +kernel
theorem dX4_loudnessOf_5 : decode cX4_loudnessOf 5 = .ok (.iaload, 1) := by decide +kernel
theorem dX4_loudnessOf_6 : decode cX4_loudnessOf 6 = .ok (.invokestatic 124, 3) := by decide +kernel
theorem dX4_loudnessOf_9 : decode cX4_loudnessOf 9 = .ok (.ireturn, 1) := by decide +kernel
theorem dX4_isStill_0 : decode cX4_isStill 0 = .ok (.aload_n 0, 1) := by decide +kernel
theorem dX4_isStill_1 : decode cX4_isStill 1 = .ok (.iload_n 1, 1) := by decide +kernel
theorem dX4_isStill_2 : decode cX4_isStill 2 = .ok (.invokevirtual 110, 3) := by decide +kernel
theorem dX4_isStill_5 : decode cX4_isStill 5 = .ok (.aload_n 0, 1) := by decide +kernel
theorem dX4_isStill_6 : decode cX4_isStill 6 = .ok (.getfield 18, 3) := by decide +kernel
theorem dX4_isStill_9 : decode cX4_isStill 9 = .ok (.iconst 3, 1) := by decide +kernel
theorem dX4_isStill_10 : decode cX4_isStill 10 = .ok (.iaload, 1) := by decide +kernel
theorem dX4_isStill_11 : decode cX4_isStill 11 = .ok (.if_icmp .gt 25, 3) := by decide +kernel
theorem dX4_isStill_14 : decode cX4_isStill 14 = .ok (.aload_n 0, 1) := by decide +kernel
theorem dX4_isStill_15 : decode cX4_isStill 15 = .ok (.getfield 29, 3) := by decide +kernel
theorem dX4_isStill_18 : decode cX4_isStill 18 = .ok (.iload_n 1, 1) := by decide +kernel
theorem dX4_isStill_19 : decode cX4_isStill 19 = .ok (.iaload, 1) := by decide +kernel
theorem dX4_isStill_20 : decode cX4_isStill 20 = .ok (.invokestatic 124, 3) := by decide +kernel
theorem dX4_isStill_23 : decode cX4_isStill 23 = .ok (.aload_n 0, 1) := by decide +kernel
theorem dX4_isStill_24 : decode cX4_isStill 24 = .ok (.getfield 18, 3) := by decide +kernel
theorem dX4_isStill_27 : decode cX4_isStill 27 = .ok (.iconst 3, 1) := by decide +kernel
theorem dX4_isStill_28 : decode cX4_isStill 28 = .ok (.iaload, 1) := by decide +kernel
theorem dX4_isStill_29 : decode cX4_isStill 29 = .ok (.if_icmp .gt 7, 3) := by decide +kernel
theorem dX4_isStill_32 : decode cX4_isStill 32 = .ok (.iconst 1, 1) := by decide +kernel
theorem dX4_isStill_33 : decode cX4_isStill 33 = .ok (.goto 4, 3) := by decide +kernel
theorem dX4_isStill_36 : decode cX4_isStill 36 = .ok (.iconst 0, 1) := by decide +kernel
theorem dX4_isStill_37 : decode cX4_isStill 37 = .ok (.ireturn, 1) := by decide +kernel
theorem dX4_isCrest_0 : decode cX4_isCrest 0 = .ok (.aload_n 0, 1) := by decide +kernel
theorem dX4_isCrest_1 : decode cX4_isCrest 1 = .ok (.iload_n 1, 1) := by decide +kernel
theorem dX4_isCrest_2 : decode cX4_isCrest 2 = .ok (.iload_n 2, 1) := by decide +kernel
theorem dX4_isCrest_3 : decode cX4_isCrest 3 = .ok (.invokevirtual 129, 3) := by decide +kernel
theorem dX4_isCrest_6 : decode cX4_isCrest 6 = .ok (.istore_n 3, 1) := by decide +kernel
theorem dX4_isCrest_7 : decode cX4_isCrest 7 = .ok (.iload_n 3, 1) := by decide +kernel
theorem dX4_isCrest_8 : decode cX4_isCrest 8 = .ok (.ifCond .le 31, 3) := by decide +kernel
theorem dX4_isCrest_11 : decode cX4_isCrest 11 = .ok (.iload_n 3, 1) := by decide +kernel
theorem dX4_isCrest_12 : decode cX4_isCrest 12 = .ok (.aload_n 0, 1) := by decide +kernel
theorem dX4_isCrest_13 : decode cX4_isCrest 13 = .ok (.iload_n 1, 1) := by decide +kernel
theorem dX4_isCrest_14 : decode cX4_isCrest 14 = .ok (.iconst 1, 1) := by decide +kernel
theorem dX4_isCrest_15 : decode cX4_isCrest 15 = .ok (.isub, 1) := by decide +kernel
theorem dX4_isCrest_16 : decode cX4_isCrest 16 = .ok (.iload_n 2, 1) := by decide +kernel
theorem dX4_isCrest_17 : decode cX4_isCrest 17 = .ok (.invokevirtual 129, 3) := by decide +kernel
theorem dX4_isCrest_20 : decode cX4_isCrest 20 = .ok (.if_icmp .le 19, 3) := by decide +kernel
theorem dX4_isCrest_23 : decode cX4_isCrest 23 = .ok (.iload_n 3, 1) := by decide +kernel
theorem dX4_isCrest_24 : decode cX4_isCrest 24 = .ok (.aload_n 0, 1) := by decide +kernel
theorem dX4_isCrest_25 : decode cX4_isCrest 25 = .ok (.iload_n 1, 1) := by decide +kernel
theorem dX4_isCrest_26 : decode cX4_isCrest 26 = .ok (.iconst 1, 1) := by decide +kernel
theorem dX4_isCrest_27 : decode cX4_isCrest 27 = .ok (.iadd, 1) := by decide +kernel
theorem dX4_isCrest_28 : decode cX4_isCrest 28 = .ok (.iload_n 2, 1) := by decide +kernel
theorem dX4_isCrest_29 : decode cX4_isCrest 29 = .ok (.invokevirtual 129, 3) := by decide +kernel
theorem dX4_isCrest_32 : decode cX4_isCrest 32 = .ok (.if_icmp .le 7, 3) := by decide +kernel
theorem dX4_isCrest_35 : decode cX4_isCrest 35 = .ok (.iconst 1, 1) := by decide +kernel
theorem dX4_isCrest_36 : decode cX4_isCrest 36 = .ok (.goto 4, 3) := by decide +kernel
theorem dX4_isCrest_39 : decode cX4_isCrest 39 = .ok (.iconst 0, 1) := by decide +kernel
theorem dX4_isCrest_40 : decode cX4_isCrest 40 = .ok (.ireturn, 1) := by decide +kernel
theorem dX4_openCells_0 : decode cX4_openCells 0 = .ok (.iconst 0, 1) := by decide +kernel
theorem dX4_openCells_1 : decode cX4_openCells 1 = .ok (.istore_n 1, 1) := by decide +kernel
theorem dX4_openCells_2 : decode cX4_openCells 2 = .ok (.iconst 0, 1) := by decide +kernel
theorem dX4_openCells_3 : decode cX4_openCells 3 = .ok (.istore_n 2, 1) := by decide +kernel
theorem dX4_openCells_4 : decode cX4_openCells 4 = .ok (.iload_n 2, 1) := by decide +kernel
theorem dX4_openCells_5 : decode cX4_openCells 5 = .ok (.bipush 60, 2) := by decide +kernel
theorem dX4_openCells_7 : decode cX4_openCells 7 = .ok (.if_icmp .ge 22, 3) := by decide +kernel
theorem dX4_openCells_10 : decode cX4_openCells 10 = .ok (.aload_n 0, 1) := by decide +kernel
theorem dX4_openCells_11 : decode cX4_openCells 11 = .ok (.getfield 23, 3) := by decide +kernel
theorem dX4_openCells_14 : decode cX4_openCells 14 = .ok (.iload_n 2, 1) := by decide +kernel
theorem dX4_openCells_15 : decode cX4_openCells 15 = .ok (.iaload, 1) := by decide +kernel
theorem dX4_openCells_16 : decode cX4_openCells 16 = .ok (.iconst 2, 1) := by decide +kernel
theorem dX4_openCells_17 : decode cX4_openCells 17 = .ok (.if_icmp .eq 6, 3) := by decide +kernel
theorem dX4_openCells_20 : decode cX4_openCells 20 = .ok (.iinc 1 1, 3) := by decide +kernel
theorem dX4_openCells_23 : decode cX4_openCells 23 = .ok (.iinc 2 1, 3) := by decide +kernel
theorem dX4_openCells_26 : decode cX4_openCells 26 = .ok (.goto (-22), 3) := by decide +kernel
theorem dX4_openCells_29 : decode cX4_openCells 29 = .ok (.iload_n 1, 1) := by decide +kernel
theorem dX4_openCells_30 : decode cX4_openCells 30 = .ok (.ireturn, 1) := by decide +kernel
theorem dX4_restlessCells_0 : decode cX4_restlessCells 0 = .ok (.iconst 0, 1) := by decide +kernel
theorem dX4_restlessCells_1 : decode cX4_restlessCells 1 = .ok (.istore_n 1, 1) := by decide +kernel
theorem dX4_restlessCells_2 : decode cX4_restlessCells 2 = .ok (.iconst 0, 1) := by decide +kernel
theorem dX4_restlessCells_3 : decode cX4_restlessCells 3 = .ok (.istore_n 2, 1) := by decide +kernel
theorem dX4_restlessCells_4 : decode cX4_restlessCells 4 = .ok (.iload_n 2, 1) := by decide +kernel
theorem dX4_restlessCells_5 : decode cX4_restlessCells 5 = .ok (.bipush 60, 2) := by decide +kernel
theorem dX4_restlessCells_7 : decode cX4_restlessCells 7 = .ok (.if_icmp .ge 30, 3) := by decide +kernel
theorem dX4_restlessCells_10 : decode cX4_restlessCells 10 = .ok (.aload_n 0, 1) := by decide +kernel
theorem dX4_restlessCells_11 : decode cX4_restlessCells 11 = .ok (.getfield 23, 3) := by decide +kernel
theorem dX4_restlessCells_14 : decode cX4_restlessCells 14 = .ok (.iload_n 2, 1) := by decide +kernel
theorem dX4_restlessCells_15 : decode cX4_restlessCells 15 = .ok (.iaload, 1) := by decide +kernel
theorem dX4_restlessCells_16 : decode cX4_restlessCells 16 = .ok (.iconst 2, 1) := by decide +kernel
theorem dX4_restlessCells_17 : decode cX4_restlessCells 17 = .ok (.if_icmp .eq 14, 3) := by decide +kernel
theorem dX4_restlessCells_20 : decode cX4_restlessCells 20 = .ok (.aload_n 0, 1) := by decide +kernel
theorem dX4_restlessCells_21 : decode cX4_restlessCells 21 = .ok (.iload_n 2, 1) := by decide +kernel
theorem dX4_restlessCells_22 : decode cX4_restlessCells 22 = .ok (.invokevirtual 132, 3) := by decide +kernel
theorem dX4_restlessCells_25 : decode cX4_restlessCells 25 = .ok (.ifCond .ne 6, 3) := by decide +kernel
theorem dX4_restlessCells_28 : decode cX4_restlessCells 28 = .ok (.iinc 1 1, 3) := by decide +kernel
theorem dX4_restlessCells_31 : decode cX4_restlessCells 31 = .ok (.iinc 2 1, 3) := by decide +kernel
theorem dX4_restlessCells_34 : decode cX4_restlessCells 34 = .ok (.goto (-30), 3) := by decide +kernel
theorem dX4_restlessCells_37 : decode cX4_restlessCells 37 = .ok (.iload_n 1, 1) := by decide +kernel
theorem dX4_restlessCells_38 : decode cX4_restlessCells 38 = .ok (.ireturn, 1) := by decide +kernel
theorem dX4_reachedCells_0 : decode cX4_reachedCells 0 = .ok (.iconst 0, 1) := by decide +kernel
theorem dX4_reachedCells_1 : decode cX4_reachedCells 1 = .ok (.istore_n 1, 1) := by decide +kernel
theorem dX4_reachedCells_2 : decode cX4_reachedCells 2 = .ok (.iconst 0, 1) := by decide +kernel
theorem dX4_reachedCells_3 : decode cX4_reachedCells 3 = .ok (.istore_n 2, 1) := by decide +kernel
theorem dX4_reachedCells_4 : decode cX4_reachedCells 4 = .ok (.iload_n 2, 1) := by decide +kernel
theorem dX4_reachedCells_5 : decode cX4_reachedCells 5 = .ok (.bipush 60, 2) := by decide +kernel
theorem dX4_reachedCells_7 : decode cX4_reachedCells 7 = .ok (.if_icmp .ge 23, 3) := by decide +kernel
theorem dX4_reachedCells_10 : decode cX4_reachedCells 10 = .ok (.aload_n 0, 1) := by decide +kernel
theorem dX4_reachedCells_11 : decode cX4_reachedCells 11 = .ok (.getfield 32, 3) := by decide +kernel
theorem dX4_reachedCells_14 : decode cX4_reachedCells 14 = .ok (.iload_n 2, 1) := by decide +kernel
theorem dX4_reachedCells_15 : decode cX4_reachedCells 15 = .ok (.iaload, 1) := by decide +kernel
theorem dX4_reachedCells_16 : decode cX4_reachedCells 16 = .ok (.bipush (-6), 2) := by decide +kernel
theorem dX4_reachedCells_18 : decode cX4_reachedCells 18 = .ok (.if_icmp .eq 6, 3) := by decide +kernel
theorem dX4_reachedCells_21 : decode cX4_reachedCells 21 = .ok (.iinc 1 1, 3) := by decide +kernel
theorem dX4_reachedCells_24 : decode cX4_reachedCells 24 = .ok (.iinc 2 1, 3) := by decide +kernel
theorem dX4_reachedCells_27 : decode cX4_reachedCells 27 = .ok (.goto (-23), 3) := by decide +kernel
theorem dX4_reachedCells_30 : decode cX4_reachedCells 30 = .ok (.iload_n 1, 1) := by decide +kernel
theorem dX4_reachedCells_31 : decode cX4_reachedCells 31 = .ok (.ireturn, 1) := by decide +kernel
theorem dX4_sum_0 : decode cX4_sum 0 = .ok (.iconst 0, 1) := by decide +kernel
theorem dX4_sum_1 : decode cX4_sum 1 = .ok (.istore_n 1, 1) := by decide +kernel
theorem dX4_sum_2 : decode cX4_sum 2 = .ok (.iconst 0, 1) := by decide +kernel
theorem dX4_sum_3 : decode cX4_sum 3 = .ok (.istore_n 2, 1) := by decide +kernel
theorem dX4_sum_4 : decode cX4_sum 4 = .ok (.iload_n 2, 1) := by decide +kernel
theorem dX4_sum_5 : decode cX4_sum 5 = .ok (.bipush 60, 2) := by decide +kernel
theorem dX4_sum_7 : decode cX4_sum 7 = .ok (.if_icmp .ge 18, 3) := by decide +kernel
theorem dX4_sum_10 : decode cX4_sum 10 = .ok (.iload_n 1, 1) := by decide +kernel
theorem dX4_sum_11 : decode cX4_sum 11 = .ok (.aload_n 0, 1) := by decide +kernel
theorem dX4_sum_12 : decode cX4_sum 12 = .ok (.getfield 26, 3) := by decide +kernel
theorem dX4_sum_15 : decode cX4_sum 15 = .ok (.iload_n 2, 1) := by decide +kernel
theorem dX4_sum_16 : decode cX4_sum 16 = .ok (.iaload, 1) := by decide +kernel
theorem dX4_sum_17 : decode cX4_sum 17 = .ok (.iadd, 1) := by decide +kernel
theorem dX4_sum_18 : decode cX4_sum 18 = .ok (.istore_n 1, 1) := by decide +kernel
theorem dX4_sum_19 : decode cX4_sum 19 = .ok (.iinc 2 1, 3) := by decide +kernel
theorem dX4_sum_22 : decode cX4_sum 22 = .ok (.goto (-18), 3) := by decide +kernel
theorem dX4_sum_25 : decode cX4_sum 25 = .ok (.iload_n 1, 1) := by decide +kernel
theorem dX4_sum_26 : decode cX4_sum 26 = .ok (.ireturn, 1) := by decide +kernel
theorem dX4_loudness_0 : decode cX4_loudness 0 = .ok (.iconst 0, 1) := by decide +kernel
theorem dX4_loudness_1 : decode cX4_loudness 1 = .ok (.istore_n 1, 1) := by decide +kernel
theorem dX4_loudness_2 : decode cX4_loudness 2 = .ok (.iconst 0, 1) := by decide +kernel
theorem dX4_loudness_3 : decode cX4_loudness 3 = .ok (.istore_n 2, 1) := by decide +kernel
theorem dX4_loudness_4 : decode cX4_loudness 4 = .ok (.iload_n 2, 1) := by decide +kernel
theorem dX4_loudness_5 : decode cX4_loudness 5 = .ok (.bipush 60, 2) := by decide +kernel
theorem dX4_loudness_7 : decode cX4_loudness 7 = .ok (.if_icmp .ge 17, 3) := by decide +kernel
theorem dX4_loudness_10 : decode cX4_loudness 10 = .ok (.iload_n 1, 1) := by decide +kernel
theorem dX4_loudness_11 : decode cX4_loudness 11 = .ok (.aload_n 0, 1) := by decide +kernel
theorem dX4_loudness_12 : decode cX4_loudness 12 = .ok (.iload_n 2, 1) := by decide +kernel
theorem dX4_loudness_13 : decode cX4_loudness 13 = .ok (.invokevirtual 110, 3) := by decide +kernel
theorem dX4_loudness_16 : decode cX4_loudness 16 = .ok (.iadd, 1) := by decide +kernel
theorem dX4_loudness_17 : decode cX4_loudness 17 = .ok (.istore_n 1, 1) := by decide +kernel
theorem dX4_loudness_18 : decode cX4_loudness 18 = .ok (.iinc 2 1, 3) := by decide +kernel
theorem dX4_loudness_21 : decode cX4_loudness 21 = .ok (.goto (-17), 3) := by decide +kernel
theorem dX4_loudness_24 : decode cX4_loudness 24 = .ok (.iload_n 1, 1) := by decide +kernel
theorem dX4_loudness_25 : decode cX4_loudness 25 = .ok (.ireturn, 1) := by decide +kernel
theorem dX4_loudestCell_0 : decode cX4_loudestCell 0 = .ok (.iconst 0, 1) := by decide +kernel
theorem dX4_loudestCell_1 : decode cX4_loudestCell 1 = .ok (.istore_n 1, 1) := by decide +kernel
theorem dX4_loudestCell_2 : decode cX4_loudestCell 2 = .ok (.iconst 1, 1) := by decide +kernel
theorem dX4_loudestCell_3 : decode cX4_loudestCell 3 = .ok (.istore_n 2, 1) := by decide +kernel
theorem dX4_loudestCell_4 : decode cX4_loudestCell 4 = .ok (.iload_n 2, 1) := by decide +kernel
theorem dX4_loudestCell_5 : decode cX4_loudestCell 5 = .ok (.bipush 60, 2) := by decide +kernel
theorem dX4_loudestCell_7 : decode cX4_loudestCell 7 = .ok (.if_icmp .ge 24, 3) := by decide +kernel
theorem dX4_loudestCell_10 : decode cX4_loudestCell 10 = .ok (.aload_n 0, 1) := by decide +kernel
theorem dX4_loudestCell_11 : decode cX4_loudestCell 11 = .ok (.iload_n 2, 1) := by decide +kernel
theorem dX4_loudestCell_12 : decode cX4_loudestCell 12 = .ok (.invokevirtual 110, 3) := by decide +kernel
theorem dX4_loudestCell_15 : decode cX4_loudestCell 15 = .ok (.aload_n 0, 1) := by decide +kernel
theorem dX4_loudestCell_16 : decode cX4_loudestCell 16 = .ok (.iload_n 1, 1) := by decide +kernel
theorem dX4_loudestCell_17 : decode cX4_loudestCell 17 = .ok (.invokevirtual 110, 3) := by decide +kernel
theorem dX4_loudestCell_20 : decode cX4_loudestCell 20 = .ok (.if_icmp .le 5, 3) := by decide +kernel
theorem dX4_loudestCell_23 : decode cX4_loudestCell 23 = .ok (.iload_n 2, 1) := by decide +kernel
theorem dX4_loudestCell_24 : decode cX4_loudestCell 24 = .ok (.istore_n 1, 1) := by decide +kernel
theorem dX4_loudestCell_25 : decode cX4_loudestCell 25 = .ok (.iinc 2 1, 3) := by decide +kernel
theorem dX4_loudestCell_28 : decode cX4_loudestCell 28 = .ok (.goto (-24), 3) := by decide +kernel
theorem dX4_loudestCell_31 : decode cX4_loudestCell 31 = .ok (.iload_n 1, 1) := by decide +kernel
theorem dX4_loudestCell_32 : decode cX4_loudestCell 32 = .ok (.ireturn, 1) := by decide +kernel
theorem dX5_init_0 : decode cX5_init 0 = .ok (.aload_n 0, 1) := by decide +kernel
theorem dX5_init_1 : decode cX5_init 1 = .ok (.invokespecial 3, 3) := by decide +kernel
theorem dX5_init_4 : decode cX5_init 4 = .ok (.aload_n 0, 1) := by decide +kernel
theorem dX5_init_5 : decode cX5_init 5 = .ok (.new 9, 3) := by decide +kernel
theorem dX5_init_8 : decode cX5_init 8 = .ok (.dup, 1) := by decide +kernel
theorem dX5_init_9 : decode cX5_init 9 = .ok (.invokespecial 11, 3) := by decide +kernel
theorem dX5_init_12 : decode cX5_init 12 = .ok (.putfield 12, 3) := by decide +kernel
theorem dX5_init_15 : decode cX5_init 15 = .ok (.aload_n 0, 1) := by decide +kernel
theorem dX5_init_16 : decode cX5_init 16 = .ok (.new 9, 3) := by decide +kernel
theorem dX5_init_19 : decode cX5_init 19 = .ok (.dup, 1) := by decide +kernel
theorem dX5_init_20 : decode cX5_init 20 = .ok (.invokespecial 11, 3) := by decide +kernel
theorem dX5_init_23 : decode cX5_init 23 = .ok (.putfield 16, 3) := by decide +kernel
theorem dX5_init_26 : decode cX5_init 26 = .ok (.aload_n 0, 1) := by decide +kernel
theorem dX5_init_27 : decode cX5_init 27 = .ok (.new 19, 3) := by decide +kernel
theorem dX5_init_30 : decode cX5_init 30 = .ok (.dup, 1) := by decide +kernel
theorem dX5_init_31 : decode cX5_init 31 = .ok (.invokespecial 21, 3) := by decide +kernel
theorem dX5_init_34 : decode cX5_init 34 = .ok (.putfield 22, 3) := by decide +kernel
theorem dX5_init_37 : decode cX5_init 37 = .ok (.aload_n 0, 1) := by decide +kernel
theorem dX5_init_38 : decode cX5_init 38 = .ok (.iconst 2, 1) := by decide +kernel
theorem dX5_init_39 : decode cX5_init 39 = .ok (.anewarray 9, 3) := by decide +kernel
theorem dX5_init_42 : decode cX5_init 42 = .ok (.putfield 26, 3) := by decide +kernel
theorem dX5_init_45 : decode cX5_init 45 = .ok (.aload_n 0, 1) := by decide +kernel
theorem dX5_init_46 : decode cX5_init 46 = .ok (.iconst 2, 1) := by decide +kernel
theorem dX5_init_47 : decode cX5_init 47 = .ok (.newarray .boolean, 2) := by decide +kernel
theorem dX5_init_49 : decode cX5_init 49 = .ok (.putfield 30, 3) := by decide +kernel
theorem dX5_init_52 : decode cX5_init 52 = .ok (.aload_n 0, 1) := by decide +kernel
theorem dX5_init_53 : decode cX5_init 53 = .ok (.new 34, 3) := by decide +kernel
theorem dX5_init_56 : decode cX5_init 56 = .ok (.dup, 1) := by decide +kernel
theorem dX5_init_57 : decode cX5_init 57 = .ok (.invokespecial 36, 3) := by decide +kernel
theorem dX5_init_60 : decode cX5_init 60 = .ok (.putfield 37, 3) := by decide +kernel
theorem dX5_init_63 : decode cX5_init 63 = .ok (.iconst 0, 1) := by decide +kernel
theorem dX5_init_64 : decode cX5_init 64 = .ok (.istore_n 1, 1) := by decide +kernel
theorem dX5_init_65 : decode cX5_init 65 = .ok (.iload_n 1, 1) := by decide +kernel
theorem dX5_init_66 : decode cX5_init 66 = .ok (.iconst 2, 1) := by decide +kernel
theorem dX5_init_67 : decode cX5_init 67 = .ok (.if_icmp .ge 22, 3) := by decide +kernel
theorem dX5_init_70 : decode cX5_init 70 = .ok (.aload_n 0, 1) := by decide +kernel
theorem dX5_init_71 : decode cX5_init 71 = .ok (.getfield 26, 3) := by decide +kernel
theorem dX5_init_74 : decode cX5_init 74 = .ok (.iload_n 1, 1) := by decide +kernel
theorem dX5_init_75 : decode cX5_init 75 = .ok (.new 9, 3) := by decide +kernel
theorem dX5_init_78 : decode cX5_init 78 = .ok (.dup, 1) := by decide +kernel
theorem dX5_init_79 : decode cX5_init 79 = .ok (.invokespecial 11, 3) := by decide +kernel
theorem dX5_init_82 : decode cX5_init 82 = .ok (.aastore, 1) := by decide +kernel
theorem dX5_init_83 : decode cX5_init 83 = .ok (.iinc 1 1, 3) := by decide +kernel
theorem dX5_init_86 : decode cX5_init 86 = .ok (.goto (-21), 3) := by decide +kernel
theorem dX5_init_89 : decode cX5_init 89 = .ok (.return_, 1) := by decide +kernel
theorem dX5_set_0 : decode cX5_set 0 = .ok (.iload_n 1, 1) := by decide +kernel
theorem dX5_set_1 : decode cX5_set 1 = .ok (.ifCond .lt 8, 3) := by decide +kernel
theorem dX5_set_4 : decode cX5_set 4 = .ok (.iload_n 1, 1) := by decide +kernel
theorem dX5_set_5 : decode cX5_set 5 = .ok (.iconst 4, 1) := by decide +kernel
theorem dX5_set_6 : decode cX5_set 6 = .ok (.if_icmp .lt 6, 3) := by decide +kernel
theorem dX5_set_9 : decode cX5_set 9 = .ok (.bipush (-2), 2) := by decide +kernel
theorem dX5_set_11 : decode cX5_set 11 = .ok (.ireturn, 1) := by decide +kernel
theorem dX5_set_12 : decode cX5_set 12 = .ok (.iload_n 2, 1) := by decide +kernel
theorem dX5_set_13 : decode cX5_set 13 = .ok (.getstatic 41, 3) := by decide +kernel
theorem dX5_set_16 : decode cX5_set 16 = .ok (.iload_n 1, 1) := by decide +kernel
theorem dX5_set_17 : decode cX5_set 17 = .ok (.iaload, 1) := by decide +kernel
theorem dX5_set_18 : decode cX5_set 18 = .ok (.if_icmp .lt 12, 3) := by decide +kernel
theorem dX5_set_21 : decode cX5_set 21 = .ok (.iload_n 2, 1) := by decide +kernel
theorem dX5_set_22 : decode cX5_set 22 = .ok (.getstatic 45, 3) := by decide +kernel
theorem dX5_set_25 : decode cX5_set 25 = .ok (.iload_n 1, 1) := by decide +kernel
theorem dX5_set_26 : decode cX5_set 26 = .ok (.iaload, 1) := by decide +kernel
theorem dX5_set_27 : decode cX5_set 27 = .ok (.if_icmp .le 6, 3) := by decide +kernel
theorem dX5_set_30 : decode cX5_set 30 = .ok (.bipush (-2), 2) := by decide +kernel
theorem dX5_set_32 : decode cX5_set 32 = .ok (.ireturn, 1) := by decide +kernel
theorem dX5_set_33 : decode cX5_set 33 = .ok (.aload_n 0, 1) := by decide +kernel
theorem dX5_set_34 : decode cX5_set 34 = .ok (.getfield 22, 3) := by decide +kernel
theorem dX5_set_37 : decode cX5_set 37 = .ok (.aload_n 0, 1) := by decide +kernel
theorem dX5_set_38 : decode cX5_set 38 = .ok (.getfield 12, 3) := by decide +kernel
theorem dX5_set_41 : decode cX5_set 41 = .ok (.invokevirtual 48, 3) := by decide +kernel
theorem dX5_set_44 : decode cX5_set 44 = .ok (.aload_n 0, 1) := by decide +kernel
theorem dX5_set_45 : decode cX5_set 45 = .ok (.getfield 12, 3) := by decide +kernel
theorem dX5_set_48 : decode cX5_set 48 = .ok (.getfield 52, 3) := by decide +kernel
theorem dX5_set_51 : decode cX5_set 51 = .ok (.iload_n 1, 1) := by decide +kernel
theorem dX5_set_52 : decode cX5_set 52 = .ok (.iaload, 1) := by decide +kernel
theorem dX5_set_53 : decode cX5_set 53 = .ok (.istore_n 3, 1) := by decide +kernel
theorem dX5_set_54 : decode cX5_set 54 = .ok (.aload_n 0, 1) := by decide +kernel
theorem dX5_set_55 : decode cX5_set 55 = .ok (.getfield 12, 3) := by decide +kernel
theorem dX5_set_58 : decode cX5_set 58 = .ok (.getfield 52, 3) := by decide +kernel
theorem dX5_set_61 : decode cX5_set 61 = .ok (.iload_n 1, 1) := by decide +kernel
theorem dX5_set_62 : decode cX5_set 62 = .ok (.iload_n 2, 1) := by decide +kernel
theorem dX5_set_63 : decode cX5_set 63 = .ok (.iastore, 1) := by decide +kernel
theorem dX5_set_64 : decode cX5_set 64 = .ok (.iload_n 3, 1) := by decide +kernel
theorem dX5_set_65 : decode cX5_set 65 = .ok (.ireturn, 1) := by decide +kernel
theorem dX5_floor_0 : decode cX5_floor 0 = .ok (.iload_n 1, 1) := by decide +kernel
theorem dX5_floor_1 : decode cX5_floor 1 = .ok (.iload_n 2, 1) := by decide +kernel
theorem dX5_floor_2 : decode cX5_floor 2 = .ok (.invokestatic 55, 3) := by decide +kernel
theorem dX5_floor_5 : decode cX5_floor 5 = .ok (.ifCond .ne 5, 3) := by decide +kernel
theorem dX5_floor_8 : decode cX5_floor 8 = .ok (.iconst (-1), 1) := by decide +kernel
theorem dX5_floor_9 : decode cX5_floor 9 = .ok (.ireturn, 1) := by decide +kernel
theorem dX5_floor_10 : decode cX5_floor 10 = .ok (.iload_n 3, 1) := by decide +kernel
theorem dX5_floor_11 : decode cX5_floor 11 = .ok (.ifCond .lt 8, 3) := by decide +kernel
theorem dX5_floor_14 : decode cX5_floor 14 = .ok (.iload_n 3, 1) := by decide +kernel
theorem dX5_floor_15 : decode cX5_floor 15 = .ok (.iconst 3, 1) := by decide +kernel
theorem dX5_floor_16 : decode cX5_floor 16 = .ok (.if_icmp .le 6, 3) := by decide +kernel
theorem dX5_floor_19 : decode cX5_floor 19 = .ok (.bipush (-2), 2) := by decide +kernel
theorem dX5_floor_21 : decode cX5_floor 21 = .ok (.ireturn, 1) := by decide +kernel
theorem dX5_floor_22 : decode cX5_floor 22 = .ok (.iload_n 1, 1) := by decide +kernel
theorem dX5_floor_23 : decode cX5_floor 23 = .ok (.iload_n 2, 1) := by decide +kernel
theorem dX5_floor_24 : decode cX5_floor 24 = .ok (.invokestatic 59, 3) := by decide +kernel
theorem dX5_floor_27 : decode cX5_floor 27 = .ok (.istore 4, 2) := by decide +kernel
theorem dX5_floor_29 : decode cX5_floor 29 = .ok (.iload_n 3, 1) := by decide +kernel
theorem dX5_floor_30 : decode cX5_floor 30 = .ok (.iconst 2, 1) := by decide +kernel
theorem dX5_floor_31 : decode cX5_floor 31 = .ok (.if_icmp .ne 23, 3) := by decide +kernel
theorem dX5_floor_34 : decode cX5_floor 34 = .ok (.aload_n 0, 1) := by decide +kernel
theorem dX5_floor_35 : decode cX5_floor 35 = .ok (.getfield 12, 3) := by decide +kernel
theorem dX5_floor_38 : decode cX5_floor 38 = .ok (.getfield 63, 3) := by decide +kernel
theorem dX5_floor_41 : decode cX5_floor 41 = .ok (.iload 4, 2) := by decide +kernel
theorem dX5_floor_43 : decode cX5_floor 43 = .ok (.invokevirtual 67, 3) := by decide +kernel
theorem dX5_floor_46 : decode cX5_floor 46 = .ok (.bipush (-6), 2) := by decide +kernel
theorem dX5_floor_48 : decode cX5_floor 48 = .ok (.if_icmp .eq 6, 3) := by decide +kernel
theorem dX5_floor_51 : decode cX5_floor 51 = .ok (.bipush (-5), 2) := by decide +kernel
theorem dX5_floor_53 : decode cX5_floor 53 = .ok (.ireturn, 1) := by decide +kernel
theorem dX5_floor_54 : decode cX5_floor 54 = .ok (.aload_n 0, 1) := by decide +kernel
theorem dX5_floor_55 : decode cX5_floor 55 = .ok (.getfield 22, 3) := by decide +kernel
theorem dX5_floor_58 : decode cX5_floor 58 = .ok (.aload_n 0, 1) := by decide +kernel
theorem dX5_floor_59 : decode cX5_floor 59 = .ok (.getfield 12, 3) := by decide +kernel
theorem dX5_floor_62 : decode cX5_floor 62 = .ok (.invokevirtual 48, 3) := by decide +kernel
theorem dX5_floor_65 : decode cX5_floor 65 = .ok (.aload_n 0, 1) := by decide +kernel
theorem dX5_floor_66 : decode cX5_floor 66 = .ok (.getfield 12, 3) := by decide +kernel
theorem dX5_floor_69 : decode cX5_floor 69 = .ok (.getfield 73, 3) := by decide +kernel
theorem dX5_floor_72 : decode cX5_floor 72 = .ok (.iload 4, 2) := by decide +kernel
theorem dX5_floor_74 : decode cX5_floor 74 = .ok (.iaload, 1) := by decide +kernel
theorem dX5_floor_75 : decode cX5_floor 75 = .ok (.istore 5, 2) := by decide +kernel
theorem dX5_floor_77 : decode cX5_floor 77 = .ok (.aload_n 0, 1) := by decide +kernel
theorem dX5_floor_78 : decode cX5_floor 78 = .ok (.getfield 12, 3) := by decide +kernel
theorem dX5_floor_81 : decode cX5_floor 81 = .ok (.iload 4, 2) := by decide +kernel
theorem dX5_floor_83 : decode cX5_floor 83 = .ok (.iload_n 3, 1) := by decide +kernel
theorem dX5_floor_84 : decode cX5_floor 84 = .ok (.invokevirtual 76, 3) := by decide +kernel
theorem dX5_floor_87 : decode cX5_floor 87 = .ok (.iload 5, 2) := by decide +kernel
theorem dX5_floor_89 : decode cX5_floor 89 = .ok (.ireturn, 1) := by decide +kernel
theorem dX5_read_0 : decode cX5_read 0 = .ok (.aload_n 0, 1) := by decide +kernel
theorem dX5_read_1 : decode cX5_read 1 = .ok (.getfield 37, 3) := by decide +kernel
theorem dX5_read_4 : decode cX5_read 4 = .ok (.invokevirtual 80, 3) := by decide +kernel
theorem dX5_read_7 : decode cX5_read 7 = .ok (.bipush (-6), 2) := by decide +kernel
theorem dX5_read_9 : decode cX5_read 9 = .ok (.if_icmp .eq 6, 3) := by decide +kernel
theorem dX5_read_12 : decode cX5_read 12 = .ok (.bipush (-3), 2) := by decide +kernel
theorem dX5_read_14 : decode cX5_read 14 = .ok (.ireturn, 1) := by decide +kernel
theorem dX5_read_15 : decode cX5_read 15 = .ok (.aload_n 0, 1) := by decide +kernel
theorem dX5_read_16 : decode cX5_read 16 = .ok (.getfield 22, 3) := by decide +kernel
theorem dX5_read_19 : decode cX5_read 19 = .ok (.aload_n 0, 1) := by decide +kernel
