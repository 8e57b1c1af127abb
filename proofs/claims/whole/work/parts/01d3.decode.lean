theorem dX5_wipe_0 : decode cX5_wipe 0 = .ok (.aload_n 0, 1) := by decide +kernel
theorem dX5_wipe_1 : decode cX5_wipe 1 = .ok (.getfield 37, 3) := by decide +kernel
theorem dX5_wipe_4 : decode cX5_wipe 4 = .ok (.getfield 88, 3) := by decide +kernel
theorem dX5_wipe_7 : decode cX5_wipe 7 = .ok (.istore_n 1, 1) := by decide +kernel
theorem dX5_wipe_8 : decode cX5_wipe 8 = .ok (.aload_n 0, 1) := by decide +kernel
theorem dX5_wipe_9 : decode cX5_wipe 9 = .ok (.getfield 37, 3) := by decide +kernel
theorem dX5_wipe_12 : decode cX5_wipe 12 = .ok (.iconst 0, 1) := by decide +kernel
theorem dX5_wipe_13 : decode cX5_wipe 13 = .ok (.putfield 88, 3) := by decide +kernel
theorem dX5_wipe_16 : decode cX5_wipe 16 = .ok (.iload_n 1, 1) := by decide +kernel
theorem dX5_wipe_17 : decode cX5_wipe 17 = .ok (.ireturn, 1) := by decide +kernel
theorem dX5_fault_0 : decode cX5_fault 0 = .ok (.aload_n 0, 1) := by decide +kernel
theorem dX5_fault_1 : decode cX5_fault 1 = .ok (.getfield 37, 3) := by decide +kernel
theorem dX5_fault_4 : decode cX5_fault 4 = .ok (.invokevirtual 80, 3) := by decide +kernel
theorem dX5_fault_7 : decode cX5_fault 7 = .ok (.ireturn, 1) := by decide +kernel
theorem dX5_undo_0 : decode cX5_undo 0 = .ok (.aload_n 0, 1) := by decide +kernel
theorem dX5_undo_1 : decode cX5_undo 1 = .ok (.getfield 22, 3) := by decide +kernel
theorem dX5_undo_4 : decode cX5_undo 4 = .ok (.getfield 201, 3) := by decide +kernel
theorem dX5_undo_7 : decode cX5_undo 7 = .ok (.ifCond .ne 6, 3) := by decide +kernel
theorem dX5_undo_10 : decode cX5_undo 10 = .ok (.bipush (-5), 2) := by decide +kernel
theorem dX5_undo_12 : decode cX5_undo 12 = .ok (.ireturn, 1) := by decide +kernel
theorem dX5_undo_13 : decode cX5_undo 13 = .ok (.aload_n 0, 1) := by decide +kernel
theorem dX5_undo_14 : decode cX5_undo 14 = .ok (.getfield 22, 3) := by decide +kernel
theorem dX5_undo_17 : decode cX5_undo 17 = .ok (.aload_n 0, 1) := by decide +kernel
theorem dX5_undo_18 : decode cX5_undo 18 = .ok (.getfield 12, 3) := by decide +kernel
theorem dX5_undo_21 : decode cX5_undo 21 = .ok (.invokevirtual 221, 3) := by decide +kernel
theorem dX5_undo_24 : decode cX5_undo 24 = .ok (.aload_n 0, 1) := by decide +kernel
theorem dX5_undo_25 : decode cX5_undo 25 = .ok (.getfield 22, 3) := by decide +kernel
theorem dX5_undo_28 : decode cX5_undo 28 = .ok (.getfield 201, 3) := by decide +kernel
theorem dX5_undo_31 : decode cX5_undo 31 = .ok (.ireturn, 1) := by decide +kernel
theorem dX5_save_0 : decode cX5_save 0 = .ok (.iload_n 1, 1) := by decide +kernel
theorem dX5_save_1 : decode cX5_save 1 = .ok (.iconst 0, 1) := by decide +kernel
theorem dX5_save_2 : decode cX5_save 2 = .ok (.iconst 1, 1) := by decide +kernel
theorem dX5_save_3 : decode cX5_save 3 = .ok (.invokestatic 101, 3) := by decide +kernel
theorem dX5_save_6 : decode cX5_save 6 = .ok (.ifCond .ne 6, 3) := by decide +kernel
theorem dX5_save_9 : decode cX5_save 9 = .ok (.bipush (-2), 2) := by decide +kernel
theorem dX5_save_11 : decode cX5_save 11 = .ok (.ireturn, 1) := by decide +kernel
theorem dX5_save_12 : decode cX5_save 12 = .ok (.aload_n 0, 1) := by decide +kernel
theorem dX5_save_13 : decode cX5_save 13 = .ok (.getfield 26, 3) := by decide +kernel
theorem dX5_save_16 : decode cX5_save 16 = .ok (.iload_n 1, 1) := by decide +kernel
theorem dX5_save_17 : decode cX5_save 17 = .ok (.aaload, 1) := by decide +kernel
theorem dX5_save_18 : decode cX5_save 18 = .ok (.aload_n 0, 1) := by decide +kernel
theorem dX5_save_19 : decode cX5_save 19 = .ok (.getfield 12, 3) := by decide +kernel
theorem dX5_save_22 : decode cX5_save 22 = .ok (.invokevirtual 205, 3) := by decide +kernel
theorem dX5_save_25 : decode cX5_save 25 = .ok (.aload_n 0, 1) := by decide +kernel
theorem dX5_save_26 : decode cX5_save 26 = .ok (.getfield 30, 3) := by decide +kernel
theorem dX5_save_29 : decode cX5_save 29 = .ok (.iload_n 1, 1) := by decide +kernel
theorem dX5_save_30 : decode cX5_save 30 = .ok (.iconst 1, 1) := by decide +kernel
theorem dX5_save_31 : decode cX5_save 31 = .ok (.bastore, 1) := by decide +kernel
theorem dX5_save_32 : decode cX5_save 32 = .ok (.aload_n 0, 1) := by decide +kernel
theorem dX5_save_33 : decode cX5_save 33 = .ok (.getfield 12, 3) := by decide +kernel
theorem dX5_save_36 : decode cX5_save 36 = .ok (.getfield 135, 3) := by decide +kernel
theorem dX5_save_39 : decode cX5_save 39 = .ok (.ireturn, 1) := by decide +kernel
theorem dX5_restore_0 : decode cX5_restore 0 = .ok (.iload_n 1, 1) := by decide +kernel
theorem dX5_restore_1 : decode cX5_restore 1 = .ok (.iconst 0, 1) := by decide +kernel
theorem dX5_restore_2 : decode cX5_restore 2 = .ok (.iconst 1, 1) := by decide +kernel
theorem dX5_restore_3 : decode cX5_restore 3 = .ok (.invokestatic 101, 3) := by decide +kernel
theorem dX5_restore_6 : decode cX5_restore 6 = .ok (.ifCond .ne 6, 3) := by decide +kernel
theorem dX5_restore_9 : decode cX5_restore 9 = .ok (.bipush (-2), 2) := by decide +kernel
theorem dX5_restore_11 : decode cX5_restore 11 = .ok (.ireturn, 1) := by decide +kernel
theorem dX5_restore_12 : decode cX5_restore 12 = .ok (.aload_n 0, 1) := by decide +kernel
theorem dX5_restore_13 : decode cX5_restore 13 = .ok (.getfield 30, 3) := by decide +kernel
theorem dX5_restore_16 : decode cX5_restore 16 = .ok (.iload_n 1, 1) := by decide +kernel
theorem dX5_restore_17 : decode cX5_restore 17 = .ok (.baload, 1) := by decide +kernel
theorem dX5_restore_18 : decode cX5_restore 18 = .ok (.ifCond .ne 6, 3) := by decide +kernel
theorem dX5_restore_21 : decode cX5_restore 21 = .ok (.bipush (-5), 2) := by decide +kernel
theorem dX5_restore_23 : decode cX5_restore 23 = .ok (.ireturn, 1) := by decide +kernel
theorem dX5_restore_24 : decode cX5_restore 24 = .ok (.aload_n 0, 1) := by decide +kernel
theorem dX5_restore_25 : decode cX5_restore 25 = .ok (.getfield 22, 3) := by decide +kernel
theorem dX5_restore_28 : decode cX5_restore 28 = .ok (.aload_n 0, 1) := by decide +kernel
theorem dX5_restore_29 : decode cX5_restore 29 = .ok (.getfield 12, 3) := by decide +kernel
theorem dX5_restore_32 : decode cX5_restore 32 = .ok (.invokevirtual 48, 3) := by decide +kernel
theorem dX5_restore_35 : decode cX5_restore 35 = .ok (.aload_n 0, 1) := by decide +kernel
theorem dX5_restore_36 : decode cX5_restore 36 = .ok (.getfield 12, 3) := by decide +kernel
theorem dX5_restore_39 : decode cX5_restore 39 = .ok (.aload_n 0, 1) := by decide +kernel
theorem dX5_restore_40 : decode cX5_restore 40 = .ok (.getfield 26, 3) := by decide +kernel
theorem dX5_restore_43 : decode cX5_restore 43 = .ok (.iload_n 1, 1) := by decide +kernel
theorem dX5_restore_44 : decode cX5_restore 44 = .ok (.aaload, 1) := by decide +kernel
theorem dX5_restore_45 : decode cX5_restore 45 = .ok (.invokevirtual 205, 3) := by decide +kernel
theorem dX5_restore_48 : decode cX5_restore 48 = .ok (.aload_n 0, 1) := by decide +kernel
theorem dX5_restore_49 : decode cX5_restore 49 = .ok (.getfield 12, 3) := by decide +kernel
theorem dX5_restore_52 : decode cX5_restore 52 = .ok (.getfield 135, 3) := by decide +kernel
theorem dX5_restore_55 : decode cX5_restore 55 = .ok (.ireturn, 1) := by decide +kernel
theorem dX5_loudnessWith_0 : decode cX5_loudnessWith 0 = .ok (.aload_n 0, 1) := by decide +kernel
theorem dX5_loudnessWith_1 : decode cX5_loudnessWith 1 = .ok (.getfield 16, 3) := by decide +kernel
theorem dX5_loudnessWith_4 : decode cX5_loudnessWith 4 = .ok (.aload_n 0, 1) := by decide +kernel
theorem dX5_loudnessWith_5 : decode cX5_loudnessWith 5 = .ok (.getfield 12, 3) := by decide +kernel
theorem dX5_loudnessWith_8 : decode cX5_loudnessWith 8 = .ok (.invokevirtual 205, 3) := by decide +kernel
theorem dX5_loudnessWith_11 : decode cX5_loudnessWith 11 = .ok (.aload_n 0, 1) := by decide +kernel
theorem dX5_loudnessWith_12 : decode cX5_loudnessWith 12 = .ok (.getfield 16, 3) := by decide +kernel
theorem dX5_loudnessWith_15 : decode cX5_loudnessWith 15 = .ok (.getfield 63, 3) := by decide +kernel
theorem dX5_loudnessWith_18 : decode cX5_loudnessWith 18 = .ok (.getfield 166, 3) := by decide +kernel
theorem dX5_loudnessWith_21 : decode cX5_loudnessWith 21 = .ok (.iload_n 1, 1) := by decide +kernel
theorem dX5_loudnessWith_22 : decode cX5_loudnessWith 22 = .ok (.iload_n 2, 1) := by decide +kernel
theorem dX5_loudnessWith_23 : decode cX5_loudnessWith 23 = .ok (.iastore, 1) := by decide +kernel
theorem dX5_loudnessWith_24 : decode cX5_loudnessWith 24 = .ok (.aload_n 0, 1) := by decide +kernel
theorem dX5_loudnessWith_25 : decode cX5_loudnessWith 25 = .ok (.getfield 16, 3) := by decide +kernel
theorem dX5_loudnessWith_28 : decode cX5_loudnessWith 28 = .ok (.iload 4, 2) := by decide +kernel
theorem dX5_loudnessWith_30 : decode cX5_loudnessWith 30 = .ok (.invokevirtual 139, 3) := by decide +kernel
theorem dX5_loudnessWith_33 : decode cX5_loudnessWith 33 = .ok (.aload_n 0, 1) := by decide +kernel
theorem dX5_loudnessWith_34 : decode cX5_loudnessWith 34 = .ok (.getfield 16, 3) := by decide +kernel
theorem dX5_loudnessWith_37 : decode cX5_loudnessWith 37 = .ok (.iload_n 3, 1) := by decide +kernel
theorem dX5_loudnessWith_38 : decode cX5_loudnessWith 38 = .ok (.invokevirtual 195, 3) := by decide +kernel
theorem dX5_loudnessWith_41 : decode cX5_loudnessWith 41 = .ok (.ireturn, 1) := by decide +kernel
theorem dX5_isDipper_0 : decode cX5_isDipper 0 = .ok (.iload_n 1, 1) := by decide +kernel
theorem dX5_isDipper_1 : decode cX5_isDipper 1 = .ok (.iconst 0, 1) := by decide +kernel
theorem dX5_isDipper_2 : decode cX5_isDipper 2 = .ok (.aload_n 0, 1) := by decide +kernel
theorem dX5_isDipper_3 : decode cX5_isDipper 3 = .ok (.getfield 12, 3) := by decide +kernel
theorem dX5_isDipper_6 : decode cX5_isDipper 6 = .ok (.getfield 63, 3) := by decide +kernel
theorem dX5_isDipper_9 : decode cX5_isDipper 9 = .ok (.getfield 105, 3) := by decide +kernel
theorem dX5_isDipper_12 : decode cX5_isDipper 12 = .ok (.iconst 1, 1) := by decide +kernel
theorem dX5_isDipper_13 : decode cX5_isDipper 13 = .ok (.isub, 1) := by decide +kernel
theorem dX5_isDipper_14 : decode cX5_isDipper 14 = .ok (.invokestatic 101, 3) := by decide +kernel
theorem dX5_isDipper_17 : decode cX5_isDipper 17 = .ok (.ireturn, 1) := by decide +kernel
theorem dX5_isProbe_0 : decode cX5_isProbe 0 = .ok (.iload_n 1, 1) := by decide +kernel
theorem dX5_isProbe_1 : decode cX5_isProbe 1 = .ok (.iconst 0, 1) := by decide +kernel
theorem dX5_isProbe_2 : decode cX5_isProbe 2 = .ok (.aload_n 0, 1) := by decide +kernel
theorem dX5_isProbe_3 : decode cX5_isProbe 3 = .ok (.getfield 12, 3) := by decide +kernel
theorem dX5_isProbe_6 : decode cX5_isProbe 6 = .ok (.getfield 126, 3) := by decide +kernel
theorem dX5_isProbe_9 : decode cX5_isProbe 9 = .ok (.getfield 130, 3) := by decide +kernel
theorem dX5_isProbe_12 : decode cX5_isProbe 12 = .ok (.iconst 1, 1) := by decide +kernel
theorem dX5_isProbe_13 : decode cX5_isProbe 13 = .ok (.isub, 1) := by decide +kernel
theorem dX5_isProbe_14 : decode cX5_isProbe 14 = .ok (.invokestatic 101, 3) := by decide +kernel
theorem dX5_isProbe_17 : decode cX5_isProbe 17 = .ok (.ireturn, 1) := by decide +kernel
theorem dX5_isIn_0 : decode cX5_isIn 0 = .ok (.iload_n 0, 1) := by decide +kernel
theorem dX5_isIn_1 : decode cX5_isIn 1 = .ok (.iload_n 1, 1) := by decide +kernel
theorem dX5_isIn_2 : decode cX5_isIn 2 = .ok (.if_icmp .lt 12, 3) := by decide +kernel
theorem dX5_isIn_5 : decode cX5_isIn 5 = .ok (.iload_n 0, 1) := by decide +kernel
theorem dX5_isIn_6 : decode cX5_isIn 6 = .ok (.iload_n 2, 1) := by decide +kernel
theorem dX5_isIn_7 : decode cX5_isIn 7 = .ok (.if_icmp .gt 7, 3) := by decide +kernel
theorem dX5_isIn_10 : decode cX5_isIn 10 = .ok (.iconst 1, 1) := by decide +kernel
theorem dX5_isIn_11 : decode cX5_isIn 11 = .ok (.goto 4, 3) := by decide +kernel
theorem dX5_isIn_14 : decode cX5_isIn 14 = .ok (.iconst 0, 1) := by decide +kernel
theorem dX5_isIn_15 : decode cX5_isIn 15 = .ok (.ireturn, 1) := by decide +kernel
theorem dX5_isCell_0 : decode cX5_isCell 0 = .ok (.iload_n 0, 1) := by decide +kernel
theorem dX5_isCell_1 : decode cX5_isCell 1 = .ok (.iconst 0, 1) := by decide +kernel
theorem dX5_isCell_2 : decode cX5_isCell 2 = .ok (.bipush 9, 2) := by decide +kernel
theorem dX5_isCell_4 : decode cX5_isCell 4 = .ok (.invokestatic 101, 3) := by decide +kernel
theorem dX5_isCell_7 : decode cX5_isCell 7 = .ok (.ifCond .eq 16, 3) := by decide +kernel
theorem dX5_isCell_10 : decode cX5_isCell 10 = .ok (.iload_n 1, 1) := by decide +kernel
theorem dX5_isCell_11 : decode cX5_isCell 11 = .ok (.iconst 0, 1) := by decide +kernel
theorem dX5_isCell_12 : decode cX5_isCell 12 = .ok (.iconst 5, 1) := by decide +kernel
theorem dX5_isCell_13 : decode cX5_isCell 13 = .ok (.invokestatic 101, 3) := by decide +kernel
theorem dX5_isCell_16 : decode cX5_isCell 16 = .ok (.ifCond .eq 7, 3) := by decide +kernel
theorem dX5_isCell_19 : decode cX5_isCell 19 = .ok (.iconst 1, 1) := by decide +kernel
theorem dX5_isCell_20 : decode cX5_isCell 20 = .ok (.goto 4, 3) := by decide +kernel
theorem dX5_isCell_23 : decode cX5_isCell 23 = .ok (.iconst 0, 1) := by decide +kernel
theorem dX5_isCell_24 : decode cX5_isCell 24 = .ok (.ireturn, 1) := by decide +kernel
theorem dX5_placeOf_0 : decode cX5_placeOf 0 = .ok (.iload_n 1, 1) := by decide +kernel
theorem dX5_placeOf_1 : decode cX5_placeOf 1 = .ok (.bipush 10, 2) := by decide +kernel
theorem dX5_placeOf_3 : decode cX5_placeOf 3 = .ok (.imul, 1) := by decide +kernel
theorem dX5_placeOf_4 : decode cX5_placeOf 4 = .ok (.iload_n 0, 1) := by decide +kernel
theorem dX5_placeOf_5 : decode cX5_placeOf 5 = .ok (.iadd, 1) := by decide +kernel
theorem dX5_placeOf_6 : decode cX5_placeOf 6 = .ok (.ireturn, 1) := by decide +kernel
theorem dX5_bounded_0 : decode cX5_bounded 0 = .ok (.sipush (-9999), 3) := by decide +kernel
theorem dX5_bounded_3 : decode cX5_bounded 3 = .ok (.sipush 9999, 3) := by decide +kernel
theorem dX5_bounded_6 : decode cX5_bounded 6 = .ok (.iload_n 0, 1) := by decide +kernel
theorem dX5_bounded_7 : decode cX5_bounded 7 = .ok (.invokestatic 224, 3) := by decide +kernel
theorem dX5_bounded_10 : decode cX5_bounded 10 = .ok (.invokestatic 229, 3) := by decide +kernel
theorem dX5_bounded_13 : decode cX5_bounded 13 = .ok (.ireturn, 1) := by decide +kernel
theorem dX6_init_0 : decode cX6_init 0 = .ok (.aload_n 0, 1) := by decide +kernel
theorem dX6_init_1 : decode cX6_init 1 = .ok (.invokespecial 1, 3) := by decide +kernel
theorem dX6_init_4 : decode cX6_init 4 = .ok (.aload_n 0, 1) := by decide +kernel
theorem dX6_init_5 : decode cX6_init 5 = .ok (.sipush 345, 3) := by decide +kernel
theorem dX6_init_8 : decode cX6_init 8 = .ok (.newarray .int, 2) := by decide +kernel
theorem dX6_init_10 : decode cX6_init 10 = .ok (.putfield 7, 3) := by decide +kernel
theorem dX6_init_13 : decode cX6_init 13 = .ok (.aload_n 0, 1) := by decide +kernel
theorem dX6_init_14 : decode cX6_init 14 = .ok (.sipush 2070, 3) := by decide +kernel
theorem dX6_init_17 : decode cX6_init 17 = .ok (.newarray .int, 2) := by decide +kernel
theorem dX6_init_19 : decode cX6_init 19 = .ok (.putfield 13, 3) := by decide +kernel
theorem dX6_init_22 : decode cX6_init 22 = .ok (.aload_n 0, 1) := by decide +kernel
theorem dX6_init_23 : decode cX6_init 23 = .ok (.sipush 690, 3) := by decide +kernel
theorem dX6_init_26 : decode cX6_init 26 = .ok (.newarray .int, 2) := by decide +kernel
theorem dX6_init_28 : decode cX6_init 28 = .ok (.putfield 16, 3) := by decide +kernel
theorem dX6_init_31 : decode cX6_init 31 = .ok (.aload_n 0, 1) := by decide +kernel
theorem dX6_init_32 : decode cX6_init 32 = .ok (.iconst 2, 1) := by decide +kernel
theorem dX6_init_33 : decode cX6_init 33 = .ok (.newarray .boolean, 2) := by decide +kernel
theorem dX6_init_35 : decode cX6_init 35 = .ok (.putfield 19, 3) := by decide +kernel
theorem dX6_init_38 : decode cX6_init 38 = .ok (.aload_n 0, 1) := by decide +kernel
theorem dX6_init_39 : decode cX6_init 39 = .ok (.sipush 345, 3) := by decide +kernel
theorem dX6_init_42 : decode cX6_init 42 = .ok (.newarray .int, 2) := by decide +kernel
theorem dX6_init_44 : decode cX6_init 44 = .ok (.putfield 23, 3) := by decide +kernel
theorem dX6_init_47 : decode cX6_init 47 = .ok (.aload_n 0, 1) := by decide +kernel
theorem dX6_init_48 : decode cX6_init 48 = .ok (.bipush 72, 2) := by decide +kernel
theorem dX6_init_50 : decode cX6_init 50 = .ok (.newarray .char, 2) := by decide +kernel
theorem dX6_init_52 : decode cX6_init 52 = .ok (.putfield 26, 3) := by decide +kernel
theorem dX6_init_55 : decode cX6_init 55 = .ok (.aload_n 0, 1) := by decide +kernel
theorem dX6_init_56 : decode cX6_init 56 = .ok (.bipush 60, 2) := by decide +kernel
theorem dX6_init_58 : decode cX6_init 58 = .ok (.newarray .int, 2) := by decide +kernel
theorem dX6_init_60 : decode cX6_init 60 = .ok (.putfield 30, 3) := by decide +kernel
theorem dX6_init_63 : decode cX6_init 63 = .ok (.aload_n 0, 1) := by decide +kernel
theorem dX6_init_64 : decode cX6_init 64 = .ok (.getfield 7, 3) := by decide +kernel
theorem dX6_init_67 : decode cX6_init 67 = .ok (.iconst 0, 1) := by decide +kernel
theorem dX6_init_68 : decode cX6_init 68 = .ok (.bipush 10, 2) := by decide +kernel
theorem dX6_init_70 : decode cX6_init 70 = .ok (.iastore, 1) := by decide +kernel
theorem dX6_init_71 : decode cX6_init 71 = .ok (.aload_n 0, 1) := by decide +kernel
theorem dX6_init_72 : decode cX6_init 72 = .ok (.getfield 7, 3) := by decide +kernel
theorem dX6_init_75 : decode cX6_init 75 = .ok (.iconst 1, 1) := by decide +kernel
theorem dX6_init_76 : decode cX6_init 76 = .ok (.bipush 8, 2) := by decide +kernel
theorem dX6_init_78 : decode cX6_init 78 = .ok (.iastore, 1) := by decide +kernel
theorem dX6_init_79 : decode cX6_init 79 = .ok (.aload_n 0, 1) := by decide +kernel
theorem dX6_init_80 : decode cX6_init 80 = .ok (.getfield 7, 3) := by decide +kernel
theorem dX6_init_83 : decode cX6_init 83 = .ok (.iconst 2, 1) := by decide +kernel
theorem dX6_init_84 : decode cX6_init 84 = .ok (.iconst 3, 1) := by decide +kernel
theorem dX6_init_85 : decode cX6_init 85 = .ok (.iastore, 1) := by decide +kernel
theorem dX6_init_86 : decode cX6_init 86 = .ok (.aload_n 0, 1) := by decide +kernel
theorem dX6_init_87 : decode cX6_init 87 = .ok (.getfield 7, 3) := by decide +kernel
theorem dX6_init_90 : decode cX6_init 90 = .ok (.iconst 3, 1) := by decide +kernel
theorem dX6_init_91 : decode cX6_init 91 = .ok (.iconst 5, 1) := by decide +kernel
theorem dX6_init_92 : decode cX6_init 92 = .ok (.iastore, 1) := by decide +kernel
theorem dX6_init_93 : decode cX6_init 93 = .ok (.aload_n 0, 1) := by decide +kernel
theorem dX6_init_94 : decode cX6_init 94 = .ok (.invokevirtual 33, 3) := by decide +kernel
theorem dX6_init_97 : decode cX6_init 97 = .ok (.return_, 1) := by decide +kernel
theorem dX6_in_0 : decode cX6_in 0 = .ok (.iload_n 0, 1) := by decide +kernel
theorem dX6_in_1 : decode cX6_in 1 = .ok (.iload_n 1, 1) := by decide +kernel
theorem dX6_in_2 : decode cX6_in 2 = .ok (.if_icmp .lt 12, 3) := by decide +kernel
theorem dX6_in_5 : decode cX6_in 5 = .ok (.iload_n 0, 1) := by decide +kernel
theorem dX6_in_6 : decode cX6_in 6 = .ok (.iload_n 2, 1) := by decide +kernel
theorem dX6_in_7 : decode cX6_in 7 = .ok (.if_icmp .gt 7, 3) := by decide +kernel
theorem dX6_in_10 : decode cX6_in 10 = .ok (.iconst 1, 1) := by decide +kernel
theorem dX6_in_11 : decode cX6_in 11 = .ok (.goto 4, 3) := by decide +kernel
theorem dX6_in_14 : decode cX6_in 14 = .ok (.iconst 0, 1) := by decide +kernel
theorem dX6_in_15 : decode cX6_in 15 = .ok (.ireturn, 1) := by decide +kernel
theorem dX6_isCell_0 : decode cX6_isCell 0 = .ok (.iload_n 0, 1) := by decide +kernel
theorem dX6_isCell_1 : decode cX6_isCell 1 = .ok (.iconst 0, 1) := by decide +kernel
theorem dX6_isCell_2 : decode cX6_isCell 2 = .ok (.bipush 9, 2) := by decide +kernel
theorem dX6_isCell_4 : decode cX6_isCell 4 = .ok (.invokestatic 36, 3) := by decide +kernel
theorem dX6_isCell_7 : decode cX6_isCell 7 = .ok (.ifCond .eq 16, 3) := by decide +kernel
theorem dX6_isCell_10 : decode cX6_isCell 10 = .ok (.iload_n 1, 1) := by decide +kernel
theorem dX6_isCell_11 : decode cX6_isCell 11 = .ok (.iconst 0, 1) := by decide +kernel
theorem dX6_isCell_12 : decode cX6_isCell 12 = .ok (.iconst 5, 1) := by decide +kernel
theorem dX6_isCell_13 : decode cX6_isCell 13 = .ok (.invokestatic 36, 3) := by decide +kernel
theorem dX6_isCell_16 : decode cX6_isCell 16 = .ok (.ifCond .eq 7, 3) := by decide +kernel
theorem dX6_isCell_19 : decode cX6_isCell 19 = .ok (.iconst 1, 1) := by decide +kernel
theorem dX6_isCell_20 : decode cX6_isCell 20 = .ok (.goto 4, 3) := by decide +kernel
theorem dX6_isCell_23 : decode cX6_isCell 23 = .ok (.iconst 0, 1) := by decide +kernel
theorem dX6_isCell_24 : decode cX6_isCell 24 = .ok (.ireturn, 1) := by decide +kernel
theorem dX6_isWall_0 : decode cX6_isWall 0 = .ok (.aload_n 0, 1) := by decide +kernel
theorem dX6_isWall_1 : decode cX6_isWall 1 = .ok (.getfield 7, 3) := by decide +kernel
theorem dX6_isWall_4 : decode cX6_isWall 4 = .ok (.iconst 5, 1) := by decide +kernel
theorem dX6_isWall_5 : decode cX6_isWall 5 = .ok (.iload_n 1, 1) := by decide +kernel
theorem dX6_isWall_6 : decode cX6_isWall 6 = .ok (.iadd, 1) := by decide +kernel
theorem dX6_isWall_7 : decode cX6_isWall 7 = .ok (.iaload, 1) := by decide +kernel
theorem dX6_isWall_8 : decode cX6_isWall 8 = .ok (.iconst 2, 1) := by decide +kernel
theorem dX6_isWall_9 : decode cX6_isWall 9 = .ok (.if_icmp .ne 7, 3) := by decide +kernel
theorem dX6_isWall_12 : decode cX6_isWall 12 = .ok (.iconst 1, 1) := by decide +kernel
theorem dX6_isWall_13 : decode cX6_isWall 13 = .ok (.goto 4, 3) := by decide +kernel
theorem dX6_isWall_16 : decode cX6_isWall 16 = .ok (.iconst 0, 1) := by decide +kernel
theorem dX6_isWall_17 : decode cX6_isWall 17 = .ok (.ireturn, 1) := by decide +kernel
theorem dX6_isDipper_0 : decode cX6_isDipper 0 = .ok (.iload_n 1, 1) := by decide +kernel
theorem dX6_isDipper_1 : decode cX6_isDipper 1 = .ok (.ifCond .lt 19, 3) := by decide +kernel
theorem dX6_isDipper_4 : decode cX6_isDipper 4 = .ok (.iload_n 1, 1) := by decide +kernel
theorem dX6_isDipper_5 : decode cX6_isDipper 5 = .ok (.aload_n 0, 1) := by decide +kernel
theorem dX6_isDipper_6 : decode cX6_isDipper 6 = .ok (.getfield 7, 3) := by decide +kernel
theorem dX6_isDipper_9 : decode cX6_isDipper 9 = .ok (.sipush 245, 3) := by decide +kernel
theorem dX6_isDipper_12 : decode cX6_isDipper 12 = .ok (.iaload, 1) := by decide +kernel
theorem dX6_isDipper_13 : decode cX6_isDipper 13 = .ok (.if_icmp .ge 7, 3) := by decide +kernel
theorem dX6_isDipper_16 : decode cX6_isDipper 16 = .ok (.iconst 1, 1) := by decide +kernel
theorem dX6_isDipper_17 : decode cX6_isDipper 17 = .ok (.goto 4, 3) := by decide +kernel
theorem dX6_isDipper_20 : decode cX6_isDipper 20 = .ok (.iconst 0, 1) := by decide +kernel
theorem dX6_isDipper_21 : decode cX6_isDipper 21 = .ok (.ireturn, 1) := by decide +kernel
theorem dX6_isProbe_0 : decode cX6_isProbe 0 = .ok (.iload_n 1, 1) := by decide +kernel
theorem dX6_isProbe_1 : decode cX6_isProbe 1 = .ok (.ifCond .lt 19, 3) := by decide +kernel
theorem dX6_isProbe_4 : decode cX6_isProbe 4 = .ok (.iload_n 1, 1) := by decide +kernel
theorem dX6_isProbe_5 : decode cX6_isProbe 5 = .ok (.aload_n 0, 1) := by decide +kernel
theorem dX6_isProbe_6 : decode cX6_isProbe 6 = .ok (.getfield 7, 3) := by decide +kernel
theorem dX6_isProbe_9 : decode cX6_isProbe 9 = .ok (.sipush 266, 3) := by decide +kernel
theorem dX6_isProbe_12 : decode cX6_isProbe 12 = .ok (.iaload, 1) := by decide +kernel
theorem dX6_isProbe_13 : decode cX6_isProbe 13 = .ok (.if_icmp .ge 7, 3) := by decide +kernel
theorem dX6_isProbe_16 : decode cX6_isProbe 16 = .ok (.iconst 1, 1) := by decide +kernel
theorem dX6_isProbe_17 : decode cX6_isProbe 17 = .ok (.goto 4, 3) := by decide +kernel
theorem dX6_isProbe_20 : decode cX6_isProbe 20 = .ok (.iconst 0, 1) := by decide +kernel
theorem dX6_isProbe_21 : decode cX6_isProbe 21 = .ok (.ireturn, 1) := by decide +kernel
theorem dX6_ofDipper_0 : decode cX6_ofDipper 0 = .ok (.aload_n 0, 1) := by decide +kernel
theorem dX6_ofDipper_1 : decode cX6_ofDipper 1 = .ok (.getfield 7, 3) := by decide +kernel
theorem dX6_ofDipper_4 : decode cX6_ofDipper 4 = .ok (.sipush 246, 3) := by decide +kernel
theorem dX6_ofDipper_7 : decode cX6_ofDipper 7 = .ok (.iconst 4, 1) := by decide +kernel
theorem dX6_ofDipper_8 : decode cX6_ofDipper 8 = .ok (.iload_n 1, 1) := by decide +kernel
theorem dX6_ofDipper_9 : decode cX6_ofDipper 9 = .ok (.imul, 1) := by decide +kernel
theorem dX6_ofDipper_10 : decode cX6_ofDipper 10 = .ok (.iadd, 1) := by decide +kernel
theorem dX6_ofDipper_11 : decode cX6_ofDipper 11 = .ok (.iload_n 2, 1) := by decide +kernel
theorem dX6_ofDipper_12 : decode cX6_ofDipper 12 = .ok (.iadd, 1) := by decide +kernel
theorem dX6_ofDipper_13 : decode cX6_ofDipper 13 = .ok (.iaload, 1) := by decide +kernel
theorem dX6_ofDipper_14 : decode cX6_ofDipper 14 = .ok (.ireturn, 1) := by decide +kernel
theorem dX6_now_0 : decode cX6_now 0 = .ok (.aload_n 0, 1) := by decide +kernel
theorem dX6_now_1 : decode cX6_now 1 = .ok (.getfield 7, 3) := by decide +kernel
theorem dX6_now_4 : decode cX6_now 4 = .ok (.bipush 65, 2) := by decide +kernel
theorem dX6_now_6 : decode cX6_now 6 = .ok (.iload_n 1, 1) := by decide +kernel
theorem dX6_now_7 : decode cX6_now 7 = .ok (.iadd, 1) := by decide +kernel
theorem dX6_now_8 : decode cX6_now 8 = .ok (.iaload, 1) := by decide +kernel
theorem dX6_now_9 : decode cX6_now 9 = .ok (.ireturn, 1) := by decide +kernel
theorem dX6_size_0 : decode cX6_size 0 = .ok (.iload_n 0, 1) := by decide +kernel
theorem dX6_size_1 : decode cX6_size 1 = .ok (.ifCond .ge 8, 3) := by decide +kernel
theorem dX6_size_4 : decode cX6_size 4 = .ok (.iload_n 0, 1) := by decide +kernel
theorem dX6_size_5 : decode cX6_size 5 = .ok (.ineg, 1) := by decide +kernel
theorem dX6_size_6 : decode cX6_size 6 = .ok (.goto 4, 3) := by decide +kernel
theorem dX6_size_9 : decode cX6_size 9 = .ok (.iload_n 0, 1) := by decide +kernel
theorem dX6_size_10 : decode cX6_size 10 = .ok (.ireturn, 1) := by decide +kernel
theorem dX6_kept_0 : decode cX6_kept 0 = .ok (.iload_n 0, 1) := by decide +kernel
theorem dX6_kept_1 : decode cX6_kept 1 = .ok (.sipush (-9999), 3) := by decide +kernel
theorem dX6_kept_4 : decode cX6_kept 4 = .ok (.if_icmp .ge 9, 3) := by decide +kernel
theorem dX6_kept_7 : decode cX6_kept 7 = .ok (.sipush (-9999), 3) := by decide +kernel
theorem dX6_kept_10 : decode cX6_kept 10 = .ok (.goto 17, 3) := by decide +kernel
theorem dX6_kept_13 : decode cX6_kept 13 = .ok (.iload_n 0, 1) := by decide +kernel
theorem dX6_kept_14 : decode cX6_kept 14 = .ok (.sipush 9999, 3) := by decide +kernel
theorem dX6_kept_17 : decode cX6_kept 17 = .ok (.if_icmp .le 9, 3) := by decide +kernel
theorem dX6_kept_20 : decode cX6_kept 20 = .ok (.sipush 9999, 3) := by decide +kernel
theorem dX6_kept_23 : decode cX6_kept 23 = .ok (.goto 4, 3) := by decide +kernel
theorem dX6_kept_26 : decode cX6_kept 26 = .ok (.iload_n 0, 1) := by decide +kernel
theorem dX6_kept_27 : decode cX6_kept 27 = .ok (.ireturn, 1) := by decide +kernel
theorem dX6_forgetFirst_0 : decode cX6_forgetFirst 0 = .ok (.iconst 0, 1) := by decide +kernel
theorem dX6_forgetFirst_1 : decode cX6_forgetFirst 1 = .ok (.istore_n 1, 1) := by decide +kernel
theorem dX6_forgetFirst_2 : decode cX6_forgetFirst 2 = .ok (.iload_n 1, 1) := by decide +kernel
theorem dX6_forgetFirst_3 : decode cX6_forgetFirst 3 = .ok (.bipush 60, 2) := by decide +kernel
theorem dX6_forgetFirst_5 : decode cX6_forgetFirst 5 = .ok (.if_icmp .ge 21, 3) := by decide +kernel
theorem dX6_forgetFirst_8 : decode cX6_forgetFirst 8 = .ok (.aload_n 0, 1) := by decide +kernel
theorem dX6_forgetFirst_9 : decode cX6_forgetFirst 9 = .ok (.getfield 7, 3) := by decide +kernel
theorem dX6_forgetFirst_12 : decode cX6_forgetFirst 12 = .ok (.sipush 185, 3) := by decide +kernel
theorem dX6_forgetFirst_15 : decode cX6_forgetFirst 15 = .ok (.iload_n 1, 1) := by decide +kernel
theorem dX6_forgetFirst_16 : decode cX6_forgetFirst 16 = .ok (.iadd, 1) := by decide +kernel
theorem dX6_forgetFirst_17 : decode cX6_forgetFirst 17 = .ok (.bipush (-6), 2) := by decide +kernel
theorem dX6_forgetFirst_19 : decode cX6_forgetFirst 19 = .ok (.iastore, 1) := by decide +kernel
theorem dX6_forgetFirst_20 : decode cX6_forgetFirst 20 = .ok (.iinc 1 1, 3) := by decide +kernel
theorem dX6_forgetFirst_23 : decode cX6_forgetFirst 23 = .ok (.goto (-21), 3) := by decide +kernel
theorem dX6_forgetFirst_26 : decode cX6_forgetFirst 26 = .ok (.return_, 1) := by decide +kernel
theorem dX6_record_0 : decode cX6_record 0 = .ok (.aload_n 0, 1) := by decide +kernel
theorem dX6_record_1 : decode cX6_record 1 = .ok (.getfield 40, 3) := by decide +kernel
theorem dX6_record_4 : decode cX6_record 4 = .ok (.bipush 6, 2) := by decide +kernel
theorem dX6_record_6 : decode cX6_record 6 = .ok (.if_icmp .ne 44, 3) := by decide +kernel
theorem dX6_record_9 : decode cX6_record 9 = .ok (.iconst 0, 1) := by decide +kernel
theorem dX6_record_10 : decode cX6_record 10 = .ok (.istore_n 1, 1) := by decide +kernel
theorem dX6_record_11 : decode cX6_record 11 = .ok (.iload_n 1, 1) := by decide +kernel
theorem dX6_record_12 : decode cX6_record 12 = .ok (.sipush 1725, 3) := by decide +kernel
theorem dX6_record_15 : decode cX6_record 15 = .ok (.if_icmp .ge 25, 3) := by decide +kernel
theorem dX6_record_18 : decode cX6_record 18 = .ok (.aload_n 0, 1) := by decide +kernel
theorem dX6_record_19 : decode cX6_record 19 = .ok (.getfield 13, 3) := by decide +kernel
theorem dX6_record_22 : decode cX6_record 22 = .ok (.iload_n 1, 1) := by decide +kernel
theorem dX6_record_23 : decode cX6_record 23 = .ok (.aload_n 0, 1) := by decide +kernel
theorem dX6_record_24 : decode cX6_record 24 = .ok (.getfield 13, 3) := by decide +kernel
theorem dX6_record_27 : decode cX6_record 27 = .ok (.iload_n 1, 1) := by decide +kernel
theorem dX6_record_28 : decode cX6_record 28 = .ok (.sipush 345, 3) := by decide +kernel
theorem dX6_record_31 : decode cX6_record 31 = .ok (.iadd, 1) := by decide +kernel
theorem dX6_record_32 : decode cX6_record 32 = .ok (.iaload, 1) := by decide +kernel
theorem dX6_record_33 : decode cX6_record 33 = .ok (.iastore, 1) := by decide +kernel
theorem dX6_record_34 : decode cX6_record 34 = .ok (.iinc 1 1, 3) := by decide +kernel
theorem dX6_record_37 : decode cX6_record 37 = .ok (.goto (-26), 3) := by decide +kernel
theorem dX6_record_40 : decode cX6_record 40 = .ok (.aload_n 0, 1) := by decide +kernel
theorem dX6_record_41 : decode cX6_record 41 = .ok (.dup, 1) := by decide +kernel
theorem dX6_record_42 : decode cX6_record 42 = .ok (.getfield 40, 3) := by decide +kernel
theorem dX6_record_45 : decode cX6_record 45 = .ok (.iconst 1, 1) := by decide +kernel
theorem dX6_record_46 : decode cX6_record 46 = .ok (.isub, 1) := by decide +kernel
theorem dX6_record_47 : decode cX6_record 47 = .ok (.putfield 40, 3) := by decide +kernel
theorem dX6_record_50 : decode cX6_record 50 = .ok (.iconst 0, 1) := by decide +kernel
theorem dX6_record_51 : decode cX6_record 51 = .ok (.istore_n 1, 1) := by decide +kernel
theorem dX6_record_52 : decode cX6_record 52 = .ok (.iload_n 1, 1) := by decide +kernel
theorem dX6_record_53 : decode cX6_record 53 = .ok (.sipush 345, 3) := by decide +kernel
theorem dX6_record_56 : decode cX6_record 56 = .ok (.if_icmp .ge 30, 3) := by decide +kernel
theorem dX6_record_59 : decode cX6_record 59 = .ok (.aload_n 0, 1) := by decide +kernel
theorem dX6_record_60 : decode cX6_record 60 = .ok (.getfield 13, 3) := by decide +kernel
theorem dX6_record_63 : decode cX6_record 63 = .ok (.aload_n 0, 1) := by decide +kernel
theorem dX6_record_64 : decode cX6_record 64 = .ok (.getfield 40, 3) := by decide +kernel
theorem dX6_record_67 : decode cX6_record 67 = .ok (.sipush 345, 3) := by decide +kernel
theorem dX6_record_70 : decode cX6_record 70 = .ok (.imul, 1) := by decide +kernel
theorem dX6_record_71 : decode cX6_record 71 = .ok (.iload_n 1, 1) := by decide +kernel
theorem dX6_record_72 : decode cX6_record 72 = .ok (.iadd, 1) := by decide +kernel
theorem dX6_record_73 : decode cX6_record 73 = .ok (.aload_n 0, 1) := by decide +kernel
theorem dX6_record_74 : decode cX6_record 74 = .ok (.getfield 7, 3) := by decide +kernel
theorem dX6_record_77 : decode cX6_record 77 = .ok (.iload_n 1, 1) := by decide +kernel
theorem dX6_record_78 : decode cX6_record 78 = .ok (.iaload, 1) := by decide +kernel
theorem dX6_record_79 : decode cX6_record 79 = .ok (.iastore, 1) := by decide +kernel
theorem dX6_record_80 : decode cX6_record 80 = .ok (.iinc 1 1, 3) := by decide +kernel
theorem dX6_record_83 : decode cX6_record 83 = .ok (.goto (-31), 3) := by decide +kernel
theorem dX6_record_86 : decode cX6_record 86 = .ok (.aload_n 0, 1) := by decide +kernel
theorem dX6_record_87 : decode cX6_record 87 = .ok (.dup, 1) := by decide +kernel
theorem dX6_record_88 : decode cX6_record 88 = .ok (.getfield 40, 3) := by decide +kernel
theorem dX6_record_91 : decode cX6_record 91 = .ok (.iconst 1, 1) := by decide +kernel
theorem dX6_record_92 : decode cX6_record 92 = .ok (.iadd, 1) := by decide +kernel
theorem dX6_record_93 : decode cX6_record 93 = .ok (.putfield 40, 3) := by decide +kernel
theorem dX6_record_96 : decode cX6_record 96 = .ok (.return_, 1) := by decide +kernel
theorem dX6_undo_0 : decode cX6_undo 0 = .ok (.aload_n 0, 1) := by decide +kernel
theorem dX6_undo_1 : decode cX6_undo 1 = .ok (.getfield 40, 3) := by decide +kernel
theorem dX6_undo_4 : decode cX6_undo 4 = .ok (.ifCond .ne 6, 3) := by decide +kernel
theorem dX6_undo_7 : decode cX6_undo 7 = .ok (.bipush (-5), 2) := by decide +kernel
theorem dX6_undo_9 : decode cX6_undo 9 = .ok (.ireturn, 1) := by decide +kernel
theorem dX6_undo_10 : decode cX6_undo 10 = .ok (.aload_n 0, 1) := by decide +kernel
theorem dX6_undo_11 : decode cX6_undo 11 = .ok (.dup, 1) := by decide +kernel
theorem dX6_undo_12 : decode cX6_undo 12 = .ok (.getfield 40, 3) := by decide +kernel
theorem dX6_undo_15 : decode cX6_undo 15 = .ok (.iconst 1, 1) := by decide +kernel
theorem dX6_undo_16 : decode cX6_undo 16 = .ok (.isub, 1) := by decide +kernel
theorem dX6_undo_17 : decode cX6_undo 17 = .ok (.putfield 40, 3) := by decide +kernel
theorem dX6_undo_20 : decode cX6_undo 20 = .ok (.iconst 0, 1) := by decide +kernel
theorem dX6_undo_21 : decode cX6_undo 21 = .ok (.istore_n 1, 1) := by decide +kernel
theorem dX6_undo_22 : decode cX6_undo 22 = .ok (.iload_n 1, 1) := by decide +kernel
theorem dX6_undo_23 : decode cX6_undo 23 = .ok (.sipush 345, 3) := by decide +kernel
theorem dX6_undo_26 : decode cX6_undo 26 = .ok (.if_icmp .ge 30, 3) := by decide +kernel
theorem dX6_undo_29 : decode cX6_undo 29 = .ok (.aload_n 0, 1) := by decide +kernel
theorem dX6_undo_30 : decode cX6_undo 30 = .ok (.getfield 7, 3) := by decide +kernel
theorem dX6_undo_33 : decode cX6_undo 33 = .ok (.iload_n 1, 1) := by decide +kernel
theorem dX6_undo_34 : decode cX6_undo 34 = .ok (.aload_n 0, 1) := by decide +kernel
theorem dX6_undo_35 : decode cX6_undo 35 = .ok (.getfield 13, 3) := by decide +kernel
theorem dX6_undo_38 : decode cX6_undo 38 = .ok (.aload_n 0, 1) := by decide +kernel
theorem dX6_undo_39 : decode cX6_undo 39 = .ok (.getfield 40, 3) := by decide +kernel
theorem dX6_undo_42 : decode cX6_undo 42 = .ok (.sipush 345, 3) := by decide +kernel
theorem dX6_undo_45 : decode cX6_undo 45 = .ok (.imul, 1) := by decide +kernel
theorem dX6_undo_46 : decode cX6_undo 46 = .ok (.iload_n 1, 1) := by decide +kernel
theorem dX6_undo_47 : decode cX6_undo 47 = .ok (.iadd, 1) := by decide +kernel
theorem dX6_undo_48 : decode cX6_undo 48 = .ok (.iaload, 1) := by decide +kernel
theorem dX6_undo_49 : decode cX6_undo 49 = .ok (.iastore, 1) := by decide +kernel
theorem dX6_undo_50 : decode cX6_undo 50 = .ok (.iinc 1 1, 3) := by decide +kernel
theorem dX6_undo_53 : decode cX6_undo 53 = .ok (.goto (-31), 3) := by decide +kernel
theorem dX6_undo_56 : decode cX6_undo 56 = .ok (.aload_n 0, 1) := by decide +kernel
theorem dX6_undo_57 : decode cX6_undo 57 = .ok (.getfield 40, 3) := by decide +kernel
theorem dX6_undo_60 : decode cX6_undo 60 = .ok (.ireturn, 1) := by decide +kernel
theorem dX6_save_0 : decode cX6_save 0 = .ok (.iload_n 1, 1) := by decide +kernel
theorem dX6_save_1 : decode cX6_save 1 = .ok (.iconst 0, 1) := by decide +kernel
theorem dX6_save_2 : decode cX6_save 2 = .ok (.iconst 1, 1) := by decide +kernel
theorem dX6_save_3 : decode cX6_save 3 = .ok (.invokestatic 36, 3) := by decide +kernel
theorem dX6_save_6 : decode cX6_save 6 = .ok (.ifCond .ne 6, 3) := by decide +kernel
theorem dX6_save_9 : decode cX6_save 9 = .ok (.bipush (-2), 2) := by decide +kernel
theorem dX6_save_11 : decode cX6_save 11 = .ok (.ireturn, 1) := by decide +kernel
theorem dX6_save_12 : decode cX6_save 12 = .ok (.aload_n 0, 1) := by decide +kernel
theorem dX6_save_13 : decode cX6_save 13 = .ok (.getfield 19, 3) := by decide +kernel
theorem dX6_save_16 : decode cX6_save 16 = .ok (.iload_n 1, 1) := by decide +kernel
theorem dX6_save_17 : decode cX6_save 17 = .ok (.iconst 1, 1) := by decide +kernel
theorem dX6_save_18 : decode cX6_save 18 = .ok (.bastore, 1) := by decide +kernel
theorem dX6_save_19 : decode cX6_save 19 = .ok (.iconst 0, 1) := by decide +kernel
theorem dX6_save_20 : decode cX6_save 20 = .ok (.istore_n 2, 1) := by decide +kernel
theorem dX6_save_21 : decode cX6_save 21 = .ok (.iload_n 2, 1) := by decide +kernel
theorem dX6_save_22 : decode cX6_save 22 = .ok (.sipush 345, 3) := by decide +kernel
theorem dX6_save_25 : decode cX6_save 25 = .ok (.if_icmp .ge 27, 3) := by decide +kernel
theorem dX6_save_28 : decode cX6_save 28 = .ok (.aload_n 0, 1) := by decide +kernel
theorem dX6_save_29 : decode cX6_save 29 = .ok (.getfield 16, 3) := by decide +kernel
theorem dX6_save_32 : decode cX6_save 32 = .ok (.iload_n 1, 1) := by decide +kernel
theorem dX6_save_33 : decode cX6_save 33 = .ok (.sipush 345, 3) := by decide +kernel
theorem dX6_save_36 : decode cX6_save 36 = .ok (.imul, 1) := by decide +kernel
theorem dX6_save_37 : decode cX6_save 37 = .ok (.iload_n 2, 1) := by decide +kernel
theorem dX6_save_38 : decode cX6_save 38 = .ok (.iadd, 1) := by decide +kernel
theorem dX6_save_39 : decode cX6_save 39 = .ok (.aload_n 0, 1) := by decide +kernel
theorem dX6_save_40 : decode cX6_save 40 = .ok (.getfield 7, 3) := by decide +kernel
theorem dX6_save_43 : decode cX6_save 43 = .ok (.iload_n 2, 1) := by decide +kernel
theorem dX6_save_44 : decode cX6_save 44 = .ok (.iaload, 1) := by decide +kernel
theorem dX6_save_45 : decode cX6_save 45 = .ok (.iastore, 1) := by decide +kernel
theorem dX6_save_46 : decode cX6_save 46 = .ok (.iinc 2 1, 3) := by decide +kernel
theorem dX6_save_49 : decode cX6_save 49 = .ok (.goto (-28), 3) := by decide +kernel
theorem dX6_save_52 : decode cX6_save 52 = .ok (.aload_n 0, 1) := by decide +kernel
theorem dX6_save_53 : decode cX6_save 53 = .ok (.getfield 7, 3) := by decide +kernel
theorem dX6_save_56 : decode cX6_save 56 = .ok (.iconst 4, 1) := by decide +kernel
theorem dX6_save_57 : decode cX6_save 57 = .ok (.iaload, 1) := by decide +kernel
theorem dX6_save_58 : decode cX6_save 58 = .ok (.ireturn, 1) := by decide +kernel
theorem dX6_restore_0 : decode cX6_restore 0 = .ok (.iload_n 1, 1) := by decide +kernel
theorem dX6_restore_1 : decode cX6_restore 1 = .ok (.iconst 0, 1) := by decide +kernel
theorem dX6_restore_2 : decode cX6_restore 2 = .ok (.iconst 1, 1) := by decide +kernel
theorem dX6_restore_3 : decode cX6_restore 3 = .ok (.invokestatic 36, 3) := by decide +kernel
theorem dX6_restore_6 : decode cX6_restore 6 = .ok (.ifCond .ne 6, 3) := by decide +kernel
theorem dX6_restore_9 : decode cX6_restore 9 = .ok (.bipush (-2), 2) := by decide +kernel
theorem dX6_restore_11 : decode cX6_restore 11 = .ok (.ireturn, 1) := by decide +kernel
theorem dX6_restore_12 : decode cX6_restore 12 = .ok (.aload_n 0, 1) := by decide +kernel
theorem dX6_restore_13 : decode cX6_restore 13 = .ok (.getfield 19, 3) := by decide +kernel
theorem dX6_restore_16 : decode cX6_restore 16 = .ok (.iload_n 1, 1) := by decide +kernel
theorem dX6_restore_17 : decode cX6_restore 17 = .ok (.baload, 1) := by decide +kernel
theorem dX6_restore_18 : decode cX6_restore 18 = .ok (.ifCond .ne 6, 3) := by decide +kernel
theorem dX6_restore_21 : decode cX6_restore 21 = .ok (.bipush (-5), 2) := by decide +kernel
theorem dX6_restore_23 : decode cX6_restore 23 = .ok (.ireturn, 1) := by decide +kernel
theorem dX6_restore_24 : decode cX6_restore 24 = .ok (.aload_n 0, 1) := by decide +kernel
theorem dX6_restore_25 : decode cX6_restore 25 = .ok (.invokevirtual 44, 3) := by decide +kernel
theorem dX6_restore_28 : decode cX6_restore 28 = .ok (.iconst 0, 1) := by decide +kernel
theorem dX6_restore_29 : decode cX6_restore 29 = .ok (.istore_n 2, 1) := by decide +kernel
theorem dX6_restore_30 : decode cX6_restore 30 = .ok (.iload_n 2, 1) := by decide +kernel
theorem dX6_restore_31 : decode cX6_restore 31 = .ok (.sipush 345, 3) := by decide +kernel
theorem dX6_restore_34 : decode cX6_restore 34 = .ok (.if_icmp .ge 27, 3) := by decide +kernel
theorem dX6_restore_37 : decode cX6_restore 37 = .ok (.aload_n 0, 1) := by decide +kernel
theorem dX6_restore_38 : decode cX6_restore 38 = .ok (.getfield 7, 3) := by decide +kernel
theorem dX6_restore_41 : decode cX6_restore 41 = .ok (.iload_n 2, 1) := by decide +kernel
theorem dX6_restore_42 : decode cX6_restore 42 = .ok (.aload_n 0, 1) := by decide +kernel
theorem dX6_restore_43 : decode cX6_restore 43 = .ok (.getfield 16, 3) := by decide +kernel
theorem dX6_restore_46 : decode cX6_restore 46 = .ok (.iload_n 1, 1) := by decide +kernel
theorem dX6_restore_47 : decode cX6_restore 47 = .ok (.sipush 345, 3) := by decide +kernel
theorem dX6_restore_50 : decode cX6_restore 50 = .ok (.imul, 1) := by decide +kernel
theorem dX6_restore_51 : decode cX6_restore 51 = .ok (.iload_n 2, 1) := by decide +kernel
theorem dX6_restore_52 : decode cX6_restore 52 = .ok (.iadd, 1) := by decide +kernel
theorem dX6_restore_53 : decode cX6_restore 53 = .ok (.iaload, 1) := by decide +kernel
theorem dX6_restore_54 : decode cX6_restore 54 = .ok (.iastore, 1) := by decide +kernel
theorem dX6_restore_55 : decode cX6_restore 55 = .ok (.iinc 2 1, 3) := by decide +kernel
theorem dX6_restore_58 : decode cX6_restore 58 = .ok (.goto (-28), 3) := by decide +kernel
theorem dX6_restore_61 : decode cX6_restore 61 = .ok (.aload_n 0, 1) := by decide +kernel
theorem dX6_restore_62 : decode cX6_restore 62 = .ok (.getfield 7, 3) := by decide +kernel
theorem dX6_restore_65 : decode cX6_restore 65 = .ok (.iconst 4, 1) := by decide +kernel
theorem dX6_restore_66 : decode cX6_restore 66 = .ok (.iaload, 1) := by decide +kernel
theorem dX6_restore_67 : decode cX6_restore 67 = .ok (.ireturn, 1) := by decide +kernel
theorem dX6_putAside_0 : decode cX6_putAside 0 = .ok (.iconst 0, 1) := by decide +kernel
theorem dX6_putAside_1 : decode cX6_putAside 1 = .ok (.istore_n 1, 1) := by decide +kernel
theorem dX6_putAside_2 : decode cX6_putAside 2 = .ok (.iload_n 1, 1) := by decide +kernel
theorem dX6_putAside_3 : decode cX6_putAside 3 = .ok (.sipush 345, 3) := by decide +kernel
theorem dX6_putAside_6 : decode cX6_putAside 6 = .ok (.if_icmp .ge 21, 3) := by decide +kernel
theorem dX6_putAside_9 : decode cX6_putAside 9 = .ok (.aload_n 0, 1) := by decide +kernel
theorem dX6_putAside_10 : decode cX6_putAside 10 = .ok (.getfield 23, 3) := by decide +kernel
theorem dX6_putAside_13 : decode cX6_putAside 13 = .ok (.iload_n 1, 1) := by decide +kernel
theorem dX6_putAside_14 : decode cX6_putAside 14 = .ok (.aload_n 0, 1) := by decide +kernel
theorem dX6_putAside_15 : decode cX6_putAside 15 = .ok (.getfield 7, 3) := by decide +kernel
theorem dX6_putAside_18 : decode cX6_putAside 18 = .ok (.iload_n 1, 1) := by decide +kernel
theorem dX6_putAside_19 : decode cX6_putAside 19 = .ok (.iaload, 1) := by decide +kernel
theorem dX6_putAside_20 : decode cX6_putAside 20 = .ok (.iastore, 1) := by decide +kernel
theorem dX6_putAside_21 : decode cX6_putAside 21 = .ok (.iinc 1 1, 3) := by decide +kernel
theorem dX6_putAside_24 : decode cX6_putAside 24 = .ok (.goto (-22), 3) := by decide +kernel
theorem dX6_putAside_27 : decode cX6_putAside 27 = .ok (.return_, 1) := by decide +kernel
theorem dX6_bringBack_0 : decode cX6_bringBack 0 = .ok (.iconst 0, 1) := by decide +kernel
theorem dX6_bringBack_1 : decode cX6_bringBack 1 = .ok (.istore_n 1, 1) := by decide +kernel
theorem dX6_bringBack_2 : decode cX6_bringBack 2 = .ok (.iload_n 1, 1) := by decide +kernel
theorem dX6_bringBack_3 : decode cX6_bringBack 3 = .ok (.sipush 345, 3) := by decide +kernel
theorem dX6_bringBack_6 : decode cX6_bringBack 6 = .ok (.if_icmp .ge 21, 3) := by decide +kernel
theorem dX6_bringBack_9 : decode cX6_bringBack 9 = .ok (.aload_n 0, 1) := by decide +kernel
theorem dX6_bringBack_10 : decode cX6_bringBack 10 = .ok (.getfield 7, 3) := by decide +kernel
theorem dX6_bringBack_13 : decode cX6_bringBack 13 = .ok (.iload_n 1, 1) := by decide +kernel
theorem dX6_bringBack_14 : decode cX6_bringBack 14 = .ok (.aload_n 0, 1) := by decide +kernel
theorem dX6_bringBack_15 : decode cX6_bringBack 15 = .ok (.getfield 23, 3) := by decide +kernel
theorem dX6_bringBack_18 : decode cX6_bringBack 18 = .ok (.iload_n 1, 1) := by decide +kernel
theorem dX6_bringBack_19 : decode cX6_bringBack 19 = .ok (.iaload, 1) := by decide +kernel
theorem dX6_bringBack_20 : decode cX6_bringBack 20 = .ok (.iastore, 1) := by decide +kernel
theorem dX6_bringBack_21 : decode cX6_bringBack 21 = .ok (.iinc 1 1, 3) := by decide +kernel
theorem dX6_bringBack_24 : decode cX6_bringBack 24 = .ok (.goto (-22), 3) := by decide +kernel
theorem dX6_bringBack_27 : decode cX6_bringBack 27 = .ok (.return_, 1) := by decide +kernel
theorem dX6_leastOf_0 : decode cX6_leastOf 0 = .ok (.iload_n 0, 1) := by decide +kernel
theorem dX6_leastOf_1 : decode cX6_leastOf 1 = .ok (.iconst 1, 1) := by decide +kernel
theorem dX6_leastOf_2 : decode cX6_leastOf 2 = .ok (.if_icmp .eq 8, 3) := by decide +kernel
theorem dX6_leastOf_5 : decode cX6_leastOf 5 = .ok (.iload_n 0, 1) := by decide +kernel
theorem dX6_leastOf_6 : decode cX6_leastOf 6 = .ok (.iconst 2, 1) := by decide +kernel
theorem dX6_leastOf_7 : decode cX6_leastOf 7 = .ok (.if_icmp .ne 7, 3) := by decide +kernel
theorem dX6_leastOf_10 : decode cX6_leastOf 10 = .ok (.iconst 1, 1) := by decide +kernel
theorem dX6_leastOf_11 : decode cX6_leastOf 11 = .ok (.goto 4, 3) := by decide +kernel
theorem dX6_leastOf_14 : decode cX6_leastOf 14 = .ok (.iconst 0, 1) := by decide +kernel
theorem dX6_leastOf_15 : decode cX6_leastOf 15 = .ok (.ireturn, 1) := by decide +kernel
theorem dX6_mostOf_0 : decode cX6_mostOf 0 = .ok (.iload_n 0, 1) := by decide +kernel
theorem dX6_mostOf_1 : decode cX6_mostOf 1 = .ok (.iconst 1, 1) := by decide +kernel
theorem dX6_mostOf_2 : decode cX6_mostOf 2 = .ok (.if_icmp .eq 8, 3) := by decide +kernel
theorem dX6_mostOf_5 : decode cX6_mostOf 5 = .ok (.iload_n 0, 1) := by decide +kernel
theorem dX6_mostOf_6 : decode cX6_mostOf 6 = .ok (.iconst 2, 1) := by decide +kernel
theorem dX6_mostOf_7 : decode cX6_mostOf 7 = .ok (.if_icmp .ne 8, 3) := by decide +kernel
theorem dX6_mostOf_10 : decode cX6_mostOf 10 = .ok (.bipush 8, 2) := by decide +kernel
theorem dX6_mostOf_12 : decode cX6_mostOf 12 = .ok (.goto 6, 3) := by decide +kernel
theorem dX6_mostOf_15 : decode cX6_mostOf 15 = .ok (.sipush 500, 3) := by decide +kernel
theorem dX6_mostOf_18 : decode cX6_mostOf 18 = .ok (.ireturn, 1) := by decide +kernel
theorem dX6_set_0 : decode cX6_set 0 = .ok (.iload_n 1, 1) := by decide +kernel
theorem dX6_set_1 : decode cX6_set 1 = .ok (.iconst 0, 1) := by decide +kernel
theorem dX6_set_2 : decode cX6_set 2 = .ok (.iconst 3, 1) := by decide +kernel
theorem dX6_set_3 : decode cX6_set 3 = .ok (.invokestatic 36, 3) := by decide +kernel
theorem dX6_set_6 : decode cX6_set 6 = .ok (.ifCond .eq 18, 3) := by decide +kernel
theorem dX6_set_9 : decode cX6_set 9 = .ok (.iload_n 2, 1) := by decide +kernel
theorem dX6_set_10 : decode cX6_set 10 = .ok (.iload_n 1, 1) := by decide +kernel
theorem dX6_set_11 : decode cX6_set 11 = .ok (.invokestatic 47, 3) := by decide +kernel
theorem dX6_set_14 : decode cX6_set 14 = .ok (.iload_n 1, 1) := by decide +kernel
theorem dX6_set_15 : decode cX6_set 15 = .ok (.invokestatic 51, 3) := by decide +kernel
theorem dX6_set_18 : decode cX6_set 18 = .ok (.invokestatic 36, 3) := by decide +kernel
theorem dX6_set_21 : decode cX6_set 21 = .ok (.ifCond .ne 6, 3) := by decide +kernel
theorem dX6_set_24 : decode cX6_set 24 = .ok (.bipush (-2), 2) := by decide +kernel
theorem dX6_set_26 : decode cX6_set 26 = .ok (.ireturn, 1) := by decide +kernel
theorem dX6_set_27 : decode cX6_set 27 = .ok (.aload_n 0, 1) := by decide +kernel
theorem dX6_set_28 : decode cX6_set 28 = .ok (.invokevirtual 44, 3) := by decide +kernel
theorem dX6_set_31 : decode cX6_set 31 = .ok (.aload_n 0, 1) := by decide +kernel
theorem dX6_set_32 : decode cX6_set 32 = .ok (.getfield 7, 3) := by decide +kernel
theorem dX6_set_35 : decode cX6_set 35 = .ok (.iload_n 1, 1) := by decide +kernel
theorem dX6_set_36 : decode cX6_set 36 = .ok (.iaload, 1) := by decide +kernel
theorem dX6_set_37 : decode cX6_set 37 = .ok (.istore_n 3, 1) := by decide +kernel
theorem dX6_set_38 : decode cX6_set 38 = .ok (.aload_n 0, 1) := by decide +kernel
theorem dX6_set_39 : decode cX6_set 39 = .ok (.getfield 7, 3) := by decide +kernel
theorem dX6_set_42 : decode cX6_set 42 = .ok (.iload_n 1, 1) := by decide +kernel
theorem dX6_set_43 : decode cX6_set 43 = .ok (.iload_n 2, 1) := by decide +kernel
theorem dX6_set_44 : decode cX6_set 44 = .ok (.iastore, 1) := by decide +kernel
theorem dX6_set_45 : decode cX6_set 45 = .ok (.iload_n 3, 1) := by decide +kernel
theorem dX6_set_46 : decode cX6_set 46 = .ok (.ireturn, 1) := by decide +kernel
theorem dX6_dipperIn_0 : decode cX6_dipperIn 0 = .ok (.bipush (-6), 2) := by decide +kernel
theorem dX6_dipperIn_2 : decode cX6_dipperIn 2 = .ok (.istore_n 2, 1) := by decide +kernel
theorem dX6_dipperIn_3 : decode cX6_dipperIn 3 = .ok (.iconst 0, 1) := by decide +kernel
theorem dX6_dipperIn_4 : decode cX6_dipperIn 4 = .ok (.istore_n 3, 1) := by decide +kernel
theorem dX6_dipperIn_5 : decode cX6_dipperIn 5 = .ok (.iload_n 3, 1) := by decide +kernel
theorem dX6_dipperIn_6 : decode cX6_dipperIn 6 = .ok (.aload_n 0, 1) := by decide +kernel
theorem dX6_dipperIn_7 : decode cX6_dipperIn 7 = .ok (.getfield 7, 3) := by decide +kernel
theorem dX6_dipperIn_10 : decode cX6_dipperIn 10 = .ok (.sipush 245, 3) := by decide +kernel
theorem dX6_dipperIn_13 : decode cX6_dipperIn 13 = .ok (.iaload, 1) := by decide +kernel
theorem dX6_dipperIn_14 : decode cX6_dipperIn 14 = .ok (.if_icmp .ge 25, 3) := by decide +kernel
theorem dX6_dipperIn_17 : decode cX6_dipperIn 17 = .ok (.aload_n 0, 1) := by decide +kernel
theorem dX6_dipperIn_18 : decode cX6_dipperIn 18 = .ok (.iload_n 3, 1) := by decide +kernel
theorem dX6_dipperIn_19 : decode cX6_dipperIn 19 = .ok (.iconst 0, 1) := by decide +kernel
theorem dX6_dipperIn_20 : decode cX6_dipperIn 20 = .ok (.invokevirtual 54, 3) := by decide +kernel
theorem dX6_dipperIn_23 : decode cX6_dipperIn 23 = .ok (.iload_n 1, 1) := by decide +kernel
theorem dX6_dipperIn_24 : decode cX6_dipperIn 24 = .ok (.if_icmp .ne 7, 3) := by decide +kernel
theorem dX6_dipperIn_27 : decode cX6_dipperIn 27 = .ok (.iload_n 3, 1) := by decide +kernel
theorem dX6_dipperIn_28 : decode cX6_dipperIn 28 = .ok (.goto 4, 3) := by decide +kernel
theorem dX6_dipperIn_31 : decode cX6_dipperIn 31 = .ok (.iload_n 2, 1) := by decide +kernel
theorem dX6_dipperIn_32 : decode cX6_dipperIn 32 = .ok (.istore_n 2, 1) := by decide +kernel
theorem dX6_dipperIn_33 : decode cX6_dipperIn 33 = .ok (.iinc 3 1, 3) := by decide +kernel
theorem dX6_dipperIn_36 : decode cX6_dipperIn 36 = .ok (.goto (-31), 3) := by decide +kernel
theorem dX6_dipperIn_39 : decode cX6_dipperIn 39 = .ok (.iload_n 2, 1) := by decide +kernel
theorem dX6_dipperIn_40 : decode cX6_dipperIn 40 = .ok (.ireturn, 1) := by decide +kernel
theorem dX6_floor_0 : decode cX6_floor 0 = .ok (.iload_n 1, 1) := by decide +kernel
theorem dX6_floor_1 : decode cX6_floor 1 = .ok (.iload_n 2, 1) := by decide +kernel
theorem dX6_floor_2 : decode cX6_floor 2 = .ok (.invokestatic 58, 3) := by decide +kernel
theorem dX6_floor_5 : decode cX6_floor 5 = .ok (.ifCond .ne 5, 3) := by decide +kernel
theorem dX6_floor_8 : decode cX6_floor 8 = .ok (.iconst (-1), 1) := by decide +kernel
theorem dX6_floor_9 : decode cX6_floor 9 = .ok (.ireturn, 1) := by decide +kernel
theorem dX6_floor_10 : decode cX6_floor 10 = .ok (.iload_n 3, 1) := by decide +kernel
theorem dX6_floor_11 : decode cX6_floor 11 = .ok (.iconst 0, 1) := by decide +kernel
theorem dX6_floor_12 : decode cX6_floor 12 = .ok (.iconst 3, 1) := by decide +kernel
theorem dX6_floor_13 : decode cX6_floor 13 = .ok (.invokestatic 36, 3) := by decide +kernel
theorem dX6_floor_16 : decode cX6_floor 16 = .ok (.ifCond .ne 6, 3) := by decide +kernel
theorem dX6_floor_19 : decode cX6_floor 19 = .ok (.bipush (-2), 2) := by decide +kernel
theorem dX6_floor_21 : decode cX6_floor 21 = .ok (.ireturn, 1) := by decide +kernel
theorem dX6_floor_22 : decode cX6_floor 22 = .ok (.bipush 10, 2) := by decide +kernel
theorem dX6_floor_24 : decode cX6_floor 24 = .ok (.iload_n 2, 1) := by decide +kernel
theorem dX6_floor_25 : decode cX6_floor 25 = .ok (.imul, 1) := by decide +kernel
theorem dX6_floor_26 : decode cX6_floor 26 = .ok (.iload_n 1, 1) := by decide +kernel
theorem dX6_floor_27 : decode cX6_floor 27 = .ok (.iadd, 1) := by decide +kernel
theorem dX6_floor_28 : decode cX6_floor 28 = .ok (.istore 4, 2) := by decide +kernel
theorem dX6_floor_30 : decode cX6_floor 30 = .ok (.iload_n 3, 1) := by decide +kernel
theorem dX6_floor_31 : decode cX6_floor 31 = .ok (.iconst 2, 1) := by decide +kernel
theorem dX6_floor_32 : decode cX6_floor 32 = .ok (.if_icmp .ne 17, 3) := by decide +kernel
theorem dX6_floor_35 : decode cX6_floor 35 = .ok (.aload_n 0, 1) := by decide +kernel
theorem dX6_floor_36 : decode cX6_floor 36 = .ok (.iload 4, 2) := by decide +kernel
theorem dX6_floor_38 : decode cX6_floor 38 = .ok (.invokevirtual 62, 3) := by decide +kernel
theorem dX6_floor_41 : decode cX6_floor 41 = .ok (.bipush (-6), 2) := by decide +kernel
theorem dX6_floor_43 : decode cX6_floor 43 = .ok (.if_icmp .eq 6, 3) := by decide +kernel
theorem dX6_floor_46 : decode cX6_floor 46 = .ok (.bipush (-5), 2) := by decide +kernel
theorem dX6_floor_48 : decode cX6_floor 48 = .ok (.ireturn, 1) := by decide +kernel
theorem dX6_floor_49 : decode cX6_floor 49 = .ok (.aload_n 0, 1) := by decide +kernel
theorem dX6_floor_50 : decode cX6_floor 50 = .ok (.invokevirtual 44, 3) := by decide +kernel
theorem dX6_floor_53 : decode cX6_floor 53 = .ok (.aload_n 0, 1) := by decide +kernel
theorem dX6_floor_54 : decode cX6_floor 54 = .ok (.getfield 7, 3) := by decide +kernel
theorem dX6_floor_57 : decode cX6_floor 57 = .ok (.iconst 5, 1) := by decide +kernel
theorem dX6_floor_58 : decode cX6_floor 58 = .ok (.iload 4, 2) := by decide +kernel
theorem dX6_floor_60 : decode cX6_floor 60 = .ok (.iadd, 1) := by decide +kernel
theorem dX6_floor_61 : decode cX6_floor 61 = .ok (.iaload, 1) := by decide +kernel
theorem dX6_floor_62 : decode cX6_floor 62 = .ok (.istore 5, 2) := by decide +kernel
theorem dX6_floor_64 : decode cX6_floor 64 = .ok (.aload_n 0, 1) := by decide +kernel
theorem dX6_floor_65 : decode cX6_floor 65 = .ok (.getfield 7, 3) := by decide +kernel
theorem dX6_floor_68 : decode cX6_floor 68 = .ok (.iconst 5, 1) := by decide +kernel
theorem dX6_floor_69 : decode cX6_floor 69 = .ok (.iload 4, 2) := by decide +kernel
theorem dX6_floor_71 : decode cX6_floor 71 = .ok (.iadd, 1) := by decide +kernel
theorem dX6_floor_72 : decode cX6_floor 72 = .ok (.iload_n 3, 1) := by decide +kernel
theorem dX6_floor_73 : decode cX6_floor 73 = .ok (.iastore, 1) := by decide +kernel
theorem dX6_floor_74 : decode cX6_floor 74 = .ok (.iload_n 3, 1) := by decide +kernel
theorem dX6_floor_75 : decode cX6_floor 75 = .ok (.iconst 2, 1) := by decide +kernel
theorem dX6_floor_76 : decode cX6_floor 76 = .ok (.if_icmp .ne 25, 3) := by decide +kernel
theorem dX6_floor_79 : decode cX6_floor 79 = .ok (.aload_n 0, 1) := by decide +kernel
theorem dX6_floor_80 : decode cX6_floor 80 = .ok (.getfield 7, 3) := by decide +kernel
theorem dX6_floor_83 : decode cX6_floor 83 = .ok (.bipush 65, 2) := by decide +kernel
theorem dX6_floor_85 : decode cX6_floor 85 = .ok (.iload 4, 2) := by decide +kernel
theorem dX6_floor_87 : decode cX6_floor 87 = .ok (.iadd, 1) := by decide +kernel
theorem dX6_floor_88 : decode cX6_floor 88 = .ok (.iconst 0, 1) := by decide +kernel
theorem dX6_floor_89 : decode cX6_floor 89 = .ok (.iastore, 1) := by decide +kernel
theorem dX6_floor_90 : decode cX6_floor 90 = .ok (.aload_n 0, 1) := by decide +kernel
theorem dX6_floor_91 : decode cX6_floor 91 = .ok (.getfield 7, 3) := by decide +kernel
theorem dX6_floor_94 : decode cX6_floor 94 = .ok (.bipush 125, 2) := by decide +kernel
theorem dX6_floor_96 : decode cX6_floor 96 = .ok (.iload 4, 2) := by decide +kernel
theorem dX6_floor_98 : decode cX6_floor 98 = .ok (.iadd, 1) := by decide +kernel
theorem dX6_floor_99 : decode cX6_floor 99 = .ok (.iconst 0, 1) := by decide +kernel
theorem dX6_floor_100 : decode cX6_floor 100 = .ok (.iastore, 1) := by decide +kernel
theorem dX6_floor_101 : decode cX6_floor 101 = .ok (.iload 5, 2) := by decide +kernel
theorem dX6_floor_103 : decode cX6_floor 103 = .ok (.ireturn, 1) := by decide +kernel
theorem dX6_water_0 : decode cX6_water 0 = .ok (.iconst 0, 1) := by decide +kernel
theorem dX6_water_1 : decode cX6_water 1 = .ok (.istore_n 1, 1) := by decide +kernel
theorem dX6_water_2 : decode cX6_water 2 = .ok (.iconst 0, 1) := by decide +kernel
theorem dX6_water_3 : decode cX6_water 3 = .ok (.istore_n 2, 1) := by decide +kernel
theorem dX6_water_4 : decode cX6_water 4 = .ok (.iload_n 2, 1) := by decide +kernel
theorem dX6_water_5 : decode cX6_water 5 = .ok (.bipush 60, 2) := by decide +kernel
theorem dX6_water_7 : decode cX6_water 7 = .ok (.if_icmp .ge 25, 3) := by decide +kernel
theorem dX6_water_10 : decode cX6_water 10 = .ok (.iload_n 1, 1) := by decide +kernel
theorem dX6_water_11 : decode cX6_water 11 = .ok (.aload_n 0, 1) := by decide +kernel
theorem dX6_water_12 : decode cX6_water 12 = .ok (.iload_n 2, 1) := by decide +kernel
theorem dX6_water_13 : decode cX6_water 13 = .ok (.invokevirtual 65, 3) := by decide +kernel
theorem dX6_water_16 : decode cX6_water 16 = .ok (.ifCond .eq 7, 3) := by decide +kernel
theorem dX6_water_19 : decode cX6_water 19 = .ok (.iconst 0, 1) := by decide +kernel
theorem dX6_water_20 : decode cX6_water 20 = .ok (.goto 4, 3) := by decide +kernel
theorem dX6_water_23 : decode cX6_water 23 = .ok (.iconst 1, 1) := by decide +kernel
theorem dX6_water_24 : decode cX6_water 24 = .ok (.iadd, 1) := by decide +kernel
theorem dX6_water_25 : decode cX6_water 25 = .ok (.istore_n 1, 1) := by decide +kernel
theorem dX6_water_26 : decode cX6_water 26 = .ok (.iinc 2 1, 3) := by decide +kernel
theorem dX6_water_29 : decode cX6_water 29 = .ok (.goto (-25), 3) := by decide +kernel
theorem dX6_water_32 : decode cX6_water 32 = .ok (.iload_n 1, 1) := by decide +kernel
theorem dX6_water_33 : decode cX6_water 33 = .ok (.ireturn, 1) := by decide +kernel
theorem dX6_calm_0 : decode cX6_calm 0 = .ok (.iconst 0, 1) := by decide +kernel
theorem dX6_calm_1 : decode cX6_calm 1 = .ok (.istore_n 1, 1) := by decide +kernel
theorem dX6_calm_2 : decode cX6_calm 2 = .ok (.iload_n 1, 1) := by decide +kernel
theorem dX6_calm_3 : decode cX6_calm 3 = .ok (.bipush 60, 2) := by decide +kernel
theorem dX6_calm_5 : decode cX6_calm 5 = .ok (.if_icmp .ge 29, 3) := by decide +kernel
theorem dX6_calm_8 : decode cX6_calm 8 = .ok (.aload_n 0, 1) := by decide +kernel
theorem dX6_calm_9 : decode cX6_calm 9 = .ok (.getfield 7, 3) := by decide +kernel
theorem dX6_calm_12 : decode cX6_calm 12 = .ok (.bipush 65, 2) := by decide +kernel
theorem dX6_calm_14 : decode cX6_calm 14 = .ok (.iload_n 1, 1) := by decide +kernel
theorem dX6_calm_15 : decode cX6_calm 15 = .ok (.iadd, 1) := by decide +kernel
theorem dX6_calm_16 : decode cX6_calm 16 = .ok (.iconst 0, 1) := by decide +kernel
theorem dX6_calm_17 : decode cX6_calm 17 = .ok (.iastore, 1) := by decide +kernel
theorem dX6_calm_18 : decode cX6_calm 18 = .ok (.aload_n 0, 1) := by decide +kernel
theorem dX6_calm_19 : decode cX6_calm 19 = .ok (.getfield 7, 3) := by decide +kernel
theorem dX6_calm_22 : decode cX6_calm 22 = .ok (.bipush 125, 2) := by decide +kernel
theorem dX6_calm_24 : decode cX6_calm 24 = .ok (.iload_n 1, 1) := by decide +kernel
theorem dX6_calm_25 : decode cX6_calm 25 = .ok (.iadd, 1) := by decide +kernel
theorem dX6_calm_26 : decode cX6_calm 26 = .ok (.iconst 0, 1) := by decide +kernel
theorem dX6_calm_27 : decode cX6_calm 27 = .ok (.iastore, 1) := by decide +kernel
theorem dX6_calm_28 : decode cX6_calm 28 = .ok (.iinc 1 1, 3) := by decide +kernel
theorem dX6_calm_31 : decode cX6_calm 31 = .ok (.goto (-29), 3) := by decide +kernel
theorem dX6_calm_34 : decode cX6_calm 34 = .ok (.aload_n 0, 1) := by decide +kernel
theorem dX6_calm_35 : decode cX6_calm 35 = .ok (.getfield 7, 3) := by decide +kernel
