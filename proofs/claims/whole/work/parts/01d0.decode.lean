theorem dX0_init_0 : decode cX0_init 0 = .ok (.aload_n 0, 1) := by decide +kernel
theorem dX0_init_1 : decode cX0_init 1 = .ok (.invokespecial 3, 3) := by decide +kernel
theorem dX0_init_4 : decode cX0_init 4 = .ok (.aload_n 0, 1) := by decide +kernel
theorem dX0_init_5 : decode cX0_init 5 = .ok (.iconst 5, 1) := by decide +kernel
theorem dX0_init_6 : decode cX0_init 6 = .ok (.newarray .int, 2) := by decide +kernel
theorem dX0_init_8 : decode cX0_init 8 = .ok (.putfield 9, 3) := by decide +kernel
theorem dX0_init_11 : decode cX0_init 11 = .ok (.aload_n 0, 1) := by decide +kernel
theorem dX0_init_12 : decode cX0_init 12 = .ok (.iconst 5, 1) := by decide +kernel
theorem dX0_init_13 : decode cX0_init 13 = .ok (.newarray .int, 2) := by decide +kernel
theorem dX0_init_15 : decode cX0_init 15 = .ok (.putfield 15, 3) := by decide +kernel
theorem dX0_init_18 : decode cX0_init 18 = .ok (.aload_n 0, 1) := by decide +kernel
theorem dX0_init_19 : decode cX0_init 19 = .ok (.iconst 5, 1) := by decide +kernel
theorem dX0_init_20 : decode cX0_init 20 = .ok (.newarray .int, 2) := by decide +kernel
theorem dX0_init_22 : decode cX0_init 22 = .ok (.putfield 18, 3) := by decide +kernel
theorem dX0_init_25 : decode cX0_init 25 = .ok (.aload_n 0, 1) := by decide +kernel
theorem dX0_init_26 : decode cX0_init 26 = .ok (.iconst 5, 1) := by decide +kernel
theorem dX0_init_27 : decode cX0_init 27 = .ok (.newarray .int, 2) := by decide +kernel
theorem dX0_init_29 : decode cX0_init 29 = .ok (.putfield 21, 3) := by decide +kernel
theorem dX0_init_32 : decode cX0_init 32 = .ok (.aload_n 0, 1) := by decide +kernel
theorem dX0_init_33 : decode cX0_init 33 = .ok (.iconst 0, 1) := by decide +kernel
theorem dX0_init_34 : decode cX0_init 34 = .ok (.putfield 24, 3) := by decide +kernel
theorem dX0_init_37 : decode cX0_init 37 = .ok (.return_, 1) := by decide +kernel
theorem dX0_become_0 : decode cX0_become 0 = .ok (.aload_n 1, 1) := by decide +kernel
theorem dX0_become_1 : decode cX0_become 1 = .ok (.getfield 9, 3) := by decide +kernel
theorem dX0_become_4 : decode cX0_become 4 = .ok (.iconst 0, 1) := by decide +kernel
theorem dX0_become_5 : decode cX0_become 5 = .ok (.aload_n 0, 1) := by decide +kernel
theorem dX0_become_6 : decode cX0_become 6 = .ok (.getfield 9, 3) := by decide +kernel
theorem dX0_become_9 : decode cX0_become 9 = .ok (.iconst 0, 1) := by decide +kernel
theorem dX0_become_10 : decode cX0_become 10 = .ok (.iconst 5, 1) := by decide +kernel
theorem dX0_become_11 : decode cX0_become 11 = .ok (.invokestatic 28, 3) := by decide +kernel
theorem dX0_become_14 : decode cX0_become 14 = .ok (.aload_n 1, 1) := by decide +kernel
theorem dX0_become_15 : decode cX0_become 15 = .ok (.getfield 15, 3) := by decide +kernel
theorem dX0_become_18 : decode cX0_become 18 = .ok (.iconst 0, 1) := by decide +kernel
theorem dX0_become_19 : decode cX0_become 19 = .ok (.aload_n 0, 1) := by decide +kernel
theorem dX0_become_20 : decode cX0_become 20 = .ok (.getfield 15, 3) := by decide +kernel
theorem dX0_become_23 : decode cX0_become 23 = .ok (.iconst 0, 1) := by decide +kernel
theorem dX0_become_24 : decode cX0_become 24 = .ok (.iconst 5, 1) := by decide +kernel
theorem dX0_become_25 : decode cX0_become 25 = .ok (.invokestatic 28, 3) := by decide +kernel
theorem dX0_become_28 : decode cX0_become 28 = .ok (.aload_n 1, 1) := by decide +kernel
theorem dX0_become_29 : decode cX0_become 29 = .ok (.getfield 18, 3) := by decide +kernel
theorem dX0_become_32 : decode cX0_become 32 = .ok (.iconst 0, 1) := by decide +kernel
theorem dX0_become_33 : decode cX0_become 33 = .ok (.aload_n 0, 1) := by decide +kernel
theorem dX0_become_34 : decode cX0_become 34 = .ok (.getfield 18, 3) := by decide +kernel
theorem dX0_become_37 : decode cX0_become 37 = .ok (.iconst 0, 1) := by decide +kernel
theorem dX0_become_38 : decode cX0_become 38 = .ok (.iconst 5, 1) := by decide +kernel
theorem dX0_become_39 : decode cX0_become 39 = .ok (.invokestatic 28, 3) := by decide +kernel
theorem dX0_become_42 : decode cX0_become 42 = .ok (.aload_n 1, 1) := by decide +kernel
theorem dX0_become_43 : decode cX0_become 43 = .ok (.getfield 21, 3) := by decide +kernel
theorem dX0_become_46 : decode cX0_become 46 = .ok (.iconst 0, 1) := by decide +kernel
theorem dX0_become_47 : decode cX0_become 47 = .ok (.aload_n 0, 1) := by decide +kernel
theorem dX0_become_48 : decode cX0_become 48 = .ok (.getfield 21, 3) := by decide +kernel
theorem dX0_become_51 : decode cX0_become 51 = .ok (.iconst 0, 1) := by decide +kernel
theorem dX0_become_52 : decode cX0_become 52 = .ok (.iconst 5, 1) := by decide +kernel
theorem dX0_become_53 : decode cX0_become 53 = .ok (.invokestatic 28, 3) := by decide +kernel
theorem dX0_become_56 : decode cX0_become 56 = .ok (.aload_n 0, 1) := by decide +kernel
theorem dX0_become_57 : decode cX0_become 57 = .ok (.aload_n 1, 1) := by decide +kernel
theorem dX0_become_58 : decode cX0_become 58 = .ok (.getfield 24, 3) := by decide +kernel
theorem dX0_become_61 : decode cX0_become 61 = .ok (.putfield 24, 3) := by decide +kernel
theorem dX0_become_64 : decode cX0_become 64 = .ok (.return_, 1) := by decide +kernel
theorem dX0_append_0 : decode cX0_append 0 = .ok (.aload_n 0, 1) := by decide +kernel
theorem dX0_append_1 : decode cX0_append 1 = .ok (.getfield 9, 3) := by decide +kernel
theorem dX0_append_4 : decode cX0_append 4 = .ok (.aload_n 0, 1) := by decide +kernel
theorem dX0_append_5 : decode cX0_append 5 = .ok (.getfield 24, 3) := by decide +kernel
theorem dX0_append_8 : decode cX0_append 8 = .ok (.iload_n 1, 1) := by decide +kernel
theorem dX0_append_9 : decode cX0_append 9 = .ok (.iastore, 1) := by decide +kernel
theorem dX0_append_10 : decode cX0_append 10 = .ok (.aload_n 0, 1) := by decide +kernel
theorem dX0_append_11 : decode cX0_append 11 = .ok (.getfield 15, 3) := by decide +kernel
theorem dX0_append_14 : decode cX0_append 14 = .ok (.aload_n 0, 1) := by decide +kernel
theorem dX0_append_15 : decode cX0_append 15 = .ok (.getfield 24, 3) := by decide +kernel
theorem dX0_append_18 : decode cX0_append 18 = .ok (.iload_n 2, 1) := by decide +kernel
theorem dX0_append_19 : decode cX0_append 19 = .ok (.iastore, 1) := by decide +kernel
theorem dX0_append_20 : decode cX0_append 20 = .ok (.aload_n 0, 1) := by decide +kernel
theorem dX0_append_21 : decode cX0_append 21 = .ok (.getfield 18, 3) := by decide +kernel
theorem dX0_append_24 : decode cX0_append 24 = .ok (.aload_n 0, 1) := by decide +kernel
theorem dX0_append_25 : decode cX0_append 25 = .ok (.getfield 24, 3) := by decide +kernel
theorem dX0_append_28 : decode cX0_append 28 = .ok (.iload_n 3, 1) := by decide +kernel
theorem dX0_append_29 : decode cX0_append 29 = .ok (.iastore, 1) := by decide +kernel
theorem dX0_append_30 : decode cX0_append 30 = .ok (.aload_n 0, 1) := by decide +kernel
theorem dX0_append_31 : decode cX0_append 31 = .ok (.getfield 21, 3) := by decide +kernel
theorem dX0_append_34 : decode cX0_append 34 = .ok (.aload_n 0, 1) := by decide +kernel
theorem dX0_append_35 : decode cX0_append 35 = .ok (.getfield 24, 3) := by decide +kernel
theorem dX0_append_38 : decode cX0_append 38 = .ok (.iload 4, 2) := by decide +kernel
theorem dX0_append_40 : decode cX0_append 40 = .ok (.iastore, 1) := by decide +kernel
theorem dX0_append_41 : decode cX0_append 41 = .ok (.aload_n 0, 1) := by decide +kernel
theorem dX0_append_42 : decode cX0_append 42 = .ok (.dup, 1) := by decide +kernel
theorem dX0_append_43 : decode cX0_append 43 = .ok (.getfield 24, 3) := by decide +kernel
theorem dX0_append_46 : decode cX0_append 46 = .ok (.iconst 1, 1) := by decide +kernel
theorem dX0_append_47 : decode cX0_append 47 = .ok (.iadd, 1) := by decide +kernel
theorem dX0_append_48 : decode cX0_append 48 = .ok (.putfield 24, 3) := by decide +kernel
theorem dX0_append_51 : decode cX0_append 51 = .ok (.aload_n 0, 1) := by decide +kernel
theorem dX0_append_52 : decode cX0_append 52 = .ok (.getfield 24, 3) := by decide +kernel
theorem dX0_append_55 : decode cX0_append 55 = .ok (.iconst 1, 1) := by decide +kernel
theorem dX0_append_56 : decode cX0_append 56 = .ok (.isub, 1) := by decide +kernel
theorem dX0_append_57 : decode cX0_append 57 = .ok (.ireturn, 1) := by decide +kernel
theorem dX0_remove_0 : decode cX0_remove 0 = .ok (.iload_n 1, 1) := by decide +kernel
theorem dX0_remove_1 : decode cX0_remove 1 = .ok (.iconst 1, 1) := by decide +kernel
theorem dX0_remove_2 : decode cX0_remove 2 = .ok (.iadd, 1) := by decide +kernel
theorem dX0_remove_3 : decode cX0_remove 3 = .ok (.istore_n 2, 1) := by decide +kernel
theorem dX0_remove_4 : decode cX0_remove 4 = .ok (.iload_n 2, 1) := by decide +kernel
theorem dX0_remove_5 : decode cX0_remove 5 = .ok (.aload_n 0, 1) := by decide +kernel
theorem dX0_remove_6 : decode cX0_remove 6 = .ok (.getfield 24, 3) := by decide +kernel
theorem dX0_remove_9 : decode cX0_remove 9 = .ok (.if_icmp .ge 65, 3) := by decide +kernel
theorem dX0_remove_12 : decode cX0_remove 12 = .ok (.aload_n 0, 1) := by decide +kernel
theorem dX0_remove_13 : decode cX0_remove 13 = .ok (.getfield 9, 3) := by decide +kernel
theorem dX0_remove_16 : decode cX0_remove 16 = .ok (.iload_n 2, 1) := by decide +kernel
theorem dX0_remove_17 : decode cX0_remove 17 = .ok (.iconst 1, 1) := by decide +kernel
theorem dX0_remove_18 : decode cX0_remove 18 = .ok (.isub, 1) := by decide +kernel
theorem dX0_remove_19 : decode cX0_remove 19 = .ok (.aload_n 0, 1) := by decide +kernel
theorem dX0_remove_20 : decode cX0_remove 20 = .ok (.getfield 9, 3) := by decide +kernel
theorem dX0_remove_23 : decode cX0_remove 23 = .ok (.iload_n 2, 1) := by decide +kernel
theorem dX0_remove_24 : decode cX0_remove 24 = .ok (.iaload, 1) := by decide +kernel
theorem dX0_remove_25 : decode cX0_remove 25 = .ok (.iastore, 1) := by decide +kernel
theorem dX0_remove_26 : decode cX0_remove 26 = .ok (.aload_n 0, 1) := by decide +kernel
theorem dX0_remove_27 : decode cX0_remove 27 = .ok (.getfield 15, 3) := by decide +kernel
theorem dX0_remove_30 : decode cX0_remove 30 = .ok (.iload_n 2, 1) := by decide +kernel
theorem dX0_remove_31 : decode cX0_remove 31 = .ok (.iconst 1, 1) := by decide +kernel
theorem dX0_remove_32 : decode cX0_remove 32 = .ok (.isub, 1) := by decide +kernel
theorem dX0_remove_33 : decode cX0_remove 33 = .ok (.aload_n 0, 1) := by decide +kernel
theorem dX0_remove_34 : decode cX0_remove 34 = .ok (.getfield 15, 3) := by decide +kernel
theorem dX0_remove_37 : decode cX0_remove 37 = .ok (.iload_n 2, 1) := by decide +kernel
theorem dX0_remove_38 : decode cX0_remove 38 = .ok (.iaload, 1) := by decide +kernel
theorem dX0_remove_39 : decode cX0_remove 39 = .ok (.iastore, 1) := by decide +kernel
theorem dX0_remove_40 : decode cX0_remove 40 = .ok (.aload_n 0, 1) := by decide +kernel
theorem dX0_remove_41 : decode cX0_remove 41 = .ok (.getfield 18, 3) := by decide +kernel
theorem dX0_remove_44 : decode cX0_remove 44 = .ok (.iload_n 2, 1) := by decide +kernel
theorem dX0_remove_45 : decode cX0_remove 45 = .ok (.iconst 1, 1) := by decide +kernel
theorem dX0_remove_46 : decode cX0_remove 46 = .ok (.isub, 1) := by decide +kernel
theorem dX0_remove_47 : decode cX0_remove 47 = .ok (.aload_n 0, 1) := by decide +kernel
theorem dX0_remove_48 : decode cX0_remove 48 = .ok (.getfield 18, 3) := by decide +kernel
theorem dX0_remove_51 : decode cX0_remove 51 = .ok (.iload_n 2, 1) := by decide +kernel
theorem dX0_remove_52 : decode cX0_remove 52 = .ok (.iaload, 1) := by decide +kernel
theorem dX0_remove_53 : decode cX0_remove 53 = .ok (.iastore, 1) := by decide +kernel
theorem dX0_remove_54 : decode cX0_remove 54 = .ok (.aload_n 0, 1) := by decide +kernel
theorem dX0_remove_55 : decode cX0_remove 55 = .ok (.getfield 21, 3) := by decide +kernel
theorem dX0_remove_58 : decode cX0_remove 58 = .ok (.iload_n 2, 1) := by decide +kernel
theorem dX0_remove_59 : decode cX0_remove 59 = .ok (.iconst 1, 1) := by decide +kernel
theorem dX0_remove_60 : decode cX0_remove 60 = .ok (.isub, 1) := by decide +kernel
theorem dX0_remove_61 : decode cX0_remove 61 = .ok (.aload_n 0, 1) := by decide +kernel
theorem dX0_remove_62 : decode cX0_remove 62 = .ok (.getfield 21, 3) := by decide +kernel
theorem dX0_remove_65 : decode cX0_remove 65 = .ok (.iload_n 2, 1) := by decide +kernel
theorem dX0_remove_66 : decode cX0_remove 66 = .ok (.iaload, 1) := by decide +kernel
theorem dX0_remove_67 : decode cX0_remove 67 = .ok (.iastore, 1) := by decide +kernel
theorem dX0_remove_68 : decode cX0_remove 68 = .ok (.iinc 2 1, 3) := by decide +kernel
theorem dX0_remove_71 : decode cX0_remove 71 = .ok (.goto (-67), 3) := by decide +kernel
theorem dX0_remove_74 : decode cX0_remove 74 = .ok (.aload_n 0, 1) := by decide +kernel
theorem dX0_remove_75 : decode cX0_remove 75 = .ok (.dup, 1) := by decide +kernel
theorem dX0_remove_76 : decode cX0_remove 76 = .ok (.getfield 24, 3) := by decide +kernel
theorem dX0_remove_79 : decode cX0_remove 79 = .ok (.iconst 1, 1) := by decide +kernel
theorem dX0_remove_80 : decode cX0_remove 80 = .ok (.isub, 1) := by decide +kernel
theorem dX0_remove_81 : decode cX0_remove 81 = .ok (.putfield 24, 3) := by decide +kernel
theorem dX0_remove_84 : decode cX0_remove 84 = .ok (.return_, 1) := by decide +kernel
theorem dX0_isUp_0 : decode cX0_isUp 0 = .ok (.aload_n 0, 1) := by decide +kernel
theorem dX0_isUp_1 : decode cX0_isUp 1 = .ok (.getfield 15, 3) := by decide +kernel
theorem dX0_isUp_4 : decode cX0_isUp 4 = .ok (.iload_n 1, 1) := by decide +kernel
theorem dX0_isUp_5 : decode cX0_isUp 5 = .ok (.iaload, 1) := by decide +kernel
theorem dX0_isUp_6 : decode cX0_isUp 6 = .ok (.istore_n 3, 1) := by decide +kernel
theorem dX0_isUp_7 : decode cX0_isUp 7 = .ok (.iload_n 3, 1) := by decide +kernel
theorem dX0_isUp_8 : decode cX0_isUp 8 = .ok (.ifCond .le 23, 3) := by decide +kernel
theorem dX0_isUp_11 : decode cX0_isUp 11 = .ok (.iload_n 2, 1) := by decide +kernel
theorem dX0_isUp_12 : decode cX0_isUp 12 = .ok (.aload_n 0, 1) := by decide +kernel
theorem dX0_isUp_13 : decode cX0_isUp 13 = .ok (.getfield 21, 3) := by decide +kernel
theorem dX0_isUp_16 : decode cX0_isUp 16 = .ok (.iload_n 1, 1) := by decide +kernel
theorem dX0_isUp_17 : decode cX0_isUp 17 = .ok (.iaload, 1) := by decide +kernel
theorem dX0_isUp_18 : decode cX0_isUp 18 = .ok (.iadd, 1) := by decide +kernel
theorem dX0_isUp_19 : decode cX0_isUp 19 = .ok (.iload_n 3, 1) := by decide +kernel
theorem dX0_isUp_20 : decode cX0_isUp 20 = .ok (.irem, 1) := by decide +kernel
theorem dX0_isUp_21 : decode cX0_isUp 21 = .ok (.iload_n 3, 1) := by decide +kernel
theorem dX0_isUp_22 : decode cX0_isUp 22 = .ok (.iconst 2, 1) := by decide +kernel
theorem dX0_isUp_23 : decode cX0_isUp 23 = .ok (.idiv, 1) := by decide +kernel
theorem dX0_isUp_24 : decode cX0_isUp 24 = .ok (.if_icmp .lt 7, 3) := by decide +kernel
theorem dX0_isUp_27 : decode cX0_isUp 27 = .ok (.iconst 1, 1) := by decide +kernel
theorem dX0_isUp_28 : decode cX0_isUp 28 = .ok (.goto 4, 3) := by decide +kernel
theorem dX0_isUp_31 : decode cX0_isUp 31 = .ok (.iconst 0, 1) := by decide +kernel
theorem dX0_isUp_32 : decode cX0_isUp 32 = .ok (.ireturn, 1) := by decide +kernel
theorem dX0_beat_0 : decode cX0_beat 0 = .ok (.iconst 0, 1) := by decide +kernel
theorem dX0_beat_1 : decode cX0_beat 1 = .ok (.istore_n 3, 1) := by decide +kernel
theorem dX0_beat_2 : decode cX0_beat 2 = .ok (.iload_n 3, 1) := by decide +kernel
theorem dX0_beat_3 : decode cX0_beat 3 = .ok (.aload_n 0, 1) := by decide +kernel
theorem dX0_beat_4 : decode cX0_beat 4 = .ok (.getfield 24, 3) := by decide +kernel
theorem dX0_beat_7 : decode cX0_beat 7 = .ok (.if_icmp .ge 42, 3) := by decide +kernel
theorem dX0_beat_10 : decode cX0_beat 10 = .ok (.aload_n 1, 1) := by decide +kernel
theorem dX0_beat_11 : decode cX0_beat 11 = .ok (.aload_n 0, 1) := by decide +kernel
theorem dX0_beat_12 : decode cX0_beat 12 = .ok (.getfield 9, 3) := by decide +kernel
theorem dX0_beat_15 : decode cX0_beat 15 = .ok (.iload_n 3, 1) := by decide +kernel
theorem dX0_beat_16 : decode cX0_beat 16 = .ok (.iaload, 1) := by decide +kernel
theorem dX0_beat_17 : decode cX0_beat 17 = .ok (.aload_n 0, 1) := by decide +kernel
theorem dX0_beat_18 : decode cX0_beat 18 = .ok (.iload_n 3, 1) := by decide +kernel
theorem dX0_beat_19 : decode cX0_beat 19 = .ok (.iload_n 2, 1) := by decide +kernel
theorem dX0_beat_20 : decode cX0_beat 20 = .ok (.invokevirtual 34, 3) := by decide +kernel
theorem dX0_beat_23 : decode cX0_beat 23 = .ok (.ifCond .eq 12, 3) := by decide +kernel
theorem dX0_beat_26 : decode cX0_beat 26 = .ok (.aload_n 0, 1) := by decide +kernel
theorem dX0_beat_27 : decode cX0_beat 27 = .ok (.getfield 18, 3) := by decide +kernel
theorem dX0_beat_30 : decode cX0_beat 30 = .ok (.iload_n 3, 1) := by decide +kernel
theorem dX0_beat_31 : decode cX0_beat 31 = .ok (.iaload, 1) := by decide +kernel
theorem dX0_beat_32 : decode cX0_beat 32 = .ok (.goto 10, 3) := by decide +kernel
theorem dX0_beat_35 : decode cX0_beat 35 = .ok (.aload_n 0, 1) := by decide +kernel
theorem dX0_beat_36 : decode cX0_beat 36 = .ok (.getfield 18, 3) := by decide +kernel
theorem dX0_beat_39 : decode cX0_beat 39 = .ok (.iload_n 3, 1) := by decide +kernel
theorem dX0_beat_40 : decode cX0_beat 40 = .ok (.iaload, 1) := by decide +kernel
theorem dX0_beat_41 : decode cX0_beat 41 = .ok (.ineg, 1) := by decide +kernel
theorem dX0_beat_42 : decode cX0_beat 42 = .ok (.iastore, 1) := by decide +kernel
theorem dX0_beat_43 : decode cX0_beat 43 = .ok (.iinc 3 1, 3) := by decide +kernel
theorem dX0_beat_46 : decode cX0_beat 46 = .ok (.goto (-44), 3) := by decide +kernel
theorem dX0_beat_49 : decode cX0_beat 49 = .ok (.return_, 1) := by decide +kernel
theorem dX0_lastIn_0 : decode cX0_lastIn 0 = .ok (.aload_n 0, 1) := by decide +kernel
theorem dX0_lastIn_1 : decode cX0_lastIn 1 = .ok (.getfield 24, 3) := by decide +kernel
theorem dX0_lastIn_4 : decode cX0_lastIn 4 = .ok (.iconst 1, 1) := by decide +kernel
theorem dX0_lastIn_5 : decode cX0_lastIn 5 = .ok (.isub, 1) := by decide +kernel
theorem dX0_lastIn_6 : decode cX0_lastIn 6 = .ok (.istore_n 2, 1) := by decide +kernel
theorem dX0_lastIn_7 : decode cX0_lastIn 7 = .ok (.iload_n 2, 1) := by decide +kernel
theorem dX0_lastIn_8 : decode cX0_lastIn 8 = .ok (.ifCond .lt 21, 3) := by decide +kernel
theorem dX0_lastIn_11 : decode cX0_lastIn 11 = .ok (.aload_n 0, 1) := by decide +kernel
theorem dX0_lastIn_12 : decode cX0_lastIn 12 = .ok (.getfield 9, 3) := by decide +kernel
theorem dX0_lastIn_15 : decode cX0_lastIn 15 = .ok (.iload_n 2, 1) := by decide +kernel
theorem dX0_lastIn_16 : decode cX0_lastIn 16 = .ok (.iaload, 1) := by decide +kernel
theorem dX0_lastIn_17 : decode cX0_lastIn 17 = .ok (.iload_n 1, 1) := by decide +kernel
theorem dX0_lastIn_18 : decode cX0_lastIn 18 = .ok (.if_icmp .ne 5, 3) := by decide +kernel
theorem dX0_lastIn_21 : decode cX0_lastIn 21 = .ok (.iload_n 2, 1) := by decide +kernel
theorem dX0_lastIn_22 : decode cX0_lastIn 22 = .ok (.ireturn, 1) := by decide +kernel
theorem dX0_lastIn_23 : decode cX0_lastIn 23 = .ok (.iinc 2 (-1), 3) := by decide +kernel
theorem dX0_lastIn_26 : decode cX0_lastIn 26 = .ok (.goto (-19), 3) := by decide +kernel
theorem dX0_lastIn_29 : decode cX0_lastIn 29 = .ok (.bipush (-6), 2) := by decide +kernel
theorem dX0_lastIn_31 : decode cX0_lastIn 31 = .ok (.ireturn, 1) := by decide +kernel
theorem dX1_init_0 : decode cX1_init 0 = .ok (.aload_n 0, 1) := by decide +kernel
theorem dX1_init_1 : decode cX1_init 1 = .ok (.invokespecial 3, 3) := by decide +kernel
theorem dX1_init_4 : decode cX1_init 4 = .ok (.aload_n 0, 1) := by decide +kernel
theorem dX1_init_5 : decode cX1_init 5 = .ok (.bipush 6, 2) := by decide +kernel
theorem dX1_init_7 : decode cX1_init 7 = .ok (.anewarray 9, 3) := by decide +kernel
theorem dX1_init_10 : decode cX1_init 10 = .ok (.putfield 11, 3) := by decide +kernel
theorem dX1_init_13 : decode cX1_init 13 = .ok (.aload_n 0, 1) := by decide +kernel
theorem dX1_init_14 : decode cX1_init 14 = .ok (.iconst 0, 1) := by decide +kernel
theorem dX1_init_15 : decode cX1_init 15 = .ok (.putfield 17, 3) := by decide +kernel
theorem dX1_init_18 : decode cX1_init 18 = .ok (.iconst 0, 1) := by decide +kernel
theorem dX1_init_19 : decode cX1_init 19 = .ok (.istore_n 1, 1) := by decide +kernel
theorem dX1_init_20 : decode cX1_init 20 = .ok (.iload_n 1, 1) := by decide +kernel
theorem dX1_init_21 : decode cX1_init 21 = .ok (.bipush 6, 2) := by decide +kernel
theorem dX1_init_23 : decode cX1_init 23 = .ok (.if_icmp .ge 22, 3) := by decide +kernel
theorem dX1_init_26 : decode cX1_init 26 = .ok (.aload_n 0, 1) := by decide +kernel
theorem dX1_init_27 : decode cX1_init 27 = .ok (.getfield 11, 3) := by decide +kernel
theorem dX1_init_30 : decode cX1_init 30 = .ok (.iload_n 1, 1) := by decide +kernel
theorem dX1_init_31 : decode cX1_init 31 = .ok (.new 9, 3) := by decide +kernel
theorem dX1_init_34 : decode cX1_init 34 = .ok (.dup, 1) := by decide +kernel
theorem dX1_init_35 : decode cX1_init 35 = .ok (.invokespecial 21, 3) := by decide +kernel
theorem dX1_init_38 : decode cX1_init 38 = .ok (.aastore, 1) := by decide +kernel
theorem dX1_init_39 : decode cX1_init 39 = .ok (.iinc 1 1, 3) := by decide +kernel
theorem dX1_init_42 : decode cX1_init 42 = .ok (.goto (-22), 3) := by decide +kernel
theorem dX1_init_45 : decode cX1_init 45 = .ok (.return_, 1) := by decide +kernel
theorem dX1_keep_0 : decode cX1_keep 0 = .ok (.aload_n 0, 1) := by decide +kernel
theorem dX1_keep_1 : decode cX1_keep 1 = .ok (.getfield 17, 3) := by decide +kernel
theorem dX1_keep_4 : decode cX1_keep 4 = .ok (.bipush 6, 2) := by decide +kernel
theorem dX1_keep_6 : decode cX1_keep 6 = .ok (.if_icmp .lt 7, 3) := by decide +kernel
theorem dX1_keep_9 : decode cX1_keep 9 = .ok (.aload_n 0, 1) := by decide +kernel
theorem dX1_keep_10 : decode cX1_keep 10 = .ok (.invokevirtual 22, 3) := by decide +kernel
theorem dX1_keep_13 : decode cX1_keep 13 = .ok (.aload_n 0, 1) := by decide +kernel
theorem dX1_keep_14 : decode cX1_keep 14 = .ok (.getfield 11, 3) := by decide +kernel
theorem dX1_keep_17 : decode cX1_keep 17 = .ok (.aload_n 0, 1) := by decide +kernel
theorem dX1_keep_18 : decode cX1_keep 18 = .ok (.getfield 17, 3) := by decide +kernel
theorem dX1_keep_21 : decode cX1_keep 21 = .ok (.aaload, 1) := by decide +kernel
theorem dX1_keep_22 : decode cX1_keep 22 = .ok (.aload_n 1, 1) := by decide +kernel
theorem dX1_keep_23 : decode cX1_keep 23 = .ok (.invokevirtual 25, 3) := by decide +kernel
theorem dX1_keep_26 : decode cX1_keep 26 = .ok (.aload_n 0, 1) := by decide +kernel
theorem dX1_keep_27 : decode cX1_keep 27 = .ok (.dup, 1) := by decide +kernel
theorem dX1_keep_28 : decode cX1_keep 28 = .ok (.getfield 17, 3) := by decide +kernel
theorem dX1_keep_31 : decode cX1_keep 31 = .ok (.iconst 1, 1) := by decide +kernel
theorem dX1_keep_32 : decode cX1_keep 32 = .ok (.iadd, 1) := by decide +kernel
theorem dX1_keep_33 : decode cX1_keep 33 = .ok (.putfield 17, 3) := by decide +kernel
theorem dX1_keep_36 : decode cX1_keep 36 = .ok (.return_, 1) := by decide +kernel
theorem dX1_loseOldest_0 : decode cX1_loseOldest 0 = .ok (.aload_n 0, 1) := by decide +kernel
theorem dX1_loseOldest_1 : decode cX1_loseOldest 1 = .ok (.getfield 11, 3) := by decide +kernel
theorem dX1_loseOldest_4 : decode cX1_loseOldest 4 = .ok (.iconst 0, 1) := by decide +kernel
theorem dX1_loseOldest_5 : decode cX1_loseOldest 5 = .ok (.aaload, 1) := by decide +kernel
theorem dX1_loseOldest_6 : decode cX1_loseOldest 6 = .ok (.astore_n 1, 1) := by decide +kernel
theorem dX1_loseOldest_7 : decode cX1_loseOldest 7 = .ok (.iconst 1, 1) := by decide +kernel
theorem dX1_loseOldest_8 : decode cX1_loseOldest 8 = .ok (.istore_n 2, 1) := by decide +kernel
theorem dX1_loseOldest_9 : decode cX1_loseOldest 9 = .ok (.iload_n 2, 1) := by decide +kernel
theorem dX1_loseOldest_10 : decode cX1_loseOldest 10 = .ok (.bipush 6, 2) := by decide +kernel
theorem dX1_loseOldest_12 : decode cX1_loseOldest 12 = .ok (.if_icmp .ge 23, 3) := by decide +kernel
theorem dX1_loseOldest_15 : decode cX1_loseOldest 15 = .ok (.aload_n 0, 1) := by decide +kernel
theorem dX1_loseOldest_16 : decode cX1_loseOldest 16 = .ok (.getfield 11, 3) := by decide +kernel
theorem dX1_loseOldest_19 : decode cX1_loseOldest 19 = .ok (.iload_n 2, 1) := by decide +kernel
theorem dX1_loseOldest_20 : decode cX1_loseOldest 20 = .ok (.iconst 1, 1) := by decide +kernel
theorem dX1_loseOldest_21 : decode cX1_loseOldest 21 = .ok (.isub, 1) := by decide +kernel
theorem dX1_loseOldest_22 : decode cX1_loseOldest 22 = .ok (.aload_n 0, 1) := by decide +kernel
theorem dX1_loseOldest_23 : decode cX1_loseOldest 23 = .ok (.getfield 11, 3) := by decide +kernel
theorem dX1_loseOldest_26 : decode cX1_loseOldest 26 = .ok (.iload_n 2, 1) := by decide +kernel
theorem dX1_loseOldest_27 : decode cX1_loseOldest 27 = .ok (.aaload, 1) := by decide +kernel
theorem dX1_loseOldest_28 : decode cX1_loseOldest 28 = .ok (.aastore, 1) := by decide +kernel
theorem dX1_loseOldest_29 : decode cX1_loseOldest 29 = .ok (.iinc 2 1, 3) := by decide +kernel
theorem dX1_loseOldest_32 : decode cX1_loseOldest 32 = .ok (.goto (-23), 3) := by decide +kernel
theorem dX1_loseOldest_35 : decode cX1_loseOldest 35 = .ok (.aload_n 0, 1) := by decide +kernel
theorem dX1_loseOldest_36 : decode cX1_loseOldest 36 = .ok (.getfield 11, 3) := by decide +kernel
theorem dX1_loseOldest_39 : decode cX1_loseOldest 39 = .ok (.iconst 5, 1) := by decide +kernel
theorem dX1_loseOldest_40 : decode cX1_loseOldest 40 = .ok (.aload_n 1, 1) := by decide +kernel
theorem dX1_loseOldest_41 : decode cX1_loseOldest 41 = .ok (.aastore, 1) := by decide +kernel
theorem dX1_loseOldest_42 : decode cX1_loseOldest 42 = .ok (.aload_n 0, 1) := by decide +kernel
theorem dX1_loseOldest_43 : decode cX1_loseOldest 43 = .ok (.iconst 5, 1) := by decide +kernel
theorem dX1_loseOldest_44 : decode cX1_loseOldest 44 = .ok (.putfield 17, 3) := by decide +kernel
theorem dX1_loseOldest_47 : decode cX1_loseOldest 47 = .ok (.return_, 1) := by decide +kernel
theorem dX1_giveBack_0 : decode cX1_giveBack 0 = .ok (.aload_n 0, 1) := by decide +kernel
theorem dX1_giveBack_1 : decode cX1_giveBack 1 = .ok (.dup, 1) := by decide +kernel
theorem dX1_giveBack_2 : decode cX1_giveBack 2 = .ok (.getfield 17, 3) := by decide +kernel
theorem dX1_giveBack_5 : decode cX1_giveBack 5 = .ok (.iconst 1, 1) := by decide +kernel
theorem dX1_giveBack_6 : decode cX1_giveBack 6 = .ok (.isub, 1) := by decide +kernel
theorem dX1_giveBack_7 : decode cX1_giveBack 7 = .ok (.putfield 17, 3) := by decide +kernel
theorem dX1_giveBack_10 : decode cX1_giveBack 10 = .ok (.aload_n 1, 1) := by decide +kernel
theorem dX1_giveBack_11 : decode cX1_giveBack 11 = .ok (.aload_n 0, 1) := by decide +kernel
theorem dX1_giveBack_12 : decode cX1_giveBack 12 = .ok (.getfield 11, 3) := by decide +kernel
theorem dX1_giveBack_15 : decode cX1_giveBack 15 = .ok (.aload_n 0, 1) := by decide +kernel
theorem dX1_giveBack_16 : decode cX1_giveBack 16 = .ok (.getfield 17, 3) := by decide +kernel
theorem dX1_giveBack_19 : decode cX1_giveBack 19 = .ok (.aaload, 1) := by decide +kernel
theorem dX1_giveBack_20 : decode cX1_giveBack 20 = .ok (.invokevirtual 25, 3) := by decide +kernel
theorem dX1_giveBack_23 : decode cX1_giveBack 23 = .ok (.return_, 1) := by decide +kernel
theorem dX2_init_0 : decode cX2_init 0 = .ok (.aload_n 0, 1) := by decide +kernel
theorem dX2_init_1 : decode cX2_init 1 = .ok (.invokespecial 3, 3) := by decide +kernel
theorem dX2_init_4 : decode cX2_init 4 = .ok (.aload_n 0, 1) := by decide +kernel
theorem dX2_init_5 : decode cX2_init 5 = .ok (.bipush 72, 2) := by decide +kernel
theorem dX2_init_7 : decode cX2_init 7 = .ok (.newarray .char, 2) := by decide +kernel
theorem dX2_init_9 : decode cX2_init 9 = .ok (.putfield 9, 3) := by decide +kernel
theorem dX2_init_12 : decode cX2_init 12 = .ok (.aload_n 0, 1) := by decide +kernel
theorem dX2_init_13 : decode cX2_init 13 = .ok (.iconst 0, 1) := by decide +kernel
theorem dX2_init_14 : decode cX2_init 14 = .ok (.putfield 15, 3) := by decide +kernel
theorem dX2_init_17 : decode cX2_init 17 = .ok (.return_, 1) := by decide +kernel
theorem dX2_charactersIn_0 : decode cX2_charactersIn 0 = .ok (.lload_n 0, 1) := by decide +kernel
theorem dX2_charactersIn_1 : decode cX2_charactersIn 1 = .ok (.lstore_n 2, 1) := by decide +kernel
theorem dX2_charactersIn_2 : decode cX2_charactersIn 2 = .ok (.iconst 0, 1) := by decide +kernel
theorem dX2_charactersIn_3 : decode cX2_charactersIn 3 = .ok (.istore 4, 2) := by decide +kernel
theorem dX2_charactersIn_5 : decode cX2_charactersIn 5 = .ok (.iload 4, 2) := by decide +kernel
theorem dX2_charactersIn_7 : decode cX2_charactersIn 7 = .ok (.bipush 8, 2) := by decide +kernel
theorem dX2_charactersIn_9 : decode cX2_charactersIn 9 = .ok (.if_icmp .ge 42, 3) := by decide +kernel
theorem dX2_charactersIn_12 : decode cX2_charactersIn 12 = .ok (.lload_n 2, 1) := by decide +kernel
theorem dX2_charactersIn_13 : decode cX2_charactersIn 13 = .ok (.ldc2_w 19, 3) := by decide +kernel
theorem dX2_charactersIn_16 : decode cX2_charactersIn 16 = .ok (.land, 1) := by decide +kernel
theorem dX2_charactersIn_17 : decode cX2_charactersIn 17 = .ok (.lconst 0, 1) := by decide +kernel
theorem dX2_charactersIn_18 : decode cX2_charactersIn 18 = .ok (.lcmp, 1) := by decide +kernel
theorem dX2_charactersIn_19 : decode cX2_charactersIn 19 = .ok (.ifCond .eq 32, 3) := by decide +kernel
theorem dX2_charactersIn_22 : decode cX2_charactersIn 22 = .ok (.lload_n 2, 1) := by decide +kernel
theorem dX2_charactersIn_23 : decode cX2_charactersIn 23 = .ok (.ldc2_w 19, 3) := by decide +kernel
theorem dX2_charactersIn_26 : decode cX2_charactersIn 26 = .ok (.land, 1) := by decide +kernel
theorem dX2_charactersIn_27 : decode cX2_charactersIn 27 = .ok (.l2i, 1) := by decide +kernel
theorem dX2_charactersIn_28 : decode cX2_charactersIn 28 = .ok (.bipush 33, 2) := by decide +kernel
theorem dX2_charactersIn_30 : decode cX2_charactersIn 30 = .ok (.bipush 126, 2) := by decide +kernel
theorem dX2_charactersIn_32 : decode cX2_charactersIn 32 = .ok (.invokestatic 21, 3) := by decide +kernel
theorem dX2_charactersIn_35 : decode cX2_charactersIn 35 = .ok (.ifCond .ne 5, 3) := by decide +kernel
theorem dX2_charactersIn_38 : decode cX2_charactersIn 38 = .ok (.iconst 0, 1) := by decide +kernel
theorem dX2_charactersIn_39 : decode cX2_charactersIn 39 = .ok (.ireturn, 1) := by decide +kernel
theorem dX2_charactersIn_40 : decode cX2_charactersIn 40 = .ok (.lload_n 2, 1) := by decide +kernel
theorem dX2_charactersIn_41 : decode cX2_charactersIn 41 = .ok (.bipush 8, 2) := by decide +kernel
theorem dX2_charactersIn_43 : decode cX2_charactersIn 43 = .ok (.lushr, 1) := by decide +kernel
theorem dX2_charactersIn_44 : decode cX2_charactersIn 44 = .ok (.lstore_n 2, 1) := by decide +kernel
theorem dX2_charactersIn_45 : decode cX2_charactersIn 45 = .ok (.iinc 4 1, 3) := by decide +kernel
theorem dX2_charactersIn_48 : decode cX2_charactersIn 48 = .ok (.goto (-43), 3) := by decide +kernel
theorem dX2_charactersIn_51 : decode cX2_charactersIn 51 = .ok (.lload_n 2, 1) := by decide +kernel
theorem dX2_charactersIn_52 : decode cX2_charactersIn 52 = .ok (.lconst 0, 1) := by decide +kernel
theorem dX2_charactersIn_53 : decode cX2_charactersIn 53 = .ok (.lcmp, 1) := by decide +kernel
theorem dX2_charactersIn_54 : decode cX2_charactersIn 54 = .ok (.ifCond .ne 8, 3) := by decide +kernel
theorem dX2_charactersIn_57 : decode cX2_charactersIn 57 = .ok (.iload 4, 2) := by decide +kernel
theorem dX2_charactersIn_59 : decode cX2_charactersIn 59 = .ok (.goto 4, 3) := by decide +kernel
theorem dX2_charactersIn_62 : decode cX2_charactersIn 62 = .ok (.iconst 0, 1) := by decide +kernel
theorem dX2_charactersIn_63 : decode cX2_charactersIn 63 = .ok (.ireturn, 1) := by decide +kernel
theorem dX2_append_0 : decode cX2_append 0 = .ok (.iconst 0, 1) := by decide +kernel
theorem dX2_append_1 : decode cX2_append 1 = .ok (.istore 4, 2) := by decide +kernel
theorem dX2_append_3 : decode cX2_append 3 = .ok (.iload 4, 2) := by decide +kernel
theorem dX2_append_5 : decode cX2_append 5 = .ok (.iload_n 3, 1) := by decide +kernel
theorem dX2_append_6 : decode cX2_append 6 = .ok (.if_icmp .ge 38, 3) := by decide +kernel
theorem dX2_append_9 : decode cX2_append 9 = .ok (.aload_n 0, 1) := by decide +kernel
theorem dX2_append_10 : decode cX2_append 10 = .ok (.getfield 9, 3) := by decide +kernel
theorem dX2_append_13 : decode cX2_append 13 = .ok (.aload_n 0, 1) := by decide +kernel
theorem dX2_append_14 : decode cX2_append 14 = .ok (.getfield 15, 3) := by decide +kernel
theorem dX2_append_17 : decode cX2_append 17 = .ok (.iload 4, 2) := by decide +kernel
theorem dX2_append_19 : decode cX2_append 19 = .ok (.iadd, 1) := by decide +kernel
theorem dX2_append_20 : decode cX2_append 20 = .ok (.lload_n 1, 1) := by decide +kernel
theorem dX2_append_21 : decode cX2_append 21 = .ok (.bipush 8, 2) := by decide +kernel
theorem dX2_append_23 : decode cX2_append 23 = .ok (.iload_n 3, 1) := by decide +kernel
theorem dX2_append_24 : decode cX2_append 24 = .ok (.iconst 1, 1) := by decide +kernel
theorem dX2_append_25 : decode cX2_append 25 = .ok (.isub, 1) := by decide +kernel
theorem dX2_append_26 : decode cX2_append 26 = .ok (.iload 4, 2) := by decide +kernel
theorem dX2_append_28 : decode cX2_append 28 = .ok (.isub, 1) := by decide +kernel
theorem dX2_append_29 : decode cX2_append 29 = .ok (.imul, 1) := by decide +kernel
theorem dX2_append_30 : decode cX2_append 30 = .ok (.lushr, 1) := by decide +kernel
theorem dX2_append_31 : decode cX2_append 31 = .ok (.ldc2_w 19, 3) := by decide +kernel
theorem dX2_append_34 : decode cX2_append 34 = .ok (.land, 1) := by decide +kernel
theorem dX2_append_35 : decode cX2_append 35 = .ok (.l2i, 1) := by decide +kernel
theorem dX2_append_36 : decode cX2_append 36 = .ok (.i2c, 1) := by decide +kernel
theorem dX2_append_37 : decode cX2_append 37 = .ok (.castore, 1) := by decide +kernel
theorem dX2_append_38 : decode cX2_append 38 = .ok (.iinc 4 1, 3) := by decide +kernel
theorem dX2_append_41 : decode cX2_append 41 = .ok (.goto (-38), 3) := by decide +kernel
theorem dX2_append_44 : decode cX2_append 44 = .ok (.aload_n 0, 1) := by decide +kernel
theorem dX2_append_45 : decode cX2_append 45 = .ok (.dup, 1) := by decide +kernel
theorem dX2_append_46 : decode cX2_append 46 = .ok (.getfield 15, 3) := by decide +kernel
theorem dX2_append_49 : decode cX2_append 49 = .ok (.iload_n 3, 1) := by decide +kernel
theorem dX2_append_50 : decode cX2_append 50 = .ok (.iadd, 1) := by decide +kernel
theorem dX2_append_51 : decode cX2_append 51 = .ok (.putfield 15, 3) := by decide +kernel
theorem dX2_append_54 : decode cX2_append 54 = .ok (.return_, 1) := by decide +kernel
theorem dX2_firstFault_0 : decode cX2_firstFault 0 = .ok (.iconst 0, 1) := by decide +kernel
theorem dX2_firstFault_1 : decode cX2_firstFault 1 = .ok (.istore_n 1, 1) := by decide +kernel
theorem dX2_firstFault_2 : decode cX2_firstFault 2 = .ok (.iload_n 1, 1) := by decide +kernel
theorem dX2_firstFault_3 : decode cX2_firstFault 3 = .ok (.aload_n 0, 1) := by decide +kernel
theorem dX2_firstFault_4 : decode cX2_firstFault 4 = .ok (.getfield 15, 3) := by decide +kernel
theorem dX2_firstFault_7 : decode cX2_firstFault 7 = .ok (.if_icmp .ge 24, 3) := by decide +kernel
theorem dX2_firstFault_10 : decode cX2_firstFault 10 = .ok (.aload_n 0, 1) := by decide +kernel
theorem dX2_firstFault_11 : decode cX2_firstFault 11 = .ok (.getfield 9, 3) := by decide +kernel
theorem dX2_firstFault_14 : decode cX2_firstFault 14 = .ok (.iload_n 1, 1) := by decide +kernel
theorem dX2_firstFault_15 : decode cX2_firstFault 15 = .ok (.caload, 1) := by decide +kernel
theorem dX2_firstFault_16 : decode cX2_firstFault 16 = .ok (.iload_n 1, 1) := by decide +kernel
theorem dX2_firstFault_17 : decode cX2_firstFault 17 = .ok (.invokestatic 25, 3) := by decide +kernel
theorem dX2_firstFault_20 : decode cX2_firstFault 20 = .ok (.ifCond .ne 5, 3) := by decide +kernel
theorem dX2_firstFault_23 : decode cX2_firstFault 23 = .ok (.iload_n 1, 1) := by decide +kernel
theorem dX2_firstFault_24 : decode cX2_firstFault 24 = .ok (.ireturn, 1) := by decide +kernel
theorem dX2_firstFault_25 : decode cX2_firstFault 25 = .ok (.iinc 1 1, 3) := by decide +kernel
theorem dX2_firstFault_28 : decode cX2_firstFault 28 = .ok (.goto (-26), 3) := by decide +kernel
theorem dX2_firstFault_31 : decode cX2_firstFault 31 = .ok (.aload_n 0, 1) := by decide +kernel
theorem dX2_firstFault_32 : decode cX2_firstFault 32 = .ok (.getfield 15, 3) := by decide +kernel
theorem dX2_firstFault_35 : decode cX2_firstFault 35 = .ok (.bipush 65, 2) := by decide +kernel
theorem dX2_firstFault_37 : decode cX2_firstFault 37 = .ok (.if_icmp .ge 10, 3) := by decide +kernel
theorem dX2_firstFault_40 : decode cX2_firstFault 40 = .ok (.aload_n 0, 1) := by decide +kernel
theorem dX2_firstFault_41 : decode cX2_firstFault 41 = .ok (.getfield 15, 3) := by decide +kernel
theorem dX2_firstFault_44 : decode cX2_firstFault 44 = .ok (.goto 5, 3) := by decide +kernel
theorem dX2_firstFault_47 : decode cX2_firstFault 47 = .ok (.bipush (-6), 2) := by decide +kernel
theorem dX2_firstFault_49 : decode cX2_firstFault 49 = .ok (.ireturn, 1) := by decide +kernel
theorem dX2_canStand_0 : decode cX2_canStand 0 = .ok (.iload_n 1, 1) := by decide +kernel
theorem dX2_canStand_1 : decode cX2_canStand 1 = .ok (.bipush 65, 2) := by decide +kernel
theorem dX2_canStand_3 : decode cX2_canStand 3 = .ok (.if_icmp .lt 5, 3) := by decide +kernel
theorem dX2_canStand_6 : decode cX2_canStand 6 = .ok (.iconst 0, 1) := by decide +kernel
theorem dX2_canStand_7 : decode cX2_canStand 7 = .ok (.ireturn, 1) := by decide +kernel
theorem dX2_canStand_8 : decode cX2_canStand 8 = .ok (.iload_n 1, 1) := by decide +kernel
theorem dX2_canStand_9 : decode cX2_canStand 9 = .ok (.bipush 11, 2) := by decide +kernel
theorem dX2_canStand_11 : decode cX2_canStand 11 = .ok (.irem, 1) := by decide +kernel
theorem dX2_canStand_12 : decode cX2_canStand 12 = .ok (.bipush 10, 2) := by decide +kernel
theorem dX2_canStand_14 : decode cX2_canStand 14 = .ok (.if_icmp .ne 17, 3) := by decide +kernel
theorem dX2_canStand_17 : decode cX2_canStand 17 = .ok (.iload_n 0, 1) := by decide +kernel
theorem dX2_canStand_18 : decode cX2_canStand 18 = .ok (.bipush 47, 2) := by decide +kernel
theorem dX2_canStand_20 : decode cX2_canStand 20 = .ok (.if_icmp .ne 7, 3) := by decide +kernel
theorem dX2_canStand_23 : decode cX2_canStand 23 = .ok (.iconst 1, 1) := by decide +kernel
theorem dX2_canStand_24 : decode cX2_canStand 24 = .ok (.goto 21, 3) := by decide +kernel
theorem dX2_canStand_27 : decode cX2_canStand 27 = .ok (.iconst 0, 1) := by decide +kernel
theorem dX2_canStand_28 : decode cX2_canStand 28 = .ok (.goto 17, 3) := by decide +kernel
theorem dX2_canStand_31 : decode cX2_canStand 31 = .ok (.ldc 29, 2) := by decide +kernel
theorem dX2_canStand_33 : decode cX2_canStand 33 = .ok (.iload_n 0, 1) := by decide +kernel
theorem dX2_canStand_34 : decode cX2_canStand 34 = .ok (.invokevirtual 31, 3) := by decide +kernel
theorem dX2_canStand_37 : decode cX2_canStand 37 = .ok (.ifCond .lt 7, 3) := by decide +kernel
theorem dX2_canStand_40 : decode cX2_canStand 40 = .ok (.iconst 1, 1) := by decide +kernel
theorem dX2_canStand_41 : decode cX2_canStand 41 = .ok (.goto 4, 3) := by decide +kernel
theorem dX2_canStand_44 : decode cX2_canStand 44 = .ok (.iconst 0, 1) := by decide +kernel
theorem dX2_canStand_45 : decode cX2_canStand 45 = .ok (.ireturn, 1) := by decide +kernel
theorem dX2_floorOf_0 : decode cX2_floorOf 0 = .ok (.ldc 29, 2) := by decide +kernel
theorem dX2_floorOf_2 : decode cX2_floorOf 2 = .ok (.aload_n 0, 1) := by decide +kernel
theorem dX2_floorOf_3 : decode cX2_floorOf 3 = .ok (.getfield 9, 3) := by decide +kernel
theorem dX2_floorOf_6 : decode cX2_floorOf 6 = .ok (.iload_n 1, 1) := by decide +kernel
theorem dX2_floorOf_7 : decode cX2_floorOf 7 = .ok (.bipush 10, 2) := by decide +kernel
theorem dX2_floorOf_9 : decode cX2_floorOf 9 = .ok (.idiv, 1) := by decide +kernel
theorem dX2_floorOf_10 : decode cX2_floorOf 10 = .ok (.bipush 11, 2) := by decide +kernel
theorem dX2_floorOf_12 : decode cX2_floorOf 12 = .ok (.imul, 1) := by decide +kernel
theorem dX2_floorOf_13 : decode cX2_floorOf 13 = .ok (.iload_n 1, 1) := by decide +kernel
theorem dX2_floorOf_14 : decode cX2_floorOf 14 = .ok (.bipush 10, 2) := by decide +kernel
theorem dX2_floorOf_16 : decode cX2_floorOf 16 = .ok (.irem, 1) := by decide +kernel
theorem dX2_floorOf_17 : decode cX2_floorOf 17 = .ok (.iadd, 1) := by decide +kernel
theorem dX2_floorOf_18 : decode cX2_floorOf 18 = .ok (.caload, 1) := by decide +kernel
theorem dX2_floorOf_19 : decode cX2_floorOf 19 = .ok (.invokevirtual 31, 3) := by decide +kernel
theorem dX2_floorOf_22 : decode cX2_floorOf 22 = .ok (.ireturn, 1) := by decide +kernel
theorem dX3_init_0 : decode cX3_init 0 = .ok (.aload_n 0, 1) := by decide +kernel
theorem dX3_init_1 : decode cX3_init 1 = .ok (.invokespecial 3, 3) := by decide +kernel
theorem dX3_init_4 : decode cX3_init 4 = .ok (.aload_n 0, 1) := by decide +kernel
theorem dX3_init_5 : decode cX3_init 5 = .ok (.iconst 3, 1) := by decide +kernel
theorem dX3_init_6 : decode cX3_init 6 = .ok (.newarray .int, 2) := by decide +kernel
theorem dX3_init_8 : decode cX3_init 8 = .ok (.putfield 9, 3) := by decide +kernel
theorem dX3_init_11 : decode cX3_init 11 = .ok (.aload_n 0, 1) := by decide +kernel
theorem dX3_init_12 : decode cX3_init 12 = .ok (.iconst 3, 1) := by decide +kernel
theorem dX3_init_13 : decode cX3_init 13 = .ok (.newarray .int, 2) := by decide +kernel
theorem dX3_init_15 : decode cX3_init 15 = .ok (.putfield 15, 3) := by decide +kernel
theorem dX3_init_18 : decode cX3_init 18 = .ok (.aload_n 0, 1) := by decide +kernel
theorem dX3_init_19 : decode cX3_init 19 = .ok (.iconst 3, 1) := by decide +kernel
theorem dX3_init_20 : decode cX3_init 20 = .ok (.bipush 24, 2) := by decide +kernel
theorem dX3_init_22 : decode cX3_init 22 = .ok (.multianewarray 18 2, 4) := by decide +kernel
theorem dX3_init_26 : decode cX3_init 26 = .ok (.putfield 20, 3) := by decide +kernel
theorem dX3_init_29 : decode cX3_init 29 = .ok (.aload_n 0, 1) := by decide +kernel
theorem dX3_init_30 : decode cX3_init 30 = .ok (.iconst 0, 1) := by decide +kernel
theorem dX3_init_31 : decode cX3_init 31 = .ok (.putfield 23, 3) := by decide +kernel
theorem dX3_init_34 : decode cX3_init 34 = .ok (.return_, 1) := by decide +kernel
theorem dX3_become_0 : decode cX3_become 0 = .ok (.aload_n 1, 1) := by decide +kernel
theorem dX3_become_1 : decode cX3_become 1 = .ok (.getfield 9, 3) := by decide +kernel
theorem dX3_become_4 : decode cX3_become 4 = .ok (.iconst 0, 1) := by decide +kernel
theorem dX3_become_5 : decode cX3_become 5 = .ok (.aload_n 0, 1) := by decide +kernel
theorem dX3_become_6 : decode cX3_become 6 = .ok (.getfield 9, 3) := by decide +kernel
theorem dX3_become_9 : decode cX3_become 9 = .ok (.iconst 0, 1) := by decide +kernel
theorem dX3_become_10 : decode cX3_become 10 = .ok (.iconst 3, 1) := by decide +kernel
theorem dX3_become_11 : decode cX3_become 11 = .ok (.invokestatic 27, 3) := by decide +kernel
theorem dX3_become_14 : decode cX3_become 14 = .ok (.aload_n 1, 1) := by decide +kernel
theorem dX3_become_15 : decode cX3_become 15 = .ok (.getfield 15, 3) := by decide +kernel
theorem dX3_become_18 : decode cX3_become 18 = .ok (.iconst 0, 1) := by decide +kernel
theorem dX3_become_19 : decode cX3_become 19 = .ok (.aload_n 0, 1) := by decide +kernel
theorem dX3_become_20 : decode cX3_become 20 = .ok (.getfield 15, 3) := by decide +kernel
theorem dX3_become_23 : decode cX3_become 23 = .ok (.iconst 0, 1) := by decide +kernel
theorem dX3_become_24 : decode cX3_become 24 = .ok (.iconst 3, 1) := by decide +kernel
theorem dX3_become_25 : decode cX3_become 25 = .ok (.invokestatic 27, 3) := by decide +kernel
theorem dX3_become_28 : decode cX3_become 28 = .ok (.iconst 0, 1) := by decide +kernel
theorem dX3_become_29 : decode cX3_become 29 = .ok (.istore_n 2, 1) := by decide +kernel
theorem dX3_become_30 : decode cX3_become 30 = .ok (.iload_n 2, 1) := by decide +kernel
theorem dX3_become_31 : decode cX3_become 31 = .ok (.iconst 3, 1) := by decide +kernel
theorem dX3_become_32 : decode cX3_become 32 = .ok (.if_icmp .ge 28, 3) := by decide +kernel
theorem dX3_become_35 : decode cX3_become 35 = .ok (.aload_n 1, 1) := by decide +kernel
theorem dX3_become_36 : decode cX3_become 36 = .ok (.getfield 20, 3) := by decide +kernel
theorem dX3_become_39 : decode cX3_become 39 = .ok (.iload_n 2, 1) := by decide +kernel
theorem dX3_become_40 : decode cX3_become 40 = .ok (.aaload, 1) := by decide +kernel
theorem dX3_become_41 : decode cX3_become 41 = .ok (.iconst 0, 1) := by decide +kernel
theorem dX3_become_42 : decode cX3_become 42 = .ok (.aload_n 0, 1) := by decide +kernel
theorem dX3_become_43 : decode cX3_become 43 = .ok (.getfield 20, 3) := by decide +kernel
theorem dX3_become_46 : decode cX3_become 46 = .ok (.iload_n 2, 1) := by decide +kernel
theorem dX3_become_47 : decode cX3_become 47 = .ok (.aaload, 1) := by decide +kernel
theorem dX3_become_48 : decode cX3_become 48 = .ok (.iconst 0, 1) := by decide +kernel
theorem dX3_become_49 : decode cX3_become 49 = .ok (.bipush 24, 2) := by decide +kernel
theorem dX3_become_51 : decode cX3_become 51 = .ok (.invokestatic 27, 3) := by decide +kernel
theorem dX3_become_54 : decode cX3_become 54 = .ok (.iinc 2 1, 3) := by decide +kernel
theorem dX3_become_57 : decode cX3_become 57 = .ok (.goto (-27), 3) := by decide +kernel
theorem dX3_become_60 : decode cX3_become 60 = .ok (.aload_n 0, 1) := by decide +kernel
theorem dX3_become_61 : decode cX3_become 61 = .ok (.aload_n 1, 1) := by decide +kernel
theorem dX3_become_62 : decode cX3_become 62 = .ok (.getfield 23, 3) := by decide +kernel
theorem dX3_become_65 : decode cX3_become 65 = .ok (.putfield 23, 3) := by decide +kernel
theorem dX3_become_68 : decode cX3_become 68 = .ok (.return_, 1) := by decide +kernel
theorem dX3_append_0 : decode cX3_append 0 = .ok (.aload_n 0, 1) := by decide +kernel
theorem dX3_append_1 : decode cX3_append 1 = .ok (.getfield 9, 3) := by decide +kernel
theorem dX3_append_4 : decode cX3_append 4 = .ok (.aload_n 0, 1) := by decide +kernel
theorem dX3_append_5 : decode cX3_append 5 = .ok (.getfield 23, 3) := by decide +kernel
theorem dX3_append_8 : decode cX3_append 8 = .ok (.iload_n 1, 1) := by decide +kernel
theorem dX3_append_9 : decode cX3_append 9 = .ok (.iastore, 1) := by decide +kernel
theorem dX3_append_10 : decode cX3_append 10 = .ok (.aload_n 0, 1) := by decide +kernel
theorem dX3_append_11 : decode cX3_append 11 = .ok (.getfield 15, 3) := by decide +kernel
theorem dX3_append_14 : decode cX3_append 14 = .ok (.aload_n 0, 1) := by decide +kernel
theorem dX3_append_15 : decode cX3_append 15 = .ok (.getfield 23, 3) := by decide +kernel
theorem dX3_append_18 : decode cX3_append 18 = .ok (.iconst 0, 1) := by decide +kernel
theorem dX3_append_19 : decode cX3_append 19 = .ok (.iastore, 1) := by decide +kernel
theorem dX3_append_20 : decode cX3_append 20 = .ok (.aload_n 0, 1) := by decide +kernel
theorem dX3_append_21 : decode cX3_append 21 = .ok (.dup, 1) := by decide +kernel
theorem dX3_append_22 : decode cX3_append 22 = .ok (.getfield 23, 3) := by decide +kernel
theorem dX3_append_25 : decode cX3_append 25 = .ok (.iconst 1, 1) := by decide +kernel
theorem dX3_append_26 : decode cX3_append 26 = .ok (.iadd, 1) := by decide +kernel
theorem dX3_append_27 : decode cX3_append 27 = .ok (.putfield 23, 3) := by decide +kernel
theorem dX3_append_30 : decode cX3_append 30 = .ok (.aload_n 0, 1) := by decide +kernel
theorem dX3_append_31 : decode cX3_append 31 = .ok (.getfield 23, 3) := by decide +kernel
theorem dX3_append_34 : decode cX3_append 34 = .ok (.iconst 1, 1) := by decide +kernel
theorem dX3_append_35 : decode cX3_append 35 = .ok (.isub, 1) := by decide +kernel
theorem dX3_append_36 : decode cX3_append 36 = .ok (.ireturn, 1) := by decide +kernel
theorem dX3_forget_0 : decode cX3_forget 0 = .ok (.aload_n 0, 1) := by decide +kernel
theorem dX3_forget_1 : decode cX3_forget 1 = .ok (.getfield 15, 3) := by decide +kernel
theorem dX3_forget_4 : decode cX3_forget 4 = .ok (.iconst 0, 1) := by decide +kernel
theorem dX3_forget_5 : decode cX3_forget 5 = .ok (.invokestatic 33, 3) := by decide +kernel
theorem dX3_forget_8 : decode cX3_forget 8 = .ok (.return_, 1) := by decide +kernel
theorem dX3_look_0 : decode cX3_look 0 = .ok (.iconst 0, 1) := by decide +kernel
theorem dX3_look_1 : decode cX3_look 1 = .ok (.istore_n 2, 1) := by decide +kernel
theorem dX3_look_2 : decode cX3_look 2 = .ok (.iload_n 2, 1) := by decide +kernel
theorem dX3_look_3 : decode cX3_look 3 = .ok (.aload_n 0, 1) := by decide +kernel
theorem dX3_look_4 : decode cX3_look 4 = .ok (.getfield 23, 3) := by decide +kernel
theorem dX3_look_7 : decode cX3_look 7 = .ok (.if_icmp .ge 63, 3) := by decide +kernel
theorem dX3_look_10 : decode cX3_look 10 = .ok (.aload_n 0, 1) := by decide +kernel
theorem dX3_look_11 : decode cX3_look 11 = .ok (.getfield 20, 3) := by decide +kernel
theorem dX3_look_14 : decode cX3_look 14 = .ok (.iload_n 2, 1) := by decide +kernel
theorem dX3_look_15 : decode cX3_look 15 = .ok (.aaload, 1) := by decide +kernel
theorem dX3_look_16 : decode cX3_look 16 = .ok (.iconst 0, 1) := by decide +kernel
theorem dX3_look_17 : decode cX3_look 17 = .ok (.aload_n 0, 1) := by decide +kernel
theorem dX3_look_18 : decode cX3_look 18 = .ok (.getfield 20, 3) := by decide +kernel
theorem dX3_look_21 : decode cX3_look 21 = .ok (.iload_n 2, 1) := by decide +kernel
theorem dX3_look_22 : decode cX3_look 22 = .ok (.aaload, 1) := by decide +kernel
theorem dX3_look_23 : decode cX3_look 23 = .ok (.iconst 1, 1) := by decide +kernel
theorem dX3_look_24 : decode cX3_look 24 = .ok (.bipush 23, 2) := by decide +kernel
theorem dX3_look_26 : decode cX3_look 26 = .ok (.invokestatic 27, 3) := by decide +kernel
theorem dX3_look_29 : decode cX3_look 29 = .ok (.aload_n 0, 1) := by decide +kernel
theorem dX3_look_30 : decode cX3_look 30 = .ok (.getfield 20, 3) := by decide +kernel
theorem dX3_look_33 : decode cX3_look 33 = .ok (.iload_n 2, 1) := by decide +kernel
theorem dX3_look_34 : decode cX3_look 34 = .ok (.aaload, 1) := by decide +kernel
theorem dX3_look_35 : decode cX3_look 35 = .ok (.iconst 0, 1) := by decide +kernel
theorem dX3_look_36 : decode cX3_look 36 = .ok (.aload_n 1, 1) := by decide +kernel
theorem dX3_look_37 : decode cX3_look 37 = .ok (.aload_n 0, 1) := by decide +kernel
theorem dX3_look_38 : decode cX3_look 38 = .ok (.getfield 9, 3) := by decide +kernel
theorem dX3_look_41 : decode cX3_look 41 = .ok (.iload_n 2, 1) := by decide +kernel
theorem dX3_look_42 : decode cX3_look 42 = .ok (.iaload, 1) := by decide +kernel
theorem dX3_look_43 : decode cX3_look 43 = .ok (.iaload, 1) := by decide +kernel
theorem dX3_look_44 : decode cX3_look 44 = .ok (.iastore, 1) := by decide +kernel
theorem dX3_look_45 : decode cX3_look 45 = .ok (.aload_n 0, 1) := by decide +kernel
theorem dX3_look_46 : decode cX3_look 46 = .ok (.getfield 15, 3) := by decide +kernel
theorem dX3_look_49 : decode cX3_look 49 = .ok (.iload_n 2, 1) := by decide +kernel
theorem dX3_look_50 : decode cX3_look 50 = .ok (.aload_n 0, 1) := by decide +kernel
theorem dX3_look_51 : decode cX3_look 51 = .ok (.getfield 15, 3) := by decide +kernel
theorem dX3_look_54 : decode cX3_look 54 = .ok (.iload_n 2, 1) := by decide +kernel
theorem dX3_look_55 : decode cX3_look 55 = .ok (.iaload, 1) := by decide +kernel
theorem dX3_look_56 : decode cX3_look 56 = .ok (.iconst 1, 1) := by decide +kernel
theorem dX3_look_57 : decode cX3_look 57 = .ok (.iadd, 1) := by decide +kernel
theorem dX3_look_58 : decode cX3_look 58 = .ok (.bipush 24, 2) := by decide +kernel
theorem dX3_look_60 : decode cX3_look 60 = .ok (.invokestatic 39, 3) := by decide +kernel
theorem dX3_look_63 : decode cX3_look 63 = .ok (.iastore, 1) := by decide +kernel
theorem dX3_look_64 : decode cX3_look 64 = .ok (.iinc 2 1, 3) := by decide +kernel
theorem dX3_look_67 : decode cX3_look 67 = .ok (.goto (-65), 3) := by decide +kernel
theorem dX3_look_70 : decode cX3_look 70 = .ok (.return_, 1) := by decide +kernel
theorem dX3_greatestOf_0 : decode cX3_greatestOf 0 = .ok (.aload_n 0, 1) := by decide +kernel
theorem dX3_greatestOf_1 : decode cX3_greatestOf 1 = .ok (.getfield 20, 3) := by decide +kernel
theorem dX3_greatestOf_4 : decode cX3_greatestOf 4 = .ok (.iload_n 1, 1) := by decide +kernel
theorem dX3_greatestOf_5 : decode cX3_greatestOf 5 = .ok (.aaload, 1) := by decide +kernel
theorem dX3_greatestOf_6 : decode cX3_greatestOf 6 = .ok (.iconst 0, 1) := by decide +kernel
theorem dX3_greatestOf_7 : decode cX3_greatestOf 7 = .ok (.iaload, 1) := by decide +kernel
theorem dX3_greatestOf_8 : decode cX3_greatestOf 8 = .ok (.istore_n 2, 1) := by decide +kernel
theorem dX3_greatestOf_9 : decode cX3_greatestOf 9 = .ok (.iconst 1, 1) := by decide +kernel
theorem dX3_greatestOf_10 : decode cX3_greatestOf 10 = .ok (.istore_n 3, 1) := by decide +kernel
theorem dX3_greatestOf_11 : decode cX3_greatestOf 11 = .ok (.iload_n 3, 1) := by decide +kernel
theorem dX3_greatestOf_12 : decode cX3_greatestOf 12 = .ok (.aload_n 0, 1) := by decide +kernel
theorem dX3_greatestOf_13 : decode cX3_greatestOf 13 = .ok (.getfield 15, 3) := by decide +kernel
theorem dX3_greatestOf_16 : decode cX3_greatestOf 16 = .ok (.iload_n 1, 1) := by decide +kernel
theorem dX3_greatestOf_17 : decode cX3_greatestOf 17 = .ok (.iaload, 1) := by decide +kernel
theorem dX3_greatestOf_18 : decode cX3_greatestOf 18 = .ok (.if_icmp .ge 22, 3) := by decide +kernel
theorem dX3_greatestOf_21 : decode cX3_greatestOf 21 = .ok (.iload_n 2, 1) := by decide +kernel
theorem dX3_greatestOf_22 : decode cX3_greatestOf 22 = .ok (.aload_n 0, 1) := by decide +kernel
theorem dX3_greatestOf_23 : decode cX3_greatestOf 23 = .ok (.getfield 20, 3) := by decide +kernel
theorem dX3_greatestOf_26 : decode cX3_greatestOf 26 = .ok (.iload_n 1, 1) := by decide +kernel
theorem dX3_greatestOf_27 : decode cX3_greatestOf 27 = .ok (.aaload, 1) := by decide +kernel
theorem dX3_greatestOf_28 : decode cX3_greatestOf 28 = .ok (.iload_n 3, 1) := by decide +kernel
theorem dX3_greatestOf_29 : decode cX3_greatestOf 29 = .ok (.iaload, 1) := by decide +kernel
theorem dX3_greatestOf_30 : decode cX3_greatestOf 30 = .ok (.invokestatic 45, 3) := by decide +kernel
theorem dX3_greatestOf_33 : decode cX3_greatestOf 33 = .ok (.istore_n 2, 1) := by decide +kernel
theorem dX3_greatestOf_34 : decode cX3_greatestOf 34 = .ok (.iinc 3 1, 3) := by decide +kernel
theorem dX3_greatestOf_37 : decode cX3_greatestOf 37 = .ok (.goto (-26), 3) := by decide +kernel
theorem dX3_greatestOf_40 : decode cX3_greatestOf 40 = .ok (.iload_n 2, 1) := by decide +kernel
theorem dX3_greatestOf_41 : decode cX3_greatestOf 41 = .ok (.ireturn, 1) := by decide +kernel
theorem dX3_beatOf_0 : decode cX3_beatOf 0 = .ok (.aload_n 0, 1) := by decide +kernel
theorem dX3_beatOf_1 : decode cX3_beatOf 1 = .ok (.getfield 15, 3) := by decide +kernel
theorem dX3_beatOf_4 : decode cX3_beatOf 4 = .ok (.iload_n 1, 1) := by decide +kernel
theorem dX3_beatOf_5 : decode cX3_beatOf 5 = .ok (.iaload, 1) := by decide +kernel
theorem dX3_beatOf_6 : decode cX3_beatOf 6 = .ok (.bipush 24, 2) := by decide +kernel
theorem dX3_beatOf_8 : decode cX3_beatOf 8 = .ok (.if_icmp .ge 6, 3) := by decide +kernel
theorem dX3_beatOf_11 : decode cX3_beatOf 11 = .ok (.bipush (-6), 2) := by decide +kernel
theorem dX3_beatOf_13 : decode cX3_beatOf 13 = .ok (.ireturn, 1) := by decide +kernel
theorem dX3_beatOf_14 : decode cX3_beatOf 14 = .ok (.iconst 2, 1) := by decide +kernel
theorem dX3_beatOf_15 : decode cX3_beatOf 15 = .ok (.istore_n 2, 1) := by decide +kernel
theorem dX3_beatOf_16 : decode cX3_beatOf 16 = .ok (.aload_n 0, 1) := by decide +kernel
theorem dX3_beatOf_17 : decode cX3_beatOf 17 = .ok (.iload_n 1, 1) := by decide +kernel
theorem dX3_beatOf_18 : decode cX3_beatOf 18 = .ok (.iconst 2, 1) := by decide +kernel
theorem dX3_beatOf_19 : decode cX3_beatOf 19 = .ok (.invokevirtual 48, 3) := by decide +kernel
theorem dX3_beatOf_22 : decode cX3_beatOf 22 = .ok (.istore_n 3, 1) := by decide +kernel
theorem dX3_beatOf_23 : decode cX3_beatOf 23 = .ok (.iconst 3, 1) := by decide +kernel
theorem dX3_beatOf_24 : decode cX3_beatOf 24 = .ok (.istore 4, 2) := by decide +kernel
theorem dX3_beatOf_26 : decode cX3_beatOf 26 = .ok (.iload 4, 2) := by decide +kernel
theorem dX3_beatOf_28 : decode cX3_beatOf 28 = .ok (.bipush 12, 2) := by decide +kernel
theorem dX3_beatOf_30 : decode cX3_beatOf 30 = .ok (.if_icmp .gt 30, 3) := by decide +kernel
theorem dX3_beatOf_33 : decode cX3_beatOf 33 = .ok (.aload_n 0, 1) := by decide +kernel
theorem dX3_beatOf_34 : decode cX3_beatOf 34 = .ok (.iload_n 1, 1) := by decide +kernel
theorem dX3_beatOf_35 : decode cX3_beatOf 35 = .ok (.iload 4, 2) := by decide +kernel
theorem dX3_beatOf_37 : decode cX3_beatOf 37 = .ok (.invokevirtual 48, 3) := by decide +kernel
theorem dX3_beatOf_40 : decode cX3_beatOf 40 = .ok (.istore 5, 2) := by decide +kernel
theorem dX3_beatOf_42 : decode cX3_beatOf 42 = .ok (.iload 5, 2) := by decide +kernel
theorem dX3_beatOf_44 : decode cX3_beatOf 44 = .ok (.iload_n 3, 1) := by decide +kernel
theorem dX3_beatOf_45 : decode cX3_beatOf 45 = .ok (.if_icmp .ge 9, 3) := by decide +kernel
theorem dX3_beatOf_48 : decode cX3_beatOf 48 = .ok (.iload 4, 2) := by decide +kernel
theorem dX3_beatOf_50 : decode cX3_beatOf 50 = .ok (.istore_n 2, 1) := by decide +kernel
theorem dX3_beatOf_51 : decode cX3_beatOf 51 = .ok (.iload 5, 2) := by decide +kernel
theorem dX3_beatOf_53 : decode cX3_beatOf 53 = .ok (.istore_n 3, 1) := by decide +kernel
theorem dX3_beatOf_54 : decode cX3_beatOf 54 = .ok (.iinc 4 1, 3) := by decide +kernel
theorem dX3_beatOf_57 : decode cX3_beatOf 57 = .ok (.goto (-31), 3) := by decide +kernel
theorem dX3_beatOf_60 : decode cX3_beatOf 60 = .ok (.iload_n 2, 1) := by decide +kernel
theorem dX3_beatOf_61 : decode cX3_beatOf 61 = .ok (.ireturn, 1) := by decide +kernel
theorem dX3_differences_0 : decode cX3_differences 0 = .ok (.iconst 0, 1) := by decide +kernel
theorem dX3_differences_1 : decode cX3_differences 1 = .ok (.istore_n 3, 1) := by decide +kernel
theorem dX3_differences_2 : decode cX3_differences 2 = .ok (.iconst 0, 1) := by decide +kernel
theorem dX3_differences_3 : decode cX3_differences 3 = .ok (.istore 4, 2) := by decide +kernel
theorem dX3_differences_5 : decode cX3_differences 5 = .ok (.iload 4, 2) := by decide +kernel
theorem dX3_differences_7 : decode cX3_differences 7 = .ok (.bipush 12, 2) := by decide +kernel
theorem dX3_differences_9 : decode cX3_differences 9 = .ok (.if_icmp .ge 36, 3) := by decide +kernel
theorem dX3_differences_12 : decode cX3_differences 12 = .ok (.iload_n 3, 1) := by decide +kernel
theorem dX3_differences_13 : decode cX3_differences 13 = .ok (.aload_n 0, 1) := by decide +kernel
theorem dX3_differences_14 : decode cX3_differences 14 = .ok (.getfield 20, 3) := by decide +kernel
theorem dX3_differences_17 : decode cX3_differences 17 = .ok (.iload_n 1, 1) := by decide +kernel
theorem dX3_differences_18 : decode cX3_differences 18 = .ok (.aaload, 1) := by decide +kernel
theorem dX3_differences_19 : decode cX3_differences 19 = .ok (.iload 4, 2) := by decide +kernel
theorem dX3_differences_21 : decode cX3_differences 21 = .ok (.iaload, 1) := by decide +kernel
theorem dX3_differences_22 : decode cX3_differences 22 = .ok (.aload_n 0, 1) := by decide +kernel
theorem dX3_differences_23 : decode cX3_differences 23 = .ok (.getfield 20, 3) := by decide +kernel
theorem dX3_differences_26 : decode cX3_differences 26 = .ok (.iload_n 1, 1) := by decide +kernel
theorem dX3_differences_27 : decode cX3_differences 27 = .ok (.aaload, 1) := by decide +kernel
theorem dX3_differences_28 : decode cX3_differences 28 = .ok (.iload 4, 2) := by decide +kernel
theorem dX3_differences_30 : decode cX3_differences 30 = .ok (.iload_n 2, 1) := by decide +kernel
theorem dX3_differences_31 : decode cX3_differences 31 = .ok (.iadd, 1) := by decide +kernel
theorem dX3_differences_32 : decode cX3_differences 32 = .ok (.iaload, 1) := by decide +kernel
theorem dX3_differences_33 : decode cX3_differences 33 = .ok (.isub, 1) := by decide +kernel
theorem dX3_differences_34 : decode cX3_differences 34 = .ok (.invokestatic 51, 3) := by decide +kernel
theorem dX3_differences_37 : decode cX3_differences 37 = .ok (.iadd, 1) := by decide +kernel
theorem dX3_differences_38 : decode cX3_differences 38 = .ok (.istore_n 3, 1) := by decide +kernel
theorem dX3_differences_39 : decode cX3_differences 39 = .ok (.iinc 4 1, 3) := by decide +kernel
theorem dX3_differences_42 : decode cX3_differences 42 = .ok (.goto (-37), 3) := by decide +kernel
theorem dX3_differences_45 : decode cX3_differences 45 = .ok (.iload_n 3, 1) := by decide +kernel
theorem dX3_differences_46 : decode cX3_differences 46 = .ok (.ireturn, 1) := by decide +kernel
theorem dX4_init_0 : decode cX4_init 0 = .ok (.aload_n 0, 1) := by decide +kernel
theorem dX4_init_1 : decode cX4_init 1 = .ok (.invokespecial 3, 3) := by decide +kernel
theorem dX4_init_4 : decode cX4_init 4 = .ok (.aload_n 0, 1) := by decide +kernel
theorem dX4_init_5 : decode cX4_init 5 = .ok (.getstatic 9, 3) := by decide +kernel
theorem dX4_init_8 : decode cX4_init 8 = .ok (.invokevirtual 13, 3) := by decide +kernel
theorem dX4_init_11 : decode cX4_init 11 = .ok (.checkcast 14, 3) := by decide +kernel
theorem dX4_init_14 : decode cX4_init 14 = .ok (.putfield 18, 3) := by decide +kernel
theorem dX4_init_17 : decode cX4_init 17 = .ok (.aload_n 0, 1) := by decide +kernel
theorem dX4_init_18 : decode cX4_init 18 = .ok (.bipush 60, 2) := by decide +kernel
theorem dX4_init_20 : decode cX4_init 20 = .ok (.newarray .int, 2) := by decide +kernel
theorem dX4_init_22 : decode cX4_init 22 = .ok (.putfield 23, 3) := by decide +kernel
theorem dX4_init_25 : decode cX4_init 25 = .ok (.aload_n 0, 1) := by decide +kernel
theorem dX4_init_26 : decode cX4_init 26 = .ok (.bipush 60, 2) := by decide +kernel
theorem dX4_init_28 : decode cX4_init 28 = .ok (.newarray .int, 2) := by decide +kernel
theorem dX4_init_30 : decode cX4_init 30 = .ok (.putfield 26, 3) := by decide +kernel
