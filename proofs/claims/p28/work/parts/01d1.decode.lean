theorem dX4_step_83 : decode cX4_step 83 = .ok (.getfield 49, 3) := by decide +kernel
theorem dX4_step_86 : decode cX4_step 86 = .ok (.iconst 1, 1) := by decide +kernel
theorem dX4_step_87 : decode cX4_step 87 = .ok (.iadd, 1) := by decide +kernel
theorem dX4_step_88 : decode cX4_step 88 = .ok (.putfield 49, 3) := by decide +kernel
theorem dX4_step_91 : decode cX4_step 91 = .ok (.return_, 1) := by decide +kernel
theorem dX4_nextHeight_0 : decode cX4_nextHeight 0 = .ok (.aload_n 0, 1) := by decide +kernel
theorem dX4_nextHeight_1 : decode cX4_nextHeight 1 = .ok (.getfield 23, 3) := by decide +kernel
theorem dX4_nextHeight_4 : decode cX4_nextHeight 4 = .ok (.iload_n 1, 1) := by decide +kernel
theorem dX4_nextHeight_5 : decode cX4_nextHeight 5 = .ok (.iaload, 1) := by decide +kernel
theorem dX4_nextHeight_6 : decode cX4_nextHeight 6 = .ok (.istore_n 2, 1) := by decide +kernel
theorem dX4_nextHeight_7 : decode cX4_nextHeight 7 = .ok (.iload_n 2, 1) := by decide +kernel
theorem dX4_nextHeight_8 : decode cX4_nextHeight 8 = .ok (.ifCond .ne 12, 3) := by decide +kernel
theorem dX4_nextHeight_11 : decode cX4_nextHeight 11 = .ok (.aload_n 0, 1) := by decide +kernel
theorem dX4_nextHeight_12 : decode cX4_nextHeight 12 = .ok (.getfield 18, 3) := by decide +kernel
theorem dX4_nextHeight_15 : decode cX4_nextHeight 15 = .ok (.iconst 1, 1) := by decide +kernel
theorem dX4_nextHeight_16 : decode cX4_nextHeight 16 = .ok (.iaload, 1) := by decide +kernel
theorem dX4_nextHeight_17 : decode cX4_nextHeight 17 = .ok (.goto 9, 3) := by decide +kernel
theorem dX4_nextHeight_20 : decode cX4_nextHeight 20 = .ok (.aload_n 0, 1) := by decide +kernel
theorem dX4_nextHeight_21 : decode cX4_nextHeight 21 = .ok (.getfield 18, 3) := by decide +kernel
theorem dX4_nextHeight_24 : decode cX4_nextHeight 24 = .ok (.iconst 2, 1) := by decide +kernel
theorem dX4_nextHeight_25 : decode cX4_nextHeight 25 = .ok (.iaload, 1) := by decide +kernel
theorem dX4_nextHeight_26 : decode cX4_nextHeight 26 = .ok (.istore_n 3, 1) := by decide +kernel
theorem dX4_nextHeight_27 : decode cX4_nextHeight 27 = .ok (.iconst 2, 1) := by decide +kernel
theorem dX4_nextHeight_28 : decode cX4_nextHeight 28 = .ok (.aload_n 0, 1) := by decide +kernel
theorem dX4_nextHeight_29 : decode cX4_nextHeight 29 = .ok (.getfield 26, 3) := by decide +kernel
theorem dX4_nextHeight_32 : decode cX4_nextHeight 32 = .ok (.iload_n 1, 1) := by decide +kernel
theorem dX4_nextHeight_33 : decode cX4_nextHeight 33 = .ok (.iaload, 1) := by decide +kernel
theorem dX4_nextHeight_34 : decode cX4_nextHeight 34 = .ok (.imul, 1) := by decide +kernel
theorem dX4_nextHeight_35 : decode cX4_nextHeight 35 = .ok (.aload_n 0, 1) := by decide +kernel
theorem dX4_nextHeight_36 : decode cX4_nextHeight 36 = .ok (.getfield 29, 3) := by decide +kernel
theorem dX4_nextHeight_39 : decode cX4_nextHeight 39 = .ok (.iload_n 1, 1) := by decide +kernel
theorem dX4_nextHeight_40 : decode cX4_nextHeight 40 = .ok (.iaload, 1) := by decide +kernel
theorem dX4_nextHeight_41 : decode cX4_nextHeight 41 = .ok (.isub, 1) := by decide +kernel
theorem dX4_nextHeight_42 : decode cX4_nextHeight 42 = .ok (.aload_n 0, 1) := by decide +kernel
theorem dX4_nextHeight_43 : decode cX4_nextHeight 43 = .ok (.iload_n 1, 1) := by decide +kernel
theorem dX4_nextHeight_44 : decode cX4_nextHeight 44 = .ok (.invokevirtual 104, 3) := by decide +kernel
theorem dX4_nextHeight_47 : decode cX4_nextHeight 47 = .ok (.iload_n 3, 1) := by decide +kernel
theorem dX4_nextHeight_48 : decode cX4_nextHeight 48 = .ok (.imul, 1) := by decide +kernel
theorem dX4_nextHeight_49 : decode cX4_nextHeight 49 = .ok (.bipush 16, 2) := by decide +kernel
theorem dX4_nextHeight_51 : decode cX4_nextHeight 51 = .ok (.idiv, 1) := by decide +kernel
theorem dX4_nextHeight_52 : decode cX4_nextHeight 52 = .ok (.iadd, 1) := by decide +kernel
theorem dX4_nextHeight_53 : decode cX4_nextHeight 53 = .ok (.istore 4, 2) := by decide +kernel
theorem dX4_nextHeight_55 : decode cX4_nextHeight 55 = .ok (.iload 4, 2) := by decide +kernel
theorem dX4_nextHeight_57 : decode cX4_nextHeight 57 = .ok (.iload 4, 2) := by decide +kernel
theorem dX4_nextHeight_59 : decode cX4_nextHeight 59 = .ok (.aload_n 0, 1) := by decide +kernel
theorem dX4_nextHeight_60 : decode cX4_nextHeight 60 = .ok (.getfield 18, 3) := by decide +kernel
theorem dX4_nextHeight_63 : decode cX4_nextHeight 63 = .ok (.iconst 0, 1) := by decide +kernel
theorem dX4_nextHeight_64 : decode cX4_nextHeight 64 = .ok (.iaload, 1) := by decide +kernel
theorem dX4_nextHeight_65 : decode cX4_nextHeight 65 = .ok (.imul, 1) := by decide +kernel
theorem dX4_nextHeight_66 : decode cX4_nextHeight 66 = .ok (.sipush 1000, 3) := by decide +kernel
theorem dX4_nextHeight_69 : decode cX4_nextHeight 69 = .ok (.idiv, 1) := by decide +kernel
theorem dX4_nextHeight_70 : decode cX4_nextHeight 70 = .ok (.isub, 1) := by decide +kernel
theorem dX4_nextHeight_71 : decode cX4_nextHeight 71 = .ok (.istore 4, 2) := by decide +kernel
theorem dX4_nextHeight_73 : decode cX4_nextHeight 73 = .ok (.iload_n 2, 1) := by decide +kernel
theorem dX4_nextHeight_74 : decode cX4_nextHeight 74 = .ok (.iconst 3, 1) := by decide +kernel
theorem dX4_nextHeight_75 : decode cX4_nextHeight 75 = .ok (.if_icmp .ne 9, 3) := by decide +kernel
theorem dX4_nextHeight_78 : decode cX4_nextHeight 78 = .ok (.iload 4, 2) := by decide +kernel
theorem dX4_nextHeight_80 : decode cX4_nextHeight 80 = .ok (.iconst 2, 1) := by decide +kernel
theorem dX4_nextHeight_81 : decode cX4_nextHeight 81 = .ok (.idiv, 1) := by decide +kernel
theorem dX4_nextHeight_82 : decode cX4_nextHeight 82 = .ok (.istore 4, 2) := by decide +kernel
theorem dX4_nextHeight_84 : decode cX4_nextHeight 84 = .ok (.iload 4, 2) := by decide +kernel
theorem dX4_nextHeight_86 : decode cX4_nextHeight 86 = .ok (.invokestatic 107, 3) := by decide +kernel
theorem dX4_nextHeight_89 : decode cX4_nextHeight 89 = .ok (.ireturn, 1) := by decide +kernel
theorem dX4_keepFirsts_0 : decode cX4_keepFirsts 0 = .ok (.iconst 0, 1) := by decide +kernel
theorem dX4_keepFirsts_1 : decode cX4_keepFirsts 1 = .ok (.istore_n 1, 1) := by decide +kernel
theorem dX4_keepFirsts_2 : decode cX4_keepFirsts 2 = .ok (.iload_n 1, 1) := by decide +kernel
theorem dX4_keepFirsts_3 : decode cX4_keepFirsts 3 = .ok (.bipush 60, 2) := by decide +kernel
theorem dX4_keepFirsts_5 : decode cX4_keepFirsts 5 = .ok (.if_icmp .ge 44, 3) := by decide +kernel
theorem dX4_keepFirsts_8 : decode cX4_keepFirsts 8 = .ok (.aload_n 0, 1) := by decide +kernel
theorem dX4_keepFirsts_9 : decode cX4_keepFirsts 9 = .ok (.getfield 32, 3) := by decide +kernel
theorem dX4_keepFirsts_12 : decode cX4_keepFirsts 12 = .ok (.iload_n 1, 1) := by decide +kernel
theorem dX4_keepFirsts_13 : decode cX4_keepFirsts 13 = .ok (.iaload, 1) := by decide +kernel
theorem dX4_keepFirsts_14 : decode cX4_keepFirsts 14 = .ok (.bipush (-6), 2) := by decide +kernel
theorem dX4_keepFirsts_16 : decode cX4_keepFirsts 16 = .ok (.if_icmp .ne 27, 3) := by decide +kernel
theorem dX4_keepFirsts_19 : decode cX4_keepFirsts 19 = .ok (.aload_n 0, 1) := by decide +kernel
theorem dX4_keepFirsts_20 : decode cX4_keepFirsts 20 = .ok (.iload_n 1, 1) := by decide +kernel
theorem dX4_keepFirsts_21 : decode cX4_keepFirsts 21 = .ok (.invokevirtual 110, 3) := by decide +kernel
theorem dX4_keepFirsts_24 : decode cX4_keepFirsts 24 = .ok (.aload_n 0, 1) := by decide +kernel
theorem dX4_keepFirsts_25 : decode cX4_keepFirsts 25 = .ok (.getfield 18, 3) := by decide +kernel
theorem dX4_keepFirsts_28 : decode cX4_keepFirsts 28 = .ok (.iconst 3, 1) := by decide +kernel
theorem dX4_keepFirsts_29 : decode cX4_keepFirsts 29 = .ok (.iaload, 1) := by decide +kernel
theorem dX4_keepFirsts_30 : decode cX4_keepFirsts 30 = .ok (.if_icmp .le 13, 3) := by decide +kernel
theorem dX4_keepFirsts_33 : decode cX4_keepFirsts 33 = .ok (.aload_n 0, 1) := by decide +kernel
theorem dX4_keepFirsts_34 : decode cX4_keepFirsts 34 = .ok (.getfield 32, 3) := by decide +kernel
theorem dX4_keepFirsts_37 : decode cX4_keepFirsts 37 = .ok (.iload_n 1, 1) := by decide +kernel
theorem dX4_keepFirsts_38 : decode cX4_keepFirsts 38 = .ok (.aload_n 0, 1) := by decide +kernel
theorem dX4_keepFirsts_39 : decode cX4_keepFirsts 39 = .ok (.getfield 49, 3) := by decide +kernel
theorem dX4_keepFirsts_42 : decode cX4_keepFirsts 42 = .ok (.iastore, 1) := by decide +kernel
theorem dX4_keepFirsts_43 : decode cX4_keepFirsts 43 = .ok (.iinc 1 1, 3) := by decide +kernel
theorem dX4_keepFirsts_46 : decode cX4_keepFirsts 46 = .ok (.goto (-44), 3) := by decide +kernel
theorem dX4_keepFirsts_49 : decode cX4_keepFirsts 49 = .ok (.return_, 1) := by decide +kernel
theorem dX4_slopeAt_0 : decode cX4_slopeAt 0 = .ok (.aload_n 0, 1) := by decide +kernel
theorem dX4_slopeAt_1 : decode cX4_slopeAt 1 = .ok (.getfield 23, 3) := by decide +kernel
theorem dX4_slopeAt_4 : decode cX4_slopeAt 4 = .ok (.iload_n 1, 1) := by decide +kernel
theorem dX4_slopeAt_5 : decode cX4_slopeAt 5 = .ok (.iaload, 1) := by decide +kernel
theorem dX4_slopeAt_6 : decode cX4_slopeAt 6 = .ok (.iconst 2, 1) := by decide +kernel
theorem dX4_slopeAt_7 : decode cX4_slopeAt 7 = .ok (.if_icmp .ne 5, 3) := by decide +kernel
theorem dX4_slopeAt_10 : decode cX4_slopeAt 10 = .ok (.iconst 0, 1) := by decide +kernel
theorem dX4_slopeAt_11 : decode cX4_slopeAt 11 = .ok (.ireturn, 1) := by decide +kernel
theorem dX4_slopeAt_12 : decode cX4_slopeAt 12 = .ok (.iload_n 1, 1) := by decide +kernel
theorem dX4_slopeAt_13 : decode cX4_slopeAt 13 = .ok (.bipush 10, 2) := by decide +kernel
theorem dX4_slopeAt_15 : decode cX4_slopeAt 15 = .ok (.irem, 1) := by decide +kernel
theorem dX4_slopeAt_16 : decode cX4_slopeAt 16 = .ok (.istore_n 2, 1) := by decide +kernel
theorem dX4_slopeAt_17 : decode cX4_slopeAt 17 = .ok (.iload_n 1, 1) := by decide +kernel
theorem dX4_slopeAt_18 : decode cX4_slopeAt 18 = .ok (.bipush 10, 2) := by decide +kernel
theorem dX4_slopeAt_20 : decode cX4_slopeAt 20 = .ok (.idiv, 1) := by decide +kernel
theorem dX4_slopeAt_21 : decode cX4_slopeAt 21 = .ok (.istore_n 3, 1) := by decide +kernel
theorem dX4_slopeAt_22 : decode cX4_slopeAt 22 = .ok (.iload_n 2, 1) := by decide +kernel
theorem dX4_slopeAt_23 : decode cX4_slopeAt 23 = .ok (.ifCond .le 14, 3) := by decide +kernel
theorem dX4_slopeAt_26 : decode cX4_slopeAt 26 = .ok (.aload_n 0, 1) := by decide +kernel
theorem dX4_slopeAt_27 : decode cX4_slopeAt 27 = .ok (.iload_n 1, 1) := by decide +kernel
theorem dX4_slopeAt_28 : decode cX4_slopeAt 28 = .ok (.iload_n 1, 1) := by decide +kernel
theorem dX4_slopeAt_29 : decode cX4_slopeAt 29 = .ok (.iconst 1, 1) := by decide +kernel
theorem dX4_slopeAt_30 : decode cX4_slopeAt 30 = .ok (.isub, 1) := by decide +kernel
theorem dX4_slopeAt_31 : decode cX4_slopeAt 31 = .ok (.invokevirtual 113, 3) := by decide +kernel
theorem dX4_slopeAt_34 : decode cX4_slopeAt 34 = .ok (.goto 4, 3) := by decide +kernel
theorem dX4_slopeAt_37 : decode cX4_slopeAt 37 = .ok (.iconst 0, 1) := by decide +kernel
theorem dX4_slopeAt_38 : decode cX4_slopeAt 38 = .ok (.istore 4, 2) := by decide +kernel
theorem dX4_slopeAt_40 : decode cX4_slopeAt 40 = .ok (.iload 4, 2) := by decide +kernel
theorem dX4_slopeAt_42 : decode cX4_slopeAt 42 = .ok (.iload_n 2, 1) := by decide +kernel
theorem dX4_slopeAt_43 : decode cX4_slopeAt 43 = .ok (.bipush 9, 2) := by decide +kernel
theorem dX4_slopeAt_45 : decode cX4_slopeAt 45 = .ok (.if_icmp .ge 14, 3) := by decide +kernel
theorem dX4_slopeAt_48 : decode cX4_slopeAt 48 = .ok (.aload_n 0, 1) := by decide +kernel
theorem dX4_slopeAt_49 : decode cX4_slopeAt 49 = .ok (.iload_n 1, 1) := by decide +kernel
theorem dX4_slopeAt_50 : decode cX4_slopeAt 50 = .ok (.iload_n 1, 1) := by decide +kernel
theorem dX4_slopeAt_51 : decode cX4_slopeAt 51 = .ok (.iconst 1, 1) := by decide +kernel
theorem dX4_slopeAt_52 : decode cX4_slopeAt 52 = .ok (.iadd, 1) := by decide +kernel
theorem dX4_slopeAt_53 : decode cX4_slopeAt 53 = .ok (.invokevirtual 113, 3) := by decide +kernel
theorem dX4_slopeAt_56 : decode cX4_slopeAt 56 = .ok (.goto 4, 3) := by decide +kernel
theorem dX4_slopeAt_59 : decode cX4_slopeAt 59 = .ok (.iconst 0, 1) := by decide +kernel
theorem dX4_slopeAt_60 : decode cX4_slopeAt 60 = .ok (.iadd, 1) := by decide +kernel
theorem dX4_slopeAt_61 : decode cX4_slopeAt 61 = .ok (.istore 4, 2) := by decide +kernel
theorem dX4_slopeAt_63 : decode cX4_slopeAt 63 = .ok (.iload 4, 2) := by decide +kernel
theorem dX4_slopeAt_65 : decode cX4_slopeAt 65 = .ok (.iload_n 3, 1) := by decide +kernel
theorem dX4_slopeAt_66 : decode cX4_slopeAt 66 = .ok (.ifCond .le 15, 3) := by decide +kernel
theorem dX4_slopeAt_69 : decode cX4_slopeAt 69 = .ok (.aload_n 0, 1) := by decide +kernel
theorem dX4_slopeAt_70 : decode cX4_slopeAt 70 = .ok (.iload_n 1, 1) := by decide +kernel
theorem dX4_slopeAt_71 : decode cX4_slopeAt 71 = .ok (.iload_n 1, 1) := by decide +kernel
theorem dX4_slopeAt_72 : decode cX4_slopeAt 72 = .ok (.bipush 10, 2) := by decide +kernel
theorem dX4_slopeAt_74 : decode cX4_slopeAt 74 = .ok (.isub, 1) := by decide +kernel
theorem dX4_slopeAt_75 : decode cX4_slopeAt 75 = .ok (.invokevirtual 113, 3) := by decide +kernel
theorem dX4_slopeAt_78 : decode cX4_slopeAt 78 = .ok (.goto 4, 3) := by decide +kernel
theorem dX4_slopeAt_81 : decode cX4_slopeAt 81 = .ok (.iconst 0, 1) := by decide +kernel
theorem dX4_slopeAt_82 : decode cX4_slopeAt 82 = .ok (.iadd, 1) := by decide +kernel
theorem dX4_slopeAt_83 : decode cX4_slopeAt 83 = .ok (.istore 4, 2) := by decide +kernel
theorem dX4_slopeAt_85 : decode cX4_slopeAt 85 = .ok (.iload 4, 2) := by decide +kernel
theorem dX4_slopeAt_87 : decode cX4_slopeAt 87 = .ok (.iload_n 3, 1) := by decide +kernel
theorem dX4_slopeAt_88 : decode cX4_slopeAt 88 = .ok (.iconst 5, 1) := by decide +kernel
theorem dX4_slopeAt_89 : decode cX4_slopeAt 89 = .ok (.if_icmp .ge 15, 3) := by decide +kernel
theorem dX4_slopeAt_92 : decode cX4_slopeAt 92 = .ok (.aload_n 0, 1) := by decide +kernel
theorem dX4_slopeAt_93 : decode cX4_slopeAt 93 = .ok (.iload_n 1, 1) := by decide +kernel
theorem dX4_slopeAt_94 : decode cX4_slopeAt 94 = .ok (.iload_n 1, 1) := by decide +kernel
theorem dX4_slopeAt_95 : decode cX4_slopeAt 95 = .ok (.bipush 10, 2) := by decide +kernel
theorem dX4_slopeAt_97 : decode cX4_slopeAt 97 = .ok (.iadd, 1) := by decide +kernel
theorem dX4_slopeAt_98 : decode cX4_slopeAt 98 = .ok (.invokevirtual 113, 3) := by decide +kernel
theorem dX4_slopeAt_101 : decode cX4_slopeAt 101 = .ok (.goto 4, 3) := by decide +kernel
theorem dX4_slopeAt_104 : decode cX4_slopeAt 104 = .ok (.iconst 0, 1) := by decide +kernel
theorem dX4_slopeAt_105 : decode cX4_slopeAt 105 = .ok (.iadd, 1) := by decide +kernel
theorem dX4_slopeAt_106 : decode cX4_slopeAt 106 = .ok (.istore 4, 2) := by decide +kernel
theorem dX4_slopeAt_108 : decode cX4_slopeAt 108 = .ok (.iload 4, 2) := by decide +kernel
theorem dX4_slopeAt_110 : decode cX4_slopeAt 110 = .ok (.ireturn, 1) := by decide +kernel
theorem dX4_rise_0 : decode cX4_rise 0 = .ok (.aload_n 0, 1) := by decide +kernel
theorem dX4_rise_1 : decode cX4_rise 1 = .ok (.getfield 23, 3) := by decide +kernel
theorem dX4_rise_4 : decode cX4_rise 4 = .ok (.iload_n 2, 1) := by decide +kernel
theorem dX4_rise_5 : decode cX4_rise 5 = .ok (.iaload, 1) := by decide +kernel
theorem dX4_rise_6 : decode cX4_rise 6 = .ok (.iconst 2, 1) := by decide +kernel
theorem dX4_rise_7 : decode cX4_rise 7 = .ok (.if_icmp .ne 7, 3) := by decide +kernel
theorem dX4_rise_10 : decode cX4_rise 10 = .ok (.iconst 0, 1) := by decide +kernel
theorem dX4_rise_11 : decode cX4_rise 11 = .ok (.goto 16, 3) := by decide +kernel
theorem dX4_rise_14 : decode cX4_rise 14 = .ok (.aload_n 0, 1) := by decide +kernel
theorem dX4_rise_15 : decode cX4_rise 15 = .ok (.getfield 26, 3) := by decide +kernel
theorem dX4_rise_18 : decode cX4_rise 18 = .ok (.iload_n 2, 1) := by decide +kernel
theorem dX4_rise_19 : decode cX4_rise 19 = .ok (.iaload, 1) := by decide +kernel
theorem dX4_rise_20 : decode cX4_rise 20 = .ok (.aload_n 0, 1) := by decide +kernel
theorem dX4_rise_21 : decode cX4_rise 21 = .ok (.getfield 26, 3) := by decide +kernel
theorem dX4_rise_24 : decode cX4_rise 24 = .ok (.iload_n 1, 1) := by decide +kernel
theorem dX4_rise_25 : decode cX4_rise 25 = .ok (.iaload, 1) := by decide +kernel
theorem dX4_rise_26 : decode cX4_rise 26 = .ok (.isub, 1) := by decide +kernel
theorem dX4_rise_27 : decode cX4_rise 27 = .ok (.ireturn, 1) := by decide +kernel
theorem dX4_heightAt_0 : decode cX4_heightAt 0 = .ok (.iload_n 1, 1) := by decide +kernel
theorem dX4_heightAt_1 : decode cX4_heightAt 1 = .ok (.iload_n 2, 1) := by decide +kernel
theorem dX4_heightAt_2 : decode cX4_heightAt 2 = .ok (.invokestatic 117, 3) := by decide +kernel
theorem dX4_heightAt_5 : decode cX4_heightAt 5 = .ok (.ifCond .eq 16, 3) := by decide +kernel
theorem dX4_heightAt_8 : decode cX4_heightAt 8 = .ok (.aload_n 0, 1) := by decide +kernel
theorem dX4_heightAt_9 : decode cX4_heightAt 9 = .ok (.getfield 26, 3) := by decide +kernel
theorem dX4_heightAt_12 : decode cX4_heightAt 12 = .ok (.iload_n 1, 1) := by decide +kernel
theorem dX4_heightAt_13 : decode cX4_heightAt 13 = .ok (.iload_n 2, 1) := by decide +kernel
theorem dX4_heightAt_14 : decode cX4_heightAt 14 = .ok (.invokestatic 121, 3) := by decide +kernel
theorem dX4_heightAt_17 : decode cX4_heightAt 17 = .ok (.iaload, 1) := by decide +kernel
theorem dX4_heightAt_18 : decode cX4_heightAt 18 = .ok (.goto 4, 3) := by decide +kernel
theorem dX4_heightAt_21 : decode cX4_heightAt 21 = .ok (.iconst 0, 1) := by decide +kernel
theorem dX4_heightAt_22 : decode cX4_heightAt 22 = .ok (.ireturn, 1) := by decide +kernel
theorem dX4_loudnessOf_0 : decode cX4_loudnessOf 0 = .ok (.aload_n 0, 1) := by decide +kernel
theorem dX4_loudnessOf_1 : decode cX4_loudnessOf 1 = .ok (.getfield 26, 3) := by decide +kernel
theorem dX4_loudnessOf_4 : decode cX4_loudnessOf 4 = .ok (.iload_n 1, 1) := by decide +kernel
theorem dX4_loudnessOf_5 : decode cX4_loudnessOf 5 = .ok (.iaload, 1) := by decide +kernel
theorem dX4_loudnessOf_6 : decode cX4_loudnessOf 6 = .ok (.invokestatic 124, 3) := by decide +kernel
theorem dX4_loudnessOf_9 : decode cX4_loudnessOf 9 = .ok (.ireturn, 1) := by decide +kernel
theorem dX4_isStill_0 : decode cX4_isStill 0 = .ok (.aload_n 0, 1) := by decide +kernel
theorem dX4_isStill_1 : decode cX4_isStill 1 = .ok (.iload_n 1, 1) := by decide +kernel
theorem dX4_isStill_2 : decode cX4_isStill 2 = .ok (.invokevirtual 110, 3) := by decide +kernel
theorem dX4_isStill_5 : decode cX4_isStill 5 = .ok (.aload_n 0, 1) := by decide +kernel
theorem dX4_isStill_6 : decode cX4_isStill 6 = .ok (.getfield 18, 3) := by decide +kernel
theorem dX4_isStill_9 : decode cX4_isStill 9 = .ok (.iconst 3, 1) := by decide +kernel
theorem dX4_isStill_10 : decode cX4_isStill 10 = .ok (.iaload, 1) := by decide +kernel
theorem dX4_isStill_11 : decode cX4_isStill 11 = .ok (.if_icmp .gt 25, 3) := by decide +kernel
theorem dX4_isStill_14 : decode cX4_isStill 14 = .ok (.aload_n 0, 1) := by decide +kernel
theorem dX4_isStill_15 : decode cX4_isStill 15 = .ok (.getfield 29, 3) := by decide +kernel
theorem dX4_isStill_18 : decode cX4_isStill 18 = .ok (.iload_n 1, 1) := by decide +kernel
theorem dX4_isStill_19 : decode cX4_isStill 19 = .ok (.iaload, 1) := by decide +kernel
theorem dX4_isStill_20 : decode cX4_isStill 20 = .ok (.invokestatic 124, 3) := by decide +kernel
theorem dX4_isStill_23 : decode cX4_isStill 23 = .ok (.aload_n 0, 1) := by decide +kernel
theorem dX4_isStill_24 : decode cX4_isStill 24 = .ok (.getfield 18, 3) := by decide +kernel
theorem dX4_isStill_27 : decode cX4_isStill 27 = .ok (.iconst 3, 1) := by decide +kernel
theorem dX4_isStill_28 : decode cX4_isStill 28 = .ok (.iaload, 1) := by decide +kernel
theorem dX4_isStill_29 : decode cX4_isStill 29 = .ok (.if_icmp .gt 7, 3) := by decide +kernel
theorem dX4_isStill_32 : decode cX4_isStill 32 = .ok (.iconst 1, 1) := by decide +kernel
theorem dX4_isStill_33 : decode cX4_isStill 33 = .ok (.goto 4, 3) := by decide +kernel
theorem dX4_isStill_36 : decode cX4_isStill 36 = .ok (.iconst 0, 1) := by decide +kernel
theorem dX4_isStill_37 : decode cX4_isStill 37 = .ok (.ireturn, 1) := by decide +kernel
theorem dX4_isCrest_0 : decode cX4_isCrest 0 = .ok (.aload_n 0, 1) := by decide +kernel
theorem dX4_isCrest_1 : decode cX4_isCrest 1 = .ok (.iload_n 1, 1) := by decide +kernel
theorem dX4_isCrest_2 : decode cX4_isCrest 2 = .ok (.iload_n 2, 1) := by decide +kernel
theorem dX4_isCrest_3 : decode cX4_isCrest 3 = .ok (.invokevirtual 129, 3) := by decide +kernel
theorem dX4_isCrest_6 : decode cX4_isCrest 6 = .ok (.istore_n 3, 1) := by decide +kernel
theorem dX4_isCrest_7 : decode cX4_isCrest 7 = .ok (.iload_n 3, 1) := by decide +kernel
theorem dX4_isCrest_8 : decode cX4_isCrest 8 = .ok (.ifCond .le 31, 3) := by decide +kernel
theorem dX4_isCrest_11 : decode cX4_isCrest 11 = .ok (.iload_n 3, 1) := by decide +kernel
theorem dX4_isCrest_12 : decode cX4_isCrest 12 = .ok (.aload_n 0, 1) := by decide +kernel
theorem dX4_isCrest_13 : decode cX4_isCrest 13 = .ok (.iload_n 1, 1) := by decide +kernel
theorem dX4_isCrest_14 : decode cX4_isCrest 14 = .ok (.iconst 1, 1) := by decide +kernel
theorem dX4_isCrest_15 : decode cX4_isCrest 15 = .ok (.isub, 1) := by decide +kernel
theorem dX4_isCrest_16 : decode cX4_isCrest 16 = .ok (.iload_n 2, 1) := by decide +kernel
theorem dX4_isCrest_17 : decode cX4_isCrest 17 = .ok (.invokevirtual 129, 3) := by decide +kernel
theorem dX4_isCrest_20 : decode cX4_isCrest 20 = .ok (.if_icmp .le 19, 3) := by decide +kernel
theorem dX4_isCrest_23 : decode cX4_isCrest 23 = .ok (.iload_n 3, 1) := by decide +kernel
theorem dX4_isCrest_24 : decode cX4_isCrest 24 = .ok (.aload_n 0, 1) := by decide +kernel
theorem dX4_isCrest_25 : decode cX4_isCrest 25 = .ok (.iload_n 1, 1) := by decide +kernel
theorem dX4_isCrest_26 : decode cX4_isCrest 26 = .ok (.iconst 1, 1) := by decide +kernel
theorem dX4_isCrest_27 : decode cX4_isCrest 27 = .ok (.iadd, 1) := by decide +kernel
theorem dX4_isCrest_28 : decode cX4_isCrest 28 = .ok (.iload_n 2, 1) := by decide +kernel
theorem dX4_isCrest_29 : decode cX4_isCrest 29 = .ok (.invokevirtual 129, 3) := by decide +kernel
theorem dX4_isCrest_32 : decode cX4_isCrest 32 = .ok (.if_icmp .le 7, 3) := by decide +kernel
theorem dX4_isCrest_35 : decode cX4_isCrest 35 = .ok (.iconst 1, 1) := by decide +kernel
theorem dX4_isCrest_36 : decode cX4_isCrest 36 = .ok (.goto 4, 3) := by decide +kernel
theorem dX4_isCrest_39 : decode cX4_isCrest 39 = .ok (.iconst 0, 1) := by decide +kernel
theorem dX4_isCrest_40 : decode cX4_isCrest 40 = .ok (.ireturn, 1) := by decide +kernel
theorem dX4_openCells_0 : decode cX4_openCells 0 = .ok (.iconst 0, 1) := by decide +kernel
theorem dX4_openCells_1 : decode cX4_openCells 1 = .ok (.istore_n 1, 1) := by decide +kernel
theorem dX4_openCells_2 : decode cX4_openCells 2 = .ok (.iconst 0, 1) := by decide +kernel
theorem dX4_openCells_3 : decode cX4_openCells 3 = .ok (.istore_n 2, 1) := by decide +kernel
theorem dX4_openCells_4 : decode cX4_openCells 4 = .ok (.iload_n 2, 1) := by decide +kernel
theorem dX4_openCells_5 : decode cX4_openCells 5 = .ok (.bipush 60, 2) := by decide +kernel
theorem dX4_openCells_7 : decode cX4_openCells 7 = .ok (.if_icmp .ge 22, 3) := by decide +kernel
theorem dX4_openCells_10 : decode cX4_openCells 10 = .ok (.aload_n 0, 1) := by decide +kernel
theorem dX4_openCells_11 : decode cX4_openCells 11 = .ok (.getfield 23, 3) := by decide +kernel
theorem dX4_openCells_14 : decode cX4_openCells 14 = .ok (.iload_n 2, 1) := by decide +kernel
theorem dX4_openCells_15 : decode cX4_openCells 15 = .ok (.iaload, 1) := by decide +kernel
theorem dX4_openCells_16 : decode cX4_openCells 16 = .ok (.iconst 2, 1) := by decide +kernel
theorem dX4_openCells_17 : decode cX4_openCells 17 = .ok (.if_icmp .eq 6, 3) := by decide +kernel
theorem dX4_openCells_20 : decode cX4_openCells 20 = .ok (.iinc 1 1, 3) := by decide +kernel
theorem dX4_openCells_23 : decode cX4_openCells 23 = .ok (.iinc 2 1, 3) := by decide +kernel
theorem dX4_openCells_26 : decode cX4_openCells 26 = .ok (.goto (-22), 3) := by decide +kernel
theorem dX4_openCells_29 : decode cX4_openCells 29 = .ok (.iload_n 1, 1) := by decide +kernel
theorem dX4_openCells_30 : decode cX4_openCells 30 = .ok (.ireturn, 1) := by decide +kernel
theorem dX4_restlessCells_0 : decode cX4_restlessCells 0 = .ok (.iconst 0, 1) := by decide +kernel
theorem dX4_restlessCells_1 : decode cX4_restlessCells 1 = .ok (.istore_n 1, 1) := by decide +kernel
theorem dX4_restlessCells_2 : decode cX4_restlessCells 2 = .ok (.iconst 0, 1) := by decide +kernel
theorem dX4_restlessCells_3 : decode cX4_restlessCells 3 = .ok (.istore_n 2, 1) := by decide +kernel
theorem dX4_restlessCells_4 : decode cX4_restlessCells 4 = .ok (.iload_n 2, 1) := by decide +kernel
theorem dX4_restlessCells_5 : decode cX4_restlessCells 5 = .ok (.bipush 60, 2) := by decide +kernel
theorem dX4_restlessCells_7 : decode cX4_restlessCells 7 = .ok (.if_icmp .ge 30, 3) := by decide +kernel
theorem dX4_restlessCells_10 : decode cX4_restlessCells 10 = .ok (.aload_n 0, 1) := by decide +kernel
theorem dX4_restlessCells_11 : decode cX4_restlessCells 11 = .ok (.getfield 23, 3) := by decide +kernel
theorem dX4_restlessCells_14 : decode cX4_restlessCells 14 = .ok (.iload_n 2, 1) := by decide +kernel
theorem dX4_restlessCells_15 : decode cX4_restlessCells 15 = .ok (.iaload, 1) := by decide +kernel
theorem dX4_restlessCells_16 : decode cX4_restlessCells 16 = .ok (.iconst 2, 1) := by decide +kernel
theorem dX4_restlessCells_17 : decode cX4_restlessCells 17 = .ok (.if_icmp .eq 14, 3) := by decide +kernel
theorem dX4_restlessCells_20 : decode cX4_restlessCells 20 = .ok (.aload_n 0, 1) := by decide +kernel
theorem dX4_restlessCells_21 : decode cX4_restlessCells 21 = .ok (.iload_n 2, 1) := by decide +kernel
theorem dX4_restlessCells_22 : decode cX4_restlessCells 22 = .ok (.invokevirtual 132, 3) := by decide +kernel
theorem dX4_restlessCells_25 : decode cX4_restlessCells 25 = .ok (.ifCond .ne 6, 3) := by decide +kernel
theorem dX4_restlessCells_28 : decode cX4_restlessCells 28 = .ok (.iinc 1 1, 3) := by decide +kernel
theorem dX4_restlessCells_31 : decode cX4_restlessCells 31 = .ok (.iinc 2 1, 3) := by decide +kernel
theorem dX4_restlessCells_34 : decode cX4_restlessCells 34 = .ok (.goto (-30), 3) := by decide +kernel
theorem dX4_restlessCells_37 : decode cX4_restlessCells 37 = .ok (.iload_n 1, 1) := by decide +kernel
theorem dX4_restlessCells_38 : decode cX4_restlessCells 38 = .ok (.ireturn, 1) := by decide +kernel
theorem dX4_reachedCells_0 : decode cX4_reachedCells 0 = .ok (.iconst 0, 1) := by decide +kernel
theorem dX4_reachedCells_1 : decode cX4_reachedCells 1 = .ok (.istore_n 1, 1) := by decide +kernel
theorem dX4_reachedCells_2 : decode cX4_reachedCells 2 = .ok (.iconst 0, 1) := by decide +kernel
theorem dX4_reachedCells_3 : decode cX4_reachedCells 3 = .ok (.istore_n 2, 1) := by decide +kernel
theorem dX4_reachedCells_4 : decode cX4_reachedCells 4 = .ok (.iload_n 2, 1) := by decide +kernel
theorem dX4_reachedCells_5 : decode cX4_reachedCells 5 = .ok (.bipush 60, 2) := by decide +kernel
theorem dX4_reachedCells_7 : decode cX4_reachedCells 7 = .ok (.if_icmp .ge 23, 3) := by decide +kernel
theorem dX4_reachedCells_10 : decode cX4_reachedCells 10 = .ok (.aload_n 0, 1) := by decide +kernel
theorem dX4_reachedCells_11 : decode cX4_reachedCells 11 = .ok (.getfield 32, 3) := by decide +kernel
theorem dX4_reachedCells_14 : decode cX4_reachedCells 14 = .ok (.iload_n 2, 1) := by decide +kernel
theorem dX4_reachedCells_15 : decode cX4_reachedCells 15 = .ok (.iaload, 1) := by decide +kernel
theorem dX4_reachedCells_16 : decode cX4_reachedCells 16 = .ok (.bipush (-6), 2) := by decide +kernel
theorem dX4_reachedCells_18 : decode cX4_reachedCells 18 = .ok (.if_icmp .eq 6, 3) := by decide +kernel
theorem dX4_reachedCells_21 : decode cX4_reachedCells 21 = .ok (.iinc 1 1, 3) := by decide +kernel
theorem dX4_reachedCells_24 : decode cX4_reachedCells 24 = .ok (.iinc 2 1, 3) := by decide +kernel
theorem dX4_reachedCells_27 : decode cX4_reachedCells 27 = .ok (.goto (-23), 3) := by decide +kernel
theorem dX4_reachedCells_30 : decode cX4_reachedCells 30 = .ok (.iload_n 1, 1) := by decide +kernel
theorem dX4_reachedCells_31 : decode cX4_reachedCells 31 = .ok (.ireturn, 1) := by decide +kernel
theorem dX4_sum_0 : decode cX4_sum 0 = .ok (.iconst 0, 1) := by decide +kernel
theorem dX4_sum_1 : decode cX4_sum 1 = .ok (.istore_n 1, 1) := by decide +kernel
theorem dX4_sum_2 : decode cX4_sum 2 = .ok (.iconst 0, 1) := by decide +kernel
theorem dX4_sum_3 : decode cX4_sum 3 = .ok (.istore_n 2, 1) := by decide +kernel
theorem dX4_sum_4 : decode cX4_sum 4 = .ok (.iload_n 2, 1) := by decide +kernel
theorem dX4_sum_5 : decode cX4_sum 5 = .ok (.bipush 60, 2) := by decide +kernel
theorem dX4_sum_7 : decode cX4_sum 7 = .ok (.if_icmp .ge 18, 3) := by decide +kernel
theorem dX4_sum_10 : decode cX4_sum 10 = .ok (.iload_n 1, 1) := by decide +kernel
theorem dX4_sum_11 : decode cX4_sum 11 = .ok (.aload_n 0, 1) := by decide +kernel
theorem dX4_sum_12 : decode cX4_sum 12 = .ok (.getfield 26, 3) := by decide +kernel
theorem dX4_sum_15 : decode cX4_sum 15 = .ok (.iload_n 2, 1) := by decide +kernel
theorem dX4_sum_16 : decode cX4_sum 16 = .ok (.iaload, 1) := by decide +kernel
theorem dX4_sum_17 : decode cX4_sum 17 = .ok (.iadd, 1) := by decide +kernel
theorem dX4_sum_18 : decode cX4_sum 18 = .ok (.istore_n 1, 1) := by decide +kernel
theorem dX4_sum_19 : decode cX4_sum 19 = .ok (.iinc 2 1, 3) := by decide +kernel
theorem dX4_sum_22 : decode cX4_sum 22 = .ok (.goto (-18), 3) := by decide +kernel
theorem dX4_sum_25 : decode cX4_sum 25 = .ok (.iload_n 1, 1) := by decide +kernel
theorem dX4_sum_26 : decode cX4_sum 26 = .ok (.ireturn, 1) := by decide +kernel
theorem dX4_loudness_0 : decode cX4_loudness 0 = .ok (.iconst 0, 1) := by decide +kernel
theorem dX4_loudness_1 : decode cX4_loudness 1 = .ok (.istore_n 1, 1) := by decide +kernel
theorem dX4_loudness_2 : decode cX4_loudness 2 = .ok (.iconst 0, 1) := by decide +kernel
theorem dX4_loudness_3 : decode cX4_loudness 3 = .ok (.istore_n 2, 1) := by decide +kernel
theorem dX4_loudness_4 : decode cX4_loudness 4 = .ok (.iload_n 2, 1) := by decide +kernel
theorem dX4_loudness_5 : decode cX4_loudness 5 = .ok (.bipush 60, 2) := by decide +kernel
theorem dX4_loudness_7 : decode cX4_loudness 7 = .ok (.if_icmp .ge 17, 3) := by decide +kernel
theorem dX4_loudness_10 : decode cX4_loudness 10 = .ok (.iload_n 1, 1) := by decide +kernel
theorem dX4_loudness_11 : decode cX4_loudness 11 = .ok (.aload_n 0, 1) := by decide +kernel
theorem dX4_loudness_12 : decode cX4_loudness 12 = .ok (.iload_n 2, 1) := by decide +kernel
theorem dX4_loudness_13 : decode cX4_loudness 13 = .ok (.invokevirtual 110, 3) := by decide +kernel
theorem dX4_loudness_16 : decode cX4_loudness 16 = .ok (.iadd, 1) := by decide +kernel
theorem dX4_loudness_17 : decode cX4_loudness 17 = .ok (.istore_n 1, 1) := by decide +kernel
theorem dX4_loudness_18 : decode cX4_loudness 18 = .ok (.iinc 2 1, 3) := by decide +kernel
theorem dX4_loudness_21 : decode cX4_loudness 21 = .ok (.goto (-17), 3) := by decide +kernel
theorem dX4_loudness_24 : decode cX4_loudness 24 = .ok (.iload_n 1, 1) := by decide +kernel
theorem dX4_loudness_25 : decode cX4_loudness 25 = .ok (.ireturn, 1) := by decide +kernel
theorem dX4_loudestCell_0 : decode cX4_loudestCell 0 = .ok (.iconst 0, 1) := by decide +kernel
theorem dX4_loudestCell_1 : decode cX4_loudestCell 1 = .ok (.istore_n 1, 1) := by decide +kernel
theorem dX4_loudestCell_2 : decode cX4_loudestCell 2 = .ok (.iconst 1, 1) := by decide +kernel
theorem dX4_loudestCell_3 : decode cX4_loudestCell 3 = .ok (.istore_n 2, 1) := by decide +kernel
theorem dX4_loudestCell_4 : decode cX4_loudestCell 4 = .ok (.iload_n 2, 1) := by decide +kernel
theorem dX4_loudestCell_5 : decode cX4_loudestCell 5 = .ok (.bipush 60, 2) := by decide +kernel
theorem dX4_loudestCell_7 : decode cX4_loudestCell 7 = .ok (.if_icmp .ge 24, 3) := by decide +kernel
theorem dX4_loudestCell_10 : decode cX4_loudestCell 10 = .ok (.aload_n 0, 1) := by decide +kernel
theorem dX4_loudestCell_11 : decode cX4_loudestCell 11 = .ok (.iload_n 2, 1) := by decide +kernel
theorem dX4_loudestCell_12 : decode cX4_loudestCell 12 = .ok (.invokevirtual 110, 3) := by decide +kernel
theorem dX4_loudestCell_15 : decode cX4_loudestCell 15 = .ok (.aload_n 0, 1) := by decide +kernel
theorem dX4_loudestCell_16 : decode cX4_loudestCell 16 = .ok (.iload_n 1, 1) := by decide +kernel
theorem dX4_loudestCell_17 : decode cX4_loudestCell 17 = .ok (.invokevirtual 110, 3) := by decide +kernel
theorem dX4_loudestCell_20 : decode cX4_loudestCell 20 = .ok (.if_icmp .le 5, 3) := by decide +kernel
theorem dX4_loudestCell_23 : decode cX4_loudestCell 23 = .ok (.iload_n 2, 1) := by decide +kernel
theorem dX4_loudestCell_24 : decode cX4_loudestCell 24 = .ok (.istore_n 1, 1) := by decide +kernel
theorem dX4_loudestCell_25 : decode cX4_loudestCell 25 = .ok (.iinc 2 1, 3) := by decide +kernel
theorem dX4_loudestCell_28 : decode cX4_loudestCell 28 = .ok (.goto (-24), 3) := by decide +kernel
theorem dX4_loudestCell_31 : decode cX4_loudestCell 31 = .ok (.iload_n 1, 1) := by decide +kernel
theorem dX4_loudestCell_32 : decode cX4_loudestCell 32 = .ok (.ireturn, 1) := by decide +kernel
theorem dX5_init_0 : decode cX5_init 0 = .ok (.aload_n 0, 1) := by decide +kernel
theorem dX5_init_1 : decode cX5_init 1 = .ok (.invokespecial 3, 3) := by decide +kernel
theorem dX5_init_4 : decode cX5_init 4 = .ok (.aload_n 0, 1) := by decide +kernel
theorem dX5_init_5 : decode cX5_init 5 = .ok (.new 9, 3) := by decide +kernel
theorem dX5_init_8 : decode cX5_init 8 = .ok (.dup, 1) := by decide +kernel
theorem dX5_init_9 : decode cX5_init 9 = .ok (.invokespecial 11, 3) := by decide +kernel
theorem dX5_init_12 : decode cX5_init 12 = .ok (.putfield 12, 3) := by decide +kernel
theorem dX5_init_15 : decode cX5_init 15 = .ok (.aload_n 0, 1) := by decide +kernel
theorem dX5_init_16 : decode cX5_init 16 = .ok (.new 9, 3) := by decide +kernel
theorem dX5_init_19 : decode cX5_init 19 = .ok (.dup, 1) := by decide +kernel
theorem dX5_init_20 : decode cX5_init 20 = .ok (.invokespecial 11, 3) := by decide +kernel
theorem dX5_init_23 : decode cX5_init 23 = .ok (.putfield 16, 3) := by decide +kernel
theorem dX5_init_26 : decode cX5_init 26 = .ok (.aload_n 0, 1) := by decide +kernel
theorem dX5_init_27 : decode cX5_init 27 = .ok (.new 19, 3) := by decide +kernel
theorem dX5_init_30 : decode cX5_init 30 = .ok (.dup, 1) := by decide +kernel
theorem dX5_init_31 : decode cX5_init 31 = .ok (.invokespecial 21, 3) := by decide +kernel
theorem dX5_init_34 : decode cX5_init 34 = .ok (.putfield 22, 3) := by decide +kernel
theorem dX5_init_37 : decode cX5_init 37 = .ok (.aload_n 0, 1) := by decide +kernel
theorem dX5_init_38 : decode cX5_init 38 = .ok (.iconst 2, 1) := by decide +kernel
theorem dX5_init_39 : decode cX5_init 39 = .ok (.anewarray 9, 3) := by decide +kernel
theorem dX5_init_42 : decode cX5_init 42 = .ok (.putfield 26, 3) := by decide +kernel
theorem dX5_init_45 : decode cX5_init 45 = .ok (.aload_n 0, 1) := by decide +kernel
theorem dX5_init_46 : decode cX5_init 46 = .ok (.iconst 2, 1) := by decide +kernel
theorem dX5_init_47 : decode cX5_init 47 = .ok (.newarray .boolean, 2) := by decide +kernel
theorem dX5_init_49 : decode cX5_init 49 = .ok (.putfield 30, 3) := by decide +kernel
theorem dX5_init_52 : decode cX5_init 52 = .ok (.aload_n 0, 1) := by decide +kernel
theorem dX5_init_53 : decode cX5_init 53 = .ok (.new 34, 3) := by decide +kernel
theorem dX5_init_56 : decode cX5_init 56 = .ok (.dup, 1) := by decide +kernel
theorem dX5_init_57 : decode cX5_init 57 = .ok (.invokespecial 36, 3) := by decide +kernel
theorem dX5_init_60 : decode cX5_init 60 = .ok (.putfield 37, 3) := by decide +kernel
theorem dX5_init_63 : decode cX5_init 63 = .ok (.iconst 0, 1) := by decide +kernel
theorem dX5_init_64 : decode cX5_init 64 = .ok (.istore_n 1, 1) := by decide +kernel
theorem dX5_init_65 : decode cX5_init 65 = .ok (.iload_n 1, 1) := by decide +kernel
theorem dX5_init_66 : decode cX5_init 66 = .ok (.iconst 2, 1) := by decide +kernel
theorem dX5_init_67 : decode cX5_init 67 = .ok (.if_icmp .ge 22, 3) := by decide +kernel
theorem dX5_init_70 : decode cX5_init 70 = .ok (.aload_n 0, 1) := by decide +kernel
theorem dX5_init_71 : decode cX5_init 71 = .ok (.getfield 26, 3) := by decide +kernel
theorem dX5_init_74 : decode cX5_init 74 = .ok (.iload_n 1, 1) := by decide +kernel
theorem dX5_init_75 : decode cX5_init 75 = .ok (.new 9, 3) := by decide +kernel
theorem dX5_init_78 : decode cX5_init 78 = .ok (.dup, 1) := by decide +kernel
theorem dX5_init_79 : decode cX5_init 79 = .ok (.invokespecial 11, 3) := by decide +kernel
theorem dX5_init_82 : decode cX5_init 82 = .ok (.aastore, 1) := by decide +kernel
theorem dX5_init_83 : decode cX5_init 83 = .ok (.iinc 1 1, 3) := by decide +kernel
theorem dX5_init_86 : decode cX5_init 86 = .ok (.goto (-21), 3) := by decide +kernel
theorem dX5_init_89 : decode cX5_init 89 = .ok (.return_, 1) := by decide +kernel
theorem dX5_set_0 : decode cX5_set 0 = .ok (.iload_n 1, 1) := by decide +kernel
theorem dX5_set_1 : decode cX5_set 1 = .ok (.ifCond .lt 8, 3) := by decide +kernel
theorem dX5_set_4 : decode cX5_set 4 = .ok (.iload_n 1, 1) := by decide +kernel
theorem dX5_set_5 : decode cX5_set 5 = .ok (.iconst 4, 1) := by decide +kernel
theorem dX5_set_6 : decode cX5_set 6 = .ok (.if_icmp .lt 6, 3) := by decide +kernel
theorem dX5_set_9 : decode cX5_set 9 = .ok (.bipush (-2), 2) := by decide +kernel
theorem dX5_set_11 : decode cX5_set 11 = .ok (.ireturn, 1) := by decide +kernel
theorem dX5_set_12 : decode cX5_set 12 = .ok (.iload_n 2, 1) := by decide +kernel
theorem dX5_set_13 : decode cX5_set 13 = .ok (.getstatic 41, 3) := by decide +kernel
theorem dX5_set_16 : decode cX5_set 16 = .ok (.iload_n 1, 1) := by decide +kernel
theorem dX5_set_17 : decode cX5_set 17 = .ok (.iaload, 1) := by decide +kernel
theorem dX5_set_18 : decode cX5_set 18 = .ok (.if_icmp .lt 12, 3) := by decide +kernel
theorem dX5_set_21 : decode cX5_set 21 = .ok (.iload_n 2, 1) := by decide +kernel
theorem dX5_set_22 : decode cX5_set 22 = .ok (.getstatic 45, 3) := by decide +kernel
theorem dX5_set_25 : decode cX5_set 25 = .ok (.iload_n 1, 1) := by decide +kernel
theorem dX5_set_26 : decode cX5_set 26 = .ok (.iaload, 1) := by decide +kernel
theorem dX5_set_27 : decode cX5_set 27 = .ok (.if_icmp .le 6, 3) := by decide +kernel
theorem dX5_set_30 : decode cX5_set 30 = .ok (.bipush (-2), 2) := by decide +kernel
theorem dX5_set_32 : decode cX5_set 32 = .ok (.ireturn, 1) := by decide +kernel
theorem dX5_set_33 : decode cX5_set 33 = .ok (.aload_n 0, 1) := by decide +kernel
theorem dX5_set_34 : decode cX5_set 34 = .ok (.getfield 22, 3) := by decide +kernel
theorem dX5_set_37 : decode cX5_set 37 = .ok (.aload_n 0, 1) := by decide +kernel
theorem dX5_set_38 : decode cX5_set 38 = .ok (.getfield 12, 3) := by decide +kernel
theorem dX5_set_41 : decode cX5_set 41 = .ok (.invokevirtual 48, 3) := by decide +kernel
theorem dX5_set_44 : decode cX5_set 44 = .ok (.aload_n 0, 1) := by decide +kernel
theorem dX5_set_45 : decode cX5_set 45 = .ok (.getfield 12, 3) := by decide +kernel
theorem dX5_set_48 : decode cX5_set 48 = .ok (.getfield 52, 3) := by decide +kernel
theorem dX5_set_51 : decode cX5_set 51 = .ok (.iload_n 1, 1) := by decide +kernel
theorem dX5_set_52 : decode cX5_set 52 = .ok (.iaload, 1) := by decide +kernel
theorem dX5_set_53 : decode cX5_set 53 = .ok (.istore_n 3, 1) := by decide +kernel
theorem dX5_set_54 : decode cX5_set 54 = .ok (.aload_n 0, 1) := by decide +kernel
theorem dX5_set_55 : decode cX5_set 55 = .ok (.getfield 12, 3) := by decide +kernel
theorem dX5_set_58 : decode cX5_set 58 = .ok (.getfield 52, 3) := by decide +kernel
theorem dX5_set_61 : decode cX5_set 61 = .ok (.iload_n 1, 1) := by decide +kernel
theorem dX5_set_62 : decode cX5_set 62 = .ok (.iload_n 2, 1) := by decide +kernel
theorem dX5_set_63 : decode cX5_set 63 = .ok (.iastore, 1) := by decide +kernel
theorem dX5_set_64 : decode cX5_set 64 = .ok (.iload_n 3, 1) := by decide +kernel
theorem dX5_set_65 : decode cX5_set 65 = .ok (.ireturn, 1) := by decide +kernel
theorem dX5_floor_0 : decode cX5_floor 0 = .ok (.iload_n 1, 1) := by decide +kernel
theorem dX5_floor_1 : decode cX5_floor 1 = .ok (.iload_n 2, 1) := by decide +kernel
theorem dX5_floor_2 : decode cX5_floor 2 = .ok (.invokestatic 55, 3) := by decide +kernel
theorem dX5_floor_5 : decode cX5_floor 5 = .ok (.ifCond .ne 5, 3) := by decide +kernel
theorem dX5_floor_8 : decode cX5_floor 8 = .ok (.iconst (-1), 1) := by decide +kernel
theorem dX5_floor_9 : decode cX5_floor 9 = .ok (.ireturn, 1) := by decide +kernel
theorem dX5_floor_10 : decode cX5_floor 10 = .ok (.iload_n 3, 1) := by decide +kernel
theorem dX5_floor_11 : decode cX5_floor 11 = .ok (.ifCond .lt 8, 3) := by decide +kernel
theorem dX5_floor_14 : decode cX5_floor 14 = .ok (.iload_n 3, 1) := by decide +kernel
theorem dX5_floor_15 : decode cX5_floor 15 = .ok (.iconst 3, 1) := by decide +kernel
theorem dX5_floor_16 : decode cX5_floor 16 = .ok (.if_icmp .le 6, 3) := by decide +kernel
theorem dX5_floor_19 : decode cX5_floor 19 = .ok (.bipush (-2), 2) := by decide +kernel
theorem dX5_floor_21 : decode cX5_floor 21 = .ok (.ireturn, 1) := by decide +kernel
theorem dX5_floor_22 : decode cX5_floor 22 = .ok (.iload_n 1, 1) := by decide +kernel
theorem dX5_floor_23 : decode cX5_floor 23 = .ok (.iload_n 2, 1) := by decide +kernel
theorem dX5_floor_24 : decode cX5_floor 24 = .ok (.invokestatic 59, 3) := by decide +kernel
theorem dX5_floor_27 : decode cX5_floor 27 = .ok (.istore 4, 2) := by decide +kernel
theorem dX5_floor_29 : decode cX5_floor 29 = .ok (.iload_n 3, 1) := by decide +kernel
theorem dX5_floor_30 : decode cX5_floor 30 = .ok (.iconst 2, 1) := by decide +kernel
theorem dX5_floor_31 : decode cX5_floor 31 = .ok (.if_icmp .ne 23, 3) := by decide +kernel
theorem dX5_floor_34 : decode cX5_floor 34 = .ok (.aload_n 0, 1) := by decide +kernel
theorem dX5_floor_35 : decode cX5_floor 35 = .ok (.getfield 12, 3) := by decide +kernel
theorem dX5_floor_38 : decode cX5_floor 38 = .ok (.getfield 63, 3) := by decide +kernel
theorem dX5_floor_41 : decode cX5_floor 41 = .ok (.iload 4, 2) := by decide +kernel
theorem dX5_floor_43 : decode cX5_floor 43 = .ok (.invokevirtual 67, 3) := by decide +kernel
theorem dX5_floor_46 : decode cX5_floor 46 = .ok (.bipush (-6), 2) := by decide +kernel
theorem dX5_floor_48 : decode cX5_floor 48 = .ok (.if_icmp .eq 6, 3) := by decide +kernel
theorem dX5_floor_51 : decode cX5_floor 51 = .ok (.bipush (-5), 2) := by decide +kernel
theorem dX5_floor_53 : decode cX5_floor 53 = .ok (.ireturn, 1) := by decide +kernel
theorem dX5_floor_54 : decode cX5_floor 54 = .ok (.aload_n 0, 1) := by decide +kernel
theorem dX5_floor_55 : decode cX5_floor 55 = .ok (.getfield 22, 3) := by decide +kernel
theorem dX5_floor_58 : decode cX5_floor 58 = .ok (.aload_n 0, 1) := by decide +kernel
theorem dX5_floor_59 : decode cX5_floor 59 = .ok (.getfield 12, 3) := by decide +kernel
theorem dX5_floor_62 : decode cX5_floor 62 = .ok (.invokevirtual 48, 3) := by decide +kernel
theorem dX5_floor_65 : decode cX5_floor 65 = .ok (.aload_n 0, 1) := by decide +kernel
theorem dX5_floor_66 : decode cX5_floor 66 = .ok (.getfield 12, 3) := by decide +kernel
theorem dX5_floor_69 : decode cX5_floor 69 = .ok (.getfield 73, 3) := by decide +kernel
theorem dX5_floor_72 : decode cX5_floor 72 = .ok (.iload 4, 2) := by decide +kernel
theorem dX5_floor_74 : decode cX5_floor 74 = .ok (.iaload, 1) := by decide +kernel
theorem dX5_floor_75 : decode cX5_floor 75 = .ok (.istore 5, 2) := by decide +kernel
theorem dX5_floor_77 : decode cX5_floor 77 = .ok (.aload_n 0, 1) := by decide +kernel
theorem dX5_floor_78 : decode cX5_floor 78 = .ok (.getfield 12, 3) := by decide +kernel
theorem dX5_floor_81 : decode cX5_floor 81 = .ok (.iload 4, 2) := by decide +kernel
theorem dX5_floor_83 : decode cX5_floor 83 = .ok (.iload_n 3, 1) := by decide +kernel
theorem dX5_floor_84 : decode cX5_floor 84 = .ok (.invokevirtual 76, 3) := by decide +kernel
theorem dX5_floor_87 : decode cX5_floor 87 = .ok (.iload 5, 2) := by decide +kernel
theorem dX5_floor_89 : decode cX5_floor 89 = .ok (.ireturn, 1) := by decide +kernel
theorem dX5_dip_0 : decode cX5_dip 0 = .ok (.iload_n 1, 1) := by decide +kernel
theorem dX5_dip_1 : decode cX5_dip 1 = .ok (.iload_n 2, 1) := by decide +kernel
theorem dX5_dip_2 : decode cX5_dip 2 = .ok (.invokestatic 55, 3) := by decide +kernel
theorem dX5_dip_5 : decode cX5_dip 5 = .ok (.ifCond .ne 5, 3) := by decide +kernel
theorem dX5_dip_8 : decode cX5_dip 8 = .ok (.iconst (-1), 1) := by decide +kernel
theorem dX5_dip_9 : decode cX5_dip 9 = .ok (.ireturn, 1) := by decide +kernel
theorem dX5_dip_10 : decode cX5_dip 10 = .ok (.iload_n 3, 1) := by decide +kernel
theorem dX5_dip_11 : decode cX5_dip 11 = .ok (.iconst 2, 1) := by decide +kernel
theorem dX5_dip_12 : decode cX5_dip 12 = .ok (.bipush 40, 2) := by decide +kernel
theorem dX5_dip_14 : decode cX5_dip 14 = .ok (.invokestatic 101, 3) := by decide +kernel
theorem dX5_dip_17 : decode cX5_dip 17 = .ok (.ifCond .eq 27, 3) := by decide +kernel
theorem dX5_dip_20 : decode cX5_dip 20 = .ok (.iload 4, 2) := by decide +kernel
theorem dX5_dip_22 : decode cX5_dip 22 = .ok (.iconst 1, 1) := by decide +kernel
theorem dX5_dip_23 : decode cX5_dip 23 = .ok (.sipush 900, 3) := by decide +kernel
theorem dX5_dip_26 : decode cX5_dip 26 = .ok (.invokestatic 101, 3) := by decide +kernel
theorem dX5_dip_29 : decode cX5_dip 29 = .ok (.ifCond .eq 15, 3) := by decide +kernel
theorem dX5_dip_32 : decode cX5_dip 32 = .ok (.iload 5, 2) := by decide +kernel
theorem dX5_dip_34 : decode cX5_dip 34 = .ok (.iconst 0, 1) := by decide +kernel
theorem dX5_dip_35 : decode cX5_dip 35 = .ok (.iload_n 3, 1) := by decide +kernel
theorem dX5_dip_36 : decode cX5_dip 36 = .ok (.iconst 1, 1) := by decide +kernel
theorem dX5_dip_37 : decode cX5_dip 37 = .ok (.isub, 1) := by decide +kernel
theorem dX5_dip_38 : decode cX5_dip 38 = .ok (.invokestatic 101, 3) := by decide +kernel
theorem dX5_dip_41 : decode cX5_dip 41 = .ok (.ifCond .ne 6, 3) := by decide +kernel
theorem dX5_dip_44 : decode cX5_dip 44 = .ok (.bipush (-2), 2) := by decide +kernel
theorem dX5_dip_46 : decode cX5_dip 46 = .ok (.ireturn, 1) := by decide +kernel
theorem dX5_dip_47 : decode cX5_dip 47 = .ok (.iload_n 1, 1) := by decide +kernel
theorem dX5_dip_48 : decode cX5_dip 48 = .ok (.iload_n 2, 1) := by decide +kernel
theorem dX5_dip_49 : decode cX5_dip 49 = .ok (.invokestatic 59, 3) := by decide +kernel
theorem dX5_dip_52 : decode cX5_dip 52 = .ok (.istore 6, 2) := by decide +kernel
theorem dX5_dip_54 : decode cX5_dip 54 = .ok (.aload_n 0, 1) := by decide +kernel
theorem dX5_dip_55 : decode cX5_dip 55 = .ok (.getfield 12, 3) := by decide +kernel
theorem dX5_dip_58 : decode cX5_dip 58 = .ok (.getfield 73, 3) := by decide +kernel
theorem dX5_dip_61 : decode cX5_dip 61 = .ok (.iload 6, 2) := by decide +kernel
theorem dX5_dip_63 : decode cX5_dip 63 = .ok (.iaload, 1) := by decide +kernel
theorem dX5_dip_64 : decode cX5_dip 64 = .ok (.iconst 2, 1) := by decide +kernel
theorem dX5_dip_65 : decode cX5_dip 65 = .ok (.if_icmp .ne 6, 3) := by decide +kernel
theorem dX5_dip_68 : decode cX5_dip 68 = .ok (.bipush (-5), 2) := by decide +kernel
theorem dX5_dip_70 : decode cX5_dip 70 = .ok (.ireturn, 1) := by decide +kernel
theorem dX5_dip_71 : decode cX5_dip 71 = .ok (.aload_n 0, 1) := by decide +kernel
theorem dX5_dip_72 : decode cX5_dip 72 = .ok (.getfield 12, 3) := by decide +kernel
theorem dX5_dip_75 : decode cX5_dip 75 = .ok (.getfield 63, 3) := by decide +kernel
theorem dX5_dip_78 : decode cX5_dip 78 = .ok (.getfield 105, 3) := by decide +kernel
theorem dX5_dip_81 : decode cX5_dip 81 = .ok (.iconst 5, 1) := by decide +kernel
theorem dX5_dip_82 : decode cX5_dip 82 = .ok (.if_icmp .lt 6, 3) := by decide +kernel
theorem dX5_dip_85 : decode cX5_dip 85 = .ok (.bipush (-4), 2) := by decide +kernel
theorem dX5_dip_87 : decode cX5_dip 87 = .ok (.ireturn, 1) := by decide +kernel
theorem dX5_dip_88 : decode cX5_dip 88 = .ok (.aload_n 0, 1) := by decide +kernel
theorem dX5_dip_89 : decode cX5_dip 89 = .ok (.getfield 22, 3) := by decide +kernel
theorem dX5_dip_92 : decode cX5_dip 92 = .ok (.aload_n 0, 1) := by decide +kernel
theorem dX5_dip_93 : decode cX5_dip 93 = .ok (.getfield 12, 3) := by decide +kernel
theorem dX5_dip_96 : decode cX5_dip 96 = .ok (.invokevirtual 48, 3) := by decide +kernel
theorem dX5_dip_99 : decode cX5_dip 99 = .ok (.aload_n 0, 1) := by decide +kernel
theorem dX5_dip_100 : decode cX5_dip 100 = .ok (.getfield 12, 3) := by decide +kernel
theorem dX5_dip_103 : decode cX5_dip 103 = .ok (.getfield 63, 3) := by decide +kernel
theorem dX5_dip_106 : decode cX5_dip 106 = .ok (.iload 6, 2) := by decide +kernel
theorem dX5_dip_108 : decode cX5_dip 108 = .ok (.iload_n 3, 1) := by decide +kernel
theorem dX5_dip_109 : decode cX5_dip 109 = .ok (.iload 4, 2) := by decide +kernel
theorem dX5_dip_111 : decode cX5_dip 111 = .ok (.iload 5, 2) := by decide +kernel
theorem dX5_dip_113 : decode cX5_dip 113 = .ok (.invokevirtual 108, 3) := by decide +kernel
theorem dX5_dip_116 : decode cX5_dip 116 = .ok (.ireturn, 1) := by decide +kernel
theorem dX5_takeOut_0 : decode cX5_takeOut 0 = .ok (.aload_n 0, 1) := by decide +kernel
theorem dX5_takeOut_1 : decode cX5_takeOut 1 = .ok (.iload_n 1, 1) := by decide +kernel
theorem dX5_takeOut_2 : decode cX5_takeOut 2 = .ok (.invokevirtual 112, 3) := by decide +kernel
theorem dX5_takeOut_5 : decode cX5_takeOut 5 = .ok (.ifCond .ne 5, 3) := by decide +kernel
theorem dX5_takeOut_8 : decode cX5_takeOut 8 = .ok (.iconst (-1), 1) := by decide +kernel
theorem dX5_takeOut_9 : decode cX5_takeOut 9 = .ok (.ireturn, 1) := by decide +kernel
theorem dX5_takeOut_10 : decode cX5_takeOut 10 = .ok (.aload_n 0, 1) := by decide +kernel
theorem dX5_takeOut_11 : decode cX5_takeOut 11 = .ok (.getfield 22, 3) := by decide +kernel
theorem dX5_takeOut_14 : decode cX5_takeOut 14 = .ok (.aload_n 0, 1) := by decide +kernel
theorem dX5_takeOut_15 : decode cX5_takeOut 15 = .ok (.getfield 12, 3) := by decide +kernel
theorem dX5_takeOut_18 : decode cX5_takeOut 18 = .ok (.invokevirtual 48, 3) := by decide +kernel
theorem dX5_takeOut_21 : decode cX5_takeOut 21 = .ok (.aload_n 0, 1) := by decide +kernel
theorem dX5_takeOut_22 : decode cX5_takeOut 22 = .ok (.getfield 12, 3) := by decide +kernel
theorem dX5_takeOut_25 : decode cX5_takeOut 25 = .ok (.getfield 63, 3) := by decide +kernel
theorem dX5_takeOut_28 : decode cX5_takeOut 28 = .ok (.iload_n 1, 1) := by decide +kernel
theorem dX5_takeOut_29 : decode cX5_takeOut 29 = .ok (.invokevirtual 116, 3) := by decide +kernel
theorem dX5_takeOut_32 : decode cX5_takeOut 32 = .ok (.aload_n 0, 1) := by decide +kernel
theorem dX5_takeOut_33 : decode cX5_takeOut 33 = .ok (.getfield 12, 3) := by decide +kernel
theorem dX5_takeOut_36 : decode cX5_takeOut 36 = .ok (.getfield 63, 3) := by decide +kernel
theorem dX5_takeOut_39 : decode cX5_takeOut 39 = .ok (.getfield 105, 3) := by decide +kernel
theorem dX5_takeOut_42 : decode cX5_takeOut 42 = .ok (.ireturn, 1) := by decide +kernel
theorem dX5_drop_0 : decode cX5_drop 0 = .ok (.iload_n 1, 1) := by decide +kernel
theorem dX5_drop_1 : decode cX5_drop 1 = .ok (.iload_n 2, 1) := by decide +kernel
theorem dX5_drop_2 : decode cX5_drop 2 = .ok (.invokestatic 55, 3) := by decide +kernel
theorem dX5_drop_5 : decode cX5_drop 5 = .ok (.ifCond .ne 5, 3) := by decide +kernel
theorem dX5_drop_8 : decode cX5_drop 8 = .ok (.iconst (-1), 1) := by decide +kernel
theorem dX5_drop_9 : decode cX5_drop 9 = .ok (.ireturn, 1) := by decide +kernel
theorem dX5_drop_10 : decode cX5_drop 10 = .ok (.iload_n 3, 1) := by decide +kernel
theorem dX5_drop_11 : decode cX5_drop 11 = .ok (.sipush (-999), 3) := by decide +kernel
theorem dX5_drop_14 : decode cX5_drop 14 = .ok (.sipush 999, 3) := by decide +kernel
theorem dX5_drop_17 : decode cX5_drop 17 = .ok (.invokestatic 101, 3) := by decide +kernel
theorem dX5_drop_20 : decode cX5_drop 20 = .ok (.ifCond .ne 6, 3) := by decide +kernel
theorem dX5_drop_23 : decode cX5_drop 23 = .ok (.bipush (-2), 2) := by decide +kernel
theorem dX5_drop_25 : decode cX5_drop 25 = .ok (.ireturn, 1) := by decide +kernel
theorem dX5_drop_26 : decode cX5_drop 26 = .ok (.iload_n 1, 1) := by decide +kernel
theorem dX5_drop_27 : decode cX5_drop 27 = .ok (.iload_n 2, 1) := by decide +kernel
theorem dX5_drop_28 : decode cX5_drop 28 = .ok (.invokestatic 59, 3) := by decide +kernel
theorem dX5_drop_31 : decode cX5_drop 31 = .ok (.istore 4, 2) := by decide +kernel
theorem dX5_drop_33 : decode cX5_drop 33 = .ok (.aload_n 0, 1) := by decide +kernel
theorem dX5_drop_34 : decode cX5_drop 34 = .ok (.getfield 12, 3) := by decide +kernel
theorem dX5_drop_37 : decode cX5_drop 37 = .ok (.getfield 73, 3) := by decide +kernel
theorem dX5_drop_40 : decode cX5_drop 40 = .ok (.iload 4, 2) := by decide +kernel
theorem dX5_drop_42 : decode cX5_drop 42 = .ok (.iaload, 1) := by decide +kernel
theorem dX5_drop_43 : decode cX5_drop 43 = .ok (.iconst 2, 1) := by decide +kernel
theorem dX5_drop_44 : decode cX5_drop 44 = .ok (.if_icmp .ne 6, 3) := by decide +kernel
theorem dX5_drop_47 : decode cX5_drop 47 = .ok (.bipush (-5), 2) := by decide +kernel
theorem dX5_drop_49 : decode cX5_drop 49 = .ok (.ireturn, 1) := by decide +kernel
theorem dX5_drop_50 : decode cX5_drop 50 = .ok (.aload_n 0, 1) := by decide +kernel
theorem dX5_drop_51 : decode cX5_drop 51 = .ok (.getfield 22, 3) := by decide +kernel
theorem dX5_drop_54 : decode cX5_drop 54 = .ok (.aload_n 0, 1) := by decide +kernel
theorem dX5_drop_55 : decode cX5_drop 55 = .ok (.getfield 12, 3) := by decide +kernel
theorem dX5_drop_58 : decode cX5_drop 58 = .ok (.invokevirtual 48, 3) := by decide +kernel
theorem dX5_drop_61 : decode cX5_drop 61 = .ok (.aload_n 0, 1) := by decide +kernel
theorem dX5_drop_62 : decode cX5_drop 62 = .ok (.getfield 12, 3) := by decide +kernel
theorem dX5_drop_65 : decode cX5_drop 65 = .ok (.getfield 120, 3) := by decide +kernel
theorem dX5_drop_68 : decode cX5_drop 68 = .ok (.iload 4, 2) := by decide +kernel
theorem dX5_drop_70 : decode cX5_drop 70 = .ok (.aload_n 0, 1) := by decide +kernel
theorem dX5_drop_71 : decode cX5_drop 71 = .ok (.getfield 12, 3) := by decide +kernel
theorem dX5_drop_74 : decode cX5_drop 74 = .ok (.getfield 120, 3) := by decide +kernel
theorem dX5_drop_77 : decode cX5_drop 77 = .ok (.iload 4, 2) := by decide +kernel
theorem dX5_drop_79 : decode cX5_drop 79 = .ok (.iaload, 1) := by decide +kernel
theorem dX5_drop_80 : decode cX5_drop 80 = .ok (.iload_n 3, 1) := by decide +kernel
theorem dX5_drop_81 : decode cX5_drop 81 = .ok (.iadd, 1) := by decide +kernel
theorem dX5_drop_82 : decode cX5_drop 82 = .ok (.invokestatic 123, 3) := by decide +kernel
theorem dX5_drop_85 : decode cX5_drop 85 = .ok (.iastore, 1) := by decide +kernel
theorem dX5_drop_86 : decode cX5_drop 86 = .ok (.aload_n 0, 1) := by decide +kernel
theorem dX5_drop_87 : decode cX5_drop 87 = .ok (.getfield 12, 3) := by decide +kernel
theorem dX5_drop_90 : decode cX5_drop 90 = .ok (.getfield 120, 3) := by decide +kernel
theorem dX5_drop_93 : decode cX5_drop 93 = .ok (.iload 4, 2) := by decide +kernel
theorem dX5_drop_95 : decode cX5_drop 95 = .ok (.iaload, 1) := by decide +kernel
theorem dX5_drop_96 : decode cX5_drop 96 = .ok (.sipush 10000, 3) := by decide +kernel
theorem dX5_drop_99 : decode cX5_drop 99 = .ok (.iadd, 1) := by decide +kernel
theorem dX5_drop_100 : decode cX5_drop 100 = .ok (.ireturn, 1) := by decide +kernel
theorem dX5_probe_0 : decode cX5_probe 0 = .ok (.iload_n 1, 1) := by decide +kernel
theorem dX5_probe_1 : decode cX5_probe 1 = .ok (.iload_n 2, 1) := by decide +kernel
theorem dX5_probe_2 : decode cX5_probe 2 = .ok (.invokestatic 55, 3) := by decide +kernel
theorem dX5_probe_5 : decode cX5_probe 5 = .ok (.ifCond .ne 5, 3) := by decide +kernel
theorem dX5_probe_8 : decode cX5_probe 8 = .ok (.iconst (-1), 1) := by decide +kernel
theorem dX5_probe_9 : decode cX5_probe 9 = .ok (.ireturn, 1) := by decide +kernel
theorem dX5_probe_10 : decode cX5_probe 10 = .ok (.aload_n 0, 1) := by decide +kernel
theorem dX5_probe_11 : decode cX5_probe 11 = .ok (.getfield 12, 3) := by decide +kernel
theorem dX5_probe_14 : decode cX5_probe 14 = .ok (.getfield 126, 3) := by decide +kernel
theorem dX5_probe_17 : decode cX5_probe 17 = .ok (.getfield 130, 3) := by decide +kernel
theorem dX5_probe_20 : decode cX5_probe 20 = .ok (.iconst 3, 1) := by decide +kernel
theorem dX5_probe_21 : decode cX5_probe 21 = .ok (.if_icmp .lt 6, 3) := by decide +kernel
theorem dX5_probe_24 : decode cX5_probe 24 = .ok (.bipush (-4), 2) := by decide +kernel
theorem dX5_probe_26 : decode cX5_probe 26 = .ok (.ireturn, 1) := by decide +kernel
theorem dX5_probe_27 : decode cX5_probe 27 = .ok (.aload_n 0, 1) := by decide +kernel
theorem dX5_probe_28 : decode cX5_probe 28 = .ok (.getfield 22, 3) := by decide +kernel
theorem dX5_probe_31 : decode cX5_probe 31 = .ok (.aload_n 0, 1) := by decide +kernel
theorem dX5_probe_32 : decode cX5_probe 32 = .ok (.getfield 12, 3) := by decide +kernel
theorem dX5_probe_35 : decode cX5_probe 35 = .ok (.invokevirtual 48, 3) := by decide +kernel
theorem dX5_probe_38 : decode cX5_probe 38 = .ok (.aload_n 0, 1) := by decide +kernel
theorem dX5_probe_39 : decode cX5_probe 39 = .ok (.getfield 12, 3) := by decide +kernel
theorem dX5_probe_42 : decode cX5_probe 42 = .ok (.getfield 126, 3) := by decide +kernel
theorem dX5_probe_45 : decode cX5_probe 45 = .ok (.iload_n 1, 1) := by decide +kernel
theorem dX5_probe_46 : decode cX5_probe 46 = .ok (.iload_n 2, 1) := by decide +kernel
theorem dX5_probe_47 : decode cX5_probe 47 = .ok (.invokestatic 59, 3) := by decide +kernel
theorem dX5_probe_50 : decode cX5_probe 50 = .ok (.invokevirtual 133, 3) := by decide +kernel
theorem dX5_probe_53 : decode cX5_probe 53 = .ok (.ireturn, 1) := by decide +kernel
theorem dX5_pass_0 : decode cX5_pass 0 = .ok (.iload_n 1, 1) := by decide +kernel
theorem dX5_pass_1 : decode cX5_pass 1 = .ok (.iconst 1, 1) := by decide +kernel
theorem dX5_pass_2 : decode cX5_pass 2 = .ok (.bipush 100, 2) := by decide +kernel
theorem dX5_pass_4 : decode cX5_pass 4 = .ok (.invokestatic 101, 3) := by decide +kernel
theorem dX5_pass_7 : decode cX5_pass 7 = .ok (.ifCond .ne 6, 3) := by decide +kernel
theorem dX5_pass_10 : decode cX5_pass 10 = .ok (.bipush (-2), 2) := by decide +kernel
theorem dX5_pass_12 : decode cX5_pass 12 = .ok (.ireturn, 1) := by decide +kernel
theorem dX5_pass_13 : decode cX5_pass 13 = .ok (.aload_n 0, 1) := by decide +kernel
theorem dX5_pass_14 : decode cX5_pass 14 = .ok (.getfield 12, 3) := by decide +kernel
theorem dX5_pass_17 : decode cX5_pass 17 = .ok (.getfield 135, 3) := by decide +kernel
theorem dX5_pass_20 : decode cX5_pass 20 = .ok (.iload_n 1, 1) := by decide +kernel
theorem dX5_pass_21 : decode cX5_pass 21 = .ok (.iadd, 1) := by decide +kernel
theorem dX5_pass_22 : decode cX5_pass 22 = .ok (.ldc 138, 2) := by decide +kernel
theorem dX5_pass_24 : decode cX5_pass 24 = .ok (.if_icmp .le 6, 3) := by decide +kernel
theorem dX5_pass_27 : decode cX5_pass 27 = .ok (.bipush (-4), 2) := by decide +kernel
theorem dX5_pass_29 : decode cX5_pass 29 = .ok (.ireturn, 1) := by decide +kernel
theorem dX5_pass_30 : decode cX5_pass 30 = .ok (.aload_n 0, 1) := by decide +kernel
theorem dX5_pass_31 : decode cX5_pass 31 = .ok (.getfield 22, 3) := by decide +kernel
theorem dX5_pass_34 : decode cX5_pass 34 = .ok (.aload_n 0, 1) := by decide +kernel
theorem dX5_pass_35 : decode cX5_pass 35 = .ok (.getfield 12, 3) := by decide +kernel
theorem dX5_pass_38 : decode cX5_pass 38 = .ok (.invokevirtual 48, 3) := by decide +kernel
theorem dX5_pass_41 : decode cX5_pass 41 = .ok (.aload_n 0, 1) := by decide +kernel
theorem dX5_pass_42 : decode cX5_pass 42 = .ok (.getfield 12, 3) := by decide +kernel
theorem dX5_pass_45 : decode cX5_pass 45 = .ok (.iload_n 1, 1) := by decide +kernel
theorem dX5_pass_46 : decode cX5_pass 46 = .ok (.invokevirtual 139, 3) := by decide +kernel
theorem dX5_pass_49 : decode cX5_pass 49 = .ok (.aload_n 0, 1) := by decide +kernel
theorem dX5_pass_50 : decode cX5_pass 50 = .ok (.getfield 12, 3) := by decide +kernel
theorem dX5_pass_53 : decode cX5_pass 53 = .ok (.invokevirtual 142, 3) := by decide +kernel
theorem dX5_pass_56 : decode cX5_pass 56 = .ok (.ireturn, 1) := by decide +kernel
theorem dX5_cell_0 : decode cX5_cell 0 = .ok (.iload_n 1, 1) := by decide +kernel
theorem dX5_cell_1 : decode cX5_cell 1 = .ok (.iload_n 2, 1) := by decide +kernel
theorem dX5_cell_2 : decode cX5_cell 2 = .ok (.invokestatic 55, 3) := by decide +kernel
theorem dX5_cell_5 : decode cX5_cell 5 = .ok (.ifCond .ne 5, 3) := by decide +kernel
theorem dX5_cell_8 : decode cX5_cell 8 = .ok (.iconst (-1), 1) := by decide +kernel
theorem dX5_cell_9 : decode cX5_cell 9 = .ok (.ireturn, 1) := by decide +kernel
theorem dX5_cell_10 : decode cX5_cell 10 = .ok (.iload_n 1, 1) := by decide +kernel
theorem dX5_cell_11 : decode cX5_cell 11 = .ok (.iload_n 2, 1) := by decide +kernel
theorem dX5_cell_12 : decode cX5_cell 12 = .ok (.invokestatic 59, 3) := by decide +kernel
theorem dX5_cell_15 : decode cX5_cell 15 = .ok (.istore 4, 2) := by decide +kernel
theorem dX5_cell_17 : decode cX5_cell 17 = .ok (.iload_n 3, 1) := by decide +kernel
theorem dX5_cell_18 : decode cX5_cell 18 = .ok (.tableswitch 138 0 6 #[42, 53, 68, 83, 96, 114, 125], 42) := by decide +kernel
theorem dX5_cell_60 : decode cX5_cell 60 = .ok (.aload_n 0, 1) := by decide +kernel
theorem dX5_cell_61 : decode cX5_cell 61 = .ok (.getfield 12, 3) := by decide +kernel
theorem dX5_cell_64 : decode cX5_cell 64 = .ok (.getfield 73, 3) := by decide +kernel
theorem dX5_cell_67 : decode cX5_cell 67 = .ok (.iload 4, 2) := by decide +kernel
theorem dX5_cell_69 : decode cX5_cell 69 = .ok (.iaload, 1) := by decide +kernel
theorem dX5_cell_70 : decode cX5_cell 70 = .ok (.ireturn, 1) := by decide +kernel
theorem dX5_cell_71 : decode cX5_cell 71 = .ok (.aload_n 0, 1) := by decide +kernel
theorem dX5_cell_72 : decode cX5_cell 72 = .ok (.getfield 12, 3) := by decide +kernel
theorem dX5_cell_75 : decode cX5_cell 75 = .ok (.getfield 120, 3) := by decide +kernel
