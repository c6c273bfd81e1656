theorem dX6_swing_5 : decode cX6_swing 5 = .ok (.iload_n 0, 1) := by decide +kernel
theorem dX6_swing_6 : decode cX6_swing 6 = .ok (.lload_n 3, 1) := by decide +kernel
theorem dX6_swing_7 : decode cX6_swing 7 = .ok (.invokestatic 104, 3) := by decide +kernel
theorem dX6_swing_10 : decode cX6_swing 10 = .ok (.lcmp, 1) := by decide +kernel
theorem dX6_swing_11 : decode cX6_swing 11 = .ok (.ifCond .ne 5, 3) := by decide +kernel
theorem dX6_swing_14 : decode cX6_swing 14 = .ok (.lconst 0, 1) := by decide +kernel
theorem dX6_swing_15 : decode cX6_swing 15 = .ok (.lreturn, 1) := by decide +kernel
theorem dX6_swing_16 : decode cX6_swing 16 = .ok (.iload_n 0, 1) := by decide +kernel
theorem dX6_swing_17 : decode cX6_swing 17 = .ok (.iconst 2, 1) := by decide +kernel
theorem dX6_swing_18 : decode cX6_swing 18 = .ok (.if_icmp .ne 21, 3) := by decide +kernel
theorem dX6_swing_21 : decode cX6_swing 21 = .ok (.iload_n 0, 1) := by decide +kernel
theorem dX6_swing_22 : decode cX6_swing 22 = .ok (.lload_n 1, 1) := by decide +kernel
theorem dX6_swing_23 : decode cX6_swing 23 = .ok (.invokestatic 146, 3) := by decide +kernel
theorem dX6_swing_26 : decode cX6_swing 26 = .ok (.lload_n 3, 1) := by decide +kernel
theorem dX6_swing_27 : decode cX6_swing 27 = .ok (.invokestatic 146, 3) := by decide +kernel
theorem dX6_swing_30 : decode cX6_swing 30 = .ok (.fsub, 1) := by decide +kernel
theorem dX6_swing_31 : decode cX6_swing 31 = .ok (.invokestatic 150, 3) := by decide +kernel
theorem dX6_swing_34 : decode cX6_swing 34 = .ok (.i2l, 1) := by decide +kernel
theorem dX6_swing_35 : decode cX6_swing 35 = .ok (.invokestatic 120, 3) := by decide +kernel
theorem dX6_swing_38 : decode cX6_swing 38 = .ok (.lreturn, 1) := by decide +kernel
theorem dX6_swing_39 : decode cX6_swing 39 = .ok (.iload_n 0, 1) := by decide +kernel
theorem dX6_swing_40 : decode cX6_swing 40 = .ok (.iconst 3, 1) := by decide +kernel
theorem dX6_swing_41 : decode cX6_swing 41 = .ok (.if_icmp .ne 20, 3) := by decide +kernel
theorem dX6_swing_44 : decode cX6_swing 44 = .ok (.iload_n 0, 1) := by decide +kernel
theorem dX6_swing_45 : decode cX6_swing 45 = .ok (.lload_n 1, 1) := by decide +kernel
theorem dX6_swing_46 : decode cX6_swing 46 = .ok (.invokestatic 154, 3) := by decide +kernel
theorem dX6_swing_49 : decode cX6_swing 49 = .ok (.lload_n 3, 1) := by decide +kernel
theorem dX6_swing_50 : decode cX6_swing 50 = .ok (.invokestatic 154, 3) := by decide +kernel
theorem dX6_swing_53 : decode cX6_swing 53 = .ok (.dsub, 1) := by decide +kernel
theorem dX6_swing_54 : decode cX6_swing 54 = .ok (.invokestatic 157, 3) := by decide +kernel
theorem dX6_swing_57 : decode cX6_swing 57 = .ok (.invokestatic 120, 3) := by decide +kernel
theorem dX6_swing_60 : decode cX6_swing 60 = .ok (.lreturn, 1) := by decide +kernel
theorem dX6_swing_61 : decode cX6_swing 61 = .ok (.iload_n 0, 1) := by decide +kernel
theorem dX6_swing_62 : decode cX6_swing 62 = .ok (.iload_n 0, 1) := by decide +kernel
theorem dX6_swing_63 : decode cX6_swing 63 = .ok (.lload_n 1, 1) := by decide +kernel
theorem dX6_swing_64 : decode cX6_swing 64 = .ok (.lload_n 3, 1) := by decide +kernel
theorem dX6_swing_65 : decode cX6_swing 65 = .ok (.lsub, 1) := by decide +kernel
theorem dX6_swing_66 : decode cX6_swing 66 = .ok (.invokestatic 88, 3) := by decide +kernel
theorem dX6_swing_69 : decode cX6_swing 69 = .ok (.invokestatic 120, 3) := by decide +kernel
theorem dX6_swing_72 : decode cX6_swing 72 = .ok (.lreturn, 1) := by decide +kernel
theorem dX6_sum_0 : decode cX6_sum 0 = .ok (.iload_n 0, 1) := by decide +kernel
theorem dX6_sum_1 : decode cX6_sum 1 = .ok (.iconst 2, 1) := by decide +kernel
theorem dX6_sum_2 : decode cX6_sum 2 = .ok (.if_icmp .ne 17, 3) := by decide +kernel
theorem dX6_sum_5 : decode cX6_sum 5 = .ok (.lload_n 1, 1) := by decide +kernel
theorem dX6_sum_6 : decode cX6_sum 6 = .ok (.invokestatic 146, 3) := by decide +kernel
theorem dX6_sum_9 : decode cX6_sum 9 = .ok (.lload_n 3, 1) := by decide +kernel
theorem dX6_sum_10 : decode cX6_sum 10 = .ok (.invokestatic 146, 3) := by decide +kernel
theorem dX6_sum_13 : decode cX6_sum 13 = .ok (.fadd, 1) := by decide +kernel
theorem dX6_sum_14 : decode cX6_sum 14 = .ok (.invokestatic 150, 3) := by decide +kernel
theorem dX6_sum_17 : decode cX6_sum 17 = .ok (.i2l, 1) := by decide +kernel
theorem dX6_sum_18 : decode cX6_sum 18 = .ok (.lreturn, 1) := by decide +kernel
theorem dX6_sum_19 : decode cX6_sum 19 = .ok (.iload_n 0, 1) := by decide +kernel
theorem dX6_sum_20 : decode cX6_sum 20 = .ok (.iconst 3, 1) := by decide +kernel
theorem dX6_sum_21 : decode cX6_sum 21 = .ok (.if_icmp .ne 16, 3) := by decide +kernel
theorem dX6_sum_24 : decode cX6_sum 24 = .ok (.lload_n 1, 1) := by decide +kernel
theorem dX6_sum_25 : decode cX6_sum 25 = .ok (.invokestatic 154, 3) := by decide +kernel
theorem dX6_sum_28 : decode cX6_sum 28 = .ok (.lload_n 3, 1) := by decide +kernel
theorem dX6_sum_29 : decode cX6_sum 29 = .ok (.invokestatic 154, 3) := by decide +kernel
theorem dX6_sum_32 : decode cX6_sum 32 = .ok (.dadd, 1) := by decide +kernel
theorem dX6_sum_33 : decode cX6_sum 33 = .ok (.invokestatic 157, 3) := by decide +kernel
theorem dX6_sum_36 : decode cX6_sum 36 = .ok (.lreturn, 1) := by decide +kernel
theorem dX6_sum_37 : decode cX6_sum 37 = .ok (.iload_n 0, 1) := by decide +kernel
theorem dX6_sum_38 : decode cX6_sum 38 = .ok (.lload_n 1, 1) := by decide +kernel
theorem dX6_sum_39 : decode cX6_sum 39 = .ok (.lload_n 3, 1) := by decide +kernel
theorem dX6_sum_40 : decode cX6_sum 40 = .ok (.ladd, 1) := by decide +kernel
theorem dX6_sum_41 : decode cX6_sum 41 = .ok (.invokestatic 88, 3) := by decide +kernel
theorem dX6_sum_44 : decode cX6_sum 44 = .ok (.lreturn, 1) := by decide +kernel
theorem dX6_mount_0 : decode cX6_mount 0 = .ok (.aload_n 0, 1) := by decide +kernel
theorem dX6_mount_1 : decode cX6_mount 1 = .ok (.iconst 0, 1) := by decide +kernel
theorem dX6_mount_2 : decode cX6_mount 2 = .ok (.putfield 53, 3) := by decide +kernel
theorem dX6_mount_5 : decode cX6_mount 5 = .ok (.iload_n 1, 1) := by decide +kernel
theorem dX6_mount_6 : decode cX6_mount 6 = .ok (.ifCond .lt 8, 3) := by decide +kernel
theorem dX6_mount_9 : decode cX6_mount 9 = .ok (.iload_n 1, 1) := by decide +kernel
theorem dX6_mount_10 : decode cX6_mount 10 = .ok (.iconst 3, 1) := by decide +kernel
theorem dX6_mount_11 : decode cX6_mount 11 = .ok (.if_icmp .le 9, 3) := by decide +kernel
theorem dX6_mount_14 : decode cX6_mount 14 = .ok (.aload_n 0, 1) := by decide +kernel
theorem dX6_mount_15 : decode cX6_mount 15 = .ok (.iconst 1, 1) := by decide +kernel
theorem dX6_mount_16 : decode cX6_mount 16 = .ok (.invokevirtual 161, 3) := by decide +kernel
theorem dX6_mount_19 : decode cX6_mount 19 = .ok (.ireturn, 1) := by decide +kernel
theorem dX6_mount_20 : decode cX6_mount 20 = .ok (.aload_n 0, 1) := by decide +kernel
theorem dX6_mount_21 : decode cX6_mount 21 = .ok (.getfield 57, 3) := by decide +kernel
theorem dX6_mount_24 : decode cX6_mount 24 = .ok (.bipush 8, 2) := by decide +kernel
theorem dX6_mount_26 : decode cX6_mount 26 = .ok (.if_icmp .ne 9, 3) := by decide +kernel
theorem dX6_mount_29 : decode cX6_mount 29 = .ok (.aload_n 0, 1) := by decide +kernel
theorem dX6_mount_30 : decode cX6_mount 30 = .ok (.iconst 2, 1) := by decide +kernel
theorem dX6_mount_31 : decode cX6_mount 31 = .ok (.invokevirtual 161, 3) := by decide +kernel
theorem dX6_mount_34 : decode cX6_mount 34 = .ok (.ireturn, 1) := by decide +kernel
theorem dX6_mount_35 : decode cX6_mount 35 = .ok (.aload_n 0, 1) := by decide +kernel
theorem dX6_mount_36 : decode cX6_mount 36 = .ok (.getfield 57, 3) := by decide +kernel
theorem dX6_mount_39 : decode cX6_mount 39 = .ok (.istore_n 2, 1) := by decide +kernel
theorem dX6_mount_40 : decode cX6_mount 40 = .ok (.aload_n 0, 1) := by decide +kernel
theorem dX6_mount_41 : decode cX6_mount 41 = .ok (.dup, 1) := by decide +kernel
theorem dX6_mount_42 : decode cX6_mount 42 = .ok (.getfield 57, 3) := by decide +kernel
theorem dX6_mount_45 : decode cX6_mount 45 = .ok (.iconst 1, 1) := by decide +kernel
theorem dX6_mount_46 : decode cX6_mount 46 = .ok (.iadd, 1) := by decide +kernel
theorem dX6_mount_47 : decode cX6_mount 47 = .ok (.putfield 57, 3) := by decide +kernel
theorem dX6_mount_50 : decode cX6_mount 50 = .ok (.aload_n 0, 1) := by decide +kernel
theorem dX6_mount_51 : decode cX6_mount 51 = .ok (.getfield 7, 3) := by decide +kernel
theorem dX6_mount_54 : decode cX6_mount 54 = .ok (.iload_n 2, 1) := by decide +kernel
theorem dX6_mount_55 : decode cX6_mount 55 = .ok (.iload_n 1, 1) := by decide +kernel
theorem dX6_mount_56 : decode cX6_mount 56 = .ok (.iastore, 1) := by decide +kernel
theorem dX6_mount_57 : decode cX6_mount 57 = .ok (.aload_n 0, 1) := by decide +kernel
theorem dX6_mount_58 : decode cX6_mount 58 = .ok (.getfield 26, 3) := by decide +kernel
theorem dX6_mount_61 : decode cX6_mount 61 = .ok (.iload_n 2, 1) := by decide +kernel
theorem dX6_mount_62 : decode cX6_mount 62 = .ok (.iload_n 1, 1) := by decide +kernel
theorem dX6_mount_63 : decode cX6_mount 63 = .ok (.ifCond .ne 9, 3) := by decide +kernel
theorem dX6_mount_66 : decode cX6_mount 66 = .ok (.ldc2_w 164, 3) := by decide +kernel
theorem dX6_mount_69 : decode cX6_mount 69 = .ok (.goto 23, 3) := by decide +kernel
theorem dX6_mount_72 : decode cX6_mount 72 = .ok (.iload_n 1, 1) := by decide +kernel
theorem dX6_mount_73 : decode cX6_mount 73 = .ok (.iconst 1, 1) := by decide +kernel
theorem dX6_mount_74 : decode cX6_mount 74 = .ok (.if_icmp .ne 9, 3) := by decide +kernel
theorem dX6_mount_77 : decode cX6_mount 77 = .ok (.ldc2_w 62, 3) := by decide +kernel
theorem dX6_mount_80 : decode cX6_mount 80 = .ok (.goto 12, 3) := by decide +kernel
theorem dX6_mount_83 : decode cX6_mount 83 = .ok (.iload_n 1, 1) := by decide +kernel
theorem dX6_mount_84 : decode cX6_mount 84 = .ok (.iload_n 1, 1) := by decide +kernel
theorem dX6_mount_85 : decode cX6_mount 85 = .ok (.invokestatic 94, 3) := by decide +kernel
theorem dX6_mount_88 : decode cX6_mount 88 = .ok (.iconst 1, 1) := by decide +kernel
theorem dX6_mount_89 : decode cX6_mount 89 = .ok (.invokestatic 114, 3) := by decide +kernel
theorem dX6_mount_92 : decode cX6_mount 92 = .ok (.lastore, 1) := by decide +kernel
theorem dX6_mount_93 : decode cX6_mount 93 = .ok (.aload_n 0, 1) := by decide +kernel
theorem dX6_mount_94 : decode cX6_mount 94 = .ok (.getfield 29, 3) := by decide +kernel
theorem dX6_mount_97 : decode cX6_mount 97 = .ok (.iload_n 2, 1) := by decide +kernel
theorem dX6_mount_98 : decode cX6_mount 98 = .ok (.iload_n 1, 1) := by decide +kernel
theorem dX6_mount_99 : decode cX6_mount 99 = .ok (.ifCond .ne 9, 3) := by decide +kernel
theorem dX6_mount_102 : decode cX6_mount 102 = .ok (.ldc2_w 166, 3) := by decide +kernel
theorem dX6_mount_105 : decode cX6_mount 105 = .ok (.goto 23, 3) := by decide +kernel
theorem dX6_mount_108 : decode cX6_mount 108 = .ok (.iload_n 1, 1) := by decide +kernel
theorem dX6_mount_109 : decode cX6_mount 109 = .ok (.iconst 1, 1) := by decide +kernel
theorem dX6_mount_110 : decode cX6_mount 110 = .ok (.if_icmp .ne 9, 3) := by decide +kernel
theorem dX6_mount_113 : decode cX6_mount 113 = .ok (.ldc2_w 168, 3) := by decide +kernel
theorem dX6_mount_116 : decode cX6_mount 116 = .ok (.goto 12, 3) := by decide +kernel
theorem dX6_mount_119 : decode cX6_mount 119 = .ok (.iload_n 1, 1) := by decide +kernel
theorem dX6_mount_120 : decode cX6_mount 120 = .ok (.iload_n 1, 1) := by decide +kernel
theorem dX6_mount_121 : decode cX6_mount 121 = .ok (.invokestatic 94, 3) := by decide +kernel
theorem dX6_mount_124 : decode cX6_mount 124 = .ok (.iconst 0, 1) := by decide +kernel
theorem dX6_mount_125 : decode cX6_mount 125 = .ok (.invokestatic 114, 3) := by decide +kernel
theorem dX6_mount_128 : decode cX6_mount 128 = .ok (.lastore, 1) := by decide +kernel
theorem dX6_mount_129 : decode cX6_mount 129 = .ok (.iload_n 2, 1) := by decide +kernel
theorem dX6_mount_130 : decode cX6_mount 130 = .ok (.ireturn, 1) := by decide +kernel
theorem dX6_link_0 : decode cX6_link 0 = .ok (.aload_n 0, 1) := by decide +kernel
theorem dX6_link_1 : decode cX6_link 1 = .ok (.getfield 13, 3) := by decide +kernel
theorem dX6_link_4 : decode cX6_link 4 = .ok (.iload_n 1, 1) := by decide +kernel
theorem dX6_link_5 : decode cX6_link 5 = .ok (.iaload, 1) := by decide +kernel
theorem dX6_link_6 : decode cX6_link 6 = .ok (.bipush 6, 2) := by decide +kernel
theorem dX6_link_8 : decode cX6_link 8 = .ok (.if_icmp .ne 9, 3) := by decide +kernel
theorem dX6_link_11 : decode cX6_link 11 = .ok (.aload_n 0, 1) := by decide +kernel
theorem dX6_link_12 : decode cX6_link 12 = .ok (.iconst 3, 1) := by decide +kernel
theorem dX6_link_13 : decode cX6_link 13 = .ok (.invokevirtual 161, 3) := by decide +kernel
theorem dX6_link_16 : decode cX6_link 16 = .ok (.ireturn, 1) := by decide +kernel
theorem dX6_link_17 : decode cX6_link 17 = .ok (.bipush 6, 2) := by decide +kernel
theorem dX6_link_19 : decode cX6_link 19 = .ok (.iload_n 1, 1) := by decide +kernel
theorem dX6_link_20 : decode cX6_link 20 = .ok (.imul, 1) := by decide +kernel
theorem dX6_link_21 : decode cX6_link 21 = .ok (.aload_n 0, 1) := by decide +kernel
theorem dX6_link_22 : decode cX6_link 22 = .ok (.getfield 13, 3) := by decide +kernel
theorem dX6_link_25 : decode cX6_link 25 = .ok (.iload_n 1, 1) := by decide +kernel
theorem dX6_link_26 : decode cX6_link 26 = .ok (.iaload, 1) := by decide +kernel
theorem dX6_link_27 : decode cX6_link 27 = .ok (.iadd, 1) := by decide +kernel
theorem dX6_link_28 : decode cX6_link 28 = .ok (.istore 6, 2) := by decide +kernel
theorem dX6_link_30 : decode cX6_link 30 = .ok (.aload_n 0, 1) := by decide +kernel
theorem dX6_link_31 : decode cX6_link 31 = .ok (.getfield 16, 3) := by decide +kernel
theorem dX6_link_34 : decode cX6_link 34 = .ok (.iload 6, 2) := by decide +kernel
theorem dX6_link_36 : decode cX6_link 36 = .ok (.iload_n 2, 1) := by decide +kernel
theorem dX6_link_37 : decode cX6_link 37 = .ok (.iastore, 1) := by decide +kernel
theorem dX6_link_38 : decode cX6_link 38 = .ok (.aload_n 0, 1) := by decide +kernel
theorem dX6_link_39 : decode cX6_link 39 = .ok (.getfield 22, 3) := by decide +kernel
theorem dX6_link_42 : decode cX6_link 42 = .ok (.iload 6, 2) := by decide +kernel
theorem dX6_link_44 : decode cX6_link 44 = .ok (.lload_n 3, 1) := by decide +kernel
theorem dX6_link_45 : decode cX6_link 45 = .ok (.lastore, 1) := by decide +kernel
theorem dX6_link_46 : decode cX6_link 46 = .ok (.aload_n 0, 1) := by decide +kernel
theorem dX6_link_47 : decode cX6_link 47 = .ok (.getfield 19, 3) := by decide +kernel
theorem dX6_link_50 : decode cX6_link 50 = .ok (.iload 6, 2) := by decide +kernel
theorem dX6_link_52 : decode cX6_link 52 = .ok (.iload 5, 2) := by decide +kernel
theorem dX6_link_54 : decode cX6_link 54 = .ok (.iastore, 1) := by decide +kernel
theorem dX6_link_55 : decode cX6_link 55 = .ok (.aload_n 0, 1) := by decide +kernel
theorem dX6_link_56 : decode cX6_link 56 = .ok (.getfield 13, 3) := by decide +kernel
theorem dX6_link_59 : decode cX6_link 59 = .ok (.iload_n 1, 1) := by decide +kernel
theorem dX6_link_60 : decode cX6_link 60 = .ok (.dup2, 1) := by decide +kernel
theorem dX6_link_61 : decode cX6_link 61 = .ok (.iaload, 1) := by decide +kernel
theorem dX6_link_62 : decode cX6_link 62 = .ok (.iconst 1, 1) := by decide +kernel
theorem dX6_link_63 : decode cX6_link 63 = .ok (.iadd, 1) := by decide +kernel
theorem dX6_link_64 : decode cX6_link 64 = .ok (.iastore, 1) := by decide +kernel
theorem dX6_link_65 : decode cX6_link 65 = .ok (.aload_n 0, 1) := by decide +kernel
theorem dX6_link_66 : decode cX6_link 66 = .ok (.getfield 13, 3) := by decide +kernel
theorem dX6_link_69 : decode cX6_link 69 = .ok (.iload_n 1, 1) := by decide +kernel
theorem dX6_link_70 : decode cX6_link 70 = .ok (.iaload, 1) := by decide +kernel
theorem dX6_link_71 : decode cX6_link 71 = .ok (.ireturn, 1) := by decide +kernel
theorem dX6_step_0 : decode cX6_step 0 = .ok (.aload_n 0, 1) := by decide +kernel
theorem dX6_step_1 : decode cX6_step 1 = .ok (.iconst 0, 1) := by decide +kernel
theorem dX6_step_2 : decode cX6_step 2 = .ok (.putfield 53, 3) := by decide +kernel
theorem dX6_step_5 : decode cX6_step 5 = .ok (.aload_n 0, 1) := by decide +kernel
theorem dX6_step_6 : decode cX6_step 6 = .ok (.iload_n 1, 1) := by decide +kernel
theorem dX6_step_7 : decode cX6_step 7 = .ok (.invokevirtual 170, 3) := by decide +kernel
theorem dX6_step_10 : decode cX6_step 10 = .ok (.ifCond .ne 9, 3) := by decide +kernel
theorem dX6_step_13 : decode cX6_step 13 = .ok (.aload_n 0, 1) := by decide +kernel
theorem dX6_step_14 : decode cX6_step 14 = .ok (.iconst 1, 1) := by decide +kernel
theorem dX6_step_15 : decode cX6_step 15 = .ok (.invokevirtual 161, 3) := by decide +kernel
theorem dX6_step_18 : decode cX6_step 18 = .ok (.ireturn, 1) := by decide +kernel
theorem dX6_step_19 : decode cX6_step 19 = .ok (.aload_n 0, 1) := by decide +kernel
theorem dX6_step_20 : decode cX6_step 20 = .ok (.getfield 7, 3) := by decide +kernel
theorem dX6_step_23 : decode cX6_step 23 = .ok (.iload_n 1, 1) := by decide +kernel
theorem dX6_step_24 : decode cX6_step 24 = .ok (.iaload, 1) := by decide +kernel
theorem dX6_step_25 : decode cX6_step 25 = .ok (.istore 5, 2) := by decide +kernel
theorem dX6_step_27 : decode cX6_step 27 = .ok (.iload 5, 2) := by decide +kernel
theorem dX6_step_29 : decode cX6_step 29 = .ok (.iload_n 2, 1) := by decide +kernel
theorem dX6_step_30 : decode cX6_step 30 = .ok (.invokestatic 173, 3) := by decide +kernel
theorem dX6_step_33 : decode cX6_step 33 = .ok (.ifCond .eq 19, 3) := by decide +kernel
theorem dX6_step_36 : decode cX6_step 36 = .ok (.iload_n 2, 1) := by decide +kernel
theorem dX6_step_37 : decode cX6_step 37 = .ok (.invokestatic 177, 3) := by decide +kernel
theorem dX6_step_40 : decode cX6_step 40 = .ok (.ifCond .eq 18, 3) := by decide +kernel
theorem dX6_step_43 : decode cX6_step 43 = .ok (.iload 5, 2) := by decide +kernel
theorem dX6_step_45 : decode cX6_step 45 = .ok (.lload_n 3, 1) := by decide +kernel
theorem dX6_step_46 : decode cX6_step 46 = .ok (.invokestatic 180, 3) := by decide +kernel
theorem dX6_step_49 : decode cX6_step 49 = .ok (.ifCond .eq 9, 3) := by decide +kernel
theorem dX6_step_52 : decode cX6_step 52 = .ok (.aload_n 0, 1) := by decide +kernel
theorem dX6_step_53 : decode cX6_step 53 = .ok (.iconst 2, 1) := by decide +kernel
theorem dX6_step_54 : decode cX6_step 54 = .ok (.invokevirtual 161, 3) := by decide +kernel
theorem dX6_step_57 : decode cX6_step 57 = .ok (.ireturn, 1) := by decide +kernel
theorem dX6_step_58 : decode cX6_step 58 = .ok (.aload_n 0, 1) := by decide +kernel
theorem dX6_step_59 : decode cX6_step 59 = .ok (.iload_n 1, 1) := by decide +kernel
theorem dX6_step_60 : decode cX6_step 60 = .ok (.iload_n 2, 1) := by decide +kernel
theorem dX6_step_61 : decode cX6_step 61 = .ok (.iload 5, 2) := by decide +kernel
theorem dX6_step_63 : decode cX6_step 63 = .ok (.lload_n 3, 1) := by decide +kernel
theorem dX6_step_64 : decode cX6_step 64 = .ok (.invokestatic 88, 3) := by decide +kernel
theorem dX6_step_67 : decode cX6_step 67 = .ok (.iconst (-1), 1) := by decide +kernel
theorem dX6_step_68 : decode cX6_step 68 = .ok (.invokevirtual 183, 3) := by decide +kernel
theorem dX6_step_71 : decode cX6_step 71 = .ok (.ireturn, 1) := by decide +kernel
theorem dX6_follow_0 : decode cX6_follow 0 = .ok (.aload_n 0, 1) := by decide +kernel
theorem dX6_follow_1 : decode cX6_follow 1 = .ok (.iconst 0, 1) := by decide +kernel
theorem dX6_follow_2 : decode cX6_follow 2 = .ok (.putfield 53, 3) := by decide +kernel
theorem dX6_follow_5 : decode cX6_follow 5 = .ok (.aload_n 0, 1) := by decide +kernel
theorem dX6_follow_6 : decode cX6_follow 6 = .ok (.iload_n 1, 1) := by decide +kernel
theorem dX6_follow_7 : decode cX6_follow 7 = .ok (.invokevirtual 170, 3) := by decide +kernel
theorem dX6_follow_10 : decode cX6_follow 10 = .ok (.ifCond .eq 11, 3) := by decide +kernel
theorem dX6_follow_13 : decode cX6_follow 13 = .ok (.aload_n 0, 1) := by decide +kernel
theorem dX6_follow_14 : decode cX6_follow 14 = .ok (.iload_n 3, 1) := by decide +kernel
theorem dX6_follow_15 : decode cX6_follow 15 = .ok (.invokevirtual 170, 3) := by decide +kernel
theorem dX6_follow_18 : decode cX6_follow 18 = .ok (.ifCond .ne 9, 3) := by decide +kernel
theorem dX6_follow_21 : decode cX6_follow 21 = .ok (.aload_n 0, 1) := by decide +kernel
theorem dX6_follow_22 : decode cX6_follow 22 = .ok (.iconst 1, 1) := by decide +kernel
theorem dX6_follow_23 : decode cX6_follow 23 = .ok (.invokevirtual 161, 3) := by decide +kernel
theorem dX6_follow_26 : decode cX6_follow 26 = .ok (.ireturn, 1) := by decide +kernel
theorem dX6_follow_27 : decode cX6_follow 27 = .ok (.aload_n 0, 1) := by decide +kernel
theorem dX6_follow_28 : decode cX6_follow 28 = .ok (.getfield 7, 3) := by decide +kernel
theorem dX6_follow_31 : decode cX6_follow 31 = .ok (.iload_n 1, 1) := by decide +kernel
theorem dX6_follow_32 : decode cX6_follow 32 = .ok (.iaload, 1) := by decide +kernel
theorem dX6_follow_33 : decode cX6_follow 33 = .ok (.iload_n 2, 1) := by decide +kernel
theorem dX6_follow_34 : decode cX6_follow 34 = .ok (.invokestatic 173, 3) := by decide +kernel
theorem dX6_follow_37 : decode cX6_follow 37 = .ok (.ifCond .eq 25, 3) := by decide +kernel
theorem dX6_follow_40 : decode cX6_follow 40 = .ok (.iload_n 2, 1) := by decide +kernel
theorem dX6_follow_41 : decode cX6_follow 41 = .ok (.invokestatic 177, 3) := by decide +kernel
theorem dX6_follow_44 : decode cX6_follow 44 = .ok (.ifCond .eq 18, 3) := by decide +kernel
theorem dX6_follow_47 : decode cX6_follow 47 = .ok (.aload_n 0, 1) := by decide +kernel
theorem dX6_follow_48 : decode cX6_follow 48 = .ok (.getfield 7, 3) := by decide +kernel
theorem dX6_follow_51 : decode cX6_follow 51 = .ok (.iload_n 3, 1) := by decide +kernel
theorem dX6_follow_52 : decode cX6_follow 52 = .ok (.iaload, 1) := by decide +kernel
theorem dX6_follow_53 : decode cX6_follow 53 = .ok (.aload_n 0, 1) := by decide +kernel
theorem dX6_follow_54 : decode cX6_follow 54 = .ok (.getfield 7, 3) := by decide +kernel
theorem dX6_follow_57 : decode cX6_follow 57 = .ok (.iload_n 1, 1) := by decide +kernel
theorem dX6_follow_58 : decode cX6_follow 58 = .ok (.iaload, 1) := by decide +kernel
theorem dX6_follow_59 : decode cX6_follow 59 = .ok (.if_icmp .eq 9, 3) := by decide +kernel
theorem dX6_follow_62 : decode cX6_follow 62 = .ok (.aload_n 0, 1) := by decide +kernel
theorem dX6_follow_63 : decode cX6_follow 63 = .ok (.iconst 2, 1) := by decide +kernel
theorem dX6_follow_64 : decode cX6_follow 64 = .ok (.invokevirtual 161, 3) := by decide +kernel
theorem dX6_follow_67 : decode cX6_follow 67 = .ok (.ireturn, 1) := by decide +kernel
theorem dX6_follow_68 : decode cX6_follow 68 = .ok (.aload_n 0, 1) := by decide +kernel
theorem dX6_follow_69 : decode cX6_follow 69 = .ok (.iload_n 1, 1) := by decide +kernel
theorem dX6_follow_70 : decode cX6_follow 70 = .ok (.iload_n 2, 1) := by decide +kernel
theorem dX6_follow_71 : decode cX6_follow 71 = .ok (.lconst 0, 1) := by decide +kernel
theorem dX6_follow_72 : decode cX6_follow 72 = .ok (.iload_n 3, 1) := by decide +kernel
theorem dX6_follow_73 : decode cX6_follow 73 = .ok (.invokevirtual 183, 3) := by decide +kernel
theorem dX6_follow_76 : decode cX6_follow 76 = .ok (.ireturn, 1) := by decide +kernel
theorem dX6_limits_0 : decode cX6_limits 0 = .ok (.aload_n 0, 1) := by decide +kernel
theorem dX6_limits_1 : decode cX6_limits 1 = .ok (.iconst 0, 1) := by decide +kernel
theorem dX6_limits_2 : decode cX6_limits 2 = .ok (.putfield 53, 3) := by decide +kernel
theorem dX6_limits_5 : decode cX6_limits 5 = .ok (.aload_n 0, 1) := by decide +kernel
theorem dX6_limits_6 : decode cX6_limits 6 = .ok (.iload_n 1, 1) := by decide +kernel
theorem dX6_limits_7 : decode cX6_limits 7 = .ok (.invokevirtual 170, 3) := by decide +kernel
theorem dX6_limits_10 : decode cX6_limits 10 = .ok (.ifCond .ne 17, 3) := by decide +kernel
theorem dX6_limits_13 : decode cX6_limits 13 = .ok (.aload_n 0, 1) := by decide +kernel
theorem dX6_limits_14 : decode cX6_limits 14 = .ok (.iconst 1, 1) := by decide +kernel
theorem dX6_limits_15 : decode cX6_limits 15 = .ok (.invokevirtual 161, 3) := by decide +kernel
theorem dX6_limits_18 : decode cX6_limits 18 = .ok (.ifCond .le 7, 3) := by decide +kernel
theorem dX6_limits_21 : decode cX6_limits 21 = .ok (.iconst 1, 1) := by decide +kernel
theorem dX6_limits_22 : decode cX6_limits 22 = .ok (.goto 4, 3) := by decide +kernel
theorem dX6_limits_25 : decode cX6_limits 25 = .ok (.iconst 0, 1) := by decide +kernel
theorem dX6_limits_26 : decode cX6_limits 26 = .ok (.ireturn, 1) := by decide +kernel
theorem dX6_limits_27 : decode cX6_limits 27 = .ok (.aload_n 0, 1) := by decide +kernel
theorem dX6_limits_28 : decode cX6_limits 28 = .ok (.getfield 7, 3) := by decide +kernel
theorem dX6_limits_31 : decode cX6_limits 31 = .ok (.iload_n 1, 1) := by decide +kernel
theorem dX6_limits_32 : decode cX6_limits 32 = .ok (.iaload, 1) := by decide +kernel
theorem dX6_limits_33 : decode cX6_limits 33 = .ok (.istore 6, 2) := by decide +kernel
theorem dX6_limits_35 : decode cX6_limits 35 = .ok (.iload 6, 2) := by decide +kernel
theorem dX6_limits_37 : decode cX6_limits 37 = .ok (.lload_n 2, 1) := by decide +kernel
theorem dX6_limits_38 : decode cX6_limits 38 = .ok (.invokestatic 180, 3) := by decide +kernel
theorem dX6_limits_41 : decode cX6_limits 41 = .ok (.ifCond .ne 13, 3) := by decide +kernel
theorem dX6_limits_44 : decode cX6_limits 44 = .ok (.iload 6, 2) := by decide +kernel
theorem dX6_limits_46 : decode cX6_limits 46 = .ok (.lload 4, 2) := by decide +kernel
theorem dX6_limits_48 : decode cX6_limits 48 = .ok (.invokestatic 180, 3) := by decide +kernel
theorem dX6_limits_51 : decode cX6_limits 51 = .ok (.ifCond .eq 17, 3) := by decide +kernel
theorem dX6_limits_54 : decode cX6_limits 54 = .ok (.aload_n 0, 1) := by decide +kernel
theorem dX6_limits_55 : decode cX6_limits 55 = .ok (.iconst 2, 1) := by decide +kernel
theorem dX6_limits_56 : decode cX6_limits 56 = .ok (.invokevirtual 161, 3) := by decide +kernel
theorem dX6_limits_59 : decode cX6_limits 59 = .ok (.ifCond .le 7, 3) := by decide +kernel
theorem dX6_limits_62 : decode cX6_limits 62 = .ok (.iconst 1, 1) := by decide +kernel
theorem dX6_limits_63 : decode cX6_limits 63 = .ok (.goto 4, 3) := by decide +kernel
theorem dX6_limits_66 : decode cX6_limits 66 = .ok (.iconst 0, 1) := by decide +kernel
theorem dX6_limits_67 : decode cX6_limits 67 = .ok (.ireturn, 1) := by decide +kernel
theorem dX6_limits_68 : decode cX6_limits 68 = .ok (.aload_n 0, 1) := by decide +kernel
theorem dX6_limits_69 : decode cX6_limits 69 = .ok (.getfield 26, 3) := by decide +kernel
theorem dX6_limits_72 : decode cX6_limits 72 = .ok (.iload_n 1, 1) := by decide +kernel
theorem dX6_limits_73 : decode cX6_limits 73 = .ok (.iload 6, 2) := by decide +kernel
theorem dX6_limits_75 : decode cX6_limits 75 = .ok (.lload_n 2, 1) := by decide +kernel
theorem dX6_limits_76 : decode cX6_limits 76 = .ok (.invokestatic 88, 3) := by decide +kernel
theorem dX6_limits_79 : decode cX6_limits 79 = .ok (.lastore, 1) := by decide +kernel
theorem dX6_limits_80 : decode cX6_limits 80 = .ok (.aload_n 0, 1) := by decide +kernel
theorem dX6_limits_81 : decode cX6_limits 81 = .ok (.getfield 29, 3) := by decide +kernel
theorem dX6_limits_84 : decode cX6_limits 84 = .ok (.iload_n 1, 1) := by decide +kernel
theorem dX6_limits_85 : decode cX6_limits 85 = .ok (.iload 6, 2) := by decide +kernel
theorem dX6_limits_87 : decode cX6_limits 87 = .ok (.lload 4, 2) := by decide +kernel
theorem dX6_limits_89 : decode cX6_limits 89 = .ok (.invokestatic 88, 3) := by decide +kernel
theorem dX6_limits_92 : decode cX6_limits 92 = .ok (.lastore, 1) := by decide +kernel
theorem dX6_limits_93 : decode cX6_limits 93 = .ok (.iload 6, 2) := by decide +kernel
theorem dX6_limits_95 : decode cX6_limits 95 = .ok (.aload_n 0, 1) := by decide +kernel
theorem dX6_limits_96 : decode cX6_limits 96 = .ok (.getfield 26, 3) := by decide +kernel
theorem dX6_limits_99 : decode cX6_limits 99 = .ok (.iload_n 1, 1) := by decide +kernel
theorem dX6_limits_100 : decode cX6_limits 100 = .ok (.laload, 1) := by decide +kernel
theorem dX6_limits_101 : decode cX6_limits 101 = .ok (.aload_n 0, 1) := by decide +kernel
theorem dX6_limits_102 : decode cX6_limits 102 = .ok (.getfield 29, 3) := by decide +kernel
theorem dX6_limits_105 : decode cX6_limits 105 = .ok (.iload_n 1, 1) := by decide +kernel
theorem dX6_limits_106 : decode cX6_limits 106 = .ok (.laload, 1) := by decide +kernel
theorem dX6_limits_107 : decode cX6_limits 107 = .ok (.invokestatic 187, 3) := by decide +kernel
theorem dX6_limits_110 : decode cX6_limits 110 = .ok (.ifCond .ne 7, 3) := by decide +kernel
theorem dX6_limits_113 : decode cX6_limits 113 = .ok (.iconst 1, 1) := by decide +kernel
theorem dX6_limits_114 : decode cX6_limits 114 = .ok (.goto 4, 3) := by decide +kernel
theorem dX6_limits_117 : decode cX6_limits 117 = .ok (.iconst 0, 1) := by decide +kernel
theorem dX6_limits_118 : decode cX6_limits 118 = .ok (.ireturn, 1) := by decide +kernel
theorem dX6_latest_0 : decode cX6_latest 0 = .ok (.aload_n 0, 1) := by decide +kernel
theorem dX6_latest_1 : decode cX6_latest 1 = .ok (.getfield 32, 3) := by decide +kernel
theorem dX6_latest_4 : decode cX6_latest 4 = .ok (.iload_n 1, 1) := by decide +kernel
theorem dX6_latest_5 : decode cX6_latest 5 = .ok (.iaload, 1) := by decide +kernel
theorem dX6_latest_6 : decode cX6_latest 6 = .ok (.ifCond .ne 7, 3) := by decide +kernel
theorem dX6_latest_9 : decode cX6_latest 9 = .ok (.lconst 0, 1) := by decide +kernel
theorem dX6_latest_10 : decode cX6_latest 10 = .ok (.goto 24, 3) := by decide +kernel
theorem dX6_latest_13 : decode cX6_latest 13 = .ok (.aload_n 0, 1) := by decide +kernel
theorem dX6_latest_14 : decode cX6_latest 14 = .ok (.getfield 35, 3) := by decide +kernel
theorem dX6_latest_17 : decode cX6_latest 17 = .ok (.bipush 16, 2) := by decide +kernel
theorem dX6_latest_19 : decode cX6_latest 19 = .ok (.iload_n 1, 1) := by decide +kernel
theorem dX6_latest_20 : decode cX6_latest 20 = .ok (.imul, 1) := by decide +kernel
theorem dX6_latest_21 : decode cX6_latest 21 = .ok (.aload_n 0, 1) := by decide +kernel
theorem dX6_latest_22 : decode cX6_latest 22 = .ok (.getfield 32, 3) := by decide +kernel
theorem dX6_latest_25 : decode cX6_latest 25 = .ok (.iload_n 1, 1) := by decide +kernel
theorem dX6_latest_26 : decode cX6_latest 26 = .ok (.iaload, 1) := by decide +kernel
theorem dX6_latest_27 : decode cX6_latest 27 = .ok (.iconst 1, 1) := by decide +kernel
theorem dX6_latest_28 : decode cX6_latest 28 = .ok (.isub, 1) := by decide +kernel
theorem dX6_latest_29 : decode cX6_latest 29 = .ok (.bipush 16, 2) := by decide +kernel
theorem dX6_latest_31 : decode cX6_latest 31 = .ok (.irem, 1) := by decide +kernel
theorem dX6_latest_32 : decode cX6_latest 32 = .ok (.iadd, 1) := by decide +kernel
theorem dX6_latest_33 : decode cX6_latest 33 = .ok (.laload, 1) := by decide +kernel
theorem dX6_latest_34 : decode cX6_latest 34 = .ok (.lreturn, 1) := by decide +kernel
theorem dX6_through_0 : decode cX6_through 0 = .ok (.lload_n 2, 1) := by decide +kernel
theorem dX6_through_1 : decode cX6_through 1 = .ok (.lstore 4, 2) := by decide +kernel
theorem dX6_through_3 : decode cX6_through 3 = .ok (.bipush 6, 2) := by decide +kernel
theorem dX6_through_5 : decode cX6_through 5 = .ok (.iload_n 1, 1) := by decide +kernel
theorem dX6_through_6 : decode cX6_through 6 = .ok (.imul, 1) := by decide +kernel
theorem dX6_through_7 : decode cX6_through 7 = .ok (.istore 6, 2) := by decide +kernel
theorem dX6_through_9 : decode cX6_through 9 = .ok (.iload 6, 2) := by decide +kernel
theorem dX6_through_11 : decode cX6_through 11 = .ok (.bipush 6, 2) := by decide +kernel
theorem dX6_through_13 : decode cX6_through 13 = .ok (.iload_n 1, 1) := by decide +kernel
theorem dX6_through_14 : decode cX6_through 14 = .ok (.imul, 1) := by decide +kernel
theorem dX6_through_15 : decode cX6_through 15 = .ok (.aload_n 0, 1) := by decide +kernel
theorem dX6_through_16 : decode cX6_through 16 = .ok (.getfield 13, 3) := by decide +kernel
theorem dX6_through_19 : decode cX6_through 19 = .ok (.iload_n 1, 1) := by decide +kernel
theorem dX6_through_20 : decode cX6_through 20 = .ok (.iaload, 1) := by decide +kernel
theorem dX6_through_21 : decode cX6_through 21 = .ok (.iadd, 1) := by decide +kernel
theorem dX6_through_22 : decode cX6_through 22 = .ok (.if_icmp .ge 74, 3) := by decide +kernel
theorem dX6_through_25 : decode cX6_through 25 = .ok (.aload_n 0, 1) := by decide +kernel
theorem dX6_through_26 : decode cX6_through 26 = .ok (.getfield 19, 3) := by decide +kernel
theorem dX6_through_29 : decode cX6_through 29 = .ok (.iload 6, 2) := by decide +kernel
theorem dX6_through_31 : decode cX6_through 31 = .ok (.iaload, 1) := by decide +kernel
theorem dX6_through_32 : decode cX6_through 32 = .ok (.ifCond .ge 13, 3) := by decide +kernel
theorem dX6_through_35 : decode cX6_through 35 = .ok (.aload_n 0, 1) := by decide +kernel
theorem dX6_through_36 : decode cX6_through 36 = .ok (.getfield 22, 3) := by decide +kernel
theorem dX6_through_39 : decode cX6_through 39 = .ok (.iload 6, 2) := by decide +kernel
theorem dX6_through_41 : decode cX6_through 41 = .ok (.laload, 1) := by decide +kernel
theorem dX6_through_42 : decode cX6_through 42 = .ok (.goto 14, 3) := by decide +kernel
theorem dX6_through_45 : decode cX6_through 45 = .ok (.aload_n 0, 1) := by decide +kernel
theorem dX6_through_46 : decode cX6_through 46 = .ok (.aload_n 0, 1) := by decide +kernel
theorem dX6_through_47 : decode cX6_through 47 = .ok (.getfield 19, 3) := by decide +kernel
theorem dX6_through_50 : decode cX6_through 50 = .ok (.iload 6, 2) := by decide +kernel
theorem dX6_through_52 : decode cX6_through 52 = .ok (.iaload, 1) := by decide +kernel
theorem dX6_through_53 : decode cX6_through 53 = .ok (.invokevirtual 191, 3) := by decide +kernel
theorem dX6_through_56 : decode cX6_through 56 = .ok (.lstore 7, 2) := by decide +kernel
theorem dX6_through_58 : decode cX6_through 58 = .ok (.aload_n 0, 1) := by decide +kernel
theorem dX6_through_59 : decode cX6_through 59 = .ok (.getfield 7, 3) := by decide +kernel
theorem dX6_through_62 : decode cX6_through 62 = .ok (.iload_n 1, 1) := by decide +kernel
theorem dX6_through_63 : decode cX6_through 63 = .ok (.iaload, 1) := by decide +kernel
theorem dX6_through_64 : decode cX6_through 64 = .ok (.aload_n 0, 1) := by decide +kernel
theorem dX6_through_65 : decode cX6_through 65 = .ok (.getfield 16, 3) := by decide +kernel
theorem dX6_through_68 : decode cX6_through 68 = .ok (.iload 6, 2) := by decide +kernel
theorem dX6_through_70 : decode cX6_through 70 = .ok (.iaload, 1) := by decide +kernel
theorem dX6_through_71 : decode cX6_through 71 = .ok (.lload 4, 2) := by decide +kernel
theorem dX6_through_73 : decode cX6_through 73 = .ok (.lload 7, 2) := by decide +kernel
theorem dX6_through_75 : decode cX6_through 75 = .ok (.invokestatic 194, 3) := by decide +kernel
theorem dX6_through_78 : decode cX6_through 78 = .ok (.lstore 4, 2) := by decide +kernel
theorem dX6_through_80 : decode cX6_through 80 = .ok (.aload_n 0, 1) := by decide +kernel
theorem dX6_through_81 : decode cX6_through 81 = .ok (.dup, 1) := by decide +kernel
theorem dX6_through_82 : decode cX6_through 82 = .ok (.getfield 198, 3) := by decide +kernel
theorem dX6_through_85 : decode cX6_through 85 = .ok (.iconst 1, 1) := by decide +kernel
theorem dX6_through_86 : decode cX6_through 86 = .ok (.iadd, 1) := by decide +kernel
theorem dX6_through_87 : decode cX6_through 87 = .ok (.putfield 198, 3) := by decide +kernel
theorem dX6_through_90 : decode cX6_through 90 = .ok (.iinc 6 1, 3) := by decide +kernel
theorem dX6_through_93 : decode cX6_through 93 = .ok (.goto (-84), 3) := by decide +kernel
theorem dX6_through_96 : decode cX6_through 96 = .ok (.lload 4, 2) := by decide +kernel
theorem dX6_through_98 : decode cX6_through 98 = .ok (.lreturn, 1) := by decide +kernel
theorem dX6_read_0 : decode cX6_read 0 = .ok (.aload_n 0, 1) := by decide +kernel
theorem dX6_read_1 : decode cX6_read 1 = .ok (.iconst 0, 1) := by decide +kernel
theorem dX6_read_2 : decode cX6_read 2 = .ok (.putfield 53, 3) := by decide +kernel
theorem dX6_read_5 : decode cX6_read 5 = .ok (.aload_n 0, 1) := by decide +kernel
theorem dX6_read_6 : decode cX6_read 6 = .ok (.iload_n 1, 1) := by decide +kernel
theorem dX6_read_7 : decode cX6_read 7 = .ok (.invokevirtual 170, 3) := by decide +kernel
theorem dX6_read_10 : decode cX6_read 10 = .ok (.ifCond .ne 10, 3) := by decide +kernel
theorem dX6_read_13 : decode cX6_read 13 = .ok (.aload_n 0, 1) := by decide +kernel
theorem dX6_read_14 : decode cX6_read 14 = .ok (.iconst 1, 1) := by decide +kernel
theorem dX6_read_15 : decode cX6_read 15 = .ok (.invokevirtual 161, 3) := by decide +kernel
theorem dX6_read_18 : decode cX6_read 18 = .ok (.i2l, 1) := by decide +kernel
theorem dX6_read_19 : decode cX6_read 19 = .ok (.lreturn, 1) := by decide +kernel
theorem dX6_read_20 : decode cX6_read 20 = .ok (.iload_n 1, 1) := by decide +kernel
theorem dX6_read_21 : decode cX6_read 21 = .ok (.istore 4, 2) := by decide +kernel
theorem dX6_read_23 : decode cX6_read 23 = .ok (.aload_n 0, 1) := by decide +kernel
theorem dX6_read_24 : decode cX6_read 24 = .ok (.getfield 7, 3) := by decide +kernel
theorem dX6_read_27 : decode cX6_read 27 = .ok (.iload 4, 2) := by decide +kernel
theorem dX6_read_29 : decode cX6_read 29 = .ok (.iaload, 1) := by decide +kernel
theorem dX6_read_30 : decode cX6_read 30 = .ok (.istore 5, 2) := by decide +kernel
theorem dX6_read_32 : decode cX6_read 32 = .ok (.iload 5, 2) := by decide +kernel
theorem dX6_read_34 : decode cX6_read 34 = .ok (.lload_n 2, 1) := by decide +kernel
theorem dX6_read_35 : decode cX6_read 35 = .ok (.invokestatic 180, 3) := by decide +kernel
theorem dX6_read_38 : decode cX6_read 38 = .ok (.ifCond .eq 10, 3) := by decide +kernel
theorem dX6_read_41 : decode cX6_read 41 = .ok (.aload_n 0, 1) := by decide +kernel
theorem dX6_read_42 : decode cX6_read 42 = .ok (.iconst 2, 1) := by decide +kernel
theorem dX6_read_43 : decode cX6_read 43 = .ok (.invokevirtual 161, 3) := by decide +kernel
theorem dX6_read_46 : decode cX6_read 46 = .ok (.i2l, 1) := by decide +kernel
theorem dX6_read_47 : decode cX6_read 47 = .ok (.lreturn, 1) := by decide +kernel
theorem dX6_read_48 : decode cX6_read 48 = .ok (.aload_n 0, 1) := by decide +kernel
theorem dX6_read_49 : decode cX6_read 49 = .ok (.iload 4, 2) := by decide +kernel
theorem dX6_read_51 : decode cX6_read 51 = .ok (.iload 5, 2) := by decide +kernel
theorem dX6_read_53 : decode cX6_read 53 = .ok (.lload_n 2, 1) := by decide +kernel
theorem dX6_read_54 : decode cX6_read 54 = .ok (.invokestatic 88, 3) := by decide +kernel
theorem dX6_read_57 : decode cX6_read 57 = .ok (.invokevirtual 201, 3) := by decide +kernel
theorem dX6_read_60 : decode cX6_read 60 = .ok (.lstore 6, 2) := by decide +kernel
theorem dX6_read_62 : decode cX6_read 62 = .ok (.aload_n 0, 1) := by decide +kernel
theorem dX6_read_63 : decode cX6_read 63 = .ok (.getfield 32, 3) := by decide +kernel
theorem dX6_read_66 : decode cX6_read 66 = .ok (.iload 4, 2) := by decide +kernel
theorem dX6_read_68 : decode cX6_read 68 = .ok (.iaload, 1) := by decide +kernel
theorem dX6_read_69 : decode cX6_read 69 = .ok (.ifCond .ne 7, 3) := by decide +kernel
theorem dX6_read_72 : decode cX6_read 72 = .ok (.iconst 1, 1) := by decide +kernel
theorem dX6_read_73 : decode cX6_read 73 = .ok (.goto 4, 3) := by decide +kernel
theorem dX6_read_76 : decode cX6_read 76 = .ok (.iconst 0, 1) := by decide +kernel
theorem dX6_read_77 : decode cX6_read 77 = .ok (.istore 8, 2) := by decide +kernel
theorem dX6_read_79 : decode cX6_read 79 = .ok (.aload_n 0, 1) := by decide +kernel
theorem dX6_read_80 : decode cX6_read 80 = .ok (.getfield 44, 3) := by decide +kernel
theorem dX6_read_83 : decode cX6_read 83 = .ok (.iload 4, 2) := by decide +kernel
theorem dX6_read_85 : decode cX6_read 85 = .ok (.iload 8, 2) := by decide +kernel
theorem dX6_read_87 : decode cX6_read 87 = .ok (.ifCond .eq 7, 3) := by decide +kernel
theorem dX6_read_90 : decode cX6_read 90 = .ok (.lconst 0, 1) := by decide +kernel
theorem dX6_read_91 : decode cX6_read 91 = .ok (.goto 16, 3) := by decide +kernel
theorem dX6_read_94 : decode cX6_read 94 = .ok (.iload 5, 2) := by decide +kernel
theorem dX6_read_96 : decode cX6_read 96 = .ok (.lload 6, 2) := by decide +kernel
theorem dX6_read_98 : decode cX6_read 98 = .ok (.aload_n 0, 1) := by decide +kernel
theorem dX6_read_99 : decode cX6_read 99 = .ok (.iload 4, 2) := by decide +kernel
theorem dX6_read_101 : decode cX6_read 101 = .ok (.invokevirtual 191, 3) := by decide +kernel
theorem dX6_read_104 : decode cX6_read 104 = .ok (.invokestatic 204, 3) := by decide +kernel
theorem dX6_read_107 : decode cX6_read 107 = .ok (.lastore, 1) := by decide +kernel
theorem dX6_read_108 : decode cX6_read 108 = .ok (.aload_n 0, 1) := by decide +kernel
theorem dX6_read_109 : decode cX6_read 109 = .ok (.getfield 38, 3) := by decide +kernel
theorem dX6_read_112 : decode cX6_read 112 = .ok (.iload 4, 2) := by decide +kernel
theorem dX6_read_114 : decode cX6_read 114 = .ok (.iload 8, 2) := by decide +kernel
theorem dX6_read_116 : decode cX6_read 116 = .ok (.ifCond .eq 8, 3) := by decide +kernel
theorem dX6_read_119 : decode cX6_read 119 = .ok (.lload 6, 2) := by decide +kernel
theorem dX6_read_121 : decode cX6_read 121 = .ok (.goto 17, 3) := by decide +kernel
theorem dX6_read_124 : decode cX6_read 124 = .ok (.iload 5, 2) := by decide +kernel
theorem dX6_read_126 : decode cX6_read 126 = .ok (.aload_n 0, 1) := by decide +kernel
theorem dX6_read_127 : decode cX6_read 127 = .ok (.getfield 38, 3) := by decide +kernel
theorem dX6_read_130 : decode cX6_read 130 = .ok (.iload 4, 2) := by decide +kernel
theorem dX6_read_132 : decode cX6_read 132 = .ok (.laload, 1) := by decide +kernel
theorem dX6_read_133 : decode cX6_read 133 = .ok (.lload 6, 2) := by decide +kernel
theorem dX6_read_135 : decode cX6_read 135 = .ok (.invokestatic 127, 3) := by decide +kernel
theorem dX6_read_138 : decode cX6_read 138 = .ok (.lastore, 1) := by decide +kernel
theorem dX6_read_139 : decode cX6_read 139 = .ok (.aload_n 0, 1) := by decide +kernel
theorem dX6_read_140 : decode cX6_read 140 = .ok (.getfield 41, 3) := by decide +kernel
theorem dX6_read_143 : decode cX6_read 143 = .ok (.iload 4, 2) := by decide +kernel
theorem dX6_read_145 : decode cX6_read 145 = .ok (.iload 8, 2) := by decide +kernel
theorem dX6_read_147 : decode cX6_read 147 = .ok (.ifCond .eq 8, 3) := by decide +kernel
theorem dX6_read_150 : decode cX6_read 150 = .ok (.lload 6, 2) := by decide +kernel
theorem dX6_read_152 : decode cX6_read 152 = .ok (.goto 17, 3) := by decide +kernel
theorem dX6_read_155 : decode cX6_read 155 = .ok (.iload 5, 2) := by decide +kernel
theorem dX6_read_157 : decode cX6_read 157 = .ok (.aload_n 0, 1) := by decide +kernel
theorem dX6_read_158 : decode cX6_read 158 = .ok (.getfield 41, 3) := by decide +kernel
theorem dX6_read_161 : decode cX6_read 161 = .ok (.iload 4, 2) := by decide +kernel
theorem dX6_read_163 : decode cX6_read 163 = .ok (.laload, 1) := by decide +kernel
theorem dX6_read_164 : decode cX6_read 164 = .ok (.lload 6, 2) := by decide +kernel
theorem dX6_read_166 : decode cX6_read 166 = .ok (.invokestatic 123, 3) := by decide +kernel
theorem dX6_read_169 : decode cX6_read 169 = .ok (.lastore, 1) := by decide +kernel
theorem dX6_read_170 : decode cX6_read 170 = .ok (.aload_n 0, 1) := by decide +kernel
theorem dX6_read_171 : decode cX6_read 171 = .ok (.getfield 47, 3) := by decide +kernel
theorem dX6_read_174 : decode cX6_read 174 = .ok (.iload 4, 2) := by decide +kernel
theorem dX6_read_176 : decode cX6_read 176 = .ok (.iload 5, 2) := by decide +kernel
theorem dX6_read_178 : decode cX6_read 178 = .ok (.iload 8, 2) := by decide +kernel
theorem dX6_read_180 : decode cX6_read 180 = .ok (.ifCond .eq 7, 3) := by decide +kernel
theorem dX6_read_183 : decode cX6_read 183 = .ok (.lconst 0, 1) := by decide +kernel
theorem dX6_read_184 : decode cX6_read 184 = .ok (.goto 10, 3) := by decide +kernel
theorem dX6_read_187 : decode cX6_read 187 = .ok (.aload_n 0, 1) := by decide +kernel
theorem dX6_read_188 : decode cX6_read 188 = .ok (.getfield 47, 3) := by decide +kernel
theorem dX6_read_191 : decode cX6_read 191 = .ok (.iload 4, 2) := by decide +kernel
theorem dX6_read_193 : decode cX6_read 193 = .ok (.laload, 1) := by decide +kernel
theorem dX6_read_194 : decode cX6_read 194 = .ok (.iload 5, 2) := by decide +kernel
theorem dX6_read_196 : decode cX6_read 196 = .ok (.lload 6, 2) := by decide +kernel
theorem dX6_read_198 : decode cX6_read 198 = .ok (.invokestatic 120, 3) := by decide +kernel
theorem dX6_read_201 : decode cX6_read 201 = .ok (.invokestatic 207, 3) := by decide +kernel
theorem dX6_read_204 : decode cX6_read 204 = .ok (.lastore, 1) := by decide +kernel
theorem dX6_read_205 : decode cX6_read 205 = .ok (.aload_n 0, 1) := by decide +kernel
theorem dX6_read_206 : decode cX6_read 206 = .ok (.getfield 35, 3) := by decide +kernel
theorem dX6_read_209 : decode cX6_read 209 = .ok (.bipush 16, 2) := by decide +kernel
theorem dX6_read_211 : decode cX6_read 211 = .ok (.iload 4, 2) := by decide +kernel
theorem dX6_read_213 : decode cX6_read 213 = .ok (.imul, 1) := by decide +kernel
theorem dX6_read_214 : decode cX6_read 214 = .ok (.aload_n 0, 1) := by decide +kernel
theorem dX6_read_215 : decode cX6_read 215 = .ok (.getfield 32, 3) := by decide +kernel
theorem dX6_read_218 : decode cX6_read 218 = .ok (.iload 4, 2) := by decide +kernel
theorem dX6_read_220 : decode cX6_read 220 = .ok (.iaload, 1) := by decide +kernel
theorem dX6_read_221 : decode cX6_read 221 = .ok (.bipush 16, 2) := by decide +kernel
theorem dX6_read_223 : decode cX6_read 223 = .ok (.irem, 1) := by decide +kernel
theorem dX6_read_224 : decode cX6_read 224 = .ok (.iadd, 1) := by decide +kernel
theorem dX6_read_225 : decode cX6_read 225 = .ok (.lload 6, 2) := by decide +kernel
theorem dX6_read_227 : decode cX6_read 227 = .ok (.lastore, 1) := by decide +kernel
theorem dX6_read_228 : decode cX6_read 228 = .ok (.aload_n 0, 1) := by decide +kernel
theorem dX6_read_229 : decode cX6_read 229 = .ok (.getfield 32, 3) := by decide +kernel
theorem dX6_read_232 : decode cX6_read 232 = .ok (.iload 4, 2) := by decide +kernel
theorem dX6_read_234 : decode cX6_read 234 = .ok (.dup2, 1) := by decide +kernel
theorem dX6_read_235 : decode cX6_read 235 = .ok (.iaload, 1) := by decide +kernel
theorem dX6_read_236 : decode cX6_read 236 = .ok (.iconst 1, 1) := by decide +kernel
theorem dX6_read_237 : decode cX6_read 237 = .ok (.iadd, 1) := by decide +kernel
theorem dX6_read_238 : decode cX6_read 238 = .ok (.iastore, 1) := by decide +kernel
theorem dX6_read_239 : decode cX6_read 239 = .ok (.aload_n 0, 1) := by decide +kernel
theorem dX6_read_240 : decode cX6_read 240 = .ok (.dup, 1) := by decide +kernel
theorem dX6_read_241 : decode cX6_read 241 = .ok (.getfield 210, 3) := by decide +kernel
theorem dX6_read_244 : decode cX6_read 244 = .ok (.iconst 1, 1) := by decide +kernel
theorem dX6_read_245 : decode cX6_read 245 = .ok (.iadd, 1) := by decide +kernel
theorem dX6_read_246 : decode cX6_read 246 = .ok (.putfield 210, 3) := by decide +kernel
theorem dX6_read_249 : decode cX6_read 249 = .ok (.iload 5, 2) := by decide +kernel
theorem dX6_read_251 : decode cX6_read 251 = .ok (.aload_n 0, 1) := by decide +kernel
theorem dX6_read_252 : decode cX6_read 252 = .ok (.getfield 26, 3) := by decide +kernel
theorem dX6_read_255 : decode cX6_read 255 = .ok (.iload 4, 2) := by decide +kernel
theorem dX6_read_257 : decode cX6_read 257 = .ok (.laload, 1) := by decide +kernel
theorem dX6_read_258 : decode cX6_read 258 = .ok (.lload 6, 2) := by decide +kernel
theorem dX6_read_260 : decode cX6_read 260 = .ok (.invokestatic 187, 3) := by decide +kernel
theorem dX6_read_263 : decode cX6_read 263 = .ok (.ifCond .ne 20, 3) := by decide +kernel
theorem dX6_read_266 : decode cX6_read 266 = .ok (.iload 5, 2) := by decide +kernel
theorem dX6_read_268 : decode cX6_read 268 = .ok (.lload 6, 2) := by decide +kernel
theorem dX6_read_270 : decode cX6_read 270 = .ok (.aload_n 0, 1) := by decide +kernel
theorem dX6_read_271 : decode cX6_read 271 = .ok (.getfield 29, 3) := by decide +kernel
theorem dX6_read_274 : decode cX6_read 274 = .ok (.iload 4, 2) := by decide +kernel
theorem dX6_read_276 : decode cX6_read 276 = .ok (.laload, 1) := by decide +kernel
theorem dX6_read_277 : decode cX6_read 277 = .ok (.invokestatic 187, 3) := by decide +kernel
theorem dX6_read_280 : decode cX6_read 280 = .ok (.ifCond .eq 24, 3) := by decide +kernel
theorem dX6_read_283 : decode cX6_read 283 = .ok (.aload_n 0, 1) := by decide +kernel
theorem dX6_read_284 : decode cX6_read 284 = .ok (.getfield 50, 3) := by decide +kernel
theorem dX6_read_287 : decode cX6_read 287 = .ok (.iload 4, 2) := by decide +kernel
theorem dX6_read_289 : decode cX6_read 289 = .ok (.dup2, 1) := by decide +kernel
theorem dX6_read_290 : decode cX6_read 290 = .ok (.iaload, 1) := by decide +kernel
theorem dX6_read_291 : decode cX6_read 291 = .ok (.iconst 1, 1) := by decide +kernel
theorem dX6_read_292 : decode cX6_read 292 = .ok (.iadd, 1) := by decide +kernel
theorem dX6_read_293 : decode cX6_read 293 = .ok (.iastore, 1) := by decide +kernel
theorem dX6_read_294 : decode cX6_read 294 = .ok (.aload_n 0, 1) := by decide +kernel
theorem dX6_read_295 : decode cX6_read 295 = .ok (.dup, 1) := by decide +kernel
theorem dX6_read_296 : decode cX6_read 296 = .ok (.getfield 213, 3) := by decide +kernel
theorem dX6_read_299 : decode cX6_read 299 = .ok (.iconst 1, 1) := by decide +kernel
theorem dX6_read_300 : decode cX6_read 300 = .ok (.iadd, 1) := by decide +kernel
theorem dX6_read_301 : decode cX6_read 301 = .ok (.putfield 213, 3) := by decide +kernel
theorem dX6_read_304 : decode cX6_read 304 = .ok (.lload 6, 2) := by decide +kernel
theorem dX6_read_306 : decode cX6_read 306 = .ok (.lreturn, 1) := by decide +kernel
theorem dX6_forget_0 : decode cX6_forget 0 = .ok (.aload_n 0, 1) := by decide +kernel
theorem dX6_forget_1 : decode cX6_forget 1 = .ok (.iconst 0, 1) := by decide +kernel
theorem dX6_forget_2 : decode cX6_forget 2 = .ok (.putfield 53, 3) := by decide +kernel
theorem dX6_forget_5 : decode cX6_forget 5 = .ok (.aload_n 0, 1) := by decide +kernel
theorem dX6_forget_6 : decode cX6_forget 6 = .ok (.iload_n 1, 1) := by decide +kernel
theorem dX6_forget_7 : decode cX6_forget 7 = .ok (.invokevirtual 170, 3) := by decide +kernel
theorem dX6_forget_10 : decode cX6_forget 10 = .ok (.ifCond .ne 9, 3) := by decide +kernel
theorem dX6_forget_13 : decode cX6_forget 13 = .ok (.aload_n 0, 1) := by decide +kernel
theorem dX6_forget_14 : decode cX6_forget 14 = .ok (.iconst 1, 1) := by decide +kernel
theorem dX6_forget_15 : decode cX6_forget 15 = .ok (.invokevirtual 161, 3) := by decide +kernel
theorem dX6_forget_18 : decode cX6_forget 18 = .ok (.ireturn, 1) := by decide +kernel
theorem dX6_forget_19 : decode cX6_forget 19 = .ok (.aload_n 0, 1) := by decide +kernel
theorem dX6_forget_20 : decode cX6_forget 20 = .ok (.getfield 32, 3) := by decide +kernel
theorem dX6_forget_23 : decode cX6_forget 23 = .ok (.iload_n 1, 1) := by decide +kernel
theorem dX6_forget_24 : decode cX6_forget 24 = .ok (.iaload, 1) := by decide +kernel
theorem dX6_forget_25 : decode cX6_forget 25 = .ok (.istore_n 2, 1) := by decide +kernel
theorem dX6_forget_26 : decode cX6_forget 26 = .ok (.aload_n 0, 1) := by decide +kernel
theorem dX6_forget_27 : decode cX6_forget 27 = .ok (.getfield 32, 3) := by decide +kernel
theorem dX6_forget_30 : decode cX6_forget 30 = .ok (.iload_n 1, 1) := by decide +kernel
theorem dX6_forget_31 : decode cX6_forget 31 = .ok (.iconst 0, 1) := by decide +kernel
theorem dX6_forget_32 : decode cX6_forget 32 = .ok (.iastore, 1) := by decide +kernel
theorem dX6_forget_33 : decode cX6_forget 33 = .ok (.iload_n 2, 1) := by decide +kernel
theorem dX6_forget_34 : decode cX6_forget 34 = .ok (.ireturn, 1) := by decide +kernel
theorem dX6_reading_0 : decode cX6_reading 0 = .ok (.aload_n 0, 1) := by decide +kernel
theorem dX6_reading_1 : decode cX6_reading 1 = .ok (.iconst 0, 1) := by decide +kernel
theorem dX6_reading_2 : decode cX6_reading 2 = .ok (.putfield 53, 3) := by decide +kernel
theorem dX6_reading_5 : decode cX6_reading 5 = .ok (.aload_n 0, 1) := by decide +kernel
theorem dX6_reading_6 : decode cX6_reading 6 = .ok (.iload_n 1, 1) := by decide +kernel
theorem dX6_reading_7 : decode cX6_reading 7 = .ok (.invokevirtual 170, 3) := by decide +kernel
theorem dX6_reading_10 : decode cX6_reading 10 = .ok (.ifCond .ne 10, 3) := by decide +kernel
theorem dX6_reading_13 : decode cX6_reading 13 = .ok (.aload_n 0, 1) := by decide +kernel
theorem dX6_reading_14 : decode cX6_reading 14 = .ok (.iconst 1, 1) := by decide +kernel
theorem dX6_reading_15 : decode cX6_reading 15 = .ok (.invokevirtual 161, 3) := by decide +kernel
theorem dX6_reading_18 : decode cX6_reading 18 = .ok (.i2l, 1) := by decide +kernel
theorem dX6_reading_19 : decode cX6_reading 19 = .ok (.lreturn, 1) := by decide +kernel
theorem dX6_reading_20 : decode cX6_reading 20 = .ok (.aload_n 0, 1) := by decide +kernel
theorem dX6_reading_21 : decode cX6_reading 21 = .ok (.getfield 32, 3) := by decide +kernel
theorem dX6_reading_24 : decode cX6_reading 24 = .ok (.iload_n 1, 1) := by decide +kernel
theorem dX6_reading_25 : decode cX6_reading 25 = .ok (.iaload, 1) := by decide +kernel
theorem dX6_reading_26 : decode cX6_reading 26 = .ok (.istore_n 3, 1) := by decide +kernel
theorem dX6_reading_27 : decode cX6_reading 27 = .ok (.iload_n 2, 1) := by decide +kernel
theorem dX6_reading_28 : decode cX6_reading 28 = .ok (.ifCond .lt 14, 3) := by decide +kernel
theorem dX6_reading_31 : decode cX6_reading 31 = .ok (.iload_n 2, 1) := by decide +kernel
theorem dX6_reading_32 : decode cX6_reading 32 = .ok (.iload_n 3, 1) := by decide +kernel
theorem dX6_reading_33 : decode cX6_reading 33 = .ok (.if_icmp .ge 9, 3) := by decide +kernel
theorem dX6_reading_36 : decode cX6_reading 36 = .ok (.iload_n 2, 1) := by decide +kernel
theorem dX6_reading_37 : decode cX6_reading 37 = .ok (.bipush 16, 2) := by decide +kernel
theorem dX6_reading_39 : decode cX6_reading 39 = .ok (.if_icmp .lt 10, 3) := by decide +kernel
theorem dX6_reading_42 : decode cX6_reading 42 = .ok (.aload_n 0, 1) := by decide +kernel
theorem dX6_reading_43 : decode cX6_reading 43 = .ok (.iconst 2, 1) := by decide +kernel
theorem dX6_reading_44 : decode cX6_reading 44 = .ok (.invokevirtual 161, 3) := by decide +kernel
theorem dX6_reading_47 : decode cX6_reading 47 = .ok (.i2l, 1) := by decide +kernel
theorem dX6_reading_48 : decode cX6_reading 48 = .ok (.lreturn, 1) := by decide +kernel
theorem dX6_reading_49 : decode cX6_reading 49 = .ok (.aload_n 0, 1) := by decide +kernel
theorem dX6_reading_50 : decode cX6_reading 50 = .ok (.getfield 35, 3) := by decide +kernel
theorem dX6_reading_53 : decode cX6_reading 53 = .ok (.bipush 16, 2) := by decide +kernel
theorem dX6_reading_55 : decode cX6_reading 55 = .ok (.iload_n 1, 1) := by decide +kernel
theorem dX6_reading_56 : decode cX6_reading 56 = .ok (.imul, 1) := by decide +kernel
theorem dX6_reading_57 : decode cX6_reading 57 = .ok (.iload_n 3, 1) := by decide +kernel
theorem dX6_reading_58 : decode cX6_reading 58 = .ok (.iconst 1, 1) := by decide +kernel
theorem dX6_reading_59 : decode cX6_reading 59 = .ok (.isub, 1) := by decide +kernel
theorem dX6_reading_60 : decode cX6_reading 60 = .ok (.iload_n 2, 1) := by decide +kernel
theorem dX6_reading_61 : decode cX6_reading 61 = .ok (.isub, 1) := by decide +kernel
theorem dX6_reading_62 : decode cX6_reading 62 = .ok (.bipush 16, 2) := by decide +kernel
theorem dX6_reading_64 : decode cX6_reading 64 = .ok (.irem, 1) := by decide +kernel
theorem dX6_reading_65 : decode cX6_reading 65 = .ok (.iadd, 1) := by decide +kernel
theorem dX6_reading_66 : decode cX6_reading 66 = .ok (.laload, 1) := by decide +kernel
theorem dX6_reading_67 : decode cX6_reading 67 = .ok (.lreturn, 1) := by decide +kernel
theorem dX6_tell_0 : decode cX6_tell 0 = .ok (.aload_n 0, 1) := by decide +kernel
theorem dX6_tell_1 : decode cX6_tell 1 = .ok (.iconst 0, 1) := by decide +kernel
theorem dX6_tell_2 : decode cX6_tell 2 = .ok (.putfield 53, 3) := by decide +kernel
theorem dX6_tell_5 : decode cX6_tell 5 = .ok (.aload_n 0, 1) := by decide +kernel
theorem dX6_tell_6 : decode cX6_tell 6 = .ok (.iload_n 1, 1) := by decide +kernel
theorem dX6_tell_7 : decode cX6_tell 7 = .ok (.invokevirtual 170, 3) := by decide +kernel
theorem dX6_tell_10 : decode cX6_tell 10 = .ok (.ifCond .ne 10, 3) := by decide +kernel
theorem dX6_tell_13 : decode cX6_tell 13 = .ok (.aload_n 0, 1) := by decide +kernel
theorem dX6_tell_14 : decode cX6_tell 14 = .ok (.iconst 1, 1) := by decide +kernel
theorem dX6_tell_15 : decode cX6_tell 15 = .ok (.invokevirtual 161, 3) := by decide +kernel
theorem dX6_tell_18 : decode cX6_tell 18 = .ok (.i2l, 1) := by decide +kernel
theorem dX6_tell_19 : decode cX6_tell 19 = .ok (.lreturn, 1) := by decide +kernel
theorem dX6_tell_20 : decode cX6_tell 20 = .ok (.iload_n 2, 1) := by decide +kernel
theorem dX6_tell_21 : decode cX6_tell 21 = .ok (.ifCond .lt 8, 3) := by decide +kernel
theorem dX6_tell_24 : decode cX6_tell 24 = .ok (.iload_n 2, 1) := by decide +kernel
theorem dX6_tell_25 : decode cX6_tell 25 = .ok (.iconst 3, 1) := by decide +kernel
theorem dX6_tell_26 : decode cX6_tell 26 = .ok (.if_icmp .le 10, 3) := by decide +kernel
theorem dX6_tell_29 : decode cX6_tell 29 = .ok (.aload_n 0, 1) := by decide +kernel
theorem dX6_tell_30 : decode cX6_tell 30 = .ok (.iconst 2, 1) := by decide +kernel
theorem dX6_tell_31 : decode cX6_tell 31 = .ok (.invokevirtual 161, 3) := by decide +kernel
theorem dX6_tell_34 : decode cX6_tell 34 = .ok (.i2l, 1) := by decide +kernel
theorem dX6_tell_35 : decode cX6_tell 35 = .ok (.lreturn, 1) := by decide +kernel
theorem dX6_tell_36 : decode cX6_tell 36 = .ok (.aload_n 0, 1) := by decide +kernel
theorem dX6_tell_37 : decode cX6_tell 37 = .ok (.getfield 32, 3) := by decide +kernel
theorem dX6_tell_40 : decode cX6_tell 40 = .ok (.iload_n 1, 1) := by decide +kernel
theorem dX6_tell_41 : decode cX6_tell 41 = .ok (.iaload, 1) := by decide +kernel
theorem dX6_tell_42 : decode cX6_tell 42 = .ok (.ifCond .ne 10, 3) := by decide +kernel
theorem dX6_tell_45 : decode cX6_tell 45 = .ok (.aload_n 0, 1) := by decide +kernel
theorem dX6_tell_46 : decode cX6_tell 46 = .ok (.iconst 3, 1) := by decide +kernel
theorem dX6_tell_47 : decode cX6_tell 47 = .ok (.invokevirtual 161, 3) := by decide +kernel
theorem dX6_tell_50 : decode cX6_tell 50 = .ok (.i2l, 1) := by decide +kernel
theorem dX6_tell_51 : decode cX6_tell 51 = .ok (.lreturn, 1) := by decide +kernel
theorem dX6_tell_52 : decode cX6_tell 52 = .ok (.iload_n 2, 1) := by decide +kernel
theorem dX6_tell_53 : decode cX6_tell 53 = .ok (.ifCond .ne 12, 3) := by decide +kernel
theorem dX6_tell_56 : decode cX6_tell 56 = .ok (.aload_n 0, 1) := by decide +kernel
theorem dX6_tell_57 : decode cX6_tell 57 = .ok (.getfield 38, 3) := by decide +kernel
theorem dX6_tell_60 : decode cX6_tell 60 = .ok (.iload_n 1, 1) := by decide +kernel
theorem dX6_tell_61 : decode cX6_tell 61 = .ok (.laload, 1) := by decide +kernel
theorem dX6_tell_62 : decode cX6_tell 62 = .ok (.goto 37, 3) := by decide +kernel
theorem dX6_tell_65 : decode cX6_tell 65 = .ok (.iload_n 2, 1) := by decide +kernel
theorem dX6_tell_66 : decode cX6_tell 66 = .ok (.iconst 1, 1) := by decide +kernel
theorem dX6_tell_67 : decode cX6_tell 67 = .ok (.if_icmp .ne 12, 3) := by decide +kernel
theorem dX6_tell_70 : decode cX6_tell 70 = .ok (.aload_n 0, 1) := by decide +kernel
theorem dX6_tell_71 : decode cX6_tell 71 = .ok (.getfield 41, 3) := by decide +kernel
theorem dX6_tell_74 : decode cX6_tell 74 = .ok (.iload_n 1, 1) := by decide +kernel
theorem dX6_tell_75 : decode cX6_tell 75 = .ok (.laload, 1) := by decide +kernel
theorem dX6_tell_76 : decode cX6_tell 76 = .ok (.goto 23, 3) := by decide +kernel
theorem dX6_tell_79 : decode cX6_tell 79 = .ok (.iload_n 2, 1) := by decide +kernel
theorem dX6_tell_80 : decode cX6_tell 80 = .ok (.iconst 2, 1) := by decide +kernel
theorem dX6_tell_81 : decode cX6_tell 81 = .ok (.if_icmp .ne 12, 3) := by decide +kernel
theorem dX6_tell_84 : decode cX6_tell 84 = .ok (.aload_n 0, 1) := by decide +kernel
theorem dX6_tell_85 : decode cX6_tell 85 = .ok (.getfield 44, 3) := by decide +kernel
theorem dX6_tell_88 : decode cX6_tell 88 = .ok (.iload_n 1, 1) := by decide +kernel
