theorem dX5_whole_45 : decode cX5_whole 45 = .ok (.invokevirtual 171, 3) := by decide +kernel
theorem dX5_whole_48 : decode cX5_whole 48 = .ok (.ireturn, 1) := by decide +kernel
theorem dX5_limits_0 : decode cX5_limits 0 = .ok (.aload_n 0, 1) := by decide +kernel
theorem dX5_limits_1 : decode cX5_limits 1 = .ok (.iload_n 1, 1) := by decide +kernel
theorem dX5_limits_2 : decode cX5_limits 2 = .ok (.invokevirtual 52, 3) := by decide +kernel
theorem dX5_limits_5 : decode cX5_limits 5 = .ok (.astore 6, 2) := by decide +kernel
theorem dX5_limits_7 : decode cX5_limits 7 = .ok (.aload 6, 2) := by decide +kernel
theorem dX5_limits_9 : decode cX5_limits 9 = .ok (.ifnonnull 13, 3) := by decide +kernel
theorem dX5_limits_12 : decode cX5_limits 12 = .ok (.new 56, 3) := by decide +kernel
theorem dX5_limits_15 : decode cX5_limits 15 = .ok (.dup, 1) := by decide +kernel
theorem dX5_limits_16 : decode cX5_limits 16 = .ok (.ldc 58, 2) := by decide +kernel
theorem dX5_limits_18 : decode cX5_limits 18 = .ok (.invokespecial 60, 3) := by decide +kernel
theorem dX5_limits_21 : decode cX5_limits 21 = .ok (.athrow, 1) := by decide +kernel
theorem dX5_limits_22 : decode cX5_limits 22 = .ok (.aload 6, 2) := by decide +kernel
theorem dX5_limits_24 : decode cX5_limits 24 = .ok (.getfield 61, 3) := by decide +kernel
theorem dX5_limits_27 : decode cX5_limits 27 = .ok (.lload_n 2, 1) := by decide +kernel
theorem dX5_limits_28 : decode cX5_limits 28 = .ok (.invokevirtual 71, 3) := by decide +kernel
theorem dX5_limits_31 : decode cX5_limits 31 = .ok (.lstore 7, 2) := by decide +kernel
theorem dX5_limits_33 : decode cX5_limits 33 = .ok (.aload 6, 2) := by decide +kernel
theorem dX5_limits_35 : decode cX5_limits 35 = .ok (.getfield 61, 3) := by decide +kernel
theorem dX5_limits_38 : decode cX5_limits 38 = .ok (.lload 4, 2) := by decide +kernel
theorem dX5_limits_40 : decode cX5_limits 40 = .ok (.invokevirtual 71, 3) := by decide +kernel
theorem dX5_limits_43 : decode cX5_limits 43 = .ok (.lstore 9, 2) := by decide +kernel
theorem dX5_limits_45 : decode cX5_limits 45 = .ok (.aload 6, 2) := by decide +kernel
theorem dX5_limits_47 : decode cX5_limits 47 = .ok (.getfield 61, 3) := by decide +kernel
theorem dX5_limits_50 : decode cX5_limits 50 = .ok (.lload 7, 2) := by decide +kernel
theorem dX5_limits_52 : decode cX5_limits 52 = .ok (.invokevirtual 78, 3) := by decide +kernel
theorem dX5_limits_55 : decode cX5_limits 55 = .ok (.ifCond .eq 16, 3) := by decide +kernel
theorem dX5_limits_58 : decode cX5_limits 58 = .ok (.aload 6, 2) := by decide +kernel
theorem dX5_limits_60 : decode cX5_limits 60 = .ok (.getfield 61, 3) := by decide +kernel
theorem dX5_limits_63 : decode cX5_limits 63 = .ok (.lload 9, 2) := by decide +kernel
theorem dX5_limits_65 : decode cX5_limits 65 = .ok (.invokevirtual 78, 3) := by decide +kernel
theorem dX5_limits_68 : decode cX5_limits 68 = .ok (.ifCond .ne 13, 3) := by decide +kernel
theorem dX5_limits_71 : decode cX5_limits 71 = .ok (.new 33, 3) := by decide +kernel
theorem dX5_limits_74 : decode cX5_limits 74 = .ok (.dup, 1) := by decide +kernel
theorem dX5_limits_75 : decode cX5_limits 75 = .ok (.ldc 175, 2) := by decide +kernel
theorem dX5_limits_77 : decode cX5_limits 77 = .ok (.invokespecial 37, 3) := by decide +kernel
theorem dX5_limits_80 : decode cX5_limits 80 = .ok (.athrow, 1) := by decide +kernel
theorem dX5_limits_81 : decode cX5_limits 81 = .ok (.aload 6, 2) := by decide +kernel
theorem dX5_limits_83 : decode cX5_limits 83 = .ok (.lload 7, 2) := by decide +kernel
theorem dX5_limits_85 : decode cX5_limits 85 = .ok (.putfield 177, 3) := by decide +kernel
theorem dX5_limits_88 : decode cX5_limits 88 = .ok (.aload 6, 2) := by decide +kernel
theorem dX5_limits_90 : decode cX5_limits 90 = .ok (.lload 9, 2) := by decide +kernel
theorem dX5_limits_92 : decode cX5_limits 92 = .ok (.putfield 180, 3) := by decide +kernel
theorem dX5_limits_95 : decode cX5_limits 95 = .ok (.aload 6, 2) := by decide +kernel
theorem dX5_limits_97 : decode cX5_limits 97 = .ok (.getfield 61, 3) := by decide +kernel
theorem dX5_limits_100 : decode cX5_limits 100 = .ok (.lload 7, 2) := by decide +kernel
theorem dX5_limits_102 : decode cX5_limits 102 = .ok (.lload 9, 2) := by decide +kernel
theorem dX5_limits_104 : decode cX5_limits 104 = .ok (.invokevirtual 183, 3) := by decide +kernel
theorem dX5_limits_107 : decode cX5_limits 107 = .ok (.ifCond .ne 7, 3) := by decide +kernel
theorem dX5_limits_110 : decode cX5_limits 110 = .ok (.iconst 1, 1) := by decide +kernel
theorem dX5_limits_111 : decode cX5_limits 111 = .ok (.goto 4, 3) := by decide +kernel
theorem dX5_limits_114 : decode cX5_limits 114 = .ok (.iconst 0, 1) := by decide +kernel
theorem dX5_limits_115 : decode cX5_limits 115 = .ok (.ireturn, 1) := by decide +kernel
theorem dX5_widest_0 : decode cX5_widest 0 = .ok (.aload_n 0, 1) := by decide +kernel
theorem dX5_widest_1 : decode cX5_widest 1 = .ok (.iload_n 1, 1) := by decide +kernel
theorem dX5_widest_2 : decode cX5_widest 2 = .ok (.invokevirtual 29, 3) := by decide +kernel
theorem dX5_widest_5 : decode cX5_widest 5 = .ok (.astore_n 2, 1) := by decide +kernel
theorem dX5_widest_6 : decode cX5_widest 6 = .ok (.aload_n 2, 1) := by decide +kernel
theorem dX5_widest_7 : decode cX5_widest 7 = .ok (.ifnonnull 13, 3) := by decide +kernel
theorem dX5_widest_10 : decode cX5_widest 10 = .ok (.new 33, 3) := by decide +kernel
theorem dX5_widest_13 : decode cX5_widest 13 = .ok (.dup, 1) := by decide +kernel
theorem dX5_widest_14 : decode cX5_widest 14 = .ok (.ldc 35, 2) := by decide +kernel
theorem dX5_widest_16 : decode cX5_widest 16 = .ok (.invokespecial 37, 3) := by decide +kernel
theorem dX5_widest_19 : decode cX5_widest 19 = .ok (.athrow, 1) := by decide +kernel
theorem dX5_widest_20 : decode cX5_widest 20 = .ok (.iconst 0, 1) := by decide +kernel
theorem dX5_widest_21 : decode cX5_widest 21 = .ok (.istore_n 3, 1) := by decide +kernel
theorem dX5_widest_22 : decode cX5_widest 22 = .ok (.lconst 0, 1) := by decide +kernel
theorem dX5_widest_23 : decode cX5_widest 23 = .ok (.lstore 4, 2) := by decide +kernel
theorem dX5_widest_25 : decode cX5_widest 25 = .ok (.aload_n 0, 1) := by decide +kernel
theorem dX5_widest_26 : decode cX5_widest 26 = .ok (.getfield 25, 3) := by decide +kernel
theorem dX5_widest_29 : decode cX5_widest 29 = .ok (.astore 6, 2) := by decide +kernel
theorem dX5_widest_31 : decode cX5_widest 31 = .ok (.aload 6, 2) := by decide +kernel
theorem dX5_widest_33 : decode cX5_widest 33 = .ok (.arraylength, 1) := by decide +kernel
theorem dX5_widest_34 : decode cX5_widest 34 = .ok (.istore 7, 2) := by decide +kernel
theorem dX5_widest_36 : decode cX5_widest 36 = .ok (.iconst 0, 1) := by decide +kernel
theorem dX5_widest_37 : decode cX5_widest 37 = .ok (.istore 8, 2) := by decide +kernel
theorem dX5_widest_39 : decode cX5_widest 39 = .ok (.iload 8, 2) := by decide +kernel
theorem dX5_widest_41 : decode cX5_widest 41 = .ok (.iload 7, 2) := by decide +kernel
theorem dX5_widest_43 : decode cX5_widest 43 = .ok (.if_icmp .ge 65, 3) := by decide +kernel
theorem dX5_widest_46 : decode cX5_widest 46 = .ok (.aload 6, 2) := by decide +kernel
theorem dX5_widest_48 : decode cX5_widest 48 = .ok (.iload 8, 2) := by decide +kernel
theorem dX5_widest_50 : decode cX5_widest 50 = .ok (.aaload, 1) := by decide +kernel
theorem dX5_widest_51 : decode cX5_widest 51 = .ok (.astore 9, 2) := by decide +kernel
theorem dX5_widest_53 : decode cX5_widest 53 = .ok (.aload 9, 2) := by decide +kernel
theorem dX5_widest_55 : decode cX5_widest 55 = .ok (.ifnull 47, 3) := by decide +kernel
theorem dX5_widest_58 : decode cX5_widest 58 = .ok (.aload 9, 2) := by decide +kernel
theorem dX5_widest_60 : decode cX5_widest 60 = .ok (.getfield 104, 3) := by decide +kernel
theorem dX5_widest_63 : decode cX5_widest 63 = .ok (.iload_n 1, 1) := by decide +kernel
theorem dX5_widest_64 : decode cX5_widest 64 = .ok (.if_icmp .ne 38, 3) := by decide +kernel
theorem dX5_widest_67 : decode cX5_widest 67 = .ok (.aload 9, 2) := by decide +kernel
theorem dX5_widest_69 : decode cX5_widest 69 = .ok (.invokevirtual 150, 3) := by decide +kernel
theorem dX5_widest_72 : decode cX5_widest 72 = .ok (.ifCond .eq 30, 3) := by decide +kernel
theorem dX5_widest_75 : decode cX5_widest 75 = .ok (.iload_n 3, 1) := by decide +kernel
theorem dX5_widest_76 : decode cX5_widest 76 = .ok (.ifCond .eq 17, 3) := by decide +kernel
theorem dX5_widest_79 : decode cX5_widest 79 = .ok (.aload_n 2, 1) := by decide +kernel
theorem dX5_widest_80 : decode cX5_widest 80 = .ok (.lload 4, 2) := by decide +kernel
theorem dX5_widest_82 : decode cX5_widest 82 = .ok (.aload 9, 2) := by decide +kernel
theorem dX5_widest_84 : decode cX5_widest 84 = .ok (.getfield 162, 3) := by decide +kernel
theorem dX5_widest_87 : decode cX5_widest 87 = .ok (.invokevirtual 187, 3) := by decide +kernel
theorem dX5_widest_90 : decode cX5_widest 90 = .ok (.goto 8, 3) := by decide +kernel
theorem dX5_widest_93 : decode cX5_widest 93 = .ok (.aload 9, 2) := by decide +kernel
theorem dX5_widest_95 : decode cX5_widest 95 = .ok (.getfield 162, 3) := by decide +kernel
theorem dX5_widest_98 : decode cX5_widest 98 = .ok (.lstore 4, 2) := by decide +kernel
theorem dX5_widest_100 : decode cX5_widest 100 = .ok (.iconst 1, 1) := by decide +kernel
theorem dX5_widest_101 : decode cX5_widest 101 = .ok (.istore_n 3, 1) := by decide +kernel
theorem dX5_widest_102 : decode cX5_widest 102 = .ok (.iinc 8 1, 3) := by decide +kernel
theorem dX5_widest_105 : decode cX5_widest 105 = .ok (.goto (-66), 3) := by decide +kernel
theorem dX5_widest_108 : decode cX5_widest 108 = .ok (.iload_n 3, 1) := by decide +kernel
theorem dX5_widest_109 : decode cX5_widest 109 = .ok (.ifCond .ne 13, 3) := by decide +kernel
theorem dX5_widest_112 : decode cX5_widest 112 = .ok (.new 139, 3) := by decide +kernel
theorem dX5_widest_115 : decode cX5_widest 115 = .ok (.dup, 1) := by decide +kernel
theorem dX5_widest_116 : decode cX5_widest 116 = .ok (.ldc 191, 2) := by decide +kernel
theorem dX5_widest_118 : decode cX5_widest 118 = .ok (.invokespecial 143, 3) := by decide +kernel
theorem dX5_widest_121 : decode cX5_widest 121 = .ok (.athrow, 1) := by decide +kernel
theorem dX5_widest_122 : decode cX5_widest 122 = .ok (.lload 4, 2) := by decide +kernel
theorem dX5_widest_124 : decode cX5_widest 124 = .ok (.lreturn, 1) := by decide +kernel
theorem dX5_forget_0 : decode cX5_forget 0 = .ok (.aload_n 0, 1) := by decide +kernel
theorem dX5_forget_1 : decode cX5_forget 1 = .ok (.iload_n 1, 1) := by decide +kernel
theorem dX5_forget_2 : decode cX5_forget 2 = .ok (.invokevirtual 52, 3) := by decide +kernel
theorem dX5_forget_5 : decode cX5_forget 5 = .ok (.astore_n 2, 1) := by decide +kernel
theorem dX5_forget_6 : decode cX5_forget 6 = .ok (.aload_n 2, 1) := by decide +kernel
theorem dX5_forget_7 : decode cX5_forget 7 = .ok (.ifnonnull 13, 3) := by decide +kernel
theorem dX5_forget_10 : decode cX5_forget 10 = .ok (.new 56, 3) := by decide +kernel
theorem dX5_forget_13 : decode cX5_forget 13 = .ok (.dup, 1) := by decide +kernel
theorem dX5_forget_14 : decode cX5_forget 14 = .ok (.ldc 58, 2) := by decide +kernel
theorem dX5_forget_16 : decode cX5_forget 16 = .ok (.invokespecial 60, 3) := by decide +kernel
theorem dX5_forget_19 : decode cX5_forget 19 = .ok (.athrow, 1) := by decide +kernel
theorem dX5_forget_20 : decode cX5_forget 20 = .ok (.aload_n 2, 1) := by decide +kernel
theorem dX5_forget_21 : decode cX5_forget 21 = .ok (.getfield 193, 3) := by decide +kernel
theorem dX5_forget_24 : decode cX5_forget 24 = .ok (.istore_n 3, 1) := by decide +kernel
theorem dX5_forget_25 : decode cX5_forget 25 = .ok (.aload_n 2, 1) := by decide +kernel
theorem dX5_forget_26 : decode cX5_forget 26 = .ok (.invokevirtual 196, 3) := by decide +kernel
theorem dX5_forget_29 : decode cX5_forget 29 = .ok (.iload_n 3, 1) := by decide +kernel
theorem dX5_forget_30 : decode cX5_forget 30 = .ok (.ireturn, 1) := by decide +kernel
theorem dX5_alarms_0 : decode cX5_alarms 0 = .ok (.aload_n 0, 1) := by decide +kernel
theorem dX5_alarms_1 : decode cX5_alarms 1 = .ok (.iload_n 1, 1) := by decide +kernel
theorem dX5_alarms_2 : decode cX5_alarms 2 = .ok (.invokevirtual 52, 3) := by decide +kernel
theorem dX5_alarms_5 : decode cX5_alarms 5 = .ok (.astore_n 2, 1) := by decide +kernel
theorem dX5_alarms_6 : decode cX5_alarms 6 = .ok (.aload_n 2, 1) := by decide +kernel
theorem dX5_alarms_7 : decode cX5_alarms 7 = .ok (.ifnonnull 13, 3) := by decide +kernel
theorem dX5_alarms_10 : decode cX5_alarms 10 = .ok (.new 56, 3) := by decide +kernel
theorem dX5_alarms_13 : decode cX5_alarms 13 = .ok (.dup, 1) := by decide +kernel
theorem dX5_alarms_14 : decode cX5_alarms 14 = .ok (.ldc 58, 2) := by decide +kernel
theorem dX5_alarms_16 : decode cX5_alarms 16 = .ok (.invokespecial 60, 3) := by decide +kernel
theorem dX5_alarms_19 : decode cX5_alarms 19 = .ok (.athrow, 1) := by decide +kernel
theorem dX5_alarms_20 : decode cX5_alarms 20 = .ok (.aload_n 2, 1) := by decide +kernel
theorem dX5_alarms_21 : decode cX5_alarms 21 = .ok (.getfield 130, 3) := by decide +kernel
theorem dX5_alarms_24 : decode cX5_alarms 24 = .ok (.ireturn, 1) := by decide +kernel
theorem dX5_count_0 : decode cX5_count 0 = .ok (.iload_n 1, 1) := by decide +kernel
theorem dX5_count_1 : decode cX5_count 1 = .ok (.tableswitch 51 0 3 #[31, 36, 41, 46], 31) := by decide +kernel
theorem dX5_count_32 : decode cX5_count 32 = .ok (.aload_n 0, 1) := by decide +kernel
theorem dX5_count_33 : decode cX5_count 33 = .ok (.getfield 40, 3) := by decide +kernel
theorem dX5_count_36 : decode cX5_count 36 = .ok (.ireturn, 1) := by decide +kernel
theorem dX5_count_37 : decode cX5_count 37 = .ok (.aload_n 0, 1) := by decide +kernel
theorem dX5_count_38 : decode cX5_count 38 = .ok (.getfield 118, 3) := by decide +kernel
theorem dX5_count_41 : decode cX5_count 41 = .ok (.ireturn, 1) := by decide +kernel
theorem dX5_count_42 : decode cX5_count 42 = .ok (.aload_n 0, 1) := by decide +kernel
theorem dX5_count_43 : decode cX5_count 43 = .ok (.getfield 133, 3) := by decide +kernel
theorem dX5_count_46 : decode cX5_count 46 = .ok (.ireturn, 1) := by decide +kernel
theorem dX5_count_47 : decode cX5_count 47 = .ok (.aload_n 0, 1) := by decide +kernel
theorem dX5_count_48 : decode cX5_count 48 = .ok (.getfield 121, 3) := by decide +kernel
theorem dX5_count_51 : decode cX5_count 51 = .ok (.ireturn, 1) := by decide +kernel
theorem dX5_count_52 : decode cX5_count 52 = .ok (.iconst (-1), 1) := by decide +kernel
theorem dX5_count_53 : decode cX5_count 53 = .ok (.ireturn, 1) := by decide +kernel
theorem dX5_findSort_0 : decode cX5_findSort 0 = .ok (.iload_n 1, 1) := by decide +kernel
theorem dX5_findSort_1 : decode cX5_findSort 1 = .ok (.ifCond .lt 12, 3) := by decide +kernel
theorem dX5_findSort_4 : decode cX5_findSort 4 = .ok (.iload_n 1, 1) := by decide +kernel
theorem dX5_findSort_5 : decode cX5_findSort 5 = .ok (.aload_n 0, 1) := by decide +kernel
theorem dX5_findSort_6 : decode cX5_findSort 6 = .ok (.getfield 17, 3) := by decide +kernel
theorem dX5_findSort_9 : decode cX5_findSort 9 = .ok (.arraylength, 1) := by decide +kernel
theorem dX5_findSort_10 : decode cX5_findSort 10 = .ok (.if_icmp .lt 7, 3) := by decide +kernel
theorem dX5_findSort_13 : decode cX5_findSort 13 = .ok (.aconst_null, 1) := by decide +kernel
theorem dX5_findSort_14 : decode cX5_findSort 14 = .ok (.goto 9, 3) := by decide +kernel
theorem dX5_findSort_17 : decode cX5_findSort 17 = .ok (.aload_n 0, 1) := by decide +kernel
theorem dX5_findSort_18 : decode cX5_findSort 18 = .ok (.getfield 17, 3) := by decide +kernel
theorem dX5_findSort_21 : decode cX5_findSort 21 = .ok (.iload_n 1, 1) := by decide +kernel
theorem dX5_findSort_22 : decode cX5_findSort 22 = .ok (.aaload, 1) := by decide +kernel
theorem dX5_findSort_23 : decode cX5_findSort 23 = .ok (.areturn, 1) := by decide +kernel
theorem dX5_findInstrument_0 : decode cX5_findInstrument 0 = .ok (.iload_n 1, 1) := by decide +kernel
theorem dX5_findInstrument_1 : decode cX5_findInstrument 1 = .ok (.ifCond .lt 12, 3) := by decide +kernel
theorem dX5_findInstrument_4 : decode cX5_findInstrument 4 = .ok (.iload_n 1, 1) := by decide +kernel
theorem dX5_findInstrument_5 : decode cX5_findInstrument 5 = .ok (.aload_n 0, 1) := by decide +kernel
theorem dX5_findInstrument_6 : decode cX5_findInstrument 6 = .ok (.getfield 25, 3) := by decide +kernel
theorem dX5_findInstrument_9 : decode cX5_findInstrument 9 = .ok (.arraylength, 1) := by decide +kernel
theorem dX5_findInstrument_10 : decode cX5_findInstrument 10 = .ok (.if_icmp .lt 7, 3) := by decide +kernel
theorem dX5_findInstrument_13 : decode cX5_findInstrument 13 = .ok (.aconst_null, 1) := by decide +kernel
theorem dX5_findInstrument_14 : decode cX5_findInstrument 14 = .ok (.goto 9, 3) := by decide +kernel
theorem dX5_findInstrument_17 : decode cX5_findInstrument 17 = .ok (.aload_n 0, 1) := by decide +kernel
theorem dX5_findInstrument_18 : decode cX5_findInstrument 18 = .ok (.getfield 25, 3) := by decide +kernel
theorem dX5_findInstrument_21 : decode cX5_findInstrument 21 = .ok (.iload_n 1, 1) := by decide +kernel
theorem dX5_findInstrument_22 : decode cX5_findInstrument 22 = .ok (.aaload, 1) := by decide +kernel
theorem dX5_findInstrument_23 : decode cX5_findInstrument 23 = .ok (.areturn, 1) := by decide +kernel
theorem dX5_takesK_0 : decode cX5_takesK 0 = .ok (.iload_n 0, 1) := by decide +kernel
theorem dX5_takesK_1 : decode cX5_takesK 1 = .ok (.iconst 1, 1) := by decide +kernel
theorem dX5_takesK_2 : decode cX5_takesK 2 = .ok (.if_icmp .eq 14, 3) := by decide +kernel
theorem dX5_takesK_5 : decode cX5_takesK 5 = .ok (.iload_n 0, 1) := by decide +kernel
theorem dX5_takesK_6 : decode cX5_takesK 6 = .ok (.iconst 2, 1) := by decide +kernel
theorem dX5_takesK_7 : decode cX5_takesK 7 = .ok (.if_icmp .eq 9, 3) := by decide +kernel
theorem dX5_takesK_10 : decode cX5_takesK 10 = .ok (.iload_n 0, 1) := by decide +kernel
theorem dX5_takesK_11 : decode cX5_takesK 11 = .ok (.bipush 7, 2) := by decide +kernel
theorem dX5_takesK_13 : decode cX5_takesK 13 = .ok (.if_icmp .ne 7, 3) := by decide +kernel
theorem dX5_takesK_16 : decode cX5_takesK 16 = .ok (.iconst 1, 1) := by decide +kernel
theorem dX5_takesK_17 : decode cX5_takesK 17 = .ok (.goto 4, 3) := by decide +kernel
theorem dX5_takesK_20 : decode cX5_takesK 20 = .ok (.iconst 0, 1) := by decide +kernel
theorem dX5_takesK_21 : decode cX5_takesK 21 = .ok (.ireturn, 1) := by decide +kernel
theorem dX6_init_0 : decode cX6_init 0 = .ok (.aload_n 0, 1) := by decide +kernel
theorem dX6_init_1 : decode cX6_init 1 = .ok (.invokespecial 1, 3) := by decide +kernel
theorem dX6_init_4 : decode cX6_init 4 = .ok (.aload_n 0, 1) := by decide +kernel
theorem dX6_init_5 : decode cX6_init 5 = .ok (.bipush 8, 2) := by decide +kernel
theorem dX6_init_7 : decode cX6_init 7 = .ok (.newarray .int, 2) := by decide +kernel
theorem dX6_init_9 : decode cX6_init 9 = .ok (.putfield 7, 3) := by decide +kernel
theorem dX6_init_12 : decode cX6_init 12 = .ok (.aload_n 0, 1) := by decide +kernel
theorem dX6_init_13 : decode cX6_init 13 = .ok (.bipush 8, 2) := by decide +kernel
theorem dX6_init_15 : decode cX6_init 15 = .ok (.newarray .int, 2) := by decide +kernel
theorem dX6_init_17 : decode cX6_init 17 = .ok (.putfield 13, 3) := by decide +kernel
theorem dX6_init_20 : decode cX6_init 20 = .ok (.aload_n 0, 1) := by decide +kernel
theorem dX6_init_21 : decode cX6_init 21 = .ok (.bipush 48, 2) := by decide +kernel
theorem dX6_init_23 : decode cX6_init 23 = .ok (.newarray .int, 2) := by decide +kernel
theorem dX6_init_25 : decode cX6_init 25 = .ok (.putfield 16, 3) := by decide +kernel
theorem dX6_init_28 : decode cX6_init 28 = .ok (.aload_n 0, 1) := by decide +kernel
theorem dX6_init_29 : decode cX6_init 29 = .ok (.bipush 48, 2) := by decide +kernel
theorem dX6_init_31 : decode cX6_init 31 = .ok (.newarray .int, 2) := by decide +kernel
theorem dX6_init_33 : decode cX6_init 33 = .ok (.putfield 19, 3) := by decide +kernel
theorem dX6_init_36 : decode cX6_init 36 = .ok (.aload_n 0, 1) := by decide +kernel
theorem dX6_init_37 : decode cX6_init 37 = .ok (.bipush 48, 2) := by decide +kernel
theorem dX6_init_39 : decode cX6_init 39 = .ok (.newarray .long, 2) := by decide +kernel
theorem dX6_init_41 : decode cX6_init 41 = .ok (.putfield 22, 3) := by decide +kernel
theorem dX6_init_44 : decode cX6_init 44 = .ok (.aload_n 0, 1) := by decide +kernel
theorem dX6_init_45 : decode cX6_init 45 = .ok (.bipush 8, 2) := by decide +kernel
theorem dX6_init_47 : decode cX6_init 47 = .ok (.newarray .long, 2) := by decide +kernel
theorem dX6_init_49 : decode cX6_init 49 = .ok (.putfield 26, 3) := by decide +kernel
theorem dX6_init_52 : decode cX6_init 52 = .ok (.aload_n 0, 1) := by decide +kernel
theorem dX6_init_53 : decode cX6_init 53 = .ok (.bipush 8, 2) := by decide +kernel
theorem dX6_init_55 : decode cX6_init 55 = .ok (.newarray .long, 2) := by decide +kernel
theorem dX6_init_57 : decode cX6_init 57 = .ok (.putfield 29, 3) := by decide +kernel
theorem dX6_init_60 : decode cX6_init 60 = .ok (.aload_n 0, 1) := by decide +kernel
theorem dX6_init_61 : decode cX6_init 61 = .ok (.bipush 8, 2) := by decide +kernel
theorem dX6_init_63 : decode cX6_init 63 = .ok (.newarray .int, 2) := by decide +kernel
theorem dX6_init_65 : decode cX6_init 65 = .ok (.putfield 32, 3) := by decide +kernel
theorem dX6_init_68 : decode cX6_init 68 = .ok (.aload_n 0, 1) := by decide +kernel
theorem dX6_init_69 : decode cX6_init 69 = .ok (.sipush 128, 3) := by decide +kernel
theorem dX6_init_72 : decode cX6_init 72 = .ok (.newarray .long, 2) := by decide +kernel
theorem dX6_init_74 : decode cX6_init 74 = .ok (.putfield 35, 3) := by decide +kernel
theorem dX6_init_77 : decode cX6_init 77 = .ok (.aload_n 0, 1) := by decide +kernel
theorem dX6_init_78 : decode cX6_init 78 = .ok (.bipush 8, 2) := by decide +kernel
theorem dX6_init_80 : decode cX6_init 80 = .ok (.newarray .long, 2) := by decide +kernel
theorem dX6_init_82 : decode cX6_init 82 = .ok (.putfield 38, 3) := by decide +kernel
theorem dX6_init_85 : decode cX6_init 85 = .ok (.aload_n 0, 1) := by decide +kernel
theorem dX6_init_86 : decode cX6_init 86 = .ok (.bipush 8, 2) := by decide +kernel
theorem dX6_init_88 : decode cX6_init 88 = .ok (.newarray .long, 2) := by decide +kernel
theorem dX6_init_90 : decode cX6_init 90 = .ok (.putfield 41, 3) := by decide +kernel
theorem dX6_init_93 : decode cX6_init 93 = .ok (.aload_n 0, 1) := by decide +kernel
theorem dX6_init_94 : decode cX6_init 94 = .ok (.bipush 8, 2) := by decide +kernel
theorem dX6_init_96 : decode cX6_init 96 = .ok (.newarray .long, 2) := by decide +kernel
theorem dX6_init_98 : decode cX6_init 98 = .ok (.putfield 44, 3) := by decide +kernel
theorem dX6_init_101 : decode cX6_init 101 = .ok (.aload_n 0, 1) := by decide +kernel
theorem dX6_init_102 : decode cX6_init 102 = .ok (.bipush 8, 2) := by decide +kernel
theorem dX6_init_104 : decode cX6_init 104 = .ok (.newarray .long, 2) := by decide +kernel
theorem dX6_init_106 : decode cX6_init 106 = .ok (.putfield 47, 3) := by decide +kernel
theorem dX6_init_109 : decode cX6_init 109 = .ok (.aload_n 0, 1) := by decide +kernel
theorem dX6_init_110 : decode cX6_init 110 = .ok (.bipush 8, 2) := by decide +kernel
theorem dX6_init_112 : decode cX6_init 112 = .ok (.newarray .int, 2) := by decide +kernel
theorem dX6_init_114 : decode cX6_init 114 = .ok (.putfield 50, 3) := by decide +kernel
theorem dX6_init_117 : decode cX6_init 117 = .ok (.return_, 1) := by decide +kernel
theorem dX6_thrown_0 : decode cX6_thrown 0 = .ok (.aload_n 0, 1) := by decide +kernel
theorem dX6_thrown_1 : decode cX6_thrown 1 = .ok (.getfield 53, 3) := by decide +kernel
theorem dX6_thrown_4 : decode cX6_thrown 4 = .ok (.ireturn, 1) := by decide +kernel
theorem dX6_fail_0 : decode cX6_fail 0 = .ok (.aload_n 0, 1) := by decide +kernel
theorem dX6_fail_1 : decode cX6_fail 1 = .ok (.iload_n 1, 1) := by decide +kernel
theorem dX6_fail_2 : decode cX6_fail 2 = .ok (.putfield 53, 3) := by decide +kernel
theorem dX6_fail_5 : decode cX6_fail 5 = .ok (.iconst 0, 1) := by decide +kernel
theorem dX6_fail_6 : decode cX6_fail 6 = .ok (.ireturn, 1) := by decide +kernel
theorem dX6_isInstrument_0 : decode cX6_isInstrument 0 = .ok (.iload_n 1, 1) := by decide +kernel
theorem dX6_isInstrument_1 : decode cX6_isInstrument 1 = .ok (.ifCond .lt 15, 3) := by decide +kernel
theorem dX6_isInstrument_4 : decode cX6_isInstrument 4 = .ok (.iload_n 1, 1) := by decide +kernel
theorem dX6_isInstrument_5 : decode cX6_isInstrument 5 = .ok (.aload_n 0, 1) := by decide +kernel
theorem dX6_isInstrument_6 : decode cX6_isInstrument 6 = .ok (.getfield 57, 3) := by decide +kernel
theorem dX6_isInstrument_9 : decode cX6_isInstrument 9 = .ok (.if_icmp .ge 7, 3) := by decide +kernel
theorem dX6_isInstrument_12 : decode cX6_isInstrument 12 = .ok (.iconst 1, 1) := by decide +kernel
theorem dX6_isInstrument_13 : decode cX6_isInstrument 13 = .ok (.goto 4, 3) := by decide +kernel
theorem dX6_isInstrument_16 : decode cX6_isInstrument 16 = .ok (.iconst 0, 1) := by decide +kernel
theorem dX6_isInstrument_17 : decode cX6_isInstrument 17 = .ok (.ireturn, 1) := by decide +kernel
theorem dX6_isReal_0 : decode cX6_isReal 0 = .ok (.iload_n 0, 1) := by decide +kernel
theorem dX6_isReal_1 : decode cX6_isReal 1 = .ok (.iconst 2, 1) := by decide +kernel
theorem dX6_isReal_2 : decode cX6_isReal 2 = .ok (.if_icmp .lt 7, 3) := by decide +kernel
theorem dX6_isReal_5 : decode cX6_isReal 5 = .ok (.iconst 1, 1) := by decide +kernel
theorem dX6_isReal_6 : decode cX6_isReal 6 = .ok (.goto 4, 3) := by decide +kernel
theorem dX6_isReal_9 : decode cX6_isReal 9 = .ok (.iconst 0, 1) := by decide +kernel
theorem dX6_isReal_10 : decode cX6_isReal 10 = .ok (.ireturn, 1) := by decide +kernel
theorem dX6_places_0 : decode cX6_places 0 = .ok (.iload_n 0, 1) := by decide +kernel
theorem dX6_places_1 : decode cX6_places 1 = .ok (.iconst 2, 1) := by decide +kernel
theorem dX6_places_2 : decode cX6_places 2 = .ok (.if_icmp .ne 8, 3) := by decide +kernel
theorem dX6_places_5 : decode cX6_places 5 = .ok (.bipush 23, 2) := by decide +kernel
theorem dX6_places_7 : decode cX6_places 7 = .ok (.goto 5, 3) := by decide +kernel
theorem dX6_places_10 : decode cX6_places 10 = .ok (.bipush 52, 2) := by decide +kernel
theorem dX6_places_12 : decode cX6_places 12 = .ok (.ireturn, 1) := by decide +kernel
theorem dX6_signBit_0 : decode cX6_signBit 0 = .ok (.iload_n 0, 1) := by decide +kernel
theorem dX6_signBit_1 : decode cX6_signBit 1 = .ok (.iconst 2, 1) := by decide +kernel
theorem dX6_signBit_2 : decode cX6_signBit 2 = .ok (.if_icmp .ne 9, 3) := by decide +kernel
theorem dX6_signBit_5 : decode cX6_signBit 5 = .ok (.ldc2_w 60, 3) := by decide +kernel
theorem dX6_signBit_8 : decode cX6_signBit 8 = .ok (.goto 6, 3) := by decide +kernel
theorem dX6_signBit_11 : decode cX6_signBit 11 = .ok (.ldc2_w 62, 3) := by decide +kernel
theorem dX6_signBit_14 : decode cX6_signBit 14 = .ok (.lreturn, 1) := by decide +kernel
theorem dX6_endless_0 : decode cX6_endless 0 = .ok (.iload_n 0, 1) := by decide +kernel
theorem dX6_endless_1 : decode cX6_endless 1 = .ok (.iconst 2, 1) := by decide +kernel
theorem dX6_endless_2 : decode cX6_endless 2 = .ok (.if_icmp .ne 9, 3) := by decide +kernel
theorem dX6_endless_5 : decode cX6_endless 5 = .ok (.ldc2_w 64, 3) := by decide +kernel
theorem dX6_endless_8 : decode cX6_endless 8 = .ok (.goto 6, 3) := by decide +kernel
theorem dX6_endless_11 : decode cX6_endless 11 = .ok (.ldc2_w 66, 3) := by decide +kernel
theorem dX6_endless_14 : decode cX6_endless 14 = .ok (.lreturn, 1) := by decide +kernel
theorem dX6_one_0 : decode cX6_one 0 = .ok (.iload_n 0, 1) := by decide +kernel
theorem dX6_one_1 : decode cX6_one 1 = .ok (.iconst 2, 1) := by decide +kernel
theorem dX6_one_2 : decode cX6_one 2 = .ok (.if_icmp .ne 9, 3) := by decide +kernel
theorem dX6_one_5 : decode cX6_one 5 = .ok (.ldc2_w 68, 3) := by decide +kernel
theorem dX6_one_8 : decode cX6_one 8 = .ok (.goto 6, 3) := by decide +kernel
theorem dX6_one_11 : decode cX6_one 11 = .ok (.ldc2_w 70, 3) := by decide +kernel
theorem dX6_one_14 : decode cX6_one 14 = .ok (.lreturn, 1) := by decide +kernel
theorem dX6_cut_0 : decode cX6_cut 0 = .ok (.iload_n 0, 1) := by decide +kernel
theorem dX6_cut_1 : decode cX6_cut 1 = .ok (.ifCond .eq 8, 3) := by decide +kernel
theorem dX6_cut_4 : decode cX6_cut 4 = .ok (.iload_n 0, 1) := by decide +kernel
theorem dX6_cut_5 : decode cX6_cut 5 = .ok (.iconst 2, 1) := by decide +kernel
theorem dX6_cut_6 : decode cX6_cut 6 = .ok (.if_icmp .ne 9, 3) := by decide +kernel
theorem dX6_cut_9 : decode cX6_cut 9 = .ok (.lload_n 1, 1) := by decide +kernel
theorem dX6_cut_10 : decode cX6_cut 10 = .ok (.l2i, 1) := by decide +kernel
theorem dX6_cut_11 : decode cX6_cut 11 = .ok (.i2l, 1) := by decide +kernel
theorem dX6_cut_12 : decode cX6_cut 12 = .ok (.goto 4, 3) := by decide +kernel
theorem dX6_cut_15 : decode cX6_cut 15 = .ok (.lload_n 1, 1) := by decide +kernel
theorem dX6_cut_16 : decode cX6_cut 16 = .ok (.lreturn, 1) := by decide +kernel
theorem dX6_form_0 : decode cX6_form 0 = .ok (.iload_n 0, 1) := by decide +kernel
theorem dX6_form_1 : decode cX6_form 1 = .ok (.iconst 2, 1) := by decide +kernel
theorem dX6_form_2 : decode cX6_form 2 = .ok (.if_icmp .ne 11, 3) := by decide +kernel
theorem dX6_form_5 : decode cX6_form 5 = .ok (.lload_n 1, 1) := by decide +kernel
theorem dX6_form_6 : decode cX6_form 6 = .ok (.ldc2_w 72, 3) := by decide +kernel
theorem dX6_form_9 : decode cX6_form 9 = .ok (.land, 1) := by decide +kernel
theorem dX6_form_10 : decode cX6_form 10 = .ok (.goto 4, 3) := by decide +kernel
theorem dX6_form_13 : decode cX6_form 13 = .ok (.lload_n 1, 1) := by decide +kernel
theorem dX6_form_14 : decode cX6_form 14 = .ok (.lreturn, 1) := by decide +kernel
theorem dX6_amountBits_0 : decode cX6_amountBits 0 = .ok (.iload_n 0, 1) := by decide +kernel
theorem dX6_amountBits_1 : decode cX6_amountBits 1 = .ok (.lload_n 1, 1) := by decide +kernel
theorem dX6_amountBits_2 : decode cX6_amountBits 2 = .ok (.invokestatic 74, 3) := by decide +kernel
theorem dX6_amountBits_5 : decode cX6_amountBits 5 = .ok (.iload_n 0, 1) := by decide +kernel
theorem dX6_amountBits_6 : decode cX6_amountBits 6 = .ok (.invokestatic 78, 3) := by decide +kernel
theorem dX6_amountBits_9 : decode cX6_amountBits 9 = .ok (.ldc2_w 82, 3) := by decide +kernel
theorem dX6_amountBits_12 : decode cX6_amountBits 12 = .ok (.lxor, 1) := by decide +kernel
theorem dX6_amountBits_13 : decode cX6_amountBits 13 = .ok (.land, 1) := by decide +kernel
theorem dX6_amountBits_14 : decode cX6_amountBits 14 = .ok (.lreturn, 1) := by decide +kernel
theorem dX6_isMinus_0 : decode cX6_isMinus 0 = .ok (.lload_n 1, 1) := by decide +kernel
theorem dX6_isMinus_1 : decode cX6_isMinus 1 = .ok (.lconst 0, 1) := by decide +kernel
theorem dX6_isMinus_2 : decode cX6_isMinus 2 = .ok (.lcmp, 1) := by decide +kernel
theorem dX6_isMinus_3 : decode cX6_isMinus 3 = .ok (.ifCond .ge 7, 3) := by decide +kernel
theorem dX6_isMinus_6 : decode cX6_isMinus 6 = .ok (.iconst 1, 1) := by decide +kernel
theorem dX6_isMinus_7 : decode cX6_isMinus 7 = .ok (.goto 4, 3) := by decide +kernel
theorem dX6_isMinus_10 : decode cX6_isMinus 10 = .ok (.iconst 0, 1) := by decide +kernel
theorem dX6_isMinus_11 : decode cX6_isMinus 11 = .ok (.ireturn, 1) := by decide +kernel
theorem dX6_isNone_0 : decode cX6_isNone 0 = .ok (.iload_n 0, 1) := by decide +kernel
theorem dX6_isNone_1 : decode cX6_isNone 1 = .ok (.invokestatic 84, 3) := by decide +kernel
theorem dX6_isNone_4 : decode cX6_isNone 4 = .ok (.ifCond .eq 24, 3) := by decide +kernel
theorem dX6_isNone_7 : decode cX6_isNone 7 = .ok (.iload_n 0, 1) := by decide +kernel
theorem dX6_isNone_8 : decode cX6_isNone 8 = .ok (.iload_n 0, 1) := by decide +kernel
theorem dX6_isNone_9 : decode cX6_isNone 9 = .ok (.lload_n 1, 1) := by decide +kernel
theorem dX6_isNone_10 : decode cX6_isNone 10 = .ok (.invokestatic 88, 3) := by decide +kernel
theorem dX6_isNone_13 : decode cX6_isNone 13 = .ok (.invokestatic 91, 3) := by decide +kernel
theorem dX6_isNone_16 : decode cX6_isNone 16 = .ok (.iload_n 0, 1) := by decide +kernel
theorem dX6_isNone_17 : decode cX6_isNone 17 = .ok (.invokestatic 94, 3) := by decide +kernel
theorem dX6_isNone_20 : decode cX6_isNone 20 = .ok (.lcmp, 1) := by decide +kernel
theorem dX6_isNone_21 : decode cX6_isNone 21 = .ok (.ifCond .le 7, 3) := by decide +kernel
theorem dX6_isNone_24 : decode cX6_isNone 24 = .ok (.iconst 1, 1) := by decide +kernel
theorem dX6_isNone_25 : decode cX6_isNone 25 = .ok (.goto 4, 3) := by decide +kernel
theorem dX6_isNone_28 : decode cX6_isNone 28 = .ok (.iconst 0, 1) := by decide +kernel
theorem dX6_isNone_29 : decode cX6_isNone 29 = .ok (.ireturn, 1) := by decide +kernel
theorem dX6_rank_0 : decode cX6_rank 0 = .ok (.iload_n 0, 1) := by decide +kernel
theorem dX6_rank_1 : decode cX6_rank 1 = .ok (.invokestatic 84, 3) := by decide +kernel
theorem dX6_rank_4 : decode cX6_rank 4 = .ok (.ifCond .ne 5, 3) := by decide +kernel
theorem dX6_rank_7 : decode cX6_rank 7 = .ok (.lload_n 1, 1) := by decide +kernel
theorem dX6_rank_8 : decode cX6_rank 8 = .ok (.lreturn, 1) := by decide +kernel
theorem dX6_rank_9 : decode cX6_rank 9 = .ok (.iload_n 0, 1) := by decide +kernel
theorem dX6_rank_10 : decode cX6_rank 10 = .ok (.lload_n 1, 1) := by decide +kernel
theorem dX6_rank_11 : decode cX6_rank 11 = .ok (.invokestatic 91, 3) := by decide +kernel
theorem dX6_rank_14 : decode cX6_rank 14 = .ok (.lstore_n 3, 1) := by decide +kernel
theorem dX6_rank_15 : decode cX6_rank 15 = .ok (.iload_n 0, 1) := by decide +kernel
theorem dX6_rank_16 : decode cX6_rank 16 = .ok (.lload_n 1, 1) := by decide +kernel
theorem dX6_rank_17 : decode cX6_rank 17 = .ok (.invokestatic 97, 3) := by decide +kernel
theorem dX6_rank_20 : decode cX6_rank 20 = .ok (.ifCond .eq 11, 3) := by decide +kernel
theorem dX6_rank_23 : decode cX6_rank 23 = .ok (.ldc2_w 82, 3) := by decide +kernel
theorem dX6_rank_26 : decode cX6_rank 26 = .ok (.lload_n 3, 1) := by decide +kernel
theorem dX6_rank_27 : decode cX6_rank 27 = .ok (.lsub, 1) := by decide +kernel
theorem dX6_rank_28 : decode cX6_rank 28 = .ok (.goto 4, 3) := by decide +kernel
theorem dX6_rank_31 : decode cX6_rank 31 = .ok (.lload_n 3, 1) := by decide +kernel
theorem dX6_rank_32 : decode cX6_rank 32 = .ok (.lreturn, 1) := by decide +kernel
theorem dX6_height_0 : decode cX6_height 0 = .ok (.iload_n 0, 1) := by decide +kernel
theorem dX6_height_1 : decode cX6_height 1 = .ok (.invokestatic 84, 3) := by decide +kernel
theorem dX6_height_4 : decode cX6_height 4 = .ok (.ifCond .eq 17, 3) := by decide +kernel
theorem dX6_height_7 : decode cX6_height 7 = .ok (.iload_n 0, 1) := by decide +kernel
theorem dX6_height_8 : decode cX6_height 8 = .ok (.lload_n 1, 1) := by decide +kernel
theorem dX6_height_9 : decode cX6_height 9 = .ok (.invokestatic 91, 3) := by decide +kernel
theorem dX6_height_12 : decode cX6_height 12 = .ok (.lconst 0, 1) := by decide +kernel
theorem dX6_height_13 : decode cX6_height 13 = .ok (.lcmp, 1) := by decide +kernel
theorem dX6_height_14 : decode cX6_height 14 = .ok (.ifCond .ne 7, 3) := by decide +kernel
theorem dX6_height_17 : decode cX6_height 17 = .ok (.lconst 0, 1) := by decide +kernel
theorem dX6_height_18 : decode cX6_height 18 = .ok (.goto 8, 3) := by decide +kernel
theorem dX6_height_21 : decode cX6_height 21 = .ok (.iload_n 0, 1) := by decide +kernel
theorem dX6_height_22 : decode cX6_height 22 = .ok (.lload_n 1, 1) := by decide +kernel
theorem dX6_height_23 : decode cX6_height 23 = .ok (.invokestatic 101, 3) := by decide +kernel
theorem dX6_height_26 : decode cX6_height 26 = .ok (.lreturn, 1) := by decide +kernel
theorem dX6_greater_0 : decode cX6_greater 0 = .ok (.iload_n 0, 1) := by decide +kernel
theorem dX6_greater_1 : decode cX6_greater 1 = .ok (.lload_n 1, 1) := by decide +kernel
theorem dX6_greater_2 : decode cX6_greater 2 = .ok (.invokestatic 101, 3) := by decide +kernel
theorem dX6_greater_5 : decode cX6_greater 5 = .ok (.iload_n 0, 1) := by decide +kernel
theorem dX6_greater_6 : decode cX6_greater 6 = .ok (.lload_n 3, 1) := by decide +kernel
theorem dX6_greater_7 : decode cX6_greater 7 = .ok (.invokestatic 101, 3) := by decide +kernel
theorem dX6_greater_10 : decode cX6_greater 10 = .ok (.lcmp, 1) := by decide +kernel
theorem dX6_greater_11 : decode cX6_greater 11 = .ok (.ifCond .ge 7, 3) := by decide +kernel
theorem dX6_greater_14 : decode cX6_greater 14 = .ok (.lload_n 3, 1) := by decide +kernel
theorem dX6_greater_15 : decode cX6_greater 15 = .ok (.goto 4, 3) := by decide +kernel
theorem dX6_greater_18 : decode cX6_greater 18 = .ok (.lload_n 1, 1) := by decide +kernel
theorem dX6_greater_19 : decode cX6_greater 19 = .ok (.lreturn, 1) := by decide +kernel
theorem dX6_lesser_0 : decode cX6_lesser 0 = .ok (.iload_n 0, 1) := by decide +kernel
theorem dX6_lesser_1 : decode cX6_lesser 1 = .ok (.lload_n 3, 1) := by decide +kernel
theorem dX6_lesser_2 : decode cX6_lesser 2 = .ok (.invokestatic 101, 3) := by decide +kernel
theorem dX6_lesser_5 : decode cX6_lesser 5 = .ok (.iload_n 0, 1) := by decide +kernel
theorem dX6_lesser_6 : decode cX6_lesser 6 = .ok (.lload_n 1, 1) := by decide +kernel
theorem dX6_lesser_7 : decode cX6_lesser 7 = .ok (.invokestatic 101, 3) := by decide +kernel
theorem dX6_lesser_10 : decode cX6_lesser 10 = .ok (.lcmp, 1) := by decide +kernel
theorem dX6_lesser_11 : decode cX6_lesser 11 = .ok (.ifCond .ge 7, 3) := by decide +kernel
theorem dX6_lesser_14 : decode cX6_lesser 14 = .ok (.lload_n 3, 1) := by decide +kernel
theorem dX6_lesser_15 : decode cX6_lesser 15 = .ok (.goto 4, 3) := by decide +kernel
theorem dX6_lesser_18 : decode cX6_lesser 18 = .ok (.lload_n 1, 1) := by decide +kernel
theorem dX6_lesser_19 : decode cX6_lesser 19 = .ok (.lreturn, 1) := by decide +kernel
theorem dX6_isAbove_0 : decode cX6_isAbove 0 = .ok (.iload_n 0, 1) := by decide +kernel
theorem dX6_isAbove_1 : decode cX6_isAbove 1 = .ok (.lload_n 1, 1) := by decide +kernel
theorem dX6_isAbove_2 : decode cX6_isAbove 2 = .ok (.invokestatic 104, 3) := by decide +kernel
theorem dX6_isAbove_5 : decode cX6_isAbove 5 = .ok (.iload_n 0, 1) := by decide +kernel
theorem dX6_isAbove_6 : decode cX6_isAbove 6 = .ok (.lload_n 3, 1) := by decide +kernel
theorem dX6_isAbove_7 : decode cX6_isAbove 7 = .ok (.invokestatic 104, 3) := by decide +kernel
theorem dX6_isAbove_10 : decode cX6_isAbove 10 = .ok (.lcmp, 1) := by decide +kernel
theorem dX6_isAbove_11 : decode cX6_isAbove 11 = .ok (.ifCond .le 7, 3) := by decide +kernel
theorem dX6_isAbove_14 : decode cX6_isAbove 14 = .ok (.iconst 1, 1) := by decide +kernel
theorem dX6_isAbove_15 : decode cX6_isAbove 15 = .ok (.goto 4, 3) := by decide +kernel
theorem dX6_isAbove_18 : decode cX6_isAbove 18 = .ok (.iconst 0, 1) := by decide +kernel
theorem dX6_isAbove_19 : decode cX6_isAbove 19 = .ok (.ireturn, 1) := by decide +kernel
theorem dX6_amount_0 : decode cX6_amount 0 = .ok (.iload_n 0, 1) := by decide +kernel
theorem dX6_amount_1 : decode cX6_amount 1 = .ok (.invokestatic 84, 3) := by decide +kernel
theorem dX6_amount_4 : decode cX6_amount 4 = .ok (.ifCond .eq 13, 3) := by decide +kernel
theorem dX6_amount_7 : decode cX6_amount 7 = .ok (.iload_n 0, 1) := by decide +kernel
theorem dX6_amount_8 : decode cX6_amount 8 = .ok (.iload_n 0, 1) := by decide +kernel
theorem dX6_amount_9 : decode cX6_amount 9 = .ok (.lload_n 1, 1) := by decide +kernel
theorem dX6_amount_10 : decode cX6_amount 10 = .ok (.invokestatic 91, 3) := by decide +kernel
theorem dX6_amount_13 : decode cX6_amount 13 = .ok (.invokestatic 88, 3) := by decide +kernel
theorem dX6_amount_16 : decode cX6_amount 16 = .ok (.lreturn, 1) := by decide +kernel
theorem dX6_amount_17 : decode cX6_amount 17 = .ok (.iload_n 0, 1) := by decide +kernel
theorem dX6_amount_18 : decode cX6_amount 18 = .ok (.lload_n 1, 1) := by decide +kernel
theorem dX6_amount_19 : decode cX6_amount 19 = .ok (.lconst 0, 1) := by decide +kernel
theorem dX6_amount_20 : decode cX6_amount 20 = .ok (.lcmp, 1) := by decide +kernel
theorem dX6_amount_21 : decode cX6_amount 21 = .ok (.ifCond .ge 8, 3) := by decide +kernel
theorem dX6_amount_24 : decode cX6_amount 24 = .ok (.lload_n 1, 1) := by decide +kernel
theorem dX6_amount_25 : decode cX6_amount 25 = .ok (.lneg, 1) := by decide +kernel
theorem dX6_amount_26 : decode cX6_amount 26 = .ok (.goto 4, 3) := by decide +kernel
theorem dX6_amount_29 : decode cX6_amount 29 = .ok (.lload_n 1, 1) := by decide +kernel
theorem dX6_amount_30 : decode cX6_amount 30 = .ok (.invokestatic 88, 3) := by decide +kernel
theorem dX6_amount_33 : decode cX6_amount 33 = .ok (.lreturn, 1) := by decide +kernel
theorem dX6_signed_0 : decode cX6_signed 0 = .ok (.iload_n 0, 1) := by decide +kernel
theorem dX6_signed_1 : decode cX6_signed 1 = .ok (.iload_n 3, 1) := by decide +kernel
theorem dX6_signed_2 : decode cX6_signed 2 = .ok (.ifCond .eq 12, 3) := by decide +kernel
theorem dX6_signed_5 : decode cX6_signed 5 = .ok (.lload_n 1, 1) := by decide +kernel
theorem dX6_signed_6 : decode cX6_signed 6 = .ok (.iload_n 0, 1) := by decide +kernel
theorem dX6_signed_7 : decode cX6_signed 7 = .ok (.invokestatic 78, 3) := by decide +kernel
theorem dX6_signed_10 : decode cX6_signed 10 = .ok (.lor, 1) := by decide +kernel
theorem dX6_signed_11 : decode cX6_signed 11 = .ok (.goto 4, 3) := by decide +kernel
theorem dX6_signed_14 : decode cX6_signed 14 = .ok (.lload_n 1, 1) := by decide +kernel
theorem dX6_signed_15 : decode cX6_signed 15 = .ok (.invokestatic 88, 3) := by decide +kernel
theorem dX6_signed_18 : decode cX6_signed 18 = .ok (.lreturn, 1) := by decide +kernel
theorem dX6_toWhole_0 : decode cX6_toWhole 0 = .ok (.iload_n 0, 1) := by decide +kernel
theorem dX6_toWhole_1 : decode cX6_toWhole 1 = .ok (.lload_n 1, 1) := by decide +kernel
theorem dX6_toWhole_2 : decode cX6_toWhole 2 = .ok (.invokestatic 97, 3) := by decide +kernel
theorem dX6_toWhole_5 : decode cX6_toWhole 5 = .ok (.istore 4, 2) := by decide +kernel
theorem dX6_toWhole_7 : decode cX6_toWhole 7 = .ok (.iload_n 0, 1) := by decide +kernel
theorem dX6_toWhole_8 : decode cX6_toWhole 8 = .ok (.lload_n 1, 1) := by decide +kernel
theorem dX6_toWhole_9 : decode cX6_toWhole 9 = .ok (.invokestatic 91, 3) := by decide +kernel
theorem dX6_toWhole_12 : decode cX6_toWhole 12 = .ok (.lstore 5, 2) := by decide +kernel
theorem dX6_toWhole_14 : decode cX6_toWhole 14 = .ok (.iload_n 0, 1) := by decide +kernel
theorem dX6_toWhole_15 : decode cX6_toWhole 15 = .ok (.invokestatic 107, 3) := by decide +kernel
theorem dX6_toWhole_18 : decode cX6_toWhole 18 = .ok (.istore 7, 2) := by decide +kernel
theorem dX6_toWhole_20 : decode cX6_toWhole 20 = .ok (.lload 5, 2) := by decide +kernel
theorem dX6_toWhole_22 : decode cX6_toWhole 22 = .ok (.iload 7, 2) := by decide +kernel
theorem dX6_toWhole_24 : decode cX6_toWhole 24 = .ok (.lshr, 1) := by decide +kernel
theorem dX6_toWhole_25 : decode cX6_toWhole 25 = .ok (.l2i, 1) := by decide +kernel
theorem dX6_toWhole_26 : decode cX6_toWhole 26 = .ok (.iload_n 0, 1) := by decide +kernel
theorem dX6_toWhole_27 : decode cX6_toWhole 27 = .ok (.iconst 2, 1) := by decide +kernel
theorem dX6_toWhole_28 : decode cX6_toWhole 28 = .ok (.if_icmp .ne 8, 3) := by decide +kernel
theorem dX6_toWhole_31 : decode cX6_toWhole 31 = .ok (.bipush 127, 2) := by decide +kernel
theorem dX6_toWhole_33 : decode cX6_toWhole 33 = .ok (.goto 6, 3) := by decide +kernel
theorem dX6_toWhole_36 : decode cX6_toWhole 36 = .ok (.sipush 1023, 3) := by decide +kernel
theorem dX6_toWhole_39 : decode cX6_toWhole 39 = .ok (.isub, 1) := by decide +kernel
theorem dX6_toWhole_40 : decode cX6_toWhole 40 = .ok (.istore 8, 2) := by decide +kernel
theorem dX6_toWhole_42 : decode cX6_toWhole 42 = .ok (.iload 8, 2) := by decide +kernel
theorem dX6_toWhole_44 : decode cX6_toWhole 44 = .ok (.iload 7, 2) := by decide +kernel
theorem dX6_toWhole_46 : decode cX6_toWhole 46 = .ok (.if_icmp .ge 10, 3) := by decide +kernel
theorem dX6_toWhole_49 : decode cX6_toWhole 49 = .ok (.lload 5, 2) := by decide +kernel
theorem dX6_toWhole_51 : decode cX6_toWhole 51 = .ok (.lconst 0, 1) := by decide +kernel
theorem dX6_toWhole_52 : decode cX6_toWhole 52 = .ok (.lcmp, 1) := by decide +kernel
theorem dX6_toWhole_53 : decode cX6_toWhole 53 = .ok (.ifCond .ne 5, 3) := by decide +kernel
theorem dX6_toWhole_56 : decode cX6_toWhole 56 = .ok (.lload_n 1, 1) := by decide +kernel
theorem dX6_toWhole_57 : decode cX6_toWhole 57 = .ok (.lreturn, 1) := by decide +kernel
theorem dX6_toWhole_58 : decode cX6_toWhole 58 = .ok (.iload_n 3, 1) := by decide +kernel
theorem dX6_toWhole_59 : decode cX6_toWhole 59 = .ok (.iconst 3, 1) := by decide +kernel
theorem dX6_toWhole_60 : decode cX6_toWhole 60 = .ok (.if_icmp .ne 8, 3) := by decide +kernel
theorem dX6_toWhole_63 : decode cX6_toWhole 63 = .ok (.iload 4, 2) := by decide +kernel
theorem dX6_toWhole_65 : decode cX6_toWhole 65 = .ok (.goto 13, 3) := by decide +kernel
theorem dX6_toWhole_68 : decode cX6_toWhole 68 = .ok (.iload 4, 2) := by decide +kernel
theorem dX6_toWhole_70 : decode cX6_toWhole 70 = .ok (.ifCond .ne 7, 3) := by decide +kernel
theorem dX6_toWhole_73 : decode cX6_toWhole 73 = .ok (.iconst 1, 1) := by decide +kernel
theorem dX6_toWhole_74 : decode cX6_toWhole 74 = .ok (.goto 4, 3) := by decide +kernel
theorem dX6_toWhole_77 : decode cX6_toWhole 77 = .ok (.iconst 0, 1) := by decide +kernel
theorem dX6_toWhole_78 : decode cX6_toWhole 78 = .ok (.istore 9, 2) := by decide +kernel
theorem dX6_toWhole_80 : decode cX6_toWhole 80 = .ok (.iload 8, 2) := by decide +kernel
theorem dX6_toWhole_82 : decode cX6_toWhole 82 = .ok (.ifCond .ge 60, 3) := by decide +kernel
theorem dX6_toWhole_85 : decode cX6_toWhole 85 = .ok (.iload_n 3, 1) := by decide +kernel
theorem dX6_toWhole_86 : decode cX6_toWhole 86 = .ok (.iconst 5, 1) := by decide +kernel
theorem dX6_toWhole_87 : decode cX6_toWhole 87 = .ok (.if_icmp .ne 31, 3) := by decide +kernel
theorem dX6_toWhole_90 : decode cX6_toWhole 90 = .ok (.iload 8, 2) := by decide +kernel
theorem dX6_toWhole_92 : decode cX6_toWhole 92 = .ok (.iconst (-1), 1) := by decide +kernel
theorem dX6_toWhole_93 : decode cX6_toWhole 93 = .ok (.if_icmp .ne 21, 3) := by decide +kernel
theorem dX6_toWhole_96 : decode cX6_toWhole 96 = .ok (.lload 5, 2) := by decide +kernel
theorem dX6_toWhole_98 : decode cX6_toWhole 98 = .ok (.lconst 1, 1) := by decide +kernel
theorem dX6_toWhole_99 : decode cX6_toWhole 99 = .ok (.iload 7, 2) := by decide +kernel
theorem dX6_toWhole_101 : decode cX6_toWhole 101 = .ok (.lshl, 1) := by decide +kernel
theorem dX6_toWhole_102 : decode cX6_toWhole 102 = .ok (.lconst 1, 1) := by decide +kernel
theorem dX6_toWhole_103 : decode cX6_toWhole 103 = .ok (.lsub, 1) := by decide +kernel
theorem dX6_toWhole_104 : decode cX6_toWhole 104 = .ok (.land, 1) := by decide +kernel
theorem dX6_toWhole_105 : decode cX6_toWhole 105 = .ok (.lconst 0, 1) := by decide +kernel
theorem dX6_toWhole_106 : decode cX6_toWhole 106 = .ok (.lcmp, 1) := by decide +kernel
theorem dX6_toWhole_107 : decode cX6_toWhole 107 = .ok (.ifCond .le 7, 3) := by decide +kernel
theorem dX6_toWhole_110 : decode cX6_toWhole 110 = .ok (.iconst 1, 1) := by decide +kernel
theorem dX6_toWhole_111 : decode cX6_toWhole 111 = .ok (.goto 9, 3) := by decide +kernel
theorem dX6_toWhole_114 : decode cX6_toWhole 114 = .ok (.iconst 0, 1) := by decide +kernel
theorem dX6_toWhole_115 : decode cX6_toWhole 115 = .ok (.goto 5, 3) := by decide +kernel
theorem dX6_toWhole_118 : decode cX6_toWhole 118 = .ok (.iload 9, 2) := by decide +kernel
theorem dX6_toWhole_120 : decode cX6_toWhole 120 = .ok (.istore 10, 2) := by decide +kernel
theorem dX6_toWhole_122 : decode cX6_toWhole 122 = .ok (.iload_n 0, 1) := by decide +kernel
theorem dX6_toWhole_123 : decode cX6_toWhole 123 = .ok (.iload 10, 2) := by decide +kernel
theorem dX6_toWhole_125 : decode cX6_toWhole 125 = .ok (.ifCond .eq 10, 3) := by decide +kernel
theorem dX6_toWhole_128 : decode cX6_toWhole 128 = .ok (.iload_n 0, 1) := by decide +kernel
theorem dX6_toWhole_129 : decode cX6_toWhole 129 = .ok (.invokestatic 111, 3) := by decide +kernel
theorem dX6_toWhole_132 : decode cX6_toWhole 132 = .ok (.goto 4, 3) := by decide +kernel
theorem dX6_toWhole_135 : decode cX6_toWhole 135 = .ok (.lconst 0, 1) := by decide +kernel
theorem dX6_toWhole_136 : decode cX6_toWhole 136 = .ok (.iload 4, 2) := by decide +kernel
theorem dX6_toWhole_138 : decode cX6_toWhole 138 = .ok (.invokestatic 114, 3) := by decide +kernel
theorem dX6_toWhole_141 : decode cX6_toWhole 141 = .ok (.lreturn, 1) := by decide +kernel
theorem dX6_toWhole_142 : decode cX6_toWhole 142 = .ok (.lconst 1, 1) := by decide +kernel
theorem dX6_toWhole_143 : decode cX6_toWhole 143 = .ok (.iload 7, 2) := by decide +kernel
theorem dX6_toWhole_145 : decode cX6_toWhole 145 = .ok (.iload 8, 2) := by decide +kernel
theorem dX6_toWhole_147 : decode cX6_toWhole 147 = .ok (.isub, 1) := by decide +kernel
theorem dX6_toWhole_148 : decode cX6_toWhole 148 = .ok (.lshl, 1) := by decide +kernel
theorem dX6_toWhole_149 : decode cX6_toWhole 149 = .ok (.lstore 10, 2) := by decide +kernel
theorem dX6_toWhole_151 : decode cX6_toWhole 151 = .ok (.lload 5, 2) := by decide +kernel
theorem dX6_toWhole_153 : decode cX6_toWhole 153 = .ok (.lload 10, 2) := by decide +kernel
theorem dX6_toWhole_155 : decode cX6_toWhole 155 = .ok (.lconst 1, 1) := by decide +kernel
theorem dX6_toWhole_156 : decode cX6_toWhole 156 = .ok (.lsub, 1) := by decide +kernel
theorem dX6_toWhole_157 : decode cX6_toWhole 157 = .ok (.land, 1) := by decide +kernel
theorem dX6_toWhole_158 : decode cX6_toWhole 158 = .ok (.lstore 12, 2) := by decide +kernel
theorem dX6_toWhole_160 : decode cX6_toWhole 160 = .ok (.lload 12, 2) := by decide +kernel
theorem dX6_toWhole_162 : decode cX6_toWhole 162 = .ok (.lconst 0, 1) := by decide +kernel
theorem dX6_toWhole_163 : decode cX6_toWhole 163 = .ok (.lcmp, 1) := by decide +kernel
theorem dX6_toWhole_164 : decode cX6_toWhole 164 = .ok (.ifCond .ne 5, 3) := by decide +kernel
theorem dX6_toWhole_167 : decode cX6_toWhole 167 = .ok (.lload_n 1, 1) := by decide +kernel
theorem dX6_toWhole_168 : decode cX6_toWhole 168 = .ok (.lreturn, 1) := by decide +kernel
theorem dX6_toWhole_169 : decode cX6_toWhole 169 = .ok (.iload 8, 2) := by decide +kernel
theorem dX6_toWhole_171 : decode cX6_toWhole 171 = .ok (.ifCond .eq 13, 3) := by decide +kernel
theorem dX6_toWhole_174 : decode cX6_toWhole 174 = .ok (.lload 5, 2) := by decide +kernel
theorem dX6_toWhole_176 : decode cX6_toWhole 176 = .ok (.lload 10, 2) := by decide +kernel
theorem dX6_toWhole_178 : decode cX6_toWhole 178 = .ok (.land, 1) := by decide +kernel
theorem dX6_toWhole_179 : decode cX6_toWhole 179 = .ok (.lconst 0, 1) := by decide +kernel
theorem dX6_toWhole_180 : decode cX6_toWhole 180 = .ok (.lcmp, 1) := by decide +kernel
theorem dX6_toWhole_181 : decode cX6_toWhole 181 = .ok (.ifCond .eq 7, 3) := by decide +kernel
theorem dX6_toWhole_184 : decode cX6_toWhole 184 = .ok (.iconst 1, 1) := by decide +kernel
theorem dX6_toWhole_185 : decode cX6_toWhole 185 = .ok (.goto 4, 3) := by decide +kernel
theorem dX6_toWhole_188 : decode cX6_toWhole 188 = .ok (.iconst 0, 1) := by decide +kernel
theorem dX6_toWhole_189 : decode cX6_toWhole 189 = .ok (.istore 14, 2) := by decide +kernel
theorem dX6_toWhole_191 : decode cX6_toWhole 191 = .ok (.iload_n 3, 1) := by decide +kernel
theorem dX6_toWhole_192 : decode cX6_toWhole 192 = .ok (.iconst 5, 1) := by decide +kernel
theorem dX6_toWhole_193 : decode cX6_toWhole 193 = .ok (.if_icmp .ne 40, 3) := by decide +kernel
theorem dX6_toWhole_196 : decode cX6_toWhole 196 = .ok (.lload 12, 2) := by decide +kernel
theorem dX6_toWhole_198 : decode cX6_toWhole 198 = .ok (.lload 10, 2) := by decide +kernel
theorem dX6_toWhole_200 : decode cX6_toWhole 200 = .ok (.ldc2_w 118, 3) := by decide +kernel
theorem dX6_toWhole_203 : decode cX6_toWhole 203 = .ok (.ldiv, 1) := by decide +kernel
theorem dX6_toWhole_204 : decode cX6_toWhole 204 = .ok (.lcmp, 1) := by decide +kernel
theorem dX6_toWhole_205 : decode cX6_toWhole 205 = .ok (.ifCond .gt 20, 3) := by decide +kernel
theorem dX6_toWhole_208 : decode cX6_toWhole 208 = .ok (.lload 12, 2) := by decide +kernel
theorem dX6_toWhole_210 : decode cX6_toWhole 210 = .ok (.lload 10, 2) := by decide +kernel
theorem dX6_toWhole_212 : decode cX6_toWhole 212 = .ok (.ldc2_w 118, 3) := by decide +kernel
theorem dX6_toWhole_215 : decode cX6_toWhole 215 = .ok (.ldiv, 1) := by decide +kernel
theorem dX6_toWhole_216 : decode cX6_toWhole 216 = .ok (.lcmp, 1) := by decide +kernel
theorem dX6_toWhole_217 : decode cX6_toWhole 217 = .ok (.ifCond .ne 12, 3) := by decide +kernel
theorem dX6_toWhole_220 : decode cX6_toWhole 220 = .ok (.iload 14, 2) := by decide +kernel
theorem dX6_toWhole_222 : decode cX6_toWhole 222 = .ok (.ifCond .eq 7, 3) := by decide +kernel
theorem dX6_toWhole_225 : decode cX6_toWhole 225 = .ok (.iconst 1, 1) := by decide +kernel
theorem dX6_toWhole_226 : decode cX6_toWhole 226 = .ok (.goto 9, 3) := by decide +kernel
theorem dX6_toWhole_229 : decode cX6_toWhole 229 = .ok (.iconst 0, 1) := by decide +kernel
theorem dX6_toWhole_230 : decode cX6_toWhole 230 = .ok (.goto 5, 3) := by decide +kernel
theorem dX6_toWhole_233 : decode cX6_toWhole 233 = .ok (.iload 9, 2) := by decide +kernel
theorem dX6_toWhole_235 : decode cX6_toWhole 235 = .ok (.istore 15, 2) := by decide +kernel
theorem dX6_toWhole_237 : decode cX6_toWhole 237 = .ok (.iload_n 0, 1) := by decide +kernel
theorem dX6_toWhole_238 : decode cX6_toWhole 238 = .ok (.iload 15, 2) := by decide +kernel
theorem dX6_toWhole_240 : decode cX6_toWhole 240 = .ok (.ifCond .eq 14, 3) := by decide +kernel
theorem dX6_toWhole_243 : decode cX6_toWhole 243 = .ok (.lload 5, 2) := by decide +kernel
theorem dX6_toWhole_245 : decode cX6_toWhole 245 = .ok (.lload 12, 2) := by decide +kernel
theorem dX6_toWhole_247 : decode cX6_toWhole 247 = .ok (.lsub, 1) := by decide +kernel
theorem dX6_toWhole_248 : decode cX6_toWhole 248 = .ok (.lload 10, 2) := by decide +kernel
theorem dX6_toWhole_250 : decode cX6_toWhole 250 = .ok (.ladd, 1) := by decide +kernel
theorem dX6_toWhole_251 : decode cX6_toWhole 251 = .ok (.goto 8, 3) := by decide +kernel
theorem dX6_toWhole_254 : decode cX6_toWhole 254 = .ok (.lload 5, 2) := by decide +kernel
theorem dX6_toWhole_256 : decode cX6_toWhole 256 = .ok (.lload 12, 2) := by decide +kernel
theorem dX6_toWhole_258 : decode cX6_toWhole 258 = .ok (.lsub, 1) := by decide +kernel
theorem dX6_toWhole_259 : decode cX6_toWhole 259 = .ok (.iload 4, 2) := by decide +kernel
theorem dX6_toWhole_261 : decode cX6_toWhole 261 = .ok (.invokestatic 114, 3) := by decide +kernel
theorem dX6_toWhole_264 : decode cX6_toWhole 264 = .ok (.lreturn, 1) := by decide +kernel
theorem dX6_changed_0 : decode cX6_changed 0 = .ok (.iload_n 1, 1) := by decide +kernel
theorem dX6_changed_1 : decode cX6_changed 1 = .ok (.tableswitch 113 0 7 #[47, 53, 61, 113, 113, 113, 69, 97], 47) := by decide +kernel
theorem dX6_changed_48 : decode cX6_changed 48 = .ok (.iload_n 0, 1) := by decide +kernel
theorem dX6_changed_49 : decode cX6_changed 49 = .ok (.lload_n 2, 1) := by decide +kernel
theorem dX6_changed_50 : decode cX6_changed 50 = .ok (.invokestatic 120, 3) := by decide +kernel
theorem dX6_changed_53 : decode cX6_changed 53 = .ok (.lreturn, 1) := by decide +kernel
theorem dX6_changed_54 : decode cX6_changed 54 = .ok (.iload_n 0, 1) := by decide +kernel
theorem dX6_changed_55 : decode cX6_changed 55 = .ok (.lload_n 2, 1) := by decide +kernel
theorem dX6_changed_56 : decode cX6_changed 56 = .ok (.lload 4, 2) := by decide +kernel
theorem dX6_changed_58 : decode cX6_changed 58 = .ok (.invokestatic 123, 3) := by decide +kernel
theorem dX6_changed_61 : decode cX6_changed 61 = .ok (.lreturn, 1) := by decide +kernel
theorem dX6_changed_62 : decode cX6_changed 62 = .ok (.iload_n 0, 1) := by decide +kernel
theorem dX6_changed_63 : decode cX6_changed 63 = .ok (.lload_n 2, 1) := by decide +kernel
theorem dX6_changed_64 : decode cX6_changed 64 = .ok (.lload 4, 2) := by decide +kernel
theorem dX6_changed_66 : decode cX6_changed 66 = .ok (.invokestatic 127, 3) := by decide +kernel
theorem dX6_changed_69 : decode cX6_changed 69 = .ok (.lreturn, 1) := by decide +kernel
theorem dX6_changed_70 : decode cX6_changed 70 = .ok (.iload_n 0, 1) := by decide +kernel
theorem dX6_changed_71 : decode cX6_changed 71 = .ok (.lload_n 2, 1) := by decide +kernel
theorem dX6_changed_72 : decode cX6_changed 72 = .ok (.invokestatic 91, 3) := by decide +kernel
theorem dX6_changed_75 : decode cX6_changed 75 = .ok (.lconst 0, 1) := by decide +kernel
theorem dX6_changed_76 : decode cX6_changed 76 = .ok (.lcmp, 1) := by decide +kernel
theorem dX6_changed_77 : decode cX6_changed 77 = .ok (.ifCond .ne 7, 3) := by decide +kernel
theorem dX6_changed_80 : decode cX6_changed 80 = .ok (.lload_n 2, 1) := by decide +kernel
theorem dX6_changed_81 : decode cX6_changed 81 = .ok (.goto 16, 3) := by decide +kernel
theorem dX6_changed_84 : decode cX6_changed 84 = .ok (.iload_n 0, 1) := by decide +kernel
theorem dX6_changed_85 : decode cX6_changed 85 = .ok (.iload_n 0, 1) := by decide +kernel
theorem dX6_changed_86 : decode cX6_changed 86 = .ok (.invokestatic 111, 3) := by decide +kernel
theorem dX6_changed_89 : decode cX6_changed 89 = .ok (.iload_n 0, 1) := by decide +kernel
theorem dX6_changed_90 : decode cX6_changed 90 = .ok (.lload_n 2, 1) := by decide +kernel
theorem dX6_changed_91 : decode cX6_changed 91 = .ok (.invokestatic 97, 3) := by decide +kernel
theorem dX6_changed_94 : decode cX6_changed 94 = .ok (.invokestatic 114, 3) := by decide +kernel
theorem dX6_changed_97 : decode cX6_changed 97 = .ok (.lreturn, 1) := by decide +kernel
theorem dX6_changed_98 : decode cX6_changed 98 = .ok (.iload_n 0, 1) := by decide +kernel
theorem dX6_changed_99 : decode cX6_changed 99 = .ok (.iload_n 0, 1) := by decide +kernel
theorem dX6_changed_100 : decode cX6_changed 100 = .ok (.lload_n 2, 1) := by decide +kernel
theorem dX6_changed_101 : decode cX6_changed 101 = .ok (.invokestatic 91, 3) := by decide +kernel
theorem dX6_changed_104 : decode cX6_changed 104 = .ok (.iload_n 0, 1) := by decide +kernel
theorem dX6_changed_105 : decode cX6_changed 105 = .ok (.lload 4, 2) := by decide +kernel
theorem dX6_changed_107 : decode cX6_changed 107 = .ok (.invokestatic 97, 3) := by decide +kernel
theorem dX6_changed_110 : decode cX6_changed 110 = .ok (.invokestatic 114, 3) := by decide +kernel
theorem dX6_changed_113 : decode cX6_changed 113 = .ok (.lreturn, 1) := by decide +kernel
theorem dX6_changed_114 : decode cX6_changed 114 = .ok (.iload_n 0, 1) := by decide +kernel
theorem dX6_changed_115 : decode cX6_changed 115 = .ok (.lload_n 2, 1) := by decide +kernel
theorem dX6_changed_116 : decode cX6_changed 116 = .ok (.iload_n 1, 1) := by decide +kernel
theorem dX6_changed_117 : decode cX6_changed 117 = .ok (.invokestatic 130, 3) := by decide +kernel
theorem dX6_changed_120 : decode cX6_changed 120 = .ok (.lreturn, 1) := by decide +kernel
theorem dX6_takes_0 : decode cX6_takes 0 = .ok (.iload_n 0, 1) := by decide +kernel
theorem dX6_takes_1 : decode cX6_takes 1 = .ok (.iconst 1, 1) := by decide +kernel
theorem dX6_takes_2 : decode cX6_takes 2 = .ok (.if_icmp .eq 14, 3) := by decide +kernel
theorem dX6_takes_5 : decode cX6_takes 5 = .ok (.iload_n 0, 1) := by decide +kernel
theorem dX6_takes_6 : decode cX6_takes 6 = .ok (.iconst 2, 1) := by decide +kernel
theorem dX6_takes_7 : decode cX6_takes 7 = .ok (.if_icmp .eq 9, 3) := by decide +kernel
theorem dX6_takes_10 : decode cX6_takes 10 = .ok (.iload_n 0, 1) := by decide +kernel
theorem dX6_takes_11 : decode cX6_takes 11 = .ok (.bipush 7, 2) := by decide +kernel
theorem dX6_takes_13 : decode cX6_takes 13 = .ok (.if_icmp .ne 7, 3) := by decide +kernel
theorem dX6_takes_16 : decode cX6_takes 16 = .ok (.iconst 1, 1) := by decide +kernel
theorem dX6_takes_17 : decode cX6_takes 17 = .ok (.goto 4, 3) := by decide +kernel
theorem dX6_takes_20 : decode cX6_takes 20 = .ok (.iconst 0, 1) := by decide +kernel
theorem dX6_takes_21 : decode cX6_takes 21 = .ok (.ireturn, 1) := by decide +kernel
theorem dX6_isStep_0 : decode cX6_isStep 0 = .ok (.iload_n 1, 1) := by decide +kernel
theorem dX6_isStep_1 : decode cX6_isStep 1 = .ok (.ifCond .lt 24, 3) := by decide +kernel
theorem dX6_isStep_4 : decode cX6_isStep 4 = .ok (.iload_n 1, 1) := by decide +kernel
theorem dX6_isStep_5 : decode cX6_isStep 5 = .ok (.iload_n 0, 1) := by decide +kernel
theorem dX6_isStep_6 : decode cX6_isStep 6 = .ok (.invokestatic 84, 3) := by decide +kernel
theorem dX6_isStep_9 : decode cX6_isStep 9 = .ok (.ifCond .eq 8, 3) := by decide +kernel
theorem dX6_isStep_12 : decode cX6_isStep 12 = .ok (.bipush 8, 2) := by decide +kernel
theorem dX6_isStep_14 : decode cX6_isStep 14 = .ok (.goto 4, 3) := by decide +kernel
theorem dX6_isStep_17 : decode cX6_isStep 17 = .ok (.iconst 3, 1) := by decide +kernel
theorem dX6_isStep_18 : decode cX6_isStep 18 = .ok (.if_icmp .ge 7, 3) := by decide +kernel
theorem dX6_isStep_21 : decode cX6_isStep 21 = .ok (.iconst 1, 1) := by decide +kernel
theorem dX6_isStep_22 : decode cX6_isStep 22 = .ok (.goto 4, 3) := by decide +kernel
theorem dX6_isStep_25 : decode cX6_isStep 25 = .ok (.iconst 0, 1) := by decide +kernel
theorem dX6_isStep_26 : decode cX6_isStep 26 = .ok (.ireturn, 1) := by decide +kernel
theorem dX6_single_0 : decode cX6_single 0 = .ok (.lload_n 0, 1) := by decide +kernel
theorem dX6_single_1 : decode cX6_single 1 = .ok (.l2i, 1) := by decide +kernel
theorem dX6_single_2 : decode cX6_single 2 = .ok (.invokestatic 134, 3) := by decide +kernel
theorem dX6_single_5 : decode cX6_single 5 = .ok (.freturn, 1) := by decide +kernel
theorem dX6_real_0 : decode cX6_real 0 = .ok (.lload_n 0, 1) := by decide +kernel
theorem dX6_real_1 : decode cX6_real 1 = .ok (.invokestatic 140, 3) := by decide +kernel
theorem dX6_real_4 : decode cX6_real 4 = .ok (.dreturn, 1) := by decide +kernel
theorem dX6_swing_0 : decode cX6_swing 0 = .ok (.iload_n 0, 1) := by decide +kernel
theorem dX6_swing_1 : decode cX6_swing 1 = .ok (.lload_n 1, 1) := by decide +kernel
theorem dX6_swing_2 : decode cX6_swing 2 = .ok (.invokestatic 104, 3) := by decide +kernel
