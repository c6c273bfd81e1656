theorem dX1_lengthenChain_17 : decode cX1_lengthenChain 17 = .ok (.aload_n 0, 1) := by decide +kernel
theorem dX1_lengthenChain_18 : decode cX1_lengthenChain 18 = .ok (.dup, 1) := by decide +kernel
theorem dX1_lengthenChain_19 : decode cX1_lengthenChain 19 = .ok (.getfield 44, 3) := by decide +kernel
theorem dX1_lengthenChain_22 : decode cX1_lengthenChain 22 = .ok (.iconst 1, 1) := by decide +kernel
theorem dX1_lengthenChain_23 : decode cX1_lengthenChain 23 = .ok (.iadd, 1) := by decide +kernel
theorem dX1_lengthenChain_24 : decode cX1_lengthenChain 24 = .ok (.putfield 44, 3) := by decide +kernel
theorem dX1_lengthenChain_27 : decode cX1_lengthenChain 27 = .ok (.aload_n 0, 1) := by decide +kernel
theorem dX1_lengthenChain_28 : decode cX1_lengthenChain 28 = .ok (.getfield 44, 3) := by decide +kernel
theorem dX1_lengthenChain_31 : decode cX1_lengthenChain 31 = .ok (.ireturn, 1) := by decide +kernel
theorem dX1_throughChain_0 : decode cX1_throughChain 0 = .ok (.lload_n 1, 1) := by decide +kernel
theorem dX1_throughChain_1 : decode cX1_throughChain 1 = .ok (.lstore_n 3, 1) := by decide +kernel
theorem dX1_throughChain_2 : decode cX1_throughChain 2 = .ok (.aload_n 0, 1) := by decide +kernel
theorem dX1_throughChain_3 : decode cX1_throughChain 3 = .ok (.getfield 21, 3) := by decide +kernel
theorem dX1_throughChain_6 : decode cX1_throughChain 6 = .ok (.astore 5, 2) := by decide +kernel
theorem dX1_throughChain_8 : decode cX1_throughChain 8 = .ok (.aload 5, 2) := by decide +kernel
theorem dX1_throughChain_10 : decode cX1_throughChain 10 = .ok (.arraylength, 1) := by decide +kernel
theorem dX1_throughChain_11 : decode cX1_throughChain 11 = .ok (.istore 6, 2) := by decide +kernel
theorem dX1_throughChain_13 : decode cX1_throughChain 13 = .ok (.iconst 0, 1) := by decide +kernel
theorem dX1_throughChain_14 : decode cX1_throughChain 14 = .ok (.istore 7, 2) := by decide +kernel
theorem dX1_throughChain_16 : decode cX1_throughChain 16 = .ok (.iload 7, 2) := by decide +kernel
theorem dX1_throughChain_18 : decode cX1_throughChain 18 = .ok (.iload 6, 2) := by decide +kernel
theorem dX1_throughChain_20 : decode cX1_throughChain 20 = .ok (.if_icmp .ge 40, 3) := by decide +kernel
theorem dX1_throughChain_23 : decode cX1_throughChain 23 = .ok (.aload 5, 2) := by decide +kernel
theorem dX1_throughChain_25 : decode cX1_throughChain 25 = .ok (.iload 7, 2) := by decide +kernel
theorem dX1_throughChain_27 : decode cX1_throughChain 27 = .ok (.aaload, 1) := by decide +kernel
theorem dX1_throughChain_28 : decode cX1_throughChain 28 = .ok (.astore 8, 2) := by decide +kernel
theorem dX1_throughChain_30 : decode cX1_throughChain 30 = .ok (.aload 8, 2) := by decide +kernel
theorem dX1_throughChain_32 : decode cX1_throughChain 32 = .ok (.ifnull 22, 3) := by decide +kernel
theorem dX1_throughChain_35 : decode cX1_throughChain 35 = .ok (.aload_n 0, 1) := by decide +kernel
theorem dX1_throughChain_36 : decode cX1_throughChain 36 = .ok (.getfield 15, 3) := by decide +kernel
theorem dX1_throughChain_39 : decode cX1_throughChain 39 = .ok (.aload 8, 2) := by decide +kernel
theorem dX1_throughChain_41 : decode cX1_throughChain 41 = .ok (.getfield 51, 3) := by decide +kernel
theorem dX1_throughChain_44 : decode cX1_throughChain 44 = .ok (.lload_n 3, 1) := by decide +kernel
theorem dX1_throughChain_45 : decode cX1_throughChain 45 = .ok (.aload 8, 2) := by decide +kernel
theorem dX1_throughChain_47 : decode cX1_throughChain 47 = .ok (.invokevirtual 54, 3) := by decide +kernel
theorem dX1_throughChain_50 : decode cX1_throughChain 50 = .ok (.invokevirtual 58, 3) := by decide +kernel
theorem dX1_throughChain_53 : decode cX1_throughChain 53 = .ok (.lstore_n 3, 1) := by decide +kernel
theorem dX1_throughChain_54 : decode cX1_throughChain 54 = .ok (.iinc 7 1, 3) := by decide +kernel
theorem dX1_throughChain_57 : decode cX1_throughChain 57 = .ok (.goto (-41), 3) := by decide +kernel
theorem dX1_throughChain_60 : decode cX1_throughChain 60 = .ok (.lload_n 3, 1) := by decide +kernel
theorem dX1_throughChain_61 : decode cX1_throughChain 61 = .ok (.lreturn, 1) := by decide +kernel
theorem dX1_keep_0 : decode cX1_keep 0 = .ok (.aload_n 0, 1) := by decide +kernel
theorem dX1_keep_1 : decode cX1_keep 1 = .ok (.invokevirtual 62, 3) := by decide +kernel
theorem dX1_keep_4 : decode cX1_keep 4 = .ok (.ifCond .ne 7, 3) := by decide +kernel
theorem dX1_keep_7 : decode cX1_keep 7 = .ok (.iconst 1, 1) := by decide +kernel
theorem dX1_keep_8 : decode cX1_keep 8 = .ok (.goto 4, 3) := by decide +kernel
theorem dX1_keep_11 : decode cX1_keep 11 = .ok (.iconst 0, 1) := by decide +kernel
theorem dX1_keep_12 : decode cX1_keep 12 = .ok (.istore_n 3, 1) := by decide +kernel
theorem dX1_keep_13 : decode cX1_keep 13 = .ok (.aload_n 0, 1) := by decide +kernel
theorem dX1_keep_14 : decode cX1_keep 14 = .ok (.iload_n 3, 1) := by decide +kernel
theorem dX1_keep_15 : decode cX1_keep 15 = .ok (.ifCond .eq 7, 3) := by decide +kernel
theorem dX1_keep_18 : decode cX1_keep 18 = .ok (.lload_n 1, 1) := by decide +kernel
theorem dX1_keep_19 : decode cX1_keep 19 = .ok (.goto 15, 3) := by decide +kernel
theorem dX1_keep_22 : decode cX1_keep 22 = .ok (.aload_n 0, 1) := by decide +kernel
theorem dX1_keep_23 : decode cX1_keep 23 = .ok (.getfield 15, 3) := by decide +kernel
theorem dX1_keep_26 : decode cX1_keep 26 = .ok (.aload_n 0, 1) := by decide +kernel
theorem dX1_keep_27 : decode cX1_keep 27 = .ok (.getfield 65, 3) := by decide +kernel
theorem dX1_keep_30 : decode cX1_keep 30 = .ok (.lload_n 1, 1) := by decide +kernel
theorem dX1_keep_31 : decode cX1_keep 31 = .ok (.invokevirtual 68, 3) := by decide +kernel
theorem dX1_keep_34 : decode cX1_keep 34 = .ok (.putfield 65, 3) := by decide +kernel
theorem dX1_keep_37 : decode cX1_keep 37 = .ok (.aload_n 0, 1) := by decide +kernel
theorem dX1_keep_38 : decode cX1_keep 38 = .ok (.iload_n 3, 1) := by decide +kernel
theorem dX1_keep_39 : decode cX1_keep 39 = .ok (.ifCond .eq 7, 3) := by decide +kernel
theorem dX1_keep_42 : decode cX1_keep 42 = .ok (.lload_n 1, 1) := by decide +kernel
theorem dX1_keep_43 : decode cX1_keep 43 = .ok (.goto 15, 3) := by decide +kernel
theorem dX1_keep_46 : decode cX1_keep 46 = .ok (.aload_n 0, 1) := by decide +kernel
theorem dX1_keep_47 : decode cX1_keep 47 = .ok (.getfield 15, 3) := by decide +kernel
theorem dX1_keep_50 : decode cX1_keep 50 = .ok (.aload_n 0, 1) := by decide +kernel
theorem dX1_keep_51 : decode cX1_keep 51 = .ok (.getfield 72, 3) := by decide +kernel
theorem dX1_keep_54 : decode cX1_keep 54 = .ok (.lload_n 1, 1) := by decide +kernel
theorem dX1_keep_55 : decode cX1_keep 55 = .ok (.invokevirtual 75, 3) := by decide +kernel
theorem dX1_keep_58 : decode cX1_keep 58 = .ok (.putfield 72, 3) := by decide +kernel
theorem dX1_keep_61 : decode cX1_keep 61 = .ok (.aload_n 0, 1) := by decide +kernel
theorem dX1_keep_62 : decode cX1_keep 62 = .ok (.iload_n 3, 1) := by decide +kernel
theorem dX1_keep_63 : decode cX1_keep 63 = .ok (.ifCond .eq 7, 3) := by decide +kernel
theorem dX1_keep_66 : decode cX1_keep 66 = .ok (.lconst 0, 1) := by decide +kernel
theorem dX1_keep_67 : decode cX1_keep 67 = .ok (.goto 15, 3) := by decide +kernel
theorem dX1_keep_70 : decode cX1_keep 70 = .ok (.aload_n 0, 1) := by decide +kernel
theorem dX1_keep_71 : decode cX1_keep 71 = .ok (.getfield 15, 3) := by decide +kernel
theorem dX1_keep_74 : decode cX1_keep 74 = .ok (.lload_n 1, 1) := by decide +kernel
theorem dX1_keep_75 : decode cX1_keep 75 = .ok (.aload_n 0, 1) := by decide +kernel
theorem dX1_keep_76 : decode cX1_keep 76 = .ok (.getfield 78, 3) := by decide +kernel
theorem dX1_keep_79 : decode cX1_keep 79 = .ok (.invokevirtual 81, 3) := by decide +kernel
theorem dX1_keep_82 : decode cX1_keep 82 = .ok (.putfield 84, 3) := by decide +kernel
theorem dX1_keep_85 : decode cX1_keep 85 = .ok (.aload_n 0, 1) := by decide +kernel
theorem dX1_keep_86 : decode cX1_keep 86 = .ok (.aload_n 0, 1) := by decide +kernel
theorem dX1_keep_87 : decode cX1_keep 87 = .ok (.getfield 15, 3) := by decide +kernel
theorem dX1_keep_90 : decode cX1_keep 90 = .ok (.aload_n 0, 1) := by decide +kernel
theorem dX1_keep_91 : decode cX1_keep 91 = .ok (.getfield 87, 3) := by decide +kernel
theorem dX1_keep_94 : decode cX1_keep 94 = .ok (.aload_n 0, 1) := by decide +kernel
theorem dX1_keep_95 : decode cX1_keep 95 = .ok (.getfield 15, 3) := by decide +kernel
theorem dX1_keep_98 : decode cX1_keep 98 = .ok (.lload_n 1, 1) := by decide +kernel
theorem dX1_keep_99 : decode cX1_keep 99 = .ok (.invokevirtual 90, 3) := by decide +kernel
theorem dX1_keep_102 : decode cX1_keep 102 = .ok (.invokevirtual 94, 3) := by decide +kernel
theorem dX1_keep_105 : decode cX1_keep 105 = .ok (.putfield 87, 3) := by decide +kernel
theorem dX1_keep_108 : decode cX1_keep 108 = .ok (.aload_n 0, 1) := by decide +kernel
theorem dX1_keep_109 : decode cX1_keep 109 = .ok (.lload_n 1, 1) := by decide +kernel
theorem dX1_keep_110 : decode cX1_keep 110 = .ok (.putfield 78, 3) := by decide +kernel
theorem dX1_keep_113 : decode cX1_keep 113 = .ok (.aload_n 0, 1) := by decide +kernel
theorem dX1_keep_114 : decode cX1_keep 114 = .ok (.getfield 25, 3) := by decide +kernel
theorem dX1_keep_117 : decode cX1_keep 117 = .ok (.aload_n 0, 1) := by decide +kernel
theorem dX1_keep_118 : decode cX1_keep 118 = .ok (.getfield 97, 3) := by decide +kernel
theorem dX1_keep_121 : decode cX1_keep 121 = .ok (.bipush 15, 2) := by decide +kernel
theorem dX1_keep_123 : decode cX1_keep 123 = .ok (.iand, 1) := by decide +kernel
theorem dX1_keep_124 : decode cX1_keep 124 = .ok (.lload_n 1, 1) := by decide +kernel
theorem dX1_keep_125 : decode cX1_keep 125 = .ok (.lastore, 1) := by decide +kernel
theorem dX1_keep_126 : decode cX1_keep 126 = .ok (.aload_n 0, 1) := by decide +kernel
theorem dX1_keep_127 : decode cX1_keep 127 = .ok (.dup, 1) := by decide +kernel
theorem dX1_keep_128 : decode cX1_keep 128 = .ok (.getfield 97, 3) := by decide +kernel
theorem dX1_keep_131 : decode cX1_keep 131 = .ok (.iconst 1, 1) := by decide +kernel
theorem dX1_keep_132 : decode cX1_keep 132 = .ok (.iadd, 1) := by decide +kernel
theorem dX1_keep_133 : decode cX1_keep 133 = .ok (.putfield 97, 3) := by decide +kernel
theorem dX1_keep_136 : decode cX1_keep 136 = .ok (.return_, 1) := by decide +kernel
theorem dX1_hasRead_0 : decode cX1_hasRead 0 = .ok (.aload_n 0, 1) := by decide +kernel
theorem dX1_hasRead_1 : decode cX1_hasRead 1 = .ok (.getfield 97, 3) := by decide +kernel
theorem dX1_hasRead_4 : decode cX1_hasRead 4 = .ok (.ifCond .le 7, 3) := by decide +kernel
theorem dX1_hasRead_7 : decode cX1_hasRead 7 = .ok (.iconst 1, 1) := by decide +kernel
theorem dX1_hasRead_8 : decode cX1_hasRead 8 = .ok (.goto 4, 3) := by decide +kernel
theorem dX1_hasRead_11 : decode cX1_hasRead 11 = .ok (.iconst 0, 1) := by decide +kernel
theorem dX1_hasRead_12 : decode cX1_hasRead 12 = .ok (.ireturn, 1) := by decide +kernel
theorem dX1_isBeyondLimits_0 : decode cX1_isBeyondLimits 0 = .ok (.aload_n 0, 1) := by decide +kernel
theorem dX1_isBeyondLimits_1 : decode cX1_isBeyondLimits 1 = .ok (.getfield 15, 3) := by decide +kernel
theorem dX1_isBeyondLimits_4 : decode cX1_isBeyondLimits 4 = .ok (.aload_n 0, 1) := by decide +kernel
theorem dX1_isBeyondLimits_5 : decode cX1_isBeyondLimits 5 = .ok (.getfield 35, 3) := by decide +kernel
theorem dX1_isBeyondLimits_8 : decode cX1_isBeyondLimits 8 = .ok (.lload_n 1, 1) := by decide +kernel
theorem dX1_isBeyondLimits_9 : decode cX1_isBeyondLimits 9 = .ok (.invokevirtual 100, 3) := by decide +kernel
theorem dX1_isBeyondLimits_12 : decode cX1_isBeyondLimits 12 = .ok (.ifCond .ne 18, 3) := by decide +kernel
theorem dX1_isBeyondLimits_15 : decode cX1_isBeyondLimits 15 = .ok (.aload_n 0, 1) := by decide +kernel
theorem dX1_isBeyondLimits_16 : decode cX1_isBeyondLimits 16 = .ok (.getfield 15, 3) := by decide +kernel
theorem dX1_isBeyondLimits_19 : decode cX1_isBeyondLimits 19 = .ok (.lload_n 1, 1) := by decide +kernel
theorem dX1_isBeyondLimits_20 : decode cX1_isBeyondLimits 20 = .ok (.aload_n 0, 1) := by decide +kernel
theorem dX1_isBeyondLimits_21 : decode cX1_isBeyondLimits 21 = .ok (.getfield 41, 3) := by decide +kernel
theorem dX1_isBeyondLimits_24 : decode cX1_isBeyondLimits 24 = .ok (.invokevirtual 100, 3) := by decide +kernel
theorem dX1_isBeyondLimits_27 : decode cX1_isBeyondLimits 27 = .ok (.ifCond .eq 7, 3) := by decide +kernel
theorem dX1_isBeyondLimits_30 : decode cX1_isBeyondLimits 30 = .ok (.iconst 1, 1) := by decide +kernel
theorem dX1_isBeyondLimits_31 : decode cX1_isBeyondLimits 31 = .ok (.goto 4, 3) := by decide +kernel
theorem dX1_isBeyondLimits_34 : decode cX1_isBeyondLimits 34 = .ok (.iconst 0, 1) := by decide +kernel
theorem dX1_isBeyondLimits_35 : decode cX1_isBeyondLimits 35 = .ok (.ireturn, 1) := by decide +kernel
theorem dX1_isKept_0 : decode cX1_isKept 0 = .ok (.iload_n 1, 1) := by decide +kernel
theorem dX1_isKept_1 : decode cX1_isKept 1 = .ok (.ifCond .lt 21, 3) := by decide +kernel
theorem dX1_isKept_4 : decode cX1_isKept 4 = .ok (.iload_n 1, 1) := by decide +kernel
theorem dX1_isKept_5 : decode cX1_isKept 5 = .ok (.bipush 16, 2) := by decide +kernel
theorem dX1_isKept_7 : decode cX1_isKept 7 = .ok (.if_icmp .ge 15, 3) := by decide +kernel
theorem dX1_isKept_10 : decode cX1_isKept 10 = .ok (.iload_n 1, 1) := by decide +kernel
theorem dX1_isKept_11 : decode cX1_isKept 11 = .ok (.aload_n 0, 1) := by decide +kernel
theorem dX1_isKept_12 : decode cX1_isKept 12 = .ok (.getfield 97, 3) := by decide +kernel
theorem dX1_isKept_15 : decode cX1_isKept 15 = .ok (.if_icmp .ge 7, 3) := by decide +kernel
theorem dX1_isKept_18 : decode cX1_isKept 18 = .ok (.iconst 1, 1) := by decide +kernel
theorem dX1_isKept_19 : decode cX1_isKept 19 = .ok (.goto 4, 3) := by decide +kernel
theorem dX1_isKept_22 : decode cX1_isKept 22 = .ok (.iconst 0, 1) := by decide +kernel
theorem dX1_isKept_23 : decode cX1_isKept 23 = .ok (.ireturn, 1) := by decide +kernel
theorem dX1_keptAt_0 : decode cX1_keptAt 0 = .ok (.aload_n 0, 1) := by decide +kernel
theorem dX1_keptAt_1 : decode cX1_keptAt 1 = .ok (.getfield 25, 3) := by decide +kernel
theorem dX1_keptAt_4 : decode cX1_keptAt 4 = .ok (.aload_n 0, 1) := by decide +kernel
theorem dX1_keptAt_5 : decode cX1_keptAt 5 = .ok (.getfield 97, 3) := by decide +kernel
theorem dX1_keptAt_8 : decode cX1_keptAt 8 = .ok (.iconst 1, 1) := by decide +kernel
theorem dX1_keptAt_9 : decode cX1_keptAt 9 = .ok (.isub, 1) := by decide +kernel
theorem dX1_keptAt_10 : decode cX1_keptAt 10 = .ok (.iload_n 1, 1) := by decide +kernel
theorem dX1_keptAt_11 : decode cX1_keptAt 11 = .ok (.isub, 1) := by decide +kernel
theorem dX1_keptAt_12 : decode cX1_keptAt 12 = .ok (.bipush 15, 2) := by decide +kernel
theorem dX1_keptAt_14 : decode cX1_keptAt 14 = .ok (.iand, 1) := by decide +kernel
theorem dX1_keptAt_15 : decode cX1_keptAt 15 = .ok (.laload, 1) := by decide +kernel
theorem dX1_keptAt_16 : decode cX1_keptAt 16 = .ok (.lreturn, 1) := by decide +kernel
theorem dX1_loseReadings_0 : decode cX1_loseReadings 0 = .ok (.aload_n 0, 1) := by decide +kernel
theorem dX1_loseReadings_1 : decode cX1_loseReadings 1 = .ok (.iconst 0, 1) := by decide +kernel
theorem dX1_loseReadings_2 : decode cX1_loseReadings 2 = .ok (.putfield 97, 3) := by decide +kernel
theorem dX1_loseReadings_5 : decode cX1_loseReadings 5 = .ok (.aload_n 0, 1) := by decide +kernel
theorem dX1_loseReadings_6 : decode cX1_loseReadings 6 = .ok (.lconst 0, 1) := by decide +kernel
theorem dX1_loseReadings_7 : decode cX1_loseReadings 7 = .ok (.putfield 78, 3) := by decide +kernel
theorem dX1_loseReadings_10 : decode cX1_loseReadings 10 = .ok (.aload_n 0, 1) := by decide +kernel
theorem dX1_loseReadings_11 : decode cX1_loseReadings 11 = .ok (.lconst 0, 1) := by decide +kernel
theorem dX1_loseReadings_12 : decode cX1_loseReadings 12 = .ok (.putfield 65, 3) := by decide +kernel
theorem dX1_loseReadings_15 : decode cX1_loseReadings 15 = .ok (.aload_n 0, 1) := by decide +kernel
theorem dX1_loseReadings_16 : decode cX1_loseReadings 16 = .ok (.lconst 0, 1) := by decide +kernel
theorem dX1_loseReadings_17 : decode cX1_loseReadings 17 = .ok (.putfield 72, 3) := by decide +kernel
theorem dX1_loseReadings_20 : decode cX1_loseReadings 20 = .ok (.aload_n 0, 1) := by decide +kernel
theorem dX1_loseReadings_21 : decode cX1_loseReadings 21 = .ok (.lconst 0, 1) := by decide +kernel
theorem dX1_loseReadings_22 : decode cX1_loseReadings 22 = .ok (.putfield 84, 3) := by decide +kernel
theorem dX1_loseReadings_25 : decode cX1_loseReadings 25 = .ok (.aload_n 0, 1) := by decide +kernel
theorem dX1_loseReadings_26 : decode cX1_loseReadings 26 = .ok (.lconst 0, 1) := by decide +kernel
theorem dX1_loseReadings_27 : decode cX1_loseReadings 27 = .ok (.putfield 87, 3) := by decide +kernel
theorem dX1_loseReadings_30 : decode cX1_loseReadings 30 = .ok (.return_, 1) := by decide +kernel
theorem dX2_init_0 : decode cX2_init 0 = .ok (.aload_n 0, 1) := by decide +kernel
theorem dX2_init_1 : decode cX2_init 1 = .ok (.invokespecial 3, 3) := by decide +kernel
theorem dX2_init_4 : decode cX2_init 4 = .ok (.aload_n 0, 1) := by decide +kernel
theorem dX2_init_5 : decode cX2_init 5 = .ok (.iload_n 1, 1) := by decide +kernel
theorem dX2_init_6 : decode cX2_init 6 = .ok (.putfield 9, 3) := by decide +kernel
theorem dX2_init_9 : decode cX2_init 9 = .ok (.aload_n 0, 1) := by decide +kernel
theorem dX2_init_10 : decode cX2_init 10 = .ok (.iload_n 1, 1) := by decide +kernel
theorem dX2_init_11 : decode cX2_init 11 = .ok (.ifCond .eq 9, 3) := by decide +kernel
theorem dX2_init_14 : decode cX2_init 14 = .ok (.ldc2_w 15, 3) := by decide +kernel
theorem dX2_init_17 : decode cX2_init 17 = .ok (.goto 6, 3) := by decide +kernel
theorem dX2_init_20 : decode cX2_init 20 = .ok (.ldc2_w 17, 3) := by decide +kernel
theorem dX2_init_23 : decode cX2_init 23 = .ok (.putfield 19, 3) := by decide +kernel
theorem dX2_init_26 : decode cX2_init 26 = .ok (.aload_n 0, 1) := by decide +kernel
theorem dX2_init_27 : decode cX2_init 27 = .ok (.lload_n 2, 1) := by decide +kernel
theorem dX2_init_28 : decode cX2_init 28 = .ok (.putfield 23, 3) := by decide +kernel
theorem dX2_init_31 : decode cX2_init 31 = .ok (.aload_n 0, 1) := by decide +kernel
theorem dX2_init_32 : decode cX2_init 32 = .ok (.lload 4, 2) := by decide +kernel
theorem dX2_init_34 : decode cX2_init 34 = .ok (.putfield 26, 3) := by decide +kernel
theorem dX2_init_37 : decode cX2_init 37 = .ok (.return_, 1) := by decide +kernel
theorem dX2_heard_0 : decode cX2_heard 0 = .ok (.aload_n 0, 1) := by decide +kernel
theorem dX2_heard_1 : decode cX2_heard 1 = .ok (.getfield 9, 3) := by decide +kernel
theorem dX2_heard_4 : decode cX2_heard 4 = .ok (.ifCond .eq 9, 3) := by decide +kernel
theorem dX2_heard_7 : decode cX2_heard 7 = .ok (.lload_n 1, 1) := by decide +kernel
theorem dX2_heard_8 : decode cX2_heard 8 = .ok (.l2i, 1) := by decide +kernel
theorem dX2_heard_9 : decode cX2_heard 9 = .ok (.i2l, 1) := by decide +kernel
theorem dX2_heard_10 : decode cX2_heard 10 = .ok (.goto 4, 3) := by decide +kernel
theorem dX2_heard_13 : decode cX2_heard 13 = .ok (.lload_n 1, 1) := by decide +kernel
theorem dX2_heard_14 : decode cX2_heard 14 = .ok (.lreturn, 1) := by decide +kernel
theorem dX2_greater_0 : decode cX2_greater 0 = .ok (.aload_n 0, 1) := by decide +kernel
theorem dX2_greater_1 : decode cX2_greater 1 = .ok (.lload_n 1, 1) := by decide +kernel
theorem dX2_greater_2 : decode cX2_greater 2 = .ok (.invokevirtual 29, 3) := by decide +kernel
theorem dX2_greater_5 : decode cX2_greater 5 = .ok (.aload_n 0, 1) := by decide +kernel
theorem dX2_greater_6 : decode cX2_greater 6 = .ok (.lload_n 3, 1) := by decide +kernel
theorem dX2_greater_7 : decode cX2_greater 7 = .ok (.invokevirtual 29, 3) := by decide +kernel
theorem dX2_greater_10 : decode cX2_greater 10 = .ok (.lcmp, 1) := by decide +kernel
theorem dX2_greater_11 : decode cX2_greater 11 = .ok (.ifCond .lt 7, 3) := by decide +kernel
theorem dX2_greater_14 : decode cX2_greater 14 = .ok (.lload_n 1, 1) := by decide +kernel
theorem dX2_greater_15 : decode cX2_greater 15 = .ok (.goto 4, 3) := by decide +kernel
theorem dX2_greater_18 : decode cX2_greater 18 = .ok (.lload_n 3, 1) := by decide +kernel
theorem dX2_greater_19 : decode cX2_greater 19 = .ok (.lreturn, 1) := by decide +kernel
theorem dX2_lesser_0 : decode cX2_lesser 0 = .ok (.aload_n 0, 1) := by decide +kernel
theorem dX2_lesser_1 : decode cX2_lesser 1 = .ok (.lload_n 1, 1) := by decide +kernel
theorem dX2_lesser_2 : decode cX2_lesser 2 = .ok (.invokevirtual 29, 3) := by decide +kernel
theorem dX2_lesser_5 : decode cX2_lesser 5 = .ok (.aload_n 0, 1) := by decide +kernel
theorem dX2_lesser_6 : decode cX2_lesser 6 = .ok (.lload_n 3, 1) := by decide +kernel
theorem dX2_lesser_7 : decode cX2_lesser 7 = .ok (.invokevirtual 29, 3) := by decide +kernel
theorem dX2_lesser_10 : decode cX2_lesser 10 = .ok (.lcmp, 1) := by decide +kernel
theorem dX2_lesser_11 : decode cX2_lesser 11 = .ok (.ifCond .gt 7, 3) := by decide +kernel
theorem dX2_lesser_14 : decode cX2_lesser 14 = .ok (.lload_n 1, 1) := by decide +kernel
theorem dX2_lesser_15 : decode cX2_lesser 15 = .ok (.goto 4, 3) := by decide +kernel
theorem dX2_lesser_18 : decode cX2_lesser 18 = .ok (.lload_n 3, 1) := by decide +kernel
theorem dX2_lesser_19 : decode cX2_lesser 19 = .ok (.lreturn, 1) := by decide +kernel
theorem dX2_isAbove_0 : decode cX2_isAbove 0 = .ok (.aload_n 0, 1) := by decide +kernel
theorem dX2_isAbove_1 : decode cX2_isAbove 1 = .ok (.lload_n 1, 1) := by decide +kernel
theorem dX2_isAbove_2 : decode cX2_isAbove 2 = .ok (.invokevirtual 33, 3) := by decide +kernel
theorem dX2_isAbove_5 : decode cX2_isAbove 5 = .ok (.aload_n 0, 1) := by decide +kernel
theorem dX2_isAbove_6 : decode cX2_isAbove 6 = .ok (.lload_n 3, 1) := by decide +kernel
theorem dX2_isAbove_7 : decode cX2_isAbove 7 = .ok (.invokevirtual 33, 3) := by decide +kernel
theorem dX2_isAbove_10 : decode cX2_isAbove 10 = .ok (.lcmp, 1) := by decide +kernel
theorem dX2_isAbove_11 : decode cX2_isAbove 11 = .ok (.ifCond .le 7, 3) := by decide +kernel
theorem dX2_isAbove_14 : decode cX2_isAbove 14 = .ok (.iconst 1, 1) := by decide +kernel
theorem dX2_isAbove_15 : decode cX2_isAbove 15 = .ok (.goto 4, 3) := by decide +kernel
theorem dX2_isAbove_18 : decode cX2_isAbove 18 = .ok (.iconst 0, 1) := by decide +kernel
theorem dX2_isAbove_19 : decode cX2_isAbove 19 = .ok (.ireturn, 1) := by decide +kernel
theorem dX2_afterStep_0 : decode cX2_afterStep 0 = .ok (.iload_n 1, 1) := by decide +kernel
theorem dX2_afterStep_1 : decode cX2_afterStep 1 = .ok (.tableswitch 49 0 2 #[27, 33, 41], 27) := by decide +kernel
theorem dX2_afterStep_28 : decode cX2_afterStep 28 = .ok (.aload_n 0, 1) := by decide +kernel
theorem dX2_afterStep_29 : decode cX2_afterStep 29 = .ok (.lload_n 2, 1) := by decide +kernel
theorem dX2_afterStep_30 : decode cX2_afterStep 30 = .ok (.invokevirtual 36, 3) := by decide +kernel
theorem dX2_afterStep_33 : decode cX2_afterStep 33 = .ok (.lreturn, 1) := by decide +kernel
theorem dX2_afterStep_34 : decode cX2_afterStep 34 = .ok (.aload_n 0, 1) := by decide +kernel
theorem dX2_afterStep_35 : decode cX2_afterStep 35 = .ok (.lload_n 2, 1) := by decide +kernel
theorem dX2_afterStep_36 : decode cX2_afterStep 36 = .ok (.lload 4, 2) := by decide +kernel
theorem dX2_afterStep_38 : decode cX2_afterStep 38 = .ok (.invokevirtual 39, 3) := by decide +kernel
theorem dX2_afterStep_41 : decode cX2_afterStep 41 = .ok (.lreturn, 1) := by decide +kernel
theorem dX2_afterStep_42 : decode cX2_afterStep 42 = .ok (.aload_n 0, 1) := by decide +kernel
theorem dX2_afterStep_43 : decode cX2_afterStep 43 = .ok (.lload_n 2, 1) := by decide +kernel
theorem dX2_afterStep_44 : decode cX2_afterStep 44 = .ok (.lload 4, 2) := by decide +kernel
theorem dX2_afterStep_46 : decode cX2_afterStep 46 = .ok (.invokevirtual 43, 3) := by decide +kernel
theorem dX2_afterStep_49 : decode cX2_afterStep 49 = .ok (.lreturn, 1) := by decide +kernel
theorem dX2_afterStep_50 : decode cX2_afterStep 50 = .ok (.aload_n 0, 1) := by decide +kernel
theorem dX2_afterStep_51 : decode cX2_afterStep 51 = .ok (.iload_n 1, 1) := by decide +kernel
theorem dX2_afterStep_52 : decode cX2_afterStep 52 = .ok (.lload_n 2, 1) := by decide +kernel
theorem dX2_afterStep_53 : decode cX2_afterStep 53 = .ok (.lload 4, 2) := by decide +kernel
theorem dX2_afterStep_55 : decode cX2_afterStep 55 = .ok (.invokevirtual 46, 3) := by decide +kernel
theorem dX2_afterStep_58 : decode cX2_afterStep 58 = .ok (.lreturn, 1) := by decide +kernel
theorem dX3_init_0 : decode cX3_init 0 = .ok (.aload_n 0, 1) := by decide +kernel
theorem dX3_init_1 : decode cX3_init 1 = .ok (.invokespecial 1, 3) := by decide +kernel
theorem dX3_init_4 : decode cX3_init 4 = .ok (.aload_n 0, 1) := by decide +kernel
theorem dX3_init_5 : decode cX3_init 5 = .ok (.iload_n 1, 1) := by decide +kernel
theorem dX3_init_6 : decode cX3_init 6 = .ok (.putfield 7, 3) := by decide +kernel
theorem dX3_init_9 : decode cX3_init 9 = .ok (.aload_n 0, 1) := by decide +kernel
theorem dX3_init_10 : decode cX3_init 10 = .ok (.lload_n 2, 1) := by decide +kernel
theorem dX3_init_11 : decode cX3_init 11 = .ok (.putfield 13, 3) := by decide +kernel
theorem dX3_init_14 : decode cX3_init 14 = .ok (.aload_n 0, 1) := by decide +kernel
theorem dX3_init_15 : decode cX3_init 15 = .ok (.aload 4, 2) := by decide +kernel
theorem dX3_init_17 : decode cX3_init 17 = .ok (.putfield 17, 3) := by decide +kernel
theorem dX3_init_20 : decode cX3_init 20 = .ok (.return_, 1) := by decide +kernel
theorem dX3_currentK_0 : decode cX3_currentK 0 = .ok (.aload_n 0, 1) := by decide +kernel
theorem dX3_currentK_1 : decode cX3_currentK 1 = .ok (.getfield 17, 3) := by decide +kernel
theorem dX3_currentK_4 : decode cX3_currentK 4 = .ok (.ifnonnull 10, 3) := by decide +kernel
theorem dX3_currentK_7 : decode cX3_currentK 7 = .ok (.aload_n 0, 1) := by decide +kernel
theorem dX3_currentK_8 : decode cX3_currentK 8 = .ok (.getfield 13, 3) := by decide +kernel
theorem dX3_currentK_11 : decode cX3_currentK 11 = .ok (.goto 10, 3) := by decide +kernel
theorem dX3_currentK_14 : decode cX3_currentK 14 = .ok (.aload_n 0, 1) := by decide +kernel
theorem dX3_currentK_15 : decode cX3_currentK 15 = .ok (.getfield 17, 3) := by decide +kernel
theorem dX3_currentK_18 : decode cX3_currentK 18 = .ok (.getfield 21, 3) := by decide +kernel
theorem dX3_currentK_21 : decode cX3_currentK 21 = .ok (.lreturn, 1) := by decide +kernel
theorem dX4_init_0 : decode cX4_init 0 = .ok (.aload_n 0, 1) := by decide +kernel
theorem dX4_init_1 : decode cX4_init 1 = .ok (.iload_n 1, 1) := by decide +kernel
theorem dX4_init_2 : decode cX4_init 2 = .ok (.iload_n 1, 1) := by decide +kernel
theorem dX4_init_3 : decode cX4_init 3 = .ok (.ifCond .eq 9, 3) := by decide +kernel
theorem dX4_init_6 : decode cX4_init 6 = .ok (.ldc2_w 3, 3) := by decide +kernel
theorem dX4_init_9 : decode cX4_init 9 = .ok (.goto 6, 3) := by decide +kernel
theorem dX4_init_12 : decode cX4_init 12 = .ok (.ldc2_w 5, 3) := by decide +kernel
theorem dX4_init_15 : decode cX4_init 15 = .ok (.iload_n 1, 1) := by decide +kernel
theorem dX4_init_16 : decode cX4_init 16 = .ok (.ifCond .eq 9, 3) := by decide +kernel
theorem dX4_init_19 : decode cX4_init 19 = .ok (.ldc2_w 7, 3) := by decide +kernel
theorem dX4_init_22 : decode cX4_init 22 = .ok (.goto 6, 3) := by decide +kernel
theorem dX4_init_25 : decode cX4_init 25 = .ok (.ldc2_w 9, 3) := by decide +kernel
theorem dX4_init_28 : decode cX4_init 28 = .ok (.invokespecial 11, 3) := by decide +kernel
theorem dX4_init_31 : decode cX4_init 31 = .ok (.return_, 1) := by decide +kernel
theorem dX4_isNumber_0 : decode cX4_isNumber 0 = .ok (.iconst 1, 1) := by decide +kernel
theorem dX4_isNumber_1 : decode cX4_isNumber 1 = .ok (.ireturn, 1) := by decide +kernel
theorem dX4_hasStep_0 : decode cX4_hasStep 0 = .ok (.iload_n 1, 1) := by decide +kernel
theorem dX4_hasStep_1 : decode cX4_hasStep 1 = .ok (.ifCond .lt 12, 3) := by decide +kernel
theorem dX4_hasStep_4 : decode cX4_hasStep 4 = .ok (.iload_n 1, 1) := by decide +kernel
theorem dX4_hasStep_5 : decode cX4_hasStep 5 = .ok (.iconst 2, 1) := by decide +kernel
theorem dX4_hasStep_6 : decode cX4_hasStep 6 = .ok (.if_icmp .gt 7, 3) := by decide +kernel
theorem dX4_hasStep_9 : decode cX4_hasStep 9 = .ok (.iconst 1, 1) := by decide +kernel
theorem dX4_hasStep_10 : decode cX4_hasStep 10 = .ok (.goto 4, 3) := by decide +kernel
theorem dX4_hasStep_13 : decode cX4_hasStep 13 = .ok (.iconst 0, 1) := by decide +kernel
theorem dX4_hasStep_14 : decode cX4_hasStep 14 = .ok (.ireturn, 1) := by decide +kernel
theorem dX4_amount_0 : decode cX4_amount 0 = .ok (.lload_n 1, 1) := by decide +kernel
theorem dX4_amount_1 : decode cX4_amount 1 = .ok (.lconst 0, 1) := by decide +kernel
theorem dX4_amount_2 : decode cX4_amount 2 = .ok (.lcmp, 1) := by decide +kernel
theorem dX4_amount_3 : decode cX4_amount 3 = .ok (.ifCond .ge 12, 3) := by decide +kernel
theorem dX4_amount_6 : decode cX4_amount 6 = .ok (.aload_n 0, 1) := by decide +kernel
theorem dX4_amount_7 : decode cX4_amount 7 = .ok (.lload_n 1, 1) := by decide +kernel
theorem dX4_amount_8 : decode cX4_amount 8 = .ok (.lneg, 1) := by decide +kernel
theorem dX4_amount_9 : decode cX4_amount 9 = .ok (.invokevirtual 17, 3) := by decide +kernel
theorem dX4_amount_12 : decode cX4_amount 12 = .ok (.goto 4, 3) := by decide +kernel
theorem dX4_amount_15 : decode cX4_amount 15 = .ok (.lload_n 1, 1) := by decide +kernel
theorem dX4_amount_16 : decode cX4_amount 16 = .ok (.lreturn, 1) := by decide +kernel
theorem dX4_rank_0 : decode cX4_rank 0 = .ok (.lload_n 1, 1) := by decide +kernel
theorem dX4_rank_1 : decode cX4_rank 1 = .ok (.lreturn, 1) := by decide +kernel
theorem dX4_place_0 : decode cX4_place 0 = .ok (.lload_n 1, 1) := by decide +kernel
theorem dX4_place_1 : decode cX4_place 1 = .ok (.lreturn, 1) := by decide +kernel
theorem dX4_addAmounts_0 : decode cX4_addAmounts 0 = .ok (.aload_n 0, 1) := by decide +kernel
theorem dX4_addAmounts_1 : decode cX4_addAmounts 1 = .ok (.lload_n 1, 1) := by decide +kernel
theorem dX4_addAmounts_2 : decode cX4_addAmounts 2 = .ok (.lload_n 3, 1) := by decide +kernel
theorem dX4_addAmounts_3 : decode cX4_addAmounts 3 = .ok (.ladd, 1) := by decide +kernel
theorem dX4_addAmounts_4 : decode cX4_addAmounts 4 = .ok (.invokevirtual 17, 3) := by decide +kernel
theorem dX4_addAmounts_7 : decode cX4_addAmounts 7 = .ok (.lreturn, 1) := by decide +kernel
theorem dX4_apart_0 : decode cX4_apart 0 = .ok (.aload_n 0, 1) := by decide +kernel
theorem dX4_apart_1 : decode cX4_apart 1 = .ok (.aload_n 0, 1) := by decide +kernel
theorem dX4_apart_2 : decode cX4_apart 2 = .ok (.lload_n 1, 1) := by decide +kernel
theorem dX4_apart_3 : decode cX4_apart 3 = .ok (.lload_n 3, 1) := by decide +kernel
theorem dX4_apart_4 : decode cX4_apart 4 = .ok (.lsub, 1) := by decide +kernel
theorem dX4_apart_5 : decode cX4_apart 5 = .ok (.invokevirtual 17, 3) := by decide +kernel
theorem dX4_apart_8 : decode cX4_apart 8 = .ok (.invokevirtual 23, 3) := by decide +kernel
theorem dX4_apart_11 : decode cX4_apart 11 = .ok (.lreturn, 1) := by decide +kernel
theorem dX4_asInt_0 : decode cX4_asInt 0 = .ok (.ldc2_w 3, 3) := by decide +kernel
theorem dX4_asInt_3 : decode cX4_asInt 3 = .ok (.ldc2_w 7, 3) := by decide +kernel
theorem dX4_asInt_6 : decode cX4_asInt 6 = .ok (.lload_n 1, 1) := by decide +kernel
theorem dX4_asInt_7 : decode cX4_asInt 7 = .ok (.invokestatic 26, 3) := by decide +kernel
theorem dX4_asInt_10 : decode cX4_asInt 10 = .ok (.invokestatic 32, 3) := by decide +kernel
theorem dX4_asInt_13 : decode cX4_asInt 13 = .ok (.l2i, 1) := by decide +kernel
theorem dX4_asInt_14 : decode cX4_asInt 14 = .ok (.ireturn, 1) := by decide +kernel
theorem dX4_afterFurtherStep_0 : decode cX4_afterFurtherStep 0 = .ok (.lload_n 2, 1) := by decide +kernel
theorem dX4_afterFurtherStep_1 : decode cX4_afterFurtherStep 1 = .ok (.lreturn, 1) := by decide +kernel
theorem dX5_init_0 : decode cX5_init 0 = .ok (.aload_n 0, 1) := by decide +kernel
theorem dX5_init_1 : decode cX5_init 1 = .ok (.invokespecial 1, 3) := by decide +kernel
theorem dX5_init_4 : decode cX5_init 4 = .ok (.aload_n 0, 1) := by decide +kernel
theorem dX5_init_5 : decode cX5_init 5 = .ok (.iconst 4, 1) := by decide +kernel
theorem dX5_init_6 : decode cX5_init 6 = .ok (.anewarray 7, 3) := by decide +kernel
theorem dX5_init_9 : decode cX5_init 9 = .ok (.dup, 1) := by decide +kernel
theorem dX5_init_10 : decode cX5_init 10 = .ok (.iconst 0, 1) := by decide +kernel
theorem dX5_init_11 : decode cX5_init 11 = .ok (.new 9, 3) := by decide +kernel
theorem dX5_init_14 : decode cX5_init 14 = .ok (.dup, 1) := by decide +kernel
theorem dX5_init_15 : decode cX5_init 15 = .ok (.iconst 1, 1) := by decide +kernel
theorem dX5_init_16 : decode cX5_init 16 = .ok (.invokespecial 11, 3) := by decide +kernel
theorem dX5_init_19 : decode cX5_init 19 = .ok (.aastore, 1) := by decide +kernel
theorem dX5_init_20 : decode cX5_init 20 = .ok (.dup, 1) := by decide +kernel
theorem dX5_init_21 : decode cX5_init 21 = .ok (.iconst 1, 1) := by decide +kernel
theorem dX5_init_22 : decode cX5_init 22 = .ok (.new 9, 3) := by decide +kernel
theorem dX5_init_25 : decode cX5_init 25 = .ok (.dup, 1) := by decide +kernel
theorem dX5_init_26 : decode cX5_init 26 = .ok (.iconst 0, 1) := by decide +kernel
theorem dX5_init_27 : decode cX5_init 27 = .ok (.invokespecial 11, 3) := by decide +kernel
theorem dX5_init_30 : decode cX5_init 30 = .ok (.aastore, 1) := by decide +kernel
theorem dX5_init_31 : decode cX5_init 31 = .ok (.dup, 1) := by decide +kernel
theorem dX5_init_32 : decode cX5_init 32 = .ok (.iconst 2, 1) := by decide +kernel
theorem dX5_init_33 : decode cX5_init 33 = .ok (.new 14, 3) := by decide +kernel
theorem dX5_init_36 : decode cX5_init 36 = .ok (.dup, 1) := by decide +kernel
theorem dX5_init_37 : decode cX5_init 37 = .ok (.iconst 1, 1) := by decide +kernel
theorem dX5_init_38 : decode cX5_init 38 = .ok (.invokespecial 16, 3) := by decide +kernel
theorem dX5_init_41 : decode cX5_init 41 = .ok (.aastore, 1) := by decide +kernel
theorem dX5_init_42 : decode cX5_init 42 = .ok (.dup, 1) := by decide +kernel
theorem dX5_init_43 : decode cX5_init 43 = .ok (.iconst 3, 1) := by decide +kernel
theorem dX5_init_44 : decode cX5_init 44 = .ok (.new 14, 3) := by decide +kernel
theorem dX5_init_47 : decode cX5_init 47 = .ok (.dup, 1) := by decide +kernel
theorem dX5_init_48 : decode cX5_init 48 = .ok (.iconst 0, 1) := by decide +kernel
theorem dX5_init_49 : decode cX5_init 49 = .ok (.invokespecial 16, 3) := by decide +kernel
theorem dX5_init_52 : decode cX5_init 52 = .ok (.aastore, 1) := by decide +kernel
theorem dX5_init_53 : decode cX5_init 53 = .ok (.putfield 17, 3) := by decide +kernel
theorem dX5_init_56 : decode cX5_init 56 = .ok (.aload_n 0, 1) := by decide +kernel
theorem dX5_init_57 : decode cX5_init 57 = .ok (.bipush 8, 2) := by decide +kernel
theorem dX5_init_59 : decode cX5_init 59 = .ok (.anewarray 23, 3) := by decide +kernel
theorem dX5_init_62 : decode cX5_init 62 = .ok (.putfield 25, 3) := by decide +kernel
theorem dX5_init_65 : decode cX5_init 65 = .ok (.return_, 1) := by decide +kernel
theorem dX5_mount_0 : decode cX5_mount 0 = .ok (.aload_n 0, 1) := by decide +kernel
theorem dX5_mount_1 : decode cX5_mount 1 = .ok (.iload_n 1, 1) := by decide +kernel
theorem dX5_mount_2 : decode cX5_mount 2 = .ok (.invokevirtual 29, 3) := by decide +kernel
theorem dX5_mount_5 : decode cX5_mount 5 = .ok (.astore_n 2, 1) := by decide +kernel
theorem dX5_mount_6 : decode cX5_mount 6 = .ok (.aload_n 2, 1) := by decide +kernel
theorem dX5_mount_7 : decode cX5_mount 7 = .ok (.ifnonnull 13, 3) := by decide +kernel
theorem dX5_mount_10 : decode cX5_mount 10 = .ok (.new 33, 3) := by decide +kernel
theorem dX5_mount_13 : decode cX5_mount 13 = .ok (.dup, 1) := by decide +kernel
theorem dX5_mount_14 : decode cX5_mount 14 = .ok (.ldc 35, 2) := by decide +kernel
theorem dX5_mount_16 : decode cX5_mount 16 = .ok (.invokespecial 37, 3) := by decide +kernel
theorem dX5_mount_19 : decode cX5_mount 19 = .ok (.athrow, 1) := by decide +kernel
theorem dX5_mount_20 : decode cX5_mount 20 = .ok (.aload_n 0, 1) := by decide +kernel
theorem dX5_mount_21 : decode cX5_mount 21 = .ok (.getfield 40, 3) := by decide +kernel
theorem dX5_mount_24 : decode cX5_mount 24 = .ok (.aload_n 0, 1) := by decide +kernel
theorem dX5_mount_25 : decode cX5_mount 25 = .ok (.getfield 25, 3) := by decide +kernel
theorem dX5_mount_28 : decode cX5_mount 28 = .ok (.arraylength, 1) := by decide +kernel
theorem dX5_mount_29 : decode cX5_mount 29 = .ok (.if_icmp .lt 13, 3) := by decide +kernel
theorem dX5_mount_32 : decode cX5_mount 32 = .ok (.new 44, 3) := by decide +kernel
theorem dX5_mount_35 : decode cX5_mount 35 = .ok (.dup, 1) := by decide +kernel
theorem dX5_mount_36 : decode cX5_mount 36 = .ok (.ldc 46, 2) := by decide +kernel
theorem dX5_mount_38 : decode cX5_mount 38 = .ok (.invokespecial 48, 3) := by decide +kernel
theorem dX5_mount_41 : decode cX5_mount 41 = .ok (.athrow, 1) := by decide +kernel
theorem dX5_mount_42 : decode cX5_mount 42 = .ok (.aload_n 0, 1) := by decide +kernel
theorem dX5_mount_43 : decode cX5_mount 43 = .ok (.getfield 40, 3) := by decide +kernel
theorem dX5_mount_46 : decode cX5_mount 46 = .ok (.istore_n 3, 1) := by decide +kernel
theorem dX5_mount_47 : decode cX5_mount 47 = .ok (.aload_n 0, 1) := by decide +kernel
theorem dX5_mount_48 : decode cX5_mount 48 = .ok (.getfield 25, 3) := by decide +kernel
theorem dX5_mount_51 : decode cX5_mount 51 = .ok (.iload_n 3, 1) := by decide +kernel
theorem dX5_mount_52 : decode cX5_mount 52 = .ok (.new 23, 3) := by decide +kernel
theorem dX5_mount_55 : decode cX5_mount 55 = .ok (.dup, 1) := by decide +kernel
theorem dX5_mount_56 : decode cX5_mount 56 = .ok (.iload_n 1, 1) := by decide +kernel
theorem dX5_mount_57 : decode cX5_mount 57 = .ok (.aload_n 2, 1) := by decide +kernel
theorem dX5_mount_58 : decode cX5_mount 58 = .ok (.invokespecial 49, 3) := by decide +kernel
theorem dX5_mount_61 : decode cX5_mount 61 = .ok (.aastore, 1) := by decide +kernel
theorem dX5_mount_62 : decode cX5_mount 62 = .ok (.aload_n 0, 1) := by decide +kernel
theorem dX5_mount_63 : decode cX5_mount 63 = .ok (.iload_n 3, 1) := by decide +kernel
theorem dX5_mount_64 : decode cX5_mount 64 = .ok (.iconst 1, 1) := by decide +kernel
theorem dX5_mount_65 : decode cX5_mount 65 = .ok (.iadd, 1) := by decide +kernel
theorem dX5_mount_66 : decode cX5_mount 66 = .ok (.putfield 40, 3) := by decide +kernel
theorem dX5_mount_69 : decode cX5_mount 69 = .ok (.iload_n 3, 1) := by decide +kernel
theorem dX5_mount_70 : decode cX5_mount 70 = .ok (.ireturn, 1) := by decide +kernel
theorem dX5_step_0 : decode cX5_step 0 = .ok (.aload_n 0, 1) := by decide +kernel
theorem dX5_step_1 : decode cX5_step 1 = .ok (.iload_n 1, 1) := by decide +kernel
theorem dX5_step_2 : decode cX5_step 2 = .ok (.invokevirtual 52, 3) := by decide +kernel
theorem dX5_step_5 : decode cX5_step 5 = .ok (.astore 5, 2) := by decide +kernel
theorem dX5_step_7 : decode cX5_step 7 = .ok (.aload 5, 2) := by decide +kernel
theorem dX5_step_9 : decode cX5_step 9 = .ok (.ifnonnull 13, 3) := by decide +kernel
theorem dX5_step_12 : decode cX5_step 12 = .ok (.new 56, 3) := by decide +kernel
theorem dX5_step_15 : decode cX5_step 15 = .ok (.dup, 1) := by decide +kernel
theorem dX5_step_16 : decode cX5_step 16 = .ok (.ldc 58, 2) := by decide +kernel
theorem dX5_step_18 : decode cX5_step 18 = .ok (.invokespecial 60, 3) := by decide +kernel
theorem dX5_step_21 : decode cX5_step 21 = .ok (.athrow, 1) := by decide +kernel
theorem dX5_step_22 : decode cX5_step 22 = .ok (.aload 5, 2) := by decide +kernel
theorem dX5_step_24 : decode cX5_step 24 = .ok (.getfield 61, 3) := by decide +kernel
theorem dX5_step_27 : decode cX5_step 27 = .ok (.iload_n 2, 1) := by decide +kernel
theorem dX5_step_28 : decode cX5_step 28 = .ok (.invokevirtual 65, 3) := by decide +kernel
theorem dX5_step_31 : decode cX5_step 31 = .ok (.ifCond .ne 13, 3) := by decide +kernel
theorem dX5_step_34 : decode cX5_step 34 = .ok (.new 33, 3) := by decide +kernel
theorem dX5_step_37 : decode cX5_step 37 = .ok (.dup, 1) := by decide +kernel
theorem dX5_step_38 : decode cX5_step 38 = .ok (.ldc 69, 2) := by decide +kernel
theorem dX5_step_40 : decode cX5_step 40 = .ok (.invokespecial 37, 3) := by decide +kernel
theorem dX5_step_43 : decode cX5_step 43 = .ok (.athrow, 1) := by decide +kernel
theorem dX5_step_44 : decode cX5_step 44 = .ok (.aload 5, 2) := by decide +kernel
theorem dX5_step_46 : decode cX5_step 46 = .ok (.getfield 61, 3) := by decide +kernel
theorem dX5_step_49 : decode cX5_step 49 = .ok (.lload_n 3, 1) := by decide +kernel
theorem dX5_step_50 : decode cX5_step 50 = .ok (.invokevirtual 71, 3) := by decide +kernel
theorem dX5_step_53 : decode cX5_step 53 = .ok (.lstore 6, 2) := by decide +kernel
theorem dX5_step_55 : decode cX5_step 55 = .ok (.iload_n 2, 1) := by decide +kernel
theorem dX5_step_56 : decode cX5_step 56 = .ok (.invokestatic 75, 3) := by decide +kernel
theorem dX5_step_59 : decode cX5_step 59 = .ok (.ifCond .eq 26, 3) := by decide +kernel
theorem dX5_step_62 : decode cX5_step 62 = .ok (.aload 5, 2) := by decide +kernel
theorem dX5_step_64 : decode cX5_step 64 = .ok (.getfield 61, 3) := by decide +kernel
theorem dX5_step_67 : decode cX5_step 67 = .ok (.lload 6, 2) := by decide +kernel
theorem dX5_step_69 : decode cX5_step 69 = .ok (.invokevirtual 78, 3) := by decide +kernel
theorem dX5_step_72 : decode cX5_step 72 = .ok (.ifCond .ne 13, 3) := by decide +kernel
theorem dX5_step_75 : decode cX5_step 75 = .ok (.new 33, 3) := by decide +kernel
theorem dX5_step_78 : decode cX5_step 78 = .ok (.dup, 1) := by decide +kernel
theorem dX5_step_79 : decode cX5_step 79 = .ok (.ldc 82, 2) := by decide +kernel
theorem dX5_step_81 : decode cX5_step 81 = .ok (.invokespecial 37, 3) := by decide +kernel
theorem dX5_step_84 : decode cX5_step 84 = .ok (.athrow, 1) := by decide +kernel
theorem dX5_step_85 : decode cX5_step 85 = .ok (.aload 5, 2) := by decide +kernel
theorem dX5_step_87 : decode cX5_step 87 = .ok (.invokevirtual 84, 3) := by decide +kernel
theorem dX5_step_90 : decode cX5_step 90 = .ok (.ifCond .eq 13, 3) := by decide +kernel
theorem dX5_step_93 : decode cX5_step 93 = .ok (.new 88, 3) := by decide +kernel
theorem dX5_step_96 : decode cX5_step 96 = .ok (.dup, 1) := by decide +kernel
theorem dX5_step_97 : decode cX5_step 97 = .ok (.ldc 90, 2) := by decide +kernel
theorem dX5_step_99 : decode cX5_step 99 = .ok (.invokespecial 92, 3) := by decide +kernel
theorem dX5_step_102 : decode cX5_step 102 = .ok (.athrow, 1) := by decide +kernel
theorem dX5_step_103 : decode cX5_step 103 = .ok (.aload 5, 2) := by decide +kernel
theorem dX5_step_105 : decode cX5_step 105 = .ok (.new 93, 3) := by decide +kernel
theorem dX5_step_108 : decode cX5_step 108 = .ok (.dup, 1) := by decide +kernel
theorem dX5_step_109 : decode cX5_step 109 = .ok (.iload_n 2, 1) := by decide +kernel
theorem dX5_step_110 : decode cX5_step 110 = .ok (.lload 6, 2) := by decide +kernel
theorem dX5_step_112 : decode cX5_step 112 = .ok (.aconst_null, 1) := by decide +kernel
theorem dX5_step_113 : decode cX5_step 113 = .ok (.invokespecial 95, 3) := by decide +kernel
theorem dX5_step_116 : decode cX5_step 116 = .ok (.invokevirtual 98, 3) := by decide +kernel
theorem dX5_step_119 : decode cX5_step 119 = .ok (.ireturn, 1) := by decide +kernel
theorem dX5_follow_0 : decode cX5_follow 0 = .ok (.aload_n 0, 1) := by decide +kernel
theorem dX5_follow_1 : decode cX5_follow 1 = .ok (.iload_n 1, 1) := by decide +kernel
theorem dX5_follow_2 : decode cX5_follow 2 = .ok (.invokevirtual 52, 3) := by decide +kernel
theorem dX5_follow_5 : decode cX5_follow 5 = .ok (.astore 4, 2) := by decide +kernel
theorem dX5_follow_7 : decode cX5_follow 7 = .ok (.aload_n 0, 1) := by decide +kernel
theorem dX5_follow_8 : decode cX5_follow 8 = .ok (.iload_n 3, 1) := by decide +kernel
theorem dX5_follow_9 : decode cX5_follow 9 = .ok (.invokevirtual 52, 3) := by decide +kernel
theorem dX5_follow_12 : decode cX5_follow 12 = .ok (.astore 5, 2) := by decide +kernel
theorem dX5_follow_14 : decode cX5_follow 14 = .ok (.aload 4, 2) := by decide +kernel
theorem dX5_follow_16 : decode cX5_follow 16 = .ok (.ifnull 8, 3) := by decide +kernel
theorem dX5_follow_19 : decode cX5_follow 19 = .ok (.aload 5, 2) := by decide +kernel
theorem dX5_follow_21 : decode cX5_follow 21 = .ok (.ifnonnull 13, 3) := by decide +kernel
theorem dX5_follow_24 : decode cX5_follow 24 = .ok (.new 56, 3) := by decide +kernel
theorem dX5_follow_27 : decode cX5_follow 27 = .ok (.dup, 1) := by decide +kernel
theorem dX5_follow_28 : decode cX5_follow 28 = .ok (.ldc 58, 2) := by decide +kernel
theorem dX5_follow_30 : decode cX5_follow 30 = .ok (.invokespecial 60, 3) := by decide +kernel
theorem dX5_follow_33 : decode cX5_follow 33 = .ok (.athrow, 1) := by decide +kernel
theorem dX5_follow_34 : decode cX5_follow 34 = .ok (.aload 4, 2) := by decide +kernel
theorem dX5_follow_36 : decode cX5_follow 36 = .ok (.getfield 61, 3) := by decide +kernel
theorem dX5_follow_39 : decode cX5_follow 39 = .ok (.iload_n 2, 1) := by decide +kernel
theorem dX5_follow_40 : decode cX5_follow 40 = .ok (.invokevirtual 65, 3) := by decide +kernel
theorem dX5_follow_43 : decode cX5_follow 43 = .ok (.ifCond .eq 10, 3) := by decide +kernel
theorem dX5_follow_46 : decode cX5_follow 46 = .ok (.iload_n 2, 1) := by decide +kernel
theorem dX5_follow_47 : decode cX5_follow 47 = .ok (.invokestatic 75, 3) := by decide +kernel
theorem dX5_follow_50 : decode cX5_follow 50 = .ok (.ifCond .ne 13, 3) := by decide +kernel
theorem dX5_follow_53 : decode cX5_follow 53 = .ok (.new 33, 3) := by decide +kernel
theorem dX5_follow_56 : decode cX5_follow 56 = .ok (.dup, 1) := by decide +kernel
theorem dX5_follow_57 : decode cX5_follow 57 = .ok (.ldc 102, 2) := by decide +kernel
theorem dX5_follow_59 : decode cX5_follow 59 = .ok (.invokespecial 37, 3) := by decide +kernel
theorem dX5_follow_62 : decode cX5_follow 62 = .ok (.athrow, 1) := by decide +kernel
theorem dX5_follow_63 : decode cX5_follow 63 = .ok (.aload 4, 2) := by decide +kernel
theorem dX5_follow_65 : decode cX5_follow 65 = .ok (.getfield 104, 3) := by decide +kernel
theorem dX5_follow_68 : decode cX5_follow 68 = .ok (.aload 5, 2) := by decide +kernel
theorem dX5_follow_70 : decode cX5_follow 70 = .ok (.getfield 104, 3) := by decide +kernel
theorem dX5_follow_73 : decode cX5_follow 73 = .ok (.if_icmp .eq 13, 3) := by decide +kernel
theorem dX5_follow_76 : decode cX5_follow 76 = .ok (.new 33, 3) := by decide +kernel
theorem dX5_follow_79 : decode cX5_follow 79 = .ok (.dup, 1) := by decide +kernel
theorem dX5_follow_80 : decode cX5_follow 80 = .ok (.ldc 107, 2) := by decide +kernel
theorem dX5_follow_82 : decode cX5_follow 82 = .ok (.invokespecial 37, 3) := by decide +kernel
theorem dX5_follow_85 : decode cX5_follow 85 = .ok (.athrow, 1) := by decide +kernel
theorem dX5_follow_86 : decode cX5_follow 86 = .ok (.aload 4, 2) := by decide +kernel
theorem dX5_follow_88 : decode cX5_follow 88 = .ok (.invokevirtual 84, 3) := by decide +kernel
theorem dX5_follow_91 : decode cX5_follow 91 = .ok (.ifCond .eq 13, 3) := by decide +kernel
theorem dX5_follow_94 : decode cX5_follow 94 = .ok (.new 88, 3) := by decide +kernel
theorem dX5_follow_97 : decode cX5_follow 97 = .ok (.dup, 1) := by decide +kernel
theorem dX5_follow_98 : decode cX5_follow 98 = .ok (.ldc 90, 2) := by decide +kernel
theorem dX5_follow_100 : decode cX5_follow 100 = .ok (.invokespecial 92, 3) := by decide +kernel
theorem dX5_follow_103 : decode cX5_follow 103 = .ok (.athrow, 1) := by decide +kernel
theorem dX5_follow_104 : decode cX5_follow 104 = .ok (.aload 4, 2) := by decide +kernel
theorem dX5_follow_106 : decode cX5_follow 106 = .ok (.new 93, 3) := by decide +kernel
theorem dX5_follow_109 : decode cX5_follow 109 = .ok (.dup, 1) := by decide +kernel
theorem dX5_follow_110 : decode cX5_follow 110 = .ok (.iload_n 2, 1) := by decide +kernel
theorem dX5_follow_111 : decode cX5_follow 111 = .ok (.lconst 0, 1) := by decide +kernel
theorem dX5_follow_112 : decode cX5_follow 112 = .ok (.aload 5, 2) := by decide +kernel
theorem dX5_follow_114 : decode cX5_follow 114 = .ok (.invokespecial 95, 3) := by decide +kernel
theorem dX5_follow_117 : decode cX5_follow 117 = .ok (.invokevirtual 98, 3) := by decide +kernel
theorem dX5_follow_120 : decode cX5_follow 120 = .ok (.ireturn, 1) := by decide +kernel
theorem dX5_read_0 : decode cX5_read 0 = .ok (.aload_n 0, 1) := by decide +kernel
theorem dX5_read_1 : decode cX5_read 1 = .ok (.iload_n 1, 1) := by decide +kernel
theorem dX5_read_2 : decode cX5_read 2 = .ok (.invokevirtual 52, 3) := by decide +kernel
theorem dX5_read_5 : decode cX5_read 5 = .ok (.astore 4, 2) := by decide +kernel
theorem dX5_read_7 : decode cX5_read 7 = .ok (.aload 4, 2) := by decide +kernel
theorem dX5_read_9 : decode cX5_read 9 = .ok (.ifnonnull 13, 3) := by decide +kernel
theorem dX5_read_12 : decode cX5_read 12 = .ok (.new 56, 3) := by decide +kernel
theorem dX5_read_15 : decode cX5_read 15 = .ok (.dup, 1) := by decide +kernel
theorem dX5_read_16 : decode cX5_read 16 = .ok (.ldc 58, 2) := by decide +kernel
theorem dX5_read_18 : decode cX5_read 18 = .ok (.invokespecial 60, 3) := by decide +kernel
theorem dX5_read_21 : decode cX5_read 21 = .ok (.athrow, 1) := by decide +kernel
theorem dX5_read_22 : decode cX5_read 22 = .ok (.aload 4, 2) := by decide +kernel
theorem dX5_read_24 : decode cX5_read 24 = .ok (.getfield 61, 3) := by decide +kernel
theorem dX5_read_27 : decode cX5_read 27 = .ok (.lload_n 2, 1) := by decide +kernel
theorem dX5_read_28 : decode cX5_read 28 = .ok (.invokevirtual 71, 3) := by decide +kernel
theorem dX5_read_31 : decode cX5_read 31 = .ok (.lstore 5, 2) := by decide +kernel
theorem dX5_read_33 : decode cX5_read 33 = .ok (.aload 4, 2) := by decide +kernel
theorem dX5_read_35 : decode cX5_read 35 = .ok (.getfield 61, 3) := by decide +kernel
theorem dX5_read_38 : decode cX5_read 38 = .ok (.lload 5, 2) := by decide +kernel
theorem dX5_read_40 : decode cX5_read 40 = .ok (.invokevirtual 78, 3) := by decide +kernel
theorem dX5_read_43 : decode cX5_read 43 = .ok (.ifCond .ne 13, 3) := by decide +kernel
theorem dX5_read_46 : decode cX5_read 46 = .ok (.new 33, 3) := by decide +kernel
theorem dX5_read_49 : decode cX5_read 49 = .ok (.dup, 1) := by decide +kernel
theorem dX5_read_50 : decode cX5_read 50 = .ok (.ldc 109, 2) := by decide +kernel
theorem dX5_read_52 : decode cX5_read 52 = .ok (.invokespecial 37, 3) := by decide +kernel
theorem dX5_read_55 : decode cX5_read 55 = .ok (.athrow, 1) := by decide +kernel
theorem dX5_read_56 : decode cX5_read 56 = .ok (.aload 4, 2) := by decide +kernel
theorem dX5_read_58 : decode cX5_read 58 = .ok (.lload 5, 2) := by decide +kernel
theorem dX5_read_60 : decode cX5_read 60 = .ok (.invokevirtual 111, 3) := by decide +kernel
theorem dX5_read_63 : decode cX5_read 63 = .ok (.lstore 7, 2) := by decide +kernel
theorem dX5_read_65 : decode cX5_read 65 = .ok (.aload 4, 2) := by decide +kernel
theorem dX5_read_67 : decode cX5_read 67 = .ok (.lload 7, 2) := by decide +kernel
theorem dX5_read_69 : decode cX5_read 69 = .ok (.invokevirtual 114, 3) := by decide +kernel
theorem dX5_read_72 : decode cX5_read 72 = .ok (.aload_n 0, 1) := by decide +kernel
theorem dX5_read_73 : decode cX5_read 73 = .ok (.dup, 1) := by decide +kernel
theorem dX5_read_74 : decode cX5_read 74 = .ok (.getfield 118, 3) := by decide +kernel
theorem dX5_read_77 : decode cX5_read 77 = .ok (.iconst 1, 1) := by decide +kernel
theorem dX5_read_78 : decode cX5_read 78 = .ok (.iadd, 1) := by decide +kernel
theorem dX5_read_79 : decode cX5_read 79 = .ok (.putfield 118, 3) := by decide +kernel
theorem dX5_read_82 : decode cX5_read 82 = .ok (.aload_n 0, 1) := by decide +kernel
theorem dX5_read_83 : decode cX5_read 83 = .ok (.dup, 1) := by decide +kernel
theorem dX5_read_84 : decode cX5_read 84 = .ok (.getfield 121, 3) := by decide +kernel
theorem dX5_read_87 : decode cX5_read 87 = .ok (.aload 4, 2) := by decide +kernel
theorem dX5_read_89 : decode cX5_read 89 = .ok (.getfield 124, 3) := by decide +kernel
theorem dX5_read_92 : decode cX5_read 92 = .ok (.iadd, 1) := by decide +kernel
theorem dX5_read_93 : decode cX5_read 93 = .ok (.putfield 121, 3) := by decide +kernel
theorem dX5_read_96 : decode cX5_read 96 = .ok (.aload 4, 2) := by decide +kernel
theorem dX5_read_98 : decode cX5_read 98 = .ok (.lload 7, 2) := by decide +kernel
theorem dX5_read_100 : decode cX5_read 100 = .ok (.invokevirtual 127, 3) := by decide +kernel
theorem dX5_read_103 : decode cX5_read 103 = .ok (.ifCond .eq 24, 3) := by decide +kernel
theorem dX5_read_106 : decode cX5_read 106 = .ok (.aload 4, 2) := by decide +kernel
theorem dX5_read_108 : decode cX5_read 108 = .ok (.dup, 1) := by decide +kernel
theorem dX5_read_109 : decode cX5_read 109 = .ok (.getfield 130, 3) := by decide +kernel
theorem dX5_read_112 : decode cX5_read 112 = .ok (.iconst 1, 1) := by decide +kernel
theorem dX5_read_113 : decode cX5_read 113 = .ok (.iadd, 1) := by decide +kernel
theorem dX5_read_114 : decode cX5_read 114 = .ok (.putfield 130, 3) := by decide +kernel
theorem dX5_read_117 : decode cX5_read 117 = .ok (.aload_n 0, 1) := by decide +kernel
theorem dX5_read_118 : decode cX5_read 118 = .ok (.dup, 1) := by decide +kernel
theorem dX5_read_119 : decode cX5_read 119 = .ok (.getfield 133, 3) := by decide +kernel
theorem dX5_read_122 : decode cX5_read 122 = .ok (.iconst 1, 1) := by decide +kernel
theorem dX5_read_123 : decode cX5_read 123 = .ok (.iadd, 1) := by decide +kernel
theorem dX5_read_124 : decode cX5_read 124 = .ok (.putfield 133, 3) := by decide +kernel
theorem dX5_read_127 : decode cX5_read 127 = .ok (.lload 7, 2) := by decide +kernel
theorem dX5_read_129 : decode cX5_read 129 = .ok (.lreturn, 1) := by decide +kernel
theorem dX5_reading_0 : decode cX5_reading 0 = .ok (.aload_n 0, 1) := by decide +kernel
theorem dX5_reading_1 : decode cX5_reading 1 = .ok (.iload_n 1, 1) := by decide +kernel
theorem dX5_reading_2 : decode cX5_reading 2 = .ok (.invokevirtual 52, 3) := by decide +kernel
theorem dX5_reading_5 : decode cX5_reading 5 = .ok (.astore_n 3, 1) := by decide +kernel
theorem dX5_reading_6 : decode cX5_reading 6 = .ok (.aload_n 3, 1) := by decide +kernel
theorem dX5_reading_7 : decode cX5_reading 7 = .ok (.ifnonnull 13, 3) := by decide +kernel
theorem dX5_reading_10 : decode cX5_reading 10 = .ok (.new 56, 3) := by decide +kernel
theorem dX5_reading_13 : decode cX5_reading 13 = .ok (.dup, 1) := by decide +kernel
theorem dX5_reading_14 : decode cX5_reading 14 = .ok (.ldc 58, 2) := by decide +kernel
theorem dX5_reading_16 : decode cX5_reading 16 = .ok (.invokespecial 60, 3) := by decide +kernel
theorem dX5_reading_19 : decode cX5_reading 19 = .ok (.athrow, 1) := by decide +kernel
theorem dX5_reading_20 : decode cX5_reading 20 = .ok (.aload_n 3, 1) := by decide +kernel
theorem dX5_reading_21 : decode cX5_reading 21 = .ok (.iload_n 2, 1) := by decide +kernel
theorem dX5_reading_22 : decode cX5_reading 22 = .ok (.invokevirtual 136, 3) := by decide +kernel
theorem dX5_reading_25 : decode cX5_reading 25 = .ok (.ifCond .ne 13, 3) := by decide +kernel
theorem dX5_reading_28 : decode cX5_reading 28 = .ok (.new 139, 3) := by decide +kernel
theorem dX5_reading_31 : decode cX5_reading 31 = .ok (.dup, 1) := by decide +kernel
theorem dX5_reading_32 : decode cX5_reading 32 = .ok (.ldc 141, 2) := by decide +kernel
theorem dX5_reading_34 : decode cX5_reading 34 = .ok (.invokespecial 143, 3) := by decide +kernel
theorem dX5_reading_37 : decode cX5_reading 37 = .ok (.athrow, 1) := by decide +kernel
theorem dX5_reading_38 : decode cX5_reading 38 = .ok (.aload_n 3, 1) := by decide +kernel
theorem dX5_reading_39 : decode cX5_reading 39 = .ok (.iload_n 2, 1) := by decide +kernel
theorem dX5_reading_40 : decode cX5_reading 40 = .ok (.invokevirtual 144, 3) := by decide +kernel
theorem dX5_reading_43 : decode cX5_reading 43 = .ok (.lreturn, 1) := by decide +kernel
theorem dX5_tell_0 : decode cX5_tell 0 = .ok (.aload_n 0, 1) := by decide +kernel
theorem dX5_tell_1 : decode cX5_tell 1 = .ok (.iload_n 1, 1) := by decide +kernel
theorem dX5_tell_2 : decode cX5_tell 2 = .ok (.invokevirtual 52, 3) := by decide +kernel
theorem dX5_tell_5 : decode cX5_tell 5 = .ok (.astore_n 3, 1) := by decide +kernel
theorem dX5_tell_6 : decode cX5_tell 6 = .ok (.aload_n 3, 1) := by decide +kernel
theorem dX5_tell_7 : decode cX5_tell 7 = .ok (.ifnonnull 13, 3) := by decide +kernel
theorem dX5_tell_10 : decode cX5_tell 10 = .ok (.new 56, 3) := by decide +kernel
theorem dX5_tell_13 : decode cX5_tell 13 = .ok (.dup, 1) := by decide +kernel
theorem dX5_tell_14 : decode cX5_tell 14 = .ok (.ldc 58, 2) := by decide +kernel
theorem dX5_tell_16 : decode cX5_tell 16 = .ok (.invokespecial 60, 3) := by decide +kernel
theorem dX5_tell_19 : decode cX5_tell 19 = .ok (.athrow, 1) := by decide +kernel
theorem dX5_tell_20 : decode cX5_tell 20 = .ok (.iload_n 2, 1) := by decide +kernel
theorem dX5_tell_21 : decode cX5_tell 21 = .ok (.ifCond .lt 8, 3) := by decide +kernel
theorem dX5_tell_24 : decode cX5_tell 24 = .ok (.iload_n 2, 1) := by decide +kernel
theorem dX5_tell_25 : decode cX5_tell 25 = .ok (.iconst 3, 1) := by decide +kernel
theorem dX5_tell_26 : decode cX5_tell 26 = .ok (.if_icmp .le 13, 3) := by decide +kernel
theorem dX5_tell_29 : decode cX5_tell 29 = .ok (.new 33, 3) := by decide +kernel
theorem dX5_tell_32 : decode cX5_tell 32 = .ok (.dup, 1) := by decide +kernel
theorem dX5_tell_33 : decode cX5_tell 33 = .ok (.ldc 148, 2) := by decide +kernel
theorem dX5_tell_35 : decode cX5_tell 35 = .ok (.invokespecial 37, 3) := by decide +kernel
theorem dX5_tell_38 : decode cX5_tell 38 = .ok (.athrow, 1) := by decide +kernel
theorem dX5_tell_39 : decode cX5_tell 39 = .ok (.aload_n 3, 1) := by decide +kernel
theorem dX5_tell_40 : decode cX5_tell 40 = .ok (.invokevirtual 150, 3) := by decide +kernel
theorem dX5_tell_43 : decode cX5_tell 43 = .ok (.ifCond .ne 13, 3) := by decide +kernel
theorem dX5_tell_46 : decode cX5_tell 46 = .ok (.new 139, 3) := by decide +kernel
theorem dX5_tell_49 : decode cX5_tell 49 = .ok (.dup, 1) := by decide +kernel
theorem dX5_tell_50 : decode cX5_tell 50 = .ok (.ldc 153, 2) := by decide +kernel
theorem dX5_tell_52 : decode cX5_tell 52 = .ok (.invokespecial 143, 3) := by decide +kernel
theorem dX5_tell_55 : decode cX5_tell 55 = .ok (.athrow, 1) := by decide +kernel
theorem dX5_tell_56 : decode cX5_tell 56 = .ok (.iload_n 2, 1) := by decide +kernel
theorem dX5_tell_57 : decode cX5_tell 57 = .ok (.tableswitch 42 0 2 #[27, 32, 37], 27) := by decide +kernel
theorem dX5_tell_84 : decode cX5_tell 84 = .ok (.aload_n 3, 1) := by decide +kernel
theorem dX5_tell_85 : decode cX5_tell 85 = .ok (.getfield 155, 3) := by decide +kernel
theorem dX5_tell_88 : decode cX5_tell 88 = .ok (.lreturn, 1) := by decide +kernel
theorem dX5_tell_89 : decode cX5_tell 89 = .ok (.aload_n 3, 1) := by decide +kernel
theorem dX5_tell_90 : decode cX5_tell 90 = .ok (.getfield 159, 3) := by decide +kernel
theorem dX5_tell_93 : decode cX5_tell 93 = .ok (.lreturn, 1) := by decide +kernel
theorem dX5_tell_94 : decode cX5_tell 94 = .ok (.aload_n 3, 1) := by decide +kernel
theorem dX5_tell_95 : decode cX5_tell 95 = .ok (.getfield 162, 3) := by decide +kernel
theorem dX5_tell_98 : decode cX5_tell 98 = .ok (.lreturn, 1) := by decide +kernel
theorem dX5_tell_99 : decode cX5_tell 99 = .ok (.aload_n 3, 1) := by decide +kernel
theorem dX5_tell_100 : decode cX5_tell 100 = .ok (.getfield 165, 3) := by decide +kernel
theorem dX5_tell_103 : decode cX5_tell 103 = .ok (.lreturn, 1) := by decide +kernel
theorem dX5_whole_0 : decode cX5_whole 0 = .ok (.aload_n 0, 1) := by decide +kernel
theorem dX5_whole_1 : decode cX5_whole 1 = .ok (.iload_n 1, 1) := by decide +kernel
theorem dX5_whole_2 : decode cX5_whole 2 = .ok (.invokevirtual 52, 3) := by decide +kernel
theorem dX5_whole_5 : decode cX5_whole 5 = .ok (.astore_n 2, 1) := by decide +kernel
theorem dX5_whole_6 : decode cX5_whole 6 = .ok (.aload_n 2, 1) := by decide +kernel
theorem dX5_whole_7 : decode cX5_whole 7 = .ok (.ifnonnull 13, 3) := by decide +kernel
theorem dX5_whole_10 : decode cX5_whole 10 = .ok (.new 56, 3) := by decide +kernel
theorem dX5_whole_13 : decode cX5_whole 13 = .ok (.dup, 1) := by decide +kernel
theorem dX5_whole_14 : decode cX5_whole 14 = .ok (.ldc 58, 2) := by decide +kernel
theorem dX5_whole_16 : decode cX5_whole 16 = .ok (.invokespecial 60, 3) := by decide +kernel
theorem dX5_whole_19 : decode cX5_whole 19 = .ok (.athrow, 1) := by decide +kernel
theorem dX5_whole_20 : decode cX5_whole 20 = .ok (.aload_n 2, 1) := by decide +kernel
theorem dX5_whole_21 : decode cX5_whole 21 = .ok (.invokevirtual 150, 3) := by decide +kernel
theorem dX5_whole_24 : decode cX5_whole 24 = .ok (.ifCond .ne 13, 3) := by decide +kernel
theorem dX5_whole_27 : decode cX5_whole 27 = .ok (.new 139, 3) := by decide +kernel
theorem dX5_whole_30 : decode cX5_whole 30 = .ok (.dup, 1) := by decide +kernel
theorem dX5_whole_31 : decode cX5_whole 31 = .ok (.ldc 153, 2) := by decide +kernel
theorem dX5_whole_33 : decode cX5_whole 33 = .ok (.invokespecial 143, 3) := by decide +kernel
theorem dX5_whole_36 : decode cX5_whole 36 = .ok (.athrow, 1) := by decide +kernel
theorem dX5_whole_37 : decode cX5_whole 37 = .ok (.aload_n 2, 1) := by decide +kernel
theorem dX5_whole_38 : decode cX5_whole 38 = .ok (.getfield 61, 3) := by decide +kernel
theorem dX5_whole_41 : decode cX5_whole 41 = .ok (.aload_n 2, 1) := by decide +kernel
theorem dX5_whole_42 : decode cX5_whole 42 = .ok (.getfield 168, 3) := by decide +kernel
