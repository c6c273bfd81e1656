theorem dX0_init_0 : decode cX0_init 0 = .ok (.aload_n 0, 1) := by decide +kernel
theorem dX0_init_1 : decode cX0_init 1 = .ok (.iload_n 1, 1) := by decide +kernel
theorem dX0_init_2 : decode cX0_init 2 = .ok (.iload_n 1, 1) := by decide +kernel
theorem dX0_init_3 : decode cX0_init 3 = .ok (.ifCond .eq 9, 3) := by decide +kernel
theorem dX0_init_6 : decode cX0_init 6 = .ok (.ldc2_w 5, 3) := by decide +kernel
theorem dX0_init_9 : decode cX0_init 9 = .ok (.goto 6, 3) := by decide +kernel
theorem dX0_init_12 : decode cX0_init 12 = .ok (.ldc2_w 7, 3) := by decide +kernel
theorem dX0_init_15 : decode cX0_init 15 = .ok (.iload_n 1, 1) := by decide +kernel
theorem dX0_init_16 : decode cX0_init 16 = .ok (.ifCond .eq 9, 3) := by decide +kernel
theorem dX0_init_19 : decode cX0_init 19 = .ok (.ldc2_w 9, 3) := by decide +kernel
theorem dX0_init_22 : decode cX0_init 22 = .ok (.goto 6, 3) := by decide +kernel
theorem dX0_init_25 : decode cX0_init 25 = .ok (.ldc2_w 11, 3) := by decide +kernel
theorem dX0_init_28 : decode cX0_init 28 = .ok (.invokespecial 13, 3) := by decide +kernel
theorem dX0_init_31 : decode cX0_init 31 = .ok (.aload_n 0, 1) := by decide +kernel
theorem dX0_init_32 : decode cX0_init 32 = .ok (.iload_n 1, 1) := by decide +kernel
theorem dX0_init_33 : decode cX0_init 33 = .ok (.ifCond .eq 8, 3) := by decide +kernel
theorem dX0_init_36 : decode cX0_init 36 = .ok (.bipush 23, 2) := by decide +kernel
theorem dX0_init_38 : decode cX0_init 38 = .ok (.goto 5, 3) := by decide +kernel
theorem dX0_init_41 : decode cX0_init 41 = .ok (.bipush 52, 2) := by decide +kernel
theorem dX0_init_43 : decode cX0_init 43 = .ok (.putfield 19, 3) := by decide +kernel
theorem dX0_init_46 : decode cX0_init 46 = .ok (.aload_n 0, 1) := by decide +kernel
theorem dX0_init_47 : decode cX0_init 47 = .ok (.iload_n 1, 1) := by decide +kernel
theorem dX0_init_48 : decode cX0_init 48 = .ok (.ifCond .eq 8, 3) := by decide +kernel
theorem dX0_init_51 : decode cX0_init 51 = .ok (.bipush 127, 2) := by decide +kernel
theorem dX0_init_53 : decode cX0_init 53 = .ok (.goto 6, 3) := by decide +kernel
theorem dX0_init_56 : decode cX0_init 56 = .ok (.sipush 1023, 3) := by decide +kernel
theorem dX0_init_59 : decode cX0_init 59 = .ok (.putfield 23, 3) := by decide +kernel
theorem dX0_init_62 : decode cX0_init 62 = .ok (.aload_n 0, 1) := by decide +kernel
theorem dX0_init_63 : decode cX0_init 63 = .ok (.lconst 1, 1) := by decide +kernel
theorem dX0_init_64 : decode cX0_init 64 = .ok (.aload_n 0, 1) := by decide +kernel
theorem dX0_init_65 : decode cX0_init 65 = .ok (.getfield 19, 3) := by decide +kernel
theorem dX0_init_68 : decode cX0_init 68 = .ok (.lshl, 1) := by decide +kernel
theorem dX0_init_69 : decode cX0_init 69 = .ok (.putfield 26, 3) := by decide +kernel
theorem dX0_init_72 : decode cX0_init 72 = .ok (.aload_n 0, 1) := by decide +kernel
theorem dX0_init_73 : decode cX0_init 73 = .ok (.aload_n 0, 1) := by decide +kernel
theorem dX0_init_74 : decode cX0_init 74 = .ok (.getfield 23, 3) := by decide +kernel
theorem dX0_init_77 : decode cX0_init 77 = .ok (.i2l, 1) := by decide +kernel
theorem dX0_init_78 : decode cX0_init 78 = .ok (.lconst 1, 1) := by decide +kernel
theorem dX0_init_79 : decode cX0_init 79 = .ok (.lsub, 1) := by decide +kernel
theorem dX0_init_80 : decode cX0_init 80 = .ok (.aload_n 0, 1) := by decide +kernel
theorem dX0_init_81 : decode cX0_init 81 = .ok (.getfield 19, 3) := by decide +kernel
theorem dX0_init_84 : decode cX0_init 84 = .ok (.lshl, 1) := by decide +kernel
theorem dX0_init_85 : decode cX0_init 85 = .ok (.putfield 30, 3) := by decide +kernel
theorem dX0_init_88 : decode cX0_init 88 = .ok (.aload_n 0, 1) := by decide +kernel
theorem dX0_init_89 : decode cX0_init 89 = .ok (.aload_n 0, 1) := by decide +kernel
theorem dX0_init_90 : decode cX0_init 90 = .ok (.getfield 23, 3) := by decide +kernel
theorem dX0_init_93 : decode cX0_init 93 = .ok (.i2l, 1) := by decide +kernel
theorem dX0_init_94 : decode cX0_init 94 = .ok (.aload_n 0, 1) := by decide +kernel
theorem dX0_init_95 : decode cX0_init 95 = .ok (.getfield 19, 3) := by decide +kernel
theorem dX0_init_98 : decode cX0_init 98 = .ok (.lshl, 1) := by decide +kernel
theorem dX0_init_99 : decode cX0_init 99 = .ok (.putfield 33, 3) := by decide +kernel
theorem dX0_init_102 : decode cX0_init 102 = .ok (.aload_n 0, 1) := by decide +kernel
theorem dX0_init_103 : decode cX0_init 103 = .ok (.iload_n 1, 1) := by decide +kernel
theorem dX0_init_104 : decode cX0_init 104 = .ok (.ifCond .eq 9, 3) := by decide +kernel
theorem dX0_init_107 : decode cX0_init 107 = .ok (.ldc2_w 9, 3) := by decide +kernel
theorem dX0_init_110 : decode cX0_init 110 = .ok (.goto 6, 3) := by decide +kernel
theorem dX0_init_113 : decode cX0_init 113 = .ok (.ldc2_w 11, 3) := by decide +kernel
theorem dX0_init_116 : decode cX0_init 116 = .ok (.putfield 36, 3) := by decide +kernel
theorem dX0_init_119 : decode cX0_init 119 = .ok (.return_, 1) := by decide +kernel
theorem dX0_isNumber_0 : decode cX0_isNumber 0 = .ok (.aload_n 0, 1) := by decide +kernel
theorem dX0_isNumber_1 : decode cX0_isNumber 1 = .ok (.lload_n 1, 1) := by decide +kernel
theorem dX0_isNumber_2 : decode cX0_isNumber 2 = .ok (.invokevirtual 39, 3) := by decide +kernel
theorem dX0_isNumber_5 : decode cX0_isNumber 5 = .ok (.aload_n 0, 1) := by decide +kernel
theorem dX0_isNumber_6 : decode cX0_isNumber 6 = .ok (.getfield 36, 3) := by decide +kernel
theorem dX0_isNumber_9 : decode cX0_isNumber 9 = .ok (.lcmp, 1) := by decide +kernel
theorem dX0_isNumber_10 : decode cX0_isNumber 10 = .ok (.ifCond .gt 7, 3) := by decide +kernel
theorem dX0_isNumber_13 : decode cX0_isNumber 13 = .ok (.iconst 1, 1) := by decide +kernel
theorem dX0_isNumber_14 : decode cX0_isNumber 14 = .ok (.goto 4, 3) := by decide +kernel
theorem dX0_isNumber_17 : decode cX0_isNumber 17 = .ok (.iconst 0, 1) := by decide +kernel
theorem dX0_isNumber_18 : decode cX0_isNumber 18 = .ok (.ireturn, 1) := by decide +kernel
theorem dX0_hasStep_0 : decode cX0_hasStep 0 = .ok (.iload_n 1, 1) := by decide +kernel
theorem dX0_hasStep_1 : decode cX0_hasStep 1 = .ok (.ifCond .lt 13, 3) := by decide +kernel
theorem dX0_hasStep_4 : decode cX0_hasStep 4 = .ok (.iload_n 1, 1) := by decide +kernel
theorem dX0_hasStep_5 : decode cX0_hasStep 5 = .ok (.bipush 7, 2) := by decide +kernel
theorem dX0_hasStep_7 : decode cX0_hasStep 7 = .ok (.if_icmp .gt 7, 3) := by decide +kernel
theorem dX0_hasStep_10 : decode cX0_hasStep 10 = .ok (.iconst 1, 1) := by decide +kernel
theorem dX0_hasStep_11 : decode cX0_hasStep 11 = .ok (.goto 4, 3) := by decide +kernel
theorem dX0_hasStep_14 : decode cX0_hasStep 14 = .ok (.iconst 0, 1) := by decide +kernel
theorem dX0_hasStep_15 : decode cX0_hasStep 15 = .ok (.ireturn, 1) := by decide +kernel
theorem dX0_amount_0 : decode cX0_amount 0 = .ok (.lload_n 1, 1) := by decide +kernel
theorem dX0_amount_1 : decode cX0_amount 1 = .ok (.aload_n 0, 1) := by decide +kernel
theorem dX0_amount_2 : decode cX0_amount 2 = .ok (.getfield 43, 3) := by decide +kernel
theorem dX0_amount_5 : decode cX0_amount 5 = .ok (.ldc2_w 46, 3) := by decide +kernel
theorem dX0_amount_8 : decode cX0_amount 8 = .ok (.lxor, 1) := by decide +kernel
theorem dX0_amount_9 : decode cX0_amount 9 = .ok (.land, 1) := by decide +kernel
theorem dX0_amount_10 : decode cX0_amount 10 = .ok (.lreturn, 1) := by decide +kernel
theorem dX0_rank_0 : decode cX0_rank 0 = .ok (.lload_n 1, 1) := by decide +kernel
theorem dX0_rank_1 : decode cX0_rank 1 = .ok (.lconst 0, 1) := by decide +kernel
theorem dX0_rank_2 : decode cX0_rank 2 = .ok (.lcmp, 1) := by decide +kernel
theorem dX0_rank_3 : decode cX0_rank 3 = .ok (.ifCond .ge 15, 3) := by decide +kernel
theorem dX0_rank_6 : decode cX0_rank 6 = .ok (.ldc2_w 46, 3) := by decide +kernel
theorem dX0_rank_9 : decode cX0_rank 9 = .ok (.aload_n 0, 1) := by decide +kernel
theorem dX0_rank_10 : decode cX0_rank 10 = .ok (.lload_n 1, 1) := by decide +kernel
theorem dX0_rank_11 : decode cX0_rank 11 = .ok (.invokevirtual 39, 3) := by decide +kernel
theorem dX0_rank_14 : decode cX0_rank 14 = .ok (.lsub, 1) := by decide +kernel
theorem dX0_rank_15 : decode cX0_rank 15 = .ok (.goto 4, 3) := by decide +kernel
theorem dX0_rank_18 : decode cX0_rank 18 = .ok (.lload_n 1, 1) := by decide +kernel
theorem dX0_rank_19 : decode cX0_rank 19 = .ok (.lreturn, 1) := by decide +kernel
theorem dX0_place_0 : decode cX0_place 0 = .ok (.lload_n 1, 1) := by decide +kernel
theorem dX0_place_1 : decode cX0_place 1 = .ok (.lconst 0, 1) := by decide +kernel
theorem dX0_place_2 : decode cX0_place 2 = .ok (.lcmp, 1) := by decide +kernel
theorem dX0_place_3 : decode cX0_place 3 = .ok (.ifCond .ge 12, 3) := by decide +kernel
theorem dX0_place_6 : decode cX0_place 6 = .ok (.aload_n 0, 1) := by decide +kernel
theorem dX0_place_7 : decode cX0_place 7 = .ok (.lload_n 1, 1) := by decide +kernel
theorem dX0_place_8 : decode cX0_place 8 = .ok (.invokevirtual 39, 3) := by decide +kernel
theorem dX0_place_11 : decode cX0_place 11 = .ok (.lneg, 1) := by decide +kernel
theorem dX0_place_12 : decode cX0_place 12 = .ok (.goto 4, 3) := by decide +kernel
theorem dX0_place_15 : decode cX0_place 15 = .ok (.lload_n 1, 1) := by decide +kernel
theorem dX0_place_16 : decode cX0_place 16 = .ok (.lreturn, 1) := by decide +kernel
theorem dX0_addAmounts_0 : decode cX0_addAmounts 0 = .ok (.lload_n 1, 1) := by decide +kernel
theorem dX0_addAmounts_1 : decode cX0_addAmounts 1 = .ok (.lload_n 3, 1) := by decide +kernel
theorem dX0_addAmounts_2 : decode cX0_addAmounts 2 = .ok (.invokestatic 48, 3) := by decide +kernel
theorem dX0_addAmounts_5 : decode cX0_addAmounts 5 = .ok (.lstore 5, 2) := by decide +kernel
theorem dX0_addAmounts_7 : decode cX0_addAmounts 7 = .ok (.lload_n 1, 1) := by decide +kernel
theorem dX0_addAmounts_8 : decode cX0_addAmounts 8 = .ok (.lload_n 3, 1) := by decide +kernel
theorem dX0_addAmounts_9 : decode cX0_addAmounts 9 = .ok (.invokestatic 54, 3) := by decide +kernel
theorem dX0_addAmounts_12 : decode cX0_addAmounts 12 = .ok (.lstore 7, 2) := by decide +kernel
theorem dX0_addAmounts_14 : decode cX0_addAmounts 14 = .ok (.lload 5, 2) := by decide +kernel
theorem dX0_addAmounts_16 : decode cX0_addAmounts 16 = .ok (.aload_n 0, 1) := by decide +kernel
theorem dX0_addAmounts_17 : decode cX0_addAmounts 17 = .ok (.getfield 36, 3) := by decide +kernel
theorem dX0_addAmounts_20 : decode cX0_addAmounts 20 = .ok (.lcmp, 1) := by decide +kernel
theorem dX0_addAmounts_21 : decode cX0_addAmounts 21 = .ok (.ifCond .ne 8, 3) := by decide +kernel
theorem dX0_addAmounts_24 : decode cX0_addAmounts 24 = .ok (.aload_n 0, 1) := by decide +kernel
theorem dX0_addAmounts_25 : decode cX0_addAmounts 25 = .ok (.getfield 36, 3) := by decide +kernel
theorem dX0_addAmounts_28 : decode cX0_addAmounts 28 = .ok (.lreturn, 1) := by decide +kernel
theorem dX0_addAmounts_29 : decode cX0_addAmounts 29 = .ok (.aload_n 0, 1) := by decide +kernel
theorem dX0_addAmounts_30 : decode cX0_addAmounts 30 = .ok (.lload 5, 2) := by decide +kernel
theorem dX0_addAmounts_32 : decode cX0_addAmounts 32 = .ok (.invokevirtual 57, 3) := by decide +kernel
theorem dX0_addAmounts_35 : decode cX0_addAmounts 35 = .ok (.istore 9, 2) := by decide +kernel
theorem dX0_addAmounts_37 : decode cX0_addAmounts 37 = .ok (.aload_n 0, 1) := by decide +kernel
theorem dX0_addAmounts_38 : decode cX0_addAmounts 38 = .ok (.lload 5, 2) := by decide +kernel
theorem dX0_addAmounts_40 : decode cX0_addAmounts 40 = .ok (.invokevirtual 61, 3) := by decide +kernel
theorem dX0_addAmounts_43 : decode cX0_addAmounts 43 = .ok (.aload_n 0, 1) := by decide +kernel
theorem dX0_addAmounts_44 : decode cX0_addAmounts 44 = .ok (.lload 7, 2) := by decide +kernel
theorem dX0_addAmounts_46 : decode cX0_addAmounts 46 = .ok (.invokevirtual 61, 3) := by decide +kernel
theorem dX0_addAmounts_49 : decode cX0_addAmounts 49 = .ok (.iload 9, 2) := by decide +kernel
theorem dX0_addAmounts_51 : decode cX0_addAmounts 51 = .ok (.aload_n 0, 1) := by decide +kernel
theorem dX0_addAmounts_52 : decode cX0_addAmounts 52 = .ok (.lload 7, 2) := by decide +kernel
theorem dX0_addAmounts_54 : decode cX0_addAmounts 54 = .ok (.invokevirtual 57, 3) := by decide +kernel
theorem dX0_addAmounts_57 : decode cX0_addAmounts 57 = .ok (.isub, 1) := by decide +kernel
theorem dX0_addAmounts_58 : decode cX0_addAmounts 58 = .ok (.invokestatic 64, 3) := by decide +kernel
theorem dX0_addAmounts_61 : decode cX0_addAmounts 61 = .ok (.ladd, 1) := by decide +kernel
theorem dX0_addAmounts_62 : decode cX0_addAmounts 62 = .ok (.lstore 10, 2) := by decide +kernel
theorem dX0_addAmounts_64 : decode cX0_addAmounts 64 = .ok (.lload 10, 2) := by decide +kernel
theorem dX0_addAmounts_66 : decode cX0_addAmounts 66 = .ok (.aload_n 0, 1) := by decide +kernel
theorem dX0_addAmounts_67 : decode cX0_addAmounts 67 = .ok (.getfield 26, 3) := by decide +kernel
theorem dX0_addAmounts_70 : decode cX0_addAmounts 70 = .ok (.iconst 4, 1) := by decide +kernel
theorem dX0_addAmounts_71 : decode cX0_addAmounts 71 = .ok (.lshl, 1) := by decide +kernel
theorem dX0_addAmounts_72 : decode cX0_addAmounts 72 = .ok (.lcmp, 1) := by decide +kernel
theorem dX0_addAmounts_73 : decode cX0_addAmounts 73 = .ok (.ifCond .lt 7, 3) := by decide +kernel
theorem dX0_addAmounts_76 : decode cX0_addAmounts 76 = .ok (.iconst 1, 1) := by decide +kernel
theorem dX0_addAmounts_77 : decode cX0_addAmounts 77 = .ok (.goto 4, 3) := by decide +kernel
theorem dX0_addAmounts_80 : decode cX0_addAmounts 80 = .ok (.iconst 0, 1) := by decide +kernel
theorem dX0_addAmounts_81 : decode cX0_addAmounts 81 = .ok (.istore 12, 2) := by decide +kernel
theorem dX0_addAmounts_83 : decode cX0_addAmounts 83 = .ok (.iload 12, 2) := by decide +kernel
theorem dX0_addAmounts_85 : decode cX0_addAmounts 85 = .ok (.ifCond .eq 20, 3) := by decide +kernel
theorem dX0_addAmounts_88 : decode cX0_addAmounts 88 = .ok (.aload_n 0, 1) := by decide +kernel
theorem dX0_addAmounts_89 : decode cX0_addAmounts 89 = .ok (.iload 9, 2) := by decide +kernel
theorem dX0_addAmounts_91 : decode cX0_addAmounts 91 = .ok (.iconst 1, 1) := by decide +kernel
theorem dX0_addAmounts_92 : decode cX0_addAmounts 92 = .ok (.iadd, 1) := by decide +kernel
theorem dX0_addAmounts_93 : decode cX0_addAmounts 93 = .ok (.lload 10, 2) := by decide +kernel
theorem dX0_addAmounts_95 : decode cX0_addAmounts 95 = .ok (.iconst 1, 1) := by decide +kernel
theorem dX0_addAmounts_96 : decode cX0_addAmounts 96 = .ok (.invokestatic 64, 3) := by decide +kernel
theorem dX0_addAmounts_99 : decode cX0_addAmounts 99 = .ok (.invokevirtual 68, 3) := by decide +kernel
theorem dX0_addAmounts_102 : decode cX0_addAmounts 102 = .ok (.goto 11, 3) := by decide +kernel
theorem dX0_addAmounts_105 : decode cX0_addAmounts 105 = .ok (.aload_n 0, 1) := by decide +kernel
theorem dX0_addAmounts_106 : decode cX0_addAmounts 106 = .ok (.iload 9, 2) := by decide +kernel
theorem dX0_addAmounts_108 : decode cX0_addAmounts 108 = .ok (.lload 10, 2) := by decide +kernel
theorem dX0_addAmounts_110 : decode cX0_addAmounts 110 = .ok (.invokevirtual 68, 3) := by decide +kernel
theorem dX0_addAmounts_113 : decode cX0_addAmounts 113 = .ok (.lreturn, 1) := by decide +kernel
theorem dX0_apart_0 : decode cX0_apart 0 = .ok (.aload_n 0, 1) := by decide +kernel
theorem dX0_apart_1 : decode cX0_apart 1 = .ok (.lload_n 1, 1) := by decide +kernel
theorem dX0_apart_2 : decode cX0_apart 2 = .ok (.invokevirtual 72, 3) := by decide +kernel
theorem dX0_apart_5 : decode cX0_apart 5 = .ok (.aload_n 0, 1) := by decide +kernel
theorem dX0_apart_6 : decode cX0_apart 6 = .ok (.lload_n 3, 1) := by decide +kernel
theorem dX0_apart_7 : decode cX0_apart 7 = .ok (.invokevirtual 72, 3) := by decide +kernel
theorem dX0_apart_10 : decode cX0_apart 10 = .ok (.lcmp, 1) := by decide +kernel
theorem dX0_apart_11 : decode cX0_apart 11 = .ok (.ifCond .ne 5, 3) := by decide +kernel
theorem dX0_apart_14 : decode cX0_apart 14 = .ok (.lconst 0, 1) := by decide +kernel
theorem dX0_apart_15 : decode cX0_apart 15 = .ok (.lreturn, 1) := by decide +kernel
theorem dX0_apart_16 : decode cX0_apart 16 = .ok (.lload_n 1, 1) := by decide +kernel
theorem dX0_apart_17 : decode cX0_apart 17 = .ok (.lconst 0, 1) := by decide +kernel
theorem dX0_apart_18 : decode cX0_apart 18 = .ok (.lcmp, 1) := by decide +kernel
theorem dX0_apart_19 : decode cX0_apart 19 = .ok (.ifCond .ge 7, 3) := by decide +kernel
theorem dX0_apart_22 : decode cX0_apart 22 = .ok (.iconst 1, 1) := by decide +kernel
theorem dX0_apart_23 : decode cX0_apart 23 = .ok (.goto 4, 3) := by decide +kernel
theorem dX0_apart_26 : decode cX0_apart 26 = .ok (.iconst 0, 1) := by decide +kernel
theorem dX0_apart_27 : decode cX0_apart 27 = .ok (.lload_n 3, 1) := by decide +kernel
theorem dX0_apart_28 : decode cX0_apart 28 = .ok (.lconst 0, 1) := by decide +kernel
theorem dX0_apart_29 : decode cX0_apart 29 = .ok (.lcmp, 1) := by decide +kernel
theorem dX0_apart_30 : decode cX0_apart 30 = .ok (.ifCond .ge 7, 3) := by decide +kernel
theorem dX0_apart_33 : decode cX0_apart 33 = .ok (.iconst 1, 1) := by decide +kernel
theorem dX0_apart_34 : decode cX0_apart 34 = .ok (.goto 4, 3) := by decide +kernel
theorem dX0_apart_37 : decode cX0_apart 37 = .ok (.iconst 0, 1) := by decide +kernel
theorem dX0_apart_38 : decode cX0_apart 38 = .ok (.if_icmp .eq 7, 3) := by decide +kernel
theorem dX0_apart_41 : decode cX0_apart 41 = .ok (.iconst 1, 1) := by decide +kernel
theorem dX0_apart_42 : decode cX0_apart 42 = .ok (.goto 4, 3) := by decide +kernel
theorem dX0_apart_45 : decode cX0_apart 45 = .ok (.iconst 0, 1) := by decide +kernel
theorem dX0_apart_46 : decode cX0_apart 46 = .ok (.istore 5, 2) := by decide +kernel
theorem dX0_apart_48 : decode cX0_apart 48 = .ok (.iload 5, 2) := by decide +kernel
theorem dX0_apart_50 : decode cX0_apart 50 = .ok (.ifCond .eq 20, 3) := by decide +kernel
theorem dX0_apart_53 : decode cX0_apart 53 = .ok (.aload_n 0, 1) := by decide +kernel
theorem dX0_apart_54 : decode cX0_apart 54 = .ok (.aload_n 0, 1) := by decide +kernel
theorem dX0_apart_55 : decode cX0_apart 55 = .ok (.lload_n 1, 1) := by decide +kernel
theorem dX0_apart_56 : decode cX0_apart 56 = .ok (.invokevirtual 39, 3) := by decide +kernel
theorem dX0_apart_59 : decode cX0_apart 59 = .ok (.aload_n 0, 1) := by decide +kernel
theorem dX0_apart_60 : decode cX0_apart 60 = .ok (.lload_n 3, 1) := by decide +kernel
theorem dX0_apart_61 : decode cX0_apart 61 = .ok (.invokevirtual 39, 3) := by decide +kernel
theorem dX0_apart_64 : decode cX0_apart 64 = .ok (.invokevirtual 75, 3) := by decide +kernel
theorem dX0_apart_67 : decode cX0_apart 67 = .ok (.goto 17, 3) := by decide +kernel
theorem dX0_apart_70 : decode cX0_apart 70 = .ok (.aload_n 0, 1) := by decide +kernel
theorem dX0_apart_71 : decode cX0_apart 71 = .ok (.aload_n 0, 1) := by decide +kernel
theorem dX0_apart_72 : decode cX0_apart 72 = .ok (.lload_n 1, 1) := by decide +kernel
theorem dX0_apart_73 : decode cX0_apart 73 = .ok (.invokevirtual 39, 3) := by decide +kernel
theorem dX0_apart_76 : decode cX0_apart 76 = .ok (.aload_n 0, 1) := by decide +kernel
theorem dX0_apart_77 : decode cX0_apart 77 = .ok (.lload_n 3, 1) := by decide +kernel
theorem dX0_apart_78 : decode cX0_apart 78 = .ok (.invokevirtual 39, 3) := by decide +kernel
theorem dX0_apart_81 : decode cX0_apart 81 = .ok (.invokevirtual 78, 3) := by decide +kernel
theorem dX0_apart_84 : decode cX0_apart 84 = .ok (.lreturn, 1) := by decide +kernel
theorem dX0_differenceOfAmounts_0 : decode cX0_differenceOfAmounts 0 = .ok (.lload_n 1, 1) := by decide +kernel
theorem dX0_differenceOfAmounts_1 : decode cX0_differenceOfAmounts 1 = .ok (.lload_n 3, 1) := by decide +kernel
theorem dX0_differenceOfAmounts_2 : decode cX0_differenceOfAmounts 2 = .ok (.invokestatic 48, 3) := by decide +kernel
theorem dX0_differenceOfAmounts_5 : decode cX0_differenceOfAmounts 5 = .ok (.lstore 5, 2) := by decide +kernel
theorem dX0_differenceOfAmounts_7 : decode cX0_differenceOfAmounts 7 = .ok (.lload_n 1, 1) := by decide +kernel
theorem dX0_differenceOfAmounts_8 : decode cX0_differenceOfAmounts 8 = .ok (.lload_n 3, 1) := by decide +kernel
theorem dX0_differenceOfAmounts_9 : decode cX0_differenceOfAmounts 9 = .ok (.invokestatic 54, 3) := by decide +kernel
theorem dX0_differenceOfAmounts_12 : decode cX0_differenceOfAmounts 12 = .ok (.lstore 7, 2) := by decide +kernel
theorem dX0_differenceOfAmounts_14 : decode cX0_differenceOfAmounts 14 = .ok (.lload 5, 2) := by decide +kernel
theorem dX0_differenceOfAmounts_16 : decode cX0_differenceOfAmounts 16 = .ok (.aload_n 0, 1) := by decide +kernel
theorem dX0_differenceOfAmounts_17 : decode cX0_differenceOfAmounts 17 = .ok (.getfield 36, 3) := by decide +kernel
theorem dX0_differenceOfAmounts_20 : decode cX0_differenceOfAmounts 20 = .ok (.lcmp, 1) := by decide +kernel
theorem dX0_differenceOfAmounts_21 : decode cX0_differenceOfAmounts 21 = .ok (.ifCond .ne 8, 3) := by decide +kernel
theorem dX0_differenceOfAmounts_24 : decode cX0_differenceOfAmounts 24 = .ok (.aload_n 0, 1) := by decide +kernel
theorem dX0_differenceOfAmounts_25 : decode cX0_differenceOfAmounts 25 = .ok (.getfield 36, 3) := by decide +kernel
theorem dX0_differenceOfAmounts_28 : decode cX0_differenceOfAmounts 28 = .ok (.lreturn, 1) := by decide +kernel
theorem dX0_differenceOfAmounts_29 : decode cX0_differenceOfAmounts 29 = .ok (.aload_n 0, 1) := by decide +kernel
theorem dX0_differenceOfAmounts_30 : decode cX0_differenceOfAmounts 30 = .ok (.lload 5, 2) := by decide +kernel
theorem dX0_differenceOfAmounts_32 : decode cX0_differenceOfAmounts 32 = .ok (.invokevirtual 57, 3) := by decide +kernel
theorem dX0_differenceOfAmounts_35 : decode cX0_differenceOfAmounts 35 = .ok (.istore 9, 2) := by decide +kernel
theorem dX0_differenceOfAmounts_37 : decode cX0_differenceOfAmounts 37 = .ok (.aload_n 0, 1) := by decide +kernel
theorem dX0_differenceOfAmounts_38 : decode cX0_differenceOfAmounts 38 = .ok (.lload 5, 2) := by decide +kernel
theorem dX0_differenceOfAmounts_40 : decode cX0_differenceOfAmounts 40 = .ok (.invokevirtual 61, 3) := by decide +kernel
theorem dX0_differenceOfAmounts_43 : decode cX0_differenceOfAmounts 43 = .ok (.aload_n 0, 1) := by decide +kernel
theorem dX0_differenceOfAmounts_44 : decode cX0_differenceOfAmounts 44 = .ok (.lload 7, 2) := by decide +kernel
theorem dX0_differenceOfAmounts_46 : decode cX0_differenceOfAmounts 46 = .ok (.invokevirtual 61, 3) := by decide +kernel
theorem dX0_differenceOfAmounts_49 : decode cX0_differenceOfAmounts 49 = .ok (.iload 9, 2) := by decide +kernel
theorem dX0_differenceOfAmounts_51 : decode cX0_differenceOfAmounts 51 = .ok (.aload_n 0, 1) := by decide +kernel
theorem dX0_differenceOfAmounts_52 : decode cX0_differenceOfAmounts 52 = .ok (.lload 7, 2) := by decide +kernel
theorem dX0_differenceOfAmounts_54 : decode cX0_differenceOfAmounts 54 = .ok (.invokevirtual 57, 3) := by decide +kernel
theorem dX0_differenceOfAmounts_57 : decode cX0_differenceOfAmounts 57 = .ok (.isub, 1) := by decide +kernel
theorem dX0_differenceOfAmounts_58 : decode cX0_differenceOfAmounts 58 = .ok (.invokestatic 64, 3) := by decide +kernel
theorem dX0_differenceOfAmounts_61 : decode cX0_differenceOfAmounts 61 = .ok (.lsub, 1) := by decide +kernel
theorem dX0_differenceOfAmounts_62 : decode cX0_differenceOfAmounts 62 = .ok (.lstore 10, 2) := by decide +kernel
theorem dX0_differenceOfAmounts_64 : decode cX0_differenceOfAmounts 64 = .ok (.lload 10, 2) := by decide +kernel
theorem dX0_differenceOfAmounts_66 : decode cX0_differenceOfAmounts 66 = .ok (.invokestatic 81, 3) := by decide +kernel
theorem dX0_differenceOfAmounts_69 : decode cX0_differenceOfAmounts 69 = .ok (.aload_n 0, 1) := by decide +kernel
theorem dX0_differenceOfAmounts_70 : decode cX0_differenceOfAmounts 70 = .ok (.getfield 26, 3) := by decide +kernel
theorem dX0_differenceOfAmounts_73 : decode cX0_differenceOfAmounts 73 = .ok (.iconst 3, 1) := by decide +kernel
theorem dX0_differenceOfAmounts_74 : decode cX0_differenceOfAmounts 74 = .ok (.lshl, 1) := by decide +kernel
theorem dX0_differenceOfAmounts_75 : decode cX0_differenceOfAmounts 75 = .ok (.invokestatic 81, 3) := by decide +kernel
theorem dX0_differenceOfAmounts_78 : decode cX0_differenceOfAmounts 78 = .ok (.isub, 1) := by decide +kernel
theorem dX0_differenceOfAmounts_79 : decode cX0_differenceOfAmounts 79 = .ok (.istore 12, 2) := by decide +kernel
theorem dX0_differenceOfAmounts_81 : decode cX0_differenceOfAmounts 81 = .ok (.iload 12, 2) := by decide +kernel
theorem dX0_differenceOfAmounts_83 : decode cX0_differenceOfAmounts 83 = .ok (.iload 9, 2) := by decide +kernel
theorem dX0_differenceOfAmounts_85 : decode cX0_differenceOfAmounts 85 = .ok (.iconst 1, 1) := by decide +kernel
theorem dX0_differenceOfAmounts_86 : decode cX0_differenceOfAmounts 86 = .ok (.isub, 1) := by decide +kernel
theorem dX0_differenceOfAmounts_87 : decode cX0_differenceOfAmounts 87 = .ok (.invokestatic 86, 3) := by decide +kernel
theorem dX0_differenceOfAmounts_90 : decode cX0_differenceOfAmounts 90 = .ok (.istore 13, 2) := by decide +kernel
theorem dX0_differenceOfAmounts_92 : decode cX0_differenceOfAmounts 92 = .ok (.aload_n 0, 1) := by decide +kernel
theorem dX0_differenceOfAmounts_93 : decode cX0_differenceOfAmounts 93 = .ok (.iload 9, 2) := by decide +kernel
theorem dX0_differenceOfAmounts_95 : decode cX0_differenceOfAmounts 95 = .ok (.iload 13, 2) := by decide +kernel
theorem dX0_differenceOfAmounts_97 : decode cX0_differenceOfAmounts 97 = .ok (.isub, 1) := by decide +kernel
theorem dX0_differenceOfAmounts_98 : decode cX0_differenceOfAmounts 98 = .ok (.lload 10, 2) := by decide +kernel
theorem dX0_differenceOfAmounts_100 : decode cX0_differenceOfAmounts 100 = .ok (.iload 13, 2) := by decide +kernel
theorem dX0_differenceOfAmounts_102 : decode cX0_differenceOfAmounts 102 = .ok (.lshl, 1) := by decide +kernel
theorem dX0_differenceOfAmounts_103 : decode cX0_differenceOfAmounts 103 = .ok (.invokevirtual 68, 3) := by decide +kernel
theorem dX0_differenceOfAmounts_106 : decode cX0_differenceOfAmounts 106 = .ok (.lreturn, 1) := by decide +kernel
theorem dX0_exponent_0 : decode cX0_exponent 0 = .ok (.lload_n 1, 1) := by decide +kernel
theorem dX0_exponent_1 : decode cX0_exponent 1 = .ok (.aload_n 0, 1) := by decide +kernel
theorem dX0_exponent_2 : decode cX0_exponent 2 = .ok (.getfield 26, 3) := by decide +kernel
theorem dX0_exponent_5 : decode cX0_exponent 5 = .ok (.lcmp, 1) := by decide +kernel
theorem dX0_exponent_6 : decode cX0_exponent 6 = .ok (.ifCond .ge 7, 3) := by decide +kernel
theorem dX0_exponent_9 : decode cX0_exponent 9 = .ok (.iconst 1, 1) := by decide +kernel
theorem dX0_exponent_10 : decode cX0_exponent 10 = .ok (.goto 10, 3) := by decide +kernel
theorem dX0_exponent_13 : decode cX0_exponent 13 = .ok (.lload_n 1, 1) := by decide +kernel
theorem dX0_exponent_14 : decode cX0_exponent 14 = .ok (.aload_n 0, 1) := by decide +kernel
theorem dX0_exponent_15 : decode cX0_exponent 15 = .ok (.getfield 19, 3) := by decide +kernel
theorem dX0_exponent_18 : decode cX0_exponent 18 = .ok (.lshr, 1) := by decide +kernel
theorem dX0_exponent_19 : decode cX0_exponent 19 = .ok (.l2i, 1) := by decide +kernel
theorem dX0_exponent_20 : decode cX0_exponent 20 = .ok (.ireturn, 1) := by decide +kernel
theorem dX0_digits_0 : decode cX0_digits 0 = .ok (.lload_n 1, 1) := by decide +kernel
theorem dX0_digits_1 : decode cX0_digits 1 = .ok (.aload_n 0, 1) := by decide +kernel
theorem dX0_digits_2 : decode cX0_digits 2 = .ok (.getfield 26, 3) := by decide +kernel
theorem dX0_digits_5 : decode cX0_digits 5 = .ok (.lcmp, 1) := by decide +kernel
theorem dX0_digits_6 : decode cX0_digits 6 = .ok (.ifCond .ge 7, 3) := by decide +kernel
theorem dX0_digits_9 : decode cX0_digits 9 = .ok (.lload_n 1, 1) := by decide +kernel
theorem dX0_digits_10 : decode cX0_digits 10 = .ok (.goto 16, 3) := by decide +kernel
theorem dX0_digits_13 : decode cX0_digits 13 = .ok (.lload_n 1, 1) := by decide +kernel
theorem dX0_digits_14 : decode cX0_digits 14 = .ok (.aload_n 0, 1) := by decide +kernel
theorem dX0_digits_15 : decode cX0_digits 15 = .ok (.getfield 26, 3) := by decide +kernel
theorem dX0_digits_18 : decode cX0_digits 18 = .ok (.lconst 1, 1) := by decide +kernel
theorem dX0_digits_19 : decode cX0_digits 19 = .ok (.lsub, 1) := by decide +kernel
theorem dX0_digits_20 : decode cX0_digits 20 = .ok (.land, 1) := by decide +kernel
theorem dX0_digits_21 : decode cX0_digits 21 = .ok (.aload_n 0, 1) := by decide +kernel
theorem dX0_digits_22 : decode cX0_digits 22 = .ok (.getfield 26, 3) := by decide +kernel
theorem dX0_digits_25 : decode cX0_digits 25 = .ok (.lor, 1) := by decide +kernel
theorem dX0_digits_26 : decode cX0_digits 26 = .ok (.lreturn, 1) := by decide +kernel
theorem dX0_guardedDigits_0 : decode cX0_guardedDigits 0 = .ok (.aload_n 0, 1) := by decide +kernel
theorem dX0_guardedDigits_1 : decode cX0_guardedDigits 1 = .ok (.lload_n 1, 1) := by decide +kernel
theorem dX0_guardedDigits_2 : decode cX0_guardedDigits 2 = .ok (.invokevirtual 89, 3) := by decide +kernel
theorem dX0_guardedDigits_5 : decode cX0_guardedDigits 5 = .ok (.iconst 3, 1) := by decide +kernel
theorem dX0_guardedDigits_6 : decode cX0_guardedDigits 6 = .ok (.lshl, 1) := by decide +kernel
theorem dX0_guardedDigits_7 : decode cX0_guardedDigits 7 = .ok (.lreturn, 1) := by decide +kernel
theorem dX0_shiftedDown_0 : decode cX0_shiftedDown 0 = .ok (.iload_n 2, 1) := by decide +kernel
theorem dX0_shiftedDown_1 : decode cX0_shiftedDown 1 = .ok (.bipush 64, 2) := by decide +kernel
theorem dX0_shiftedDown_3 : decode cX0_shiftedDown 3 = .ok (.if_icmp .lt 15, 3) := by decide +kernel
theorem dX0_shiftedDown_6 : decode cX0_shiftedDown 6 = .ok (.lload_n 0, 1) := by decide +kernel
theorem dX0_shiftedDown_7 : decode cX0_shiftedDown 7 = .ok (.lconst 0, 1) := by decide +kernel
theorem dX0_shiftedDown_8 : decode cX0_shiftedDown 8 = .ok (.lcmp, 1) := by decide +kernel
theorem dX0_shiftedDown_9 : decode cX0_shiftedDown 9 = .ok (.ifCond .ne 7, 3) := by decide +kernel
theorem dX0_shiftedDown_12 : decode cX0_shiftedDown 12 = .ok (.lconst 0, 1) := by decide +kernel
theorem dX0_shiftedDown_13 : decode cX0_shiftedDown 13 = .ok (.goto 4, 3) := by decide +kernel
theorem dX0_shiftedDown_16 : decode cX0_shiftedDown 16 = .ok (.lconst 1, 1) := by decide +kernel
theorem dX0_shiftedDown_17 : decode cX0_shiftedDown 17 = .ok (.lreturn, 1) := by decide +kernel
theorem dX0_shiftedDown_18 : decode cX0_shiftedDown 18 = .ok (.lload_n 0, 1) := by decide +kernel
theorem dX0_shiftedDown_19 : decode cX0_shiftedDown 19 = .ok (.iload_n 2, 1) := by decide +kernel
theorem dX0_shiftedDown_20 : decode cX0_shiftedDown 20 = .ok (.lshr, 1) := by decide +kernel
theorem dX0_shiftedDown_21 : decode cX0_shiftedDown 21 = .ok (.lstore_n 3, 1) := by decide +kernel
theorem dX0_shiftedDown_22 : decode cX0_shiftedDown 22 = .ok (.lload_n 3, 1) := by decide +kernel
theorem dX0_shiftedDown_23 : decode cX0_shiftedDown 23 = .ok (.iload_n 2, 1) := by decide +kernel
theorem dX0_shiftedDown_24 : decode cX0_shiftedDown 24 = .ok (.lshl, 1) := by decide +kernel
theorem dX0_shiftedDown_25 : decode cX0_shiftedDown 25 = .ok (.lload_n 0, 1) := by decide +kernel
theorem dX0_shiftedDown_26 : decode cX0_shiftedDown 26 = .ok (.lcmp, 1) := by decide +kernel
theorem dX0_shiftedDown_27 : decode cX0_shiftedDown 27 = .ok (.ifCond .ne 7, 3) := by decide +kernel
theorem dX0_shiftedDown_30 : decode cX0_shiftedDown 30 = .ok (.lload_n 3, 1) := by decide +kernel
theorem dX0_shiftedDown_31 : decode cX0_shiftedDown 31 = .ok (.goto 6, 3) := by decide +kernel
theorem dX0_shiftedDown_34 : decode cX0_shiftedDown 34 = .ok (.lload_n 3, 1) := by decide +kernel
theorem dX0_shiftedDown_35 : decode cX0_shiftedDown 35 = .ok (.lconst 1, 1) := by decide +kernel
theorem dX0_shiftedDown_36 : decode cX0_shiftedDown 36 = .ok (.lor, 1) := by decide +kernel
theorem dX0_shiftedDown_37 : decode cX0_shiftedDown 37 = .ok (.lreturn, 1) := by decide +kernel
theorem dX0_rounded_0 : decode cX0_rounded 0 = .ok (.iload_n 1, 1) := by decide +kernel
theorem dX0_rounded_1 : decode cX0_rounded 1 = .ok (.iconst 2, 1) := by decide +kernel
theorem dX0_rounded_2 : decode cX0_rounded 2 = .ok (.aload_n 0, 1) := by decide +kernel
theorem dX0_rounded_3 : decode cX0_rounded 3 = .ok (.getfield 23, 3) := by decide +kernel
theorem dX0_rounded_6 : decode cX0_rounded 6 = .ok (.imul, 1) := by decide +kernel
theorem dX0_rounded_7 : decode cX0_rounded 7 = .ok (.if_icmp .le 8, 3) := by decide +kernel
theorem dX0_rounded_10 : decode cX0_rounded 10 = .ok (.aload_n 0, 1) := by decide +kernel
theorem dX0_rounded_11 : decode cX0_rounded 11 = .ok (.getfield 36, 3) := by decide +kernel
theorem dX0_rounded_14 : decode cX0_rounded 14 = .ok (.lreturn, 1) := by decide +kernel
theorem dX0_rounded_15 : decode cX0_rounded 15 = .ok (.lload_n 2, 1) := by decide +kernel
theorem dX0_rounded_16 : decode cX0_rounded 16 = .ok (.iconst 3, 1) := by decide +kernel
theorem dX0_rounded_17 : decode cX0_rounded 17 = .ok (.lshr, 1) := by decide +kernel
theorem dX0_rounded_18 : decode cX0_rounded 18 = .ok (.lstore 4, 2) := by decide +kernel
theorem dX0_rounded_20 : decode cX0_rounded 20 = .ok (.lload_n 2, 1) := by decide +kernel
theorem dX0_rounded_21 : decode cX0_rounded 21 = .ok (.ldc2_w 92, 3) := by decide +kernel
theorem dX0_rounded_24 : decode cX0_rounded 24 = .ok (.land, 1) := by decide +kernel
theorem dX0_rounded_25 : decode cX0_rounded 25 = .ok (.lstore 6, 2) := by decide +kernel
theorem dX0_rounded_27 : decode cX0_rounded 27 = .ok (.lload 6, 2) := by decide +kernel
theorem dX0_rounded_29 : decode cX0_rounded 29 = .ok (.ldc2_w 94, 3) := by decide +kernel
theorem dX0_rounded_32 : decode cX0_rounded 32 = .ok (.lcmp, 1) := by decide +kernel
theorem dX0_rounded_33 : decode cX0_rounded 33 = .ok (.ifCond .gt 21, 3) := by decide +kernel
theorem dX0_rounded_36 : decode cX0_rounded 36 = .ok (.lload 6, 2) := by decide +kernel
theorem dX0_rounded_38 : decode cX0_rounded 38 = .ok (.ldc2_w 94, 3) := by decide +kernel
theorem dX0_rounded_41 : decode cX0_rounded 41 = .ok (.lcmp, 1) := by decide +kernel
theorem dX0_rounded_42 : decode cX0_rounded 42 = .ok (.ifCond .ne 16, 3) := by decide +kernel
theorem dX0_rounded_45 : decode cX0_rounded 45 = .ok (.lload 4, 2) := by decide +kernel
theorem dX0_rounded_47 : decode cX0_rounded 47 = .ok (.lconst 1, 1) := by decide +kernel
theorem dX0_rounded_48 : decode cX0_rounded 48 = .ok (.land, 1) := by decide +kernel
theorem dX0_rounded_49 : decode cX0_rounded 49 = .ok (.lconst 1, 1) := by decide +kernel
theorem dX0_rounded_50 : decode cX0_rounded 50 = .ok (.lcmp, 1) := by decide +kernel
theorem dX0_rounded_51 : decode cX0_rounded 51 = .ok (.ifCond .ne 7, 3) := by decide +kernel
theorem dX0_rounded_54 : decode cX0_rounded 54 = .ok (.iconst 1, 1) := by decide +kernel
theorem dX0_rounded_55 : decode cX0_rounded 55 = .ok (.goto 4, 3) := by decide +kernel
theorem dX0_rounded_58 : decode cX0_rounded 58 = .ok (.iconst 0, 1) := by decide +kernel
theorem dX0_rounded_59 : decode cX0_rounded 59 = .ok (.istore 8, 2) := by decide +kernel
theorem dX0_rounded_61 : decode cX0_rounded 61 = .ok (.iload_n 1, 1) := by decide +kernel
theorem dX0_rounded_62 : decode cX0_rounded 62 = .ok (.i2l, 1) := by decide +kernel
theorem dX0_rounded_63 : decode cX0_rounded 63 = .ok (.lconst 1, 1) := by decide +kernel
theorem dX0_rounded_64 : decode cX0_rounded 64 = .ok (.lsub, 1) := by decide +kernel
theorem dX0_rounded_65 : decode cX0_rounded 65 = .ok (.aload_n 0, 1) := by decide +kernel
theorem dX0_rounded_66 : decode cX0_rounded 66 = .ok (.getfield 19, 3) := by decide +kernel
theorem dX0_rounded_69 : decode cX0_rounded 69 = .ok (.lshl, 1) := by decide +kernel
theorem dX0_rounded_70 : decode cX0_rounded 70 = .ok (.lload 4, 2) := by decide +kernel
theorem dX0_rounded_72 : decode cX0_rounded 72 = .ok (.ladd, 1) := by decide +kernel
theorem dX0_rounded_73 : decode cX0_rounded 73 = .ok (.iload 8, 2) := by decide +kernel
theorem dX0_rounded_75 : decode cX0_rounded 75 = .ok (.ifCond .eq 7, 3) := by decide +kernel
theorem dX0_rounded_78 : decode cX0_rounded 78 = .ok (.iconst 1, 1) := by decide +kernel
theorem dX0_rounded_79 : decode cX0_rounded 79 = .ok (.goto 4, 3) := by decide +kernel
theorem dX0_rounded_82 : decode cX0_rounded 82 = .ok (.iconst 0, 1) := by decide +kernel
theorem dX0_rounded_83 : decode cX0_rounded 83 = .ok (.i2l, 1) := by decide +kernel
theorem dX0_rounded_84 : decode cX0_rounded 84 = .ok (.ladd, 1) := by decide +kernel
theorem dX0_rounded_85 : decode cX0_rounded 85 = .ok (.lreturn, 1) := by decide +kernel
theorem dX0_asInt_0 : decode cX0_asInt 0 = .ok (.aload_n 0, 1) := by decide +kernel
theorem dX0_asInt_1 : decode cX0_asInt 1 = .ok (.lload_n 1, 1) := by decide +kernel
theorem dX0_asInt_2 : decode cX0_asInt 2 = .ok (.invokevirtual 39, 3) := by decide +kernel
theorem dX0_asInt_5 : decode cX0_asInt 5 = .ok (.lstore_n 3, 1) := by decide +kernel
theorem dX0_asInt_6 : decode cX0_asInt 6 = .ok (.lload_n 3, 1) := by decide +kernel
theorem dX0_asInt_7 : decode cX0_asInt 7 = .ok (.aload_n 0, 1) := by decide +kernel
theorem dX0_asInt_8 : decode cX0_asInt 8 = .ok (.getfield 33, 3) := by decide +kernel
theorem dX0_asInt_11 : decode cX0_asInt 11 = .ok (.lcmp, 1) := by decide +kernel
theorem dX0_asInt_12 : decode cX0_asInt 12 = .ok (.ifCond .ge 5, 3) := by decide +kernel
theorem dX0_asInt_15 : decode cX0_asInt 15 = .ok (.iconst 0, 1) := by decide +kernel
theorem dX0_asInt_16 : decode cX0_asInt 16 = .ok (.ireturn, 1) := by decide +kernel
theorem dX0_asInt_17 : decode cX0_asInt 17 = .ok (.aload_n 0, 1) := by decide +kernel
theorem dX0_asInt_18 : decode cX0_asInt 18 = .ok (.lload_n 3, 1) := by decide +kernel
theorem dX0_asInt_19 : decode cX0_asInt 19 = .ok (.invokevirtual 57, 3) := by decide +kernel
theorem dX0_asInt_22 : decode cX0_asInt 22 = .ok (.aload_n 0, 1) := by decide +kernel
theorem dX0_asInt_23 : decode cX0_asInt 23 = .ok (.getfield 23, 3) := by decide +kernel
theorem dX0_asInt_26 : decode cX0_asInt 26 = .ok (.isub, 1) := by decide +kernel
theorem dX0_asInt_27 : decode cX0_asInt 27 = .ok (.istore 5, 2) := by decide +kernel
theorem dX0_asInt_29 : decode cX0_asInt 29 = .ok (.iload 5, 2) := by decide +kernel
theorem dX0_asInt_31 : decode cX0_asInt 31 = .ok (.bipush 31, 2) := by decide +kernel
theorem dX0_asInt_33 : decode cX0_asInt 33 = .ok (.if_icmp .lt 17, 3) := by decide +kernel
theorem dX0_asInt_36 : decode cX0_asInt 36 = .ok (.lload_n 1, 1) := by decide +kernel
theorem dX0_asInt_37 : decode cX0_asInt 37 = .ok (.lconst 0, 1) := by decide +kernel
theorem dX0_asInt_38 : decode cX0_asInt 38 = .ok (.lcmp, 1) := by decide +kernel
theorem dX0_asInt_39 : decode cX0_asInt 39 = .ok (.ifCond .ge 8, 3) := by decide +kernel
theorem dX0_asInt_42 : decode cX0_asInt 42 = .ok (.ldc 96, 2) := by decide +kernel
theorem dX0_asInt_44 : decode cX0_asInt 44 = .ok (.goto 5, 3) := by decide +kernel
theorem dX0_asInt_47 : decode cX0_asInt 47 = .ok (.ldc 97, 2) := by decide +kernel
theorem dX0_asInt_49 : decode cX0_asInt 49 = .ok (.ireturn, 1) := by decide +kernel
theorem dX0_asInt_50 : decode cX0_asInt 50 = .ok (.iload 5, 2) := by decide +kernel
theorem dX0_asInt_52 : decode cX0_asInt 52 = .ok (.aload_n 0, 1) := by decide +kernel
theorem dX0_asInt_53 : decode cX0_asInt 53 = .ok (.getfield 19, 3) := by decide +kernel
theorem dX0_asInt_56 : decode cX0_asInt 56 = .ok (.isub, 1) := by decide +kernel
theorem dX0_asInt_57 : decode cX0_asInt 57 = .ok (.istore 6, 2) := by decide +kernel
theorem dX0_asInt_59 : decode cX0_asInt 59 = .ok (.iload 6, 2) := by decide +kernel
theorem dX0_asInt_61 : decode cX0_asInt 61 = .ok (.ifCond .lt 14, 3) := by decide +kernel
theorem dX0_asInt_64 : decode cX0_asInt 64 = .ok (.aload_n 0, 1) := by decide +kernel
theorem dX0_asInt_65 : decode cX0_asInt 65 = .ok (.lload_n 3, 1) := by decide +kernel
theorem dX0_asInt_66 : decode cX0_asInt 66 = .ok (.invokevirtual 89, 3) := by decide +kernel
theorem dX0_asInt_69 : decode cX0_asInt 69 = .ok (.iload 6, 2) := by decide +kernel
theorem dX0_asInt_71 : decode cX0_asInt 71 = .ok (.lshl, 1) := by decide +kernel
theorem dX0_asInt_72 : decode cX0_asInt 72 = .ok (.goto 12, 3) := by decide +kernel
theorem dX0_asInt_75 : decode cX0_asInt 75 = .ok (.aload_n 0, 1) := by decide +kernel
theorem dX0_asInt_76 : decode cX0_asInt 76 = .ok (.lload_n 3, 1) := by decide +kernel
theorem dX0_asInt_77 : decode cX0_asInt 77 = .ok (.invokevirtual 89, 3) := by decide +kernel
theorem dX0_asInt_80 : decode cX0_asInt 80 = .ok (.iload 6, 2) := by decide +kernel
theorem dX0_asInt_82 : decode cX0_asInt 82 = .ok (.ineg, 1) := by decide +kernel
theorem dX0_asInt_83 : decode cX0_asInt 83 = .ok (.lshr, 1) := by decide +kernel
theorem dX0_asInt_84 : decode cX0_asInt 84 = .ok (.lstore 7, 2) := by decide +kernel
theorem dX0_asInt_86 : decode cX0_asInt 86 = .ok (.lload_n 1, 1) := by decide +kernel
theorem dX0_asInt_87 : decode cX0_asInt 87 = .ok (.lconst 0, 1) := by decide +kernel
theorem dX0_asInt_88 : decode cX0_asInt 88 = .ok (.lcmp, 1) := by decide +kernel
theorem dX0_asInt_89 : decode cX0_asInt 89 = .ok (.ifCond .ge 9, 3) := by decide +kernel
theorem dX0_asInt_92 : decode cX0_asInt 92 = .ok (.lload 7, 2) := by decide +kernel
theorem dX0_asInt_94 : decode cX0_asInt 94 = .ok (.lneg, 1) := by decide +kernel
theorem dX0_asInt_95 : decode cX0_asInt 95 = .ok (.goto 5, 3) := by decide +kernel
theorem dX0_asInt_98 : decode cX0_asInt 98 = .ok (.lload 7, 2) := by decide +kernel
theorem dX0_asInt_100 : decode cX0_asInt 100 = .ok (.l2i, 1) := by decide +kernel
theorem dX0_asInt_101 : decode cX0_asInt 101 = .ok (.ireturn, 1) := by decide +kernel
theorem dX0_afterFurtherStep_0 : decode cX0_afterFurtherStep 0 = .ok (.iload_n 1, 1) := by decide +kernel
theorem dX0_afterFurtherStep_1 : decode cX0_afterFurtherStep 1 = .ok (.tableswitch 152 3 7 #[35, 68, 101, 116, 140], 35) := by decide +kernel
theorem dX0_afterFurtherStep_36 : decode cX0_afterFurtherStep 36 = .ok (.aload_n 0, 1) := by decide +kernel
theorem dX0_afterFurtherStep_37 : decode cX0_afterFurtherStep 37 = .ok (.lload_n 2, 1) := by decide +kernel
theorem dX0_afterFurtherStep_38 : decode cX0_afterFurtherStep 38 = .ok (.lload_n 2, 1) := by decide +kernel
theorem dX0_afterFurtherStep_39 : decode cX0_afterFurtherStep 39 = .ok (.lconst 0, 1) := by decide +kernel
theorem dX0_afterFurtherStep_40 : decode cX0_afterFurtherStep 40 = .ok (.lcmp, 1) := by decide +kernel
theorem dX0_afterFurtherStep_41 : decode cX0_afterFurtherStep 41 = .ok (.ifCond .ge 15, 3) := by decide +kernel
theorem dX0_afterFurtherStep_44 : decode cX0_afterFurtherStep 44 = .ok (.aload_n 0, 1) := by decide +kernel
theorem dX0_afterFurtherStep_45 : decode cX0_afterFurtherStep 45 = .ok (.aload_n 0, 1) := by decide +kernel
theorem dX0_afterFurtherStep_46 : decode cX0_afterFurtherStep 46 = .ok (.lload_n 2, 1) := by decide +kernel
theorem dX0_afterFurtherStep_47 : decode cX0_afterFurtherStep 47 = .ok (.invokevirtual 39, 3) := by decide +kernel
theorem dX0_afterFurtherStep_50 : decode cX0_afterFurtherStep 50 = .ok (.invokevirtual 98, 3) := by decide +kernel
theorem dX0_afterFurtherStep_53 : decode cX0_afterFurtherStep 53 = .ok (.goto 12, 3) := by decide +kernel
theorem dX0_afterFurtherStep_56 : decode cX0_afterFurtherStep 56 = .ok (.aload_n 0, 1) := by decide +kernel
theorem dX0_afterFurtherStep_57 : decode cX0_afterFurtherStep 57 = .ok (.aload_n 0, 1) := by decide +kernel
theorem dX0_afterFurtherStep_58 : decode cX0_afterFurtherStep 58 = .ok (.lload_n 2, 1) := by decide +kernel
theorem dX0_afterFurtherStep_59 : decode cX0_afterFurtherStep 59 = .ok (.invokevirtual 39, 3) := by decide +kernel
theorem dX0_afterFurtherStep_62 : decode cX0_afterFurtherStep 62 = .ok (.invokevirtual 101, 3) := by decide +kernel
theorem dX0_afterFurtherStep_65 : decode cX0_afterFurtherStep 65 = .ok (.invokevirtual 104, 3) := by decide +kernel
theorem dX0_afterFurtherStep_68 : decode cX0_afterFurtherStep 68 = .ok (.lreturn, 1) := by decide +kernel
theorem dX0_afterFurtherStep_69 : decode cX0_afterFurtherStep 69 = .ok (.aload_n 0, 1) := by decide +kernel
theorem dX0_afterFurtherStep_70 : decode cX0_afterFurtherStep 70 = .ok (.lload_n 2, 1) := by decide +kernel
theorem dX0_afterFurtherStep_71 : decode cX0_afterFurtherStep 71 = .ok (.lload_n 2, 1) := by decide +kernel
theorem dX0_afterFurtherStep_72 : decode cX0_afterFurtherStep 72 = .ok (.lconst 0, 1) := by decide +kernel
theorem dX0_afterFurtherStep_73 : decode cX0_afterFurtherStep 73 = .ok (.lcmp, 1) := by decide +kernel
theorem dX0_afterFurtherStep_74 : decode cX0_afterFurtherStep 74 = .ok (.ifCond .ge 15, 3) := by decide +kernel
theorem dX0_afterFurtherStep_77 : decode cX0_afterFurtherStep 77 = .ok (.aload_n 0, 1) := by decide +kernel
theorem dX0_afterFurtherStep_78 : decode cX0_afterFurtherStep 78 = .ok (.aload_n 0, 1) := by decide +kernel
theorem dX0_afterFurtherStep_79 : decode cX0_afterFurtherStep 79 = .ok (.lload_n 2, 1) := by decide +kernel
theorem dX0_afterFurtherStep_80 : decode cX0_afterFurtherStep 80 = .ok (.invokevirtual 39, 3) := by decide +kernel
theorem dX0_afterFurtherStep_83 : decode cX0_afterFurtherStep 83 = .ok (.invokevirtual 101, 3) := by decide +kernel
theorem dX0_afterFurtherStep_86 : decode cX0_afterFurtherStep 86 = .ok (.goto 12, 3) := by decide +kernel
theorem dX0_afterFurtherStep_89 : decode cX0_afterFurtherStep 89 = .ok (.aload_n 0, 1) := by decide +kernel
theorem dX0_afterFurtherStep_90 : decode cX0_afterFurtherStep 90 = .ok (.aload_n 0, 1) := by decide +kernel
theorem dX0_afterFurtherStep_91 : decode cX0_afterFurtherStep 91 = .ok (.lload_n 2, 1) := by decide +kernel
theorem dX0_afterFurtherStep_92 : decode cX0_afterFurtherStep 92 = .ok (.invokevirtual 39, 3) := by decide +kernel
theorem dX0_afterFurtherStep_95 : decode cX0_afterFurtherStep 95 = .ok (.invokevirtual 98, 3) := by decide +kernel
theorem dX0_afterFurtherStep_98 : decode cX0_afterFurtherStep 98 = .ok (.invokevirtual 104, 3) := by decide +kernel
theorem dX0_afterFurtherStep_101 : decode cX0_afterFurtherStep 101 = .ok (.lreturn, 1) := by decide +kernel
theorem dX0_afterFurtherStep_102 : decode cX0_afterFurtherStep 102 = .ok (.aload_n 0, 1) := by decide +kernel
theorem dX0_afterFurtherStep_103 : decode cX0_afterFurtherStep 103 = .ok (.lload_n 2, 1) := by decide +kernel
theorem dX0_afterFurtherStep_104 : decode cX0_afterFurtherStep 104 = .ok (.aload_n 0, 1) := by decide +kernel
theorem dX0_afterFurtherStep_105 : decode cX0_afterFurtherStep 105 = .ok (.aload_n 0, 1) := by decide +kernel
theorem dX0_afterFurtherStep_106 : decode cX0_afterFurtherStep 106 = .ok (.lload_n 2, 1) := by decide +kernel
theorem dX0_afterFurtherStep_107 : decode cX0_afterFurtherStep 107 = .ok (.invokevirtual 39, 3) := by decide +kernel
theorem dX0_afterFurtherStep_110 : decode cX0_afterFurtherStep 110 = .ok (.invokevirtual 107, 3) := by decide +kernel
theorem dX0_afterFurtherStep_113 : decode cX0_afterFurtherStep 113 = .ok (.invokevirtual 104, 3) := by decide +kernel
theorem dX0_afterFurtherStep_116 : decode cX0_afterFurtherStep 116 = .ok (.lreturn, 1) := by decide +kernel
theorem dX0_afterFurtherStep_117 : decode cX0_afterFurtherStep 117 = .ok (.aload_n 0, 1) := by decide +kernel
theorem dX0_afterFurtherStep_118 : decode cX0_afterFurtherStep 118 = .ok (.lload_n 2, 1) := by decide +kernel
theorem dX0_afterFurtherStep_119 : decode cX0_afterFurtherStep 119 = .ok (.invokevirtual 39, 3) := by decide +kernel
theorem dX0_afterFurtherStep_122 : decode cX0_afterFurtherStep 122 = .ok (.lconst 0, 1) := by decide +kernel
theorem dX0_afterFurtherStep_123 : decode cX0_afterFurtherStep 123 = .ok (.lcmp, 1) := by decide +kernel
theorem dX0_afterFurtherStep_124 : decode cX0_afterFurtherStep 124 = .ok (.ifCond .ne 7, 3) := by decide +kernel
theorem dX0_afterFurtherStep_127 : decode cX0_afterFurtherStep 127 = .ok (.lload_n 2, 1) := by decide +kernel
theorem dX0_afterFurtherStep_128 : decode cX0_afterFurtherStep 128 = .ok (.goto 12, 3) := by decide +kernel
theorem dX0_afterFurtherStep_131 : decode cX0_afterFurtherStep 131 = .ok (.aload_n 0, 1) := by decide +kernel
theorem dX0_afterFurtherStep_132 : decode cX0_afterFurtherStep 132 = .ok (.lload_n 2, 1) := by decide +kernel
theorem dX0_afterFurtherStep_133 : decode cX0_afterFurtherStep 133 = .ok (.aload_n 0, 1) := by decide +kernel
theorem dX0_afterFurtherStep_134 : decode cX0_afterFurtherStep 134 = .ok (.getfield 33, 3) := by decide +kernel
theorem dX0_afterFurtherStep_137 : decode cX0_afterFurtherStep 137 = .ok (.invokevirtual 104, 3) := by decide +kernel
theorem dX0_afterFurtherStep_140 : decode cX0_afterFurtherStep 140 = .ok (.lreturn, 1) := by decide +kernel
theorem dX0_afterFurtherStep_141 : decode cX0_afterFurtherStep 141 = .ok (.aload_n 0, 1) := by decide +kernel
theorem dX0_afterFurtherStep_142 : decode cX0_afterFurtherStep 142 = .ok (.lload 4, 2) := by decide +kernel
theorem dX0_afterFurtherStep_144 : decode cX0_afterFurtherStep 144 = .ok (.aload_n 0, 1) := by decide +kernel
theorem dX0_afterFurtherStep_145 : decode cX0_afterFurtherStep 145 = .ok (.lload_n 2, 1) := by decide +kernel
theorem dX0_afterFurtherStep_146 : decode cX0_afterFurtherStep 146 = .ok (.invokevirtual 39, 3) := by decide +kernel
theorem dX0_afterFurtherStep_149 : decode cX0_afterFurtherStep 149 = .ok (.invokevirtual 104, 3) := by decide +kernel
theorem dX0_afterFurtherStep_152 : decode cX0_afterFurtherStep 152 = .ok (.lreturn, 1) := by decide +kernel
theorem dX0_afterFurtherStep_153 : decode cX0_afterFurtherStep 153 = .ok (.lload_n 2, 1) := by decide +kernel
theorem dX0_afterFurtherStep_154 : decode cX0_afterFurtherStep 154 = .ok (.lreturn, 1) := by decide +kernel
theorem dX0_withSignOf_0 : decode cX0_withSignOf 0 = .ok (.lload_n 1, 1) := by decide +kernel
theorem dX0_withSignOf_1 : decode cX0_withSignOf 1 = .ok (.lconst 0, 1) := by decide +kernel
theorem dX0_withSignOf_2 : decode cX0_withSignOf 2 = .ok (.lcmp, 1) := by decide +kernel
theorem dX0_withSignOf_3 : decode cX0_withSignOf 3 = .ok (.ifCond .ge 12, 3) := by decide +kernel
theorem dX0_withSignOf_6 : decode cX0_withSignOf 6 = .ok (.lload_n 3, 1) := by decide +kernel
theorem dX0_withSignOf_7 : decode cX0_withSignOf 7 = .ok (.aload_n 0, 1) := by decide +kernel
theorem dX0_withSignOf_8 : decode cX0_withSignOf 8 = .ok (.getfield 43, 3) := by decide +kernel
theorem dX0_withSignOf_11 : decode cX0_withSignOf 11 = .ok (.lor, 1) := by decide +kernel
theorem dX0_withSignOf_12 : decode cX0_withSignOf 12 = .ok (.goto 4, 3) := by decide +kernel
theorem dX0_withSignOf_15 : decode cX0_withSignOf 15 = .ok (.lload_n 3, 1) := by decide +kernel
theorem dX0_withSignOf_16 : decode cX0_withSignOf 16 = .ok (.lreturn, 1) := by decide +kernel
theorem dX0_bitsBehindPoint_0 : decode cX0_bitsBehindPoint 0 = .ok (.aload_n 0, 1) := by decide +kernel
theorem dX0_bitsBehindPoint_1 : decode cX0_bitsBehindPoint 1 = .ok (.getfield 19, 3) := by decide +kernel
theorem dX0_bitsBehindPoint_4 : decode cX0_bitsBehindPoint 4 = .ok (.aload_n 0, 1) := by decide +kernel
theorem dX0_bitsBehindPoint_5 : decode cX0_bitsBehindPoint 5 = .ok (.getfield 23, 3) := by decide +kernel
theorem dX0_bitsBehindPoint_8 : decode cX0_bitsBehindPoint 8 = .ok (.iadd, 1) := by decide +kernel
theorem dX0_bitsBehindPoint_9 : decode cX0_bitsBehindPoint 9 = .ok (.lload_n 1, 1) := by decide +kernel
theorem dX0_bitsBehindPoint_10 : decode cX0_bitsBehindPoint 10 = .ok (.aload_n 0, 1) := by decide +kernel
theorem dX0_bitsBehindPoint_11 : decode cX0_bitsBehindPoint 11 = .ok (.getfield 19, 3) := by decide +kernel
theorem dX0_bitsBehindPoint_14 : decode cX0_bitsBehindPoint 14 = .ok (.lshr, 1) := by decide +kernel
theorem dX0_bitsBehindPoint_15 : decode cX0_bitsBehindPoint 15 = .ok (.l2i, 1) := by decide +kernel
theorem dX0_bitsBehindPoint_16 : decode cX0_bitsBehindPoint 16 = .ok (.isub, 1) := by decide +kernel
theorem dX0_bitsBehindPoint_17 : decode cX0_bitsBehindPoint 17 = .ok (.istore_n 3, 1) := by decide +kernel
theorem dX0_bitsBehindPoint_18 : decode cX0_bitsBehindPoint 18 = .ok (.iload_n 3, 1) := by decide +kernel
theorem dX0_bitsBehindPoint_19 : decode cX0_bitsBehindPoint 19 = .ok (.ifCond .le 7, 3) := by decide +kernel
theorem dX0_bitsBehindPoint_22 : decode cX0_bitsBehindPoint 22 = .ok (.iload_n 3, 1) := by decide +kernel
theorem dX0_bitsBehindPoint_23 : decode cX0_bitsBehindPoint 23 = .ok (.goto 4, 3) := by decide +kernel
theorem dX0_bitsBehindPoint_26 : decode cX0_bitsBehindPoint 26 = .ok (.iconst 0, 1) := by decide +kernel
theorem dX0_bitsBehindPoint_27 : decode cX0_bitsBehindPoint 27 = .ok (.ireturn, 1) := by decide +kernel
theorem dX0_wholeNotAbove_0 : decode cX0_wholeNotAbove 0 = .ok (.lload_n 1, 1) := by decide +kernel
theorem dX0_wholeNotAbove_1 : decode cX0_wholeNotAbove 1 = .ok (.aload_n 0, 1) := by decide +kernel
theorem dX0_wholeNotAbove_2 : decode cX0_wholeNotAbove 2 = .ok (.getfield 33, 3) := by decide +kernel
theorem dX0_wholeNotAbove_5 : decode cX0_wholeNotAbove 5 = .ok (.lcmp, 1) := by decide +kernel
theorem dX0_wholeNotAbove_6 : decode cX0_wholeNotAbove 6 = .ok (.ifCond .ge 5, 3) := by decide +kernel
theorem dX0_wholeNotAbove_9 : decode cX0_wholeNotAbove 9 = .ok (.lconst 0, 1) := by decide +kernel
theorem dX0_wholeNotAbove_10 : decode cX0_wholeNotAbove 10 = .ok (.lreturn, 1) := by decide +kernel
theorem dX0_wholeNotAbove_11 : decode cX0_wholeNotAbove 11 = .ok (.aload_n 0, 1) := by decide +kernel
theorem dX0_wholeNotAbove_12 : decode cX0_wholeNotAbove 12 = .ok (.lload_n 1, 1) := by decide +kernel
theorem dX0_wholeNotAbove_13 : decode cX0_wholeNotAbove 13 = .ok (.invokevirtual 110, 3) := by decide +kernel
theorem dX0_wholeNotAbove_16 : decode cX0_wholeNotAbove 16 = .ok (.istore_n 3, 1) := by decide +kernel
theorem dX0_wholeNotAbove_17 : decode cX0_wholeNotAbove 17 = .ok (.lload_n 1, 1) := by decide +kernel
theorem dX0_wholeNotAbove_18 : decode cX0_wholeNotAbove 18 = .ok (.iload_n 3, 1) := by decide +kernel
theorem dX0_wholeNotAbove_19 : decode cX0_wholeNotAbove 19 = .ok (.lshr, 1) := by decide +kernel
theorem dX0_wholeNotAbove_20 : decode cX0_wholeNotAbove 20 = .ok (.iload_n 3, 1) := by decide +kernel
theorem dX0_wholeNotAbove_21 : decode cX0_wholeNotAbove 21 = .ok (.lshl, 1) := by decide +kernel
theorem dX0_wholeNotAbove_22 : decode cX0_wholeNotAbove 22 = .ok (.lreturn, 1) := by decide +kernel
theorem dX0_wholeNotBelow_0 : decode cX0_wholeNotBelow 0 = .ok (.aload_n 0, 1) := by decide +kernel
theorem dX0_wholeNotBelow_1 : decode cX0_wholeNotBelow 1 = .ok (.lload_n 1, 1) := by decide +kernel
theorem dX0_wholeNotBelow_2 : decode cX0_wholeNotBelow 2 = .ok (.invokevirtual 101, 3) := by decide +kernel
theorem dX0_wholeNotBelow_5 : decode cX0_wholeNotBelow 5 = .ok (.lstore_n 3, 1) := by decide +kernel
theorem dX0_wholeNotBelow_6 : decode cX0_wholeNotBelow 6 = .ok (.lload_n 3, 1) := by decide +kernel
theorem dX0_wholeNotBelow_7 : decode cX0_wholeNotBelow 7 = .ok (.lload_n 1, 1) := by decide +kernel
theorem dX0_wholeNotBelow_8 : decode cX0_wholeNotBelow 8 = .ok (.lcmp, 1) := by decide +kernel
theorem dX0_wholeNotBelow_9 : decode cX0_wholeNotBelow 9 = .ok (.ifCond .ne 5, 3) := by decide +kernel
theorem dX0_wholeNotBelow_12 : decode cX0_wholeNotBelow 12 = .ok (.lload_n 1, 1) := by decide +kernel
theorem dX0_wholeNotBelow_13 : decode cX0_wholeNotBelow 13 = .ok (.lreturn, 1) := by decide +kernel
theorem dX0_wholeNotBelow_14 : decode cX0_wholeNotBelow 14 = .ok (.lload_n 1, 1) := by decide +kernel
theorem dX0_wholeNotBelow_15 : decode cX0_wholeNotBelow 15 = .ok (.aload_n 0, 1) := by decide +kernel
theorem dX0_wholeNotBelow_16 : decode cX0_wholeNotBelow 16 = .ok (.getfield 33, 3) := by decide +kernel
theorem dX0_wholeNotBelow_19 : decode cX0_wholeNotBelow 19 = .ok (.lcmp, 1) := by decide +kernel
theorem dX0_wholeNotBelow_20 : decode cX0_wholeNotBelow 20 = .ok (.ifCond .ge 10, 3) := by decide +kernel
theorem dX0_wholeNotBelow_23 : decode cX0_wholeNotBelow 23 = .ok (.aload_n 0, 1) := by decide +kernel
theorem dX0_wholeNotBelow_24 : decode cX0_wholeNotBelow 24 = .ok (.getfield 33, 3) := by decide +kernel
theorem dX0_wholeNotBelow_27 : decode cX0_wholeNotBelow 27 = .ok (.goto 12, 3) := by decide +kernel
theorem dX0_wholeNotBelow_30 : decode cX0_wholeNotBelow 30 = .ok (.lload_n 3, 1) := by decide +kernel
theorem dX0_wholeNotBelow_31 : decode cX0_wholeNotBelow 31 = .ok (.lconst 1, 1) := by decide +kernel
theorem dX0_wholeNotBelow_32 : decode cX0_wholeNotBelow 32 = .ok (.aload_n 0, 1) := by decide +kernel
theorem dX0_wholeNotBelow_33 : decode cX0_wholeNotBelow 33 = .ok (.lload_n 1, 1) := by decide +kernel
theorem dX0_wholeNotBelow_34 : decode cX0_wholeNotBelow 34 = .ok (.invokevirtual 110, 3) := by decide +kernel
theorem dX0_wholeNotBelow_37 : decode cX0_wholeNotBelow 37 = .ok (.lshl, 1) := by decide +kernel
theorem dX0_wholeNotBelow_38 : decode cX0_wholeNotBelow 38 = .ok (.ladd, 1) := by decide +kernel
theorem dX0_wholeNotBelow_39 : decode cX0_wholeNotBelow 39 = .ok (.lreturn, 1) := by decide +kernel
theorem dX0_wholeNearest_0 : decode cX0_wholeNearest 0 = .ok (.lload_n 1, 1) := by decide +kernel
theorem dX0_wholeNearest_1 : decode cX0_wholeNearest 1 = .ok (.aload_n 0, 1) := by decide +kernel
theorem dX0_wholeNearest_2 : decode cX0_wholeNearest 2 = .ok (.getfield 33, 3) := by decide +kernel
theorem dX0_wholeNearest_5 : decode cX0_wholeNearest 5 = .ok (.lcmp, 1) := by decide +kernel
theorem dX0_wholeNearest_6 : decode cX0_wholeNearest 6 = .ok (.ifCond .ge 21, 3) := by decide +kernel
theorem dX0_wholeNearest_9 : decode cX0_wholeNearest 9 = .ok (.lload_n 1, 1) := by decide +kernel
theorem dX0_wholeNearest_10 : decode cX0_wholeNearest 10 = .ok (.aload_n 0, 1) := by decide +kernel
theorem dX0_wholeNearest_11 : decode cX0_wholeNearest 11 = .ok (.getfield 30, 3) := by decide +kernel
theorem dX0_wholeNearest_14 : decode cX0_wholeNearest 14 = .ok (.lcmp, 1) := by decide +kernel
theorem dX0_wholeNearest_15 : decode cX0_wholeNearest 15 = .ok (.ifCond .le 10, 3) := by decide +kernel
theorem dX0_wholeNearest_18 : decode cX0_wholeNearest 18 = .ok (.aload_n 0, 1) := by decide +kernel
theorem dX0_wholeNearest_19 : decode cX0_wholeNearest 19 = .ok (.getfield 33, 3) := by decide +kernel
theorem dX0_wholeNearest_22 : decode cX0_wholeNearest 22 = .ok (.goto 4, 3) := by decide +kernel
theorem dX0_wholeNearest_25 : decode cX0_wholeNearest 25 = .ok (.lconst 0, 1) := by decide +kernel
theorem dX0_wholeNearest_26 : decode cX0_wholeNearest 26 = .ok (.lreturn, 1) := by decide +kernel
theorem dX0_wholeNearest_27 : decode cX0_wholeNearest 27 = .ok (.aload_n 0, 1) := by decide +kernel
theorem dX0_wholeNearest_28 : decode cX0_wholeNearest 28 = .ok (.lload_n 1, 1) := by decide +kernel
theorem dX0_wholeNearest_29 : decode cX0_wholeNearest 29 = .ok (.invokevirtual 110, 3) := by decide +kernel
theorem dX0_wholeNearest_32 : decode cX0_wholeNearest 32 = .ok (.istore_n 3, 1) := by decide +kernel
theorem dX0_wholeNearest_33 : decode cX0_wholeNearest 33 = .ok (.lconst 1, 1) := by decide +kernel
theorem dX0_wholeNearest_34 : decode cX0_wholeNearest 34 = .ok (.iload_n 3, 1) := by decide +kernel
theorem dX0_wholeNearest_35 : decode cX0_wholeNearest 35 = .ok (.lshl, 1) := by decide +kernel
theorem dX0_wholeNearest_36 : decode cX0_wholeNearest 36 = .ok (.lstore 4, 2) := by decide +kernel
theorem dX0_wholeNearest_38 : decode cX0_wholeNearest 38 = .ok (.lload_n 1, 1) := by decide +kernel
theorem dX0_wholeNearest_39 : decode cX0_wholeNearest 39 = .ok (.iload_n 3, 1) := by decide +kernel
theorem dX0_wholeNearest_40 : decode cX0_wholeNearest 40 = .ok (.lshr, 1) := by decide +kernel
theorem dX0_wholeNearest_41 : decode cX0_wholeNearest 41 = .ok (.iload_n 3, 1) := by decide +kernel
theorem dX0_wholeNearest_42 : decode cX0_wholeNearest 42 = .ok (.lshl, 1) := by decide +kernel
theorem dX0_wholeNearest_43 : decode cX0_wholeNearest 43 = .ok (.lstore 6, 2) := by decide +kernel
theorem dX0_wholeNearest_45 : decode cX0_wholeNearest 45 = .ok (.lload_n 1, 1) := by decide +kernel
theorem dX0_wholeNearest_46 : decode cX0_wholeNearest 46 = .ok (.lload 6, 2) := by decide +kernel
theorem dX0_wholeNearest_48 : decode cX0_wholeNearest 48 = .ok (.lsub, 1) := by decide +kernel
theorem dX0_wholeNearest_49 : decode cX0_wholeNearest 49 = .ok (.ldc2_w 113, 3) := by decide +kernel
theorem dX0_wholeNearest_52 : decode cX0_wholeNearest 52 = .ok (.lmul, 1) := by decide +kernel
theorem dX0_wholeNearest_53 : decode cX0_wholeNearest 53 = .ok (.lstore 8, 2) := by decide +kernel
theorem dX0_wholeNearest_55 : decode cX0_wholeNearest 55 = .ok (.lload 6, 2) := by decide +kernel
theorem dX0_wholeNearest_57 : decode cX0_wholeNearest 57 = .ok (.lload 4, 2) := by decide +kernel
theorem dX0_wholeNearest_59 : decode cX0_wholeNearest 59 = .ok (.land, 1) := by decide +kernel
theorem dX0_wholeNearest_60 : decode cX0_wholeNearest 60 = .ok (.lconst 0, 1) := by decide +kernel
theorem dX0_wholeNearest_61 : decode cX0_wholeNearest 61 = .ok (.lcmp, 1) := by decide +kernel
theorem dX0_wholeNearest_62 : decode cX0_wholeNearest 62 = .ok (.ifCond .eq 7, 3) := by decide +kernel
theorem dX0_wholeNearest_65 : decode cX0_wholeNearest 65 = .ok (.iconst 1, 1) := by decide +kernel
theorem dX0_wholeNearest_66 : decode cX0_wholeNearest 66 = .ok (.goto 4, 3) := by decide +kernel
theorem dX0_wholeNearest_69 : decode cX0_wholeNearest 69 = .ok (.iconst 0, 1) := by decide +kernel
theorem dX0_wholeNearest_70 : decode cX0_wholeNearest 70 = .ok (.istore 10, 2) := by decide +kernel
theorem dX0_wholeNearest_72 : decode cX0_wholeNearest 72 = .ok (.lload 8, 2) := by decide +kernel
theorem dX0_wholeNearest_74 : decode cX0_wholeNearest 74 = .ok (.lload 4, 2) := by decide +kernel
theorem dX0_wholeNearest_76 : decode cX0_wholeNearest 76 = .ok (.lcmp, 1) := by decide +kernel
theorem dX0_wholeNearest_77 : decode cX0_wholeNearest 77 = .ok (.ifCond .gt 16, 3) := by decide +kernel
theorem dX0_wholeNearest_80 : decode cX0_wholeNearest 80 = .ok (.lload 8, 2) := by decide +kernel
theorem dX0_wholeNearest_82 : decode cX0_wholeNearest 82 = .ok (.lload 4, 2) := by decide +kernel
theorem dX0_wholeNearest_84 : decode cX0_wholeNearest 84 = .ok (.lcmp, 1) := by decide +kernel
theorem dX0_wholeNearest_85 : decode cX0_wholeNearest 85 = .ok (.ifCond .ne 16, 3) := by decide +kernel
theorem dX0_wholeNearest_88 : decode cX0_wholeNearest 88 = .ok (.iload 10, 2) := by decide +kernel
theorem dX0_wholeNearest_90 : decode cX0_wholeNearest 90 = .ok (.ifCond .eq 11, 3) := by decide +kernel
theorem dX0_wholeNearest_93 : decode cX0_wholeNearest 93 = .ok (.lload 6, 2) := by decide +kernel
theorem dX0_wholeNearest_95 : decode cX0_wholeNearest 95 = .ok (.lload 4, 2) := by decide +kernel
theorem dX0_wholeNearest_97 : decode cX0_wholeNearest 97 = .ok (.ladd, 1) := by decide +kernel
theorem dX0_wholeNearest_98 : decode cX0_wholeNearest 98 = .ok (.goto 5, 3) := by decide +kernel
theorem dX0_wholeNearest_101 : decode cX0_wholeNearest 101 = .ok (.lload 6, 2) := by decide +kernel
theorem dX0_wholeNearest_103 : decode cX0_wholeNearest 103 = .ok (.lreturn, 1) := by decide +kernel
theorem dX1_init_0 : decode cX1_init 0 = .ok (.aload_n 0, 1) := by decide +kernel
theorem dX1_init_1 : decode cX1_init 1 = .ok (.invokespecial 3, 3) := by decide +kernel
theorem dX1_init_4 : decode cX1_init 4 = .ok (.aload_n 0, 1) := by decide +kernel
theorem dX1_init_5 : decode cX1_init 5 = .ok (.iload_n 1, 1) := by decide +kernel
theorem dX1_init_6 : decode cX1_init 6 = .ok (.putfield 9, 3) := by decide +kernel
theorem dX1_init_9 : decode cX1_init 9 = .ok (.aload_n 0, 1) := by decide +kernel
theorem dX1_init_10 : decode cX1_init 10 = .ok (.aload_n 2, 1) := by decide +kernel
theorem dX1_init_11 : decode cX1_init 11 = .ok (.putfield 15, 3) := by decide +kernel
theorem dX1_init_14 : decode cX1_init 14 = .ok (.aload_n 0, 1) := by decide +kernel
theorem dX1_init_15 : decode cX1_init 15 = .ok (.bipush 6, 2) := by decide +kernel
theorem dX1_init_17 : decode cX1_init 17 = .ok (.anewarray 19, 3) := by decide +kernel
theorem dX1_init_20 : decode cX1_init 20 = .ok (.putfield 21, 3) := by decide +kernel
theorem dX1_init_23 : decode cX1_init 23 = .ok (.aload_n 0, 1) := by decide +kernel
theorem dX1_init_24 : decode cX1_init 24 = .ok (.bipush 16, 2) := by decide +kernel
theorem dX1_init_26 : decode cX1_init 26 = .ok (.newarray .long, 2) := by decide +kernel
theorem dX1_init_28 : decode cX1_init 28 = .ok (.putfield 25, 3) := by decide +kernel
theorem dX1_init_31 : decode cX1_init 31 = .ok (.aload_n 0, 1) := by decide +kernel
theorem dX1_init_32 : decode cX1_init 32 = .ok (.aload_n 2, 1) := by decide +kernel
theorem dX1_init_33 : decode cX1_init 33 = .ok (.getfield 29, 3) := by decide +kernel
theorem dX1_init_36 : decode cX1_init 36 = .ok (.putfield 35, 3) := by decide +kernel
theorem dX1_init_39 : decode cX1_init 39 = .ok (.aload_n 0, 1) := by decide +kernel
theorem dX1_init_40 : decode cX1_init 40 = .ok (.aload_n 2, 1) := by decide +kernel
theorem dX1_init_41 : decode cX1_init 41 = .ok (.getfield 38, 3) := by decide +kernel
theorem dX1_init_44 : decode cX1_init 44 = .ok (.putfield 41, 3) := by decide +kernel
theorem dX1_init_47 : decode cX1_init 47 = .ok (.return_, 1) := by decide +kernel
theorem dX1_isChainFull_0 : decode cX1_isChainFull 0 = .ok (.aload_n 0, 1) := by decide +kernel
theorem dX1_isChainFull_1 : decode cX1_isChainFull 1 = .ok (.getfield 44, 3) := by decide +kernel
theorem dX1_isChainFull_4 : decode cX1_isChainFull 4 = .ok (.aload_n 0, 1) := by decide +kernel
theorem dX1_isChainFull_5 : decode cX1_isChainFull 5 = .ok (.getfield 21, 3) := by decide +kernel
theorem dX1_isChainFull_8 : decode cX1_isChainFull 8 = .ok (.arraylength, 1) := by decide +kernel
theorem dX1_isChainFull_9 : decode cX1_isChainFull 9 = .ok (.if_icmp .lt 7, 3) := by decide +kernel
theorem dX1_isChainFull_12 : decode cX1_isChainFull 12 = .ok (.iconst 1, 1) := by decide +kernel
theorem dX1_isChainFull_13 : decode cX1_isChainFull 13 = .ok (.goto 4, 3) := by decide +kernel
theorem dX1_isChainFull_16 : decode cX1_isChainFull 16 = .ok (.iconst 0, 1) := by decide +kernel
theorem dX1_isChainFull_17 : decode cX1_isChainFull 17 = .ok (.ireturn, 1) := by decide +kernel
theorem dX1_lengthenChain_0 : decode cX1_lengthenChain 0 = .ok (.aload_n 0, 1) := by decide +kernel
theorem dX1_lengthenChain_1 : decode cX1_lengthenChain 1 = .ok (.invokevirtual 47, 3) := by decide +kernel
theorem dX1_lengthenChain_4 : decode cX1_lengthenChain 4 = .ok (.ifCond .ne 23, 3) := by decide +kernel
theorem dX1_lengthenChain_7 : decode cX1_lengthenChain 7 = .ok (.aload_n 0, 1) := by decide +kernel
theorem dX1_lengthenChain_8 : decode cX1_lengthenChain 8 = .ok (.getfield 21, 3) := by decide +kernel
theorem dX1_lengthenChain_11 : decode cX1_lengthenChain 11 = .ok (.aload_n 0, 1) := by decide +kernel
theorem dX1_lengthenChain_12 : decode cX1_lengthenChain 12 = .ok (.getfield 44, 3) := by decide +kernel
theorem dX1_lengthenChain_15 : decode cX1_lengthenChain 15 = .ok (.aload_n 1, 1) := by decide +kernel
theorem dX1_lengthenChain_16 : decode cX1_lengthenChain 16 = .ok (.aastore, 1) := by decide +kernel
