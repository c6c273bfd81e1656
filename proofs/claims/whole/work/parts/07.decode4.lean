theorem dX6_tell_89 : decode cX6_tell 89 = .ok (.laload, 1) := by decide +kernel
theorem dX6_tell_90 : decode cX6_tell 90 = .ok (.goto 9, 3) := by decide +kernel
theorem dX6_tell_93 : decode cX6_tell 93 = .ok (.aload_n 0, 1) := by decide +kernel
theorem dX6_tell_94 : decode cX6_tell 94 = .ok (.getfield 47, 3) := by decide +kernel
theorem dX6_tell_97 : decode cX6_tell 97 = .ok (.iload_n 1, 1) := by decide +kernel
theorem dX6_tell_98 : decode cX6_tell 98 = .ok (.laload, 1) := by decide +kernel
theorem dX6_tell_99 : decode cX6_tell 99 = .ok (.lreturn, 1) := by decide +kernel
theorem dX6_whole_0 : decode cX6_whole 0 = .ok (.aload_n 0, 1) := by decide +kernel
theorem dX6_whole_1 : decode cX6_whole 1 = .ok (.iconst 0, 1) := by decide +kernel
theorem dX6_whole_2 : decode cX6_whole 2 = .ok (.putfield 53, 3) := by decide +kernel
theorem dX6_whole_5 : decode cX6_whole 5 = .ok (.aload_n 0, 1) := by decide +kernel
theorem dX6_whole_6 : decode cX6_whole 6 = .ok (.iload_n 1, 1) := by decide +kernel
theorem dX6_whole_7 : decode cX6_whole 7 = .ok (.invokevirtual 170, 3) := by decide +kernel
theorem dX6_whole_10 : decode cX6_whole 10 = .ok (.ifCond .ne 9, 3) := by decide +kernel
theorem dX6_whole_13 : decode cX6_whole 13 = .ok (.aload_n 0, 1) := by decide +kernel
theorem dX6_whole_14 : decode cX6_whole 14 = .ok (.iconst 1, 1) := by decide +kernel
theorem dX6_whole_15 : decode cX6_whole 15 = .ok (.invokevirtual 161, 3) := by decide +kernel
theorem dX6_whole_18 : decode cX6_whole 18 = .ok (.ireturn, 1) := by decide +kernel
theorem dX6_whole_19 : decode cX6_whole 19 = .ok (.aload_n 0, 1) := by decide +kernel
theorem dX6_whole_20 : decode cX6_whole 20 = .ok (.getfield 32, 3) := by decide +kernel
theorem dX6_whole_23 : decode cX6_whole 23 = .ok (.iload_n 1, 1) := by decide +kernel
theorem dX6_whole_24 : decode cX6_whole 24 = .ok (.iaload, 1) := by decide +kernel
theorem dX6_whole_25 : decode cX6_whole 25 = .ok (.ifCond .ne 9, 3) := by decide +kernel
theorem dX6_whole_28 : decode cX6_whole 28 = .ok (.aload_n 0, 1) := by decide +kernel
theorem dX6_whole_29 : decode cX6_whole 29 = .ok (.iconst 2, 1) := by decide +kernel
theorem dX6_whole_30 : decode cX6_whole 30 = .ok (.invokevirtual 161, 3) := by decide +kernel
theorem dX6_whole_33 : decode cX6_whole 33 = .ok (.ireturn, 1) := by decide +kernel
theorem dX6_whole_34 : decode cX6_whole 34 = .ok (.aload_n 0, 1) := by decide +kernel
theorem dX6_whole_35 : decode cX6_whole 35 = .ok (.iload_n 1, 1) := by decide +kernel
theorem dX6_whole_36 : decode cX6_whole 36 = .ok (.invokevirtual 191, 3) := by decide +kernel
theorem dX6_whole_39 : decode cX6_whole 39 = .ok (.lstore_n 2, 1) := by decide +kernel
theorem dX6_whole_40 : decode cX6_whole 40 = .ok (.aload_n 0, 1) := by decide +kernel
theorem dX6_whole_41 : decode cX6_whole 41 = .ok (.getfield 7, 3) := by decide +kernel
theorem dX6_whole_44 : decode cX6_whole 44 = .ok (.iload_n 1, 1) := by decide +kernel
theorem dX6_whole_45 : decode cX6_whole 45 = .ok (.iaload, 1) := by decide +kernel
theorem dX6_whole_46 : decode cX6_whole 46 = .ok (.iconst 2, 1) := by decide +kernel
theorem dX6_whole_47 : decode cX6_whole 47 = .ok (.if_icmp .ne 9, 3) := by decide +kernel
theorem dX6_whole_50 : decode cX6_whole 50 = .ok (.lload_n 2, 1) := by decide +kernel
theorem dX6_whole_51 : decode cX6_whole 51 = .ok (.invokestatic 146, 3) := by decide +kernel
theorem dX6_whole_54 : decode cX6_whole 54 = .ok (.f2i, 1) := by decide +kernel
theorem dX6_whole_55 : decode cX6_whole 55 = .ok (.ireturn, 1) := by decide +kernel
theorem dX6_whole_56 : decode cX6_whole 56 = .ok (.aload_n 0, 1) := by decide +kernel
theorem dX6_whole_57 : decode cX6_whole 57 = .ok (.getfield 7, 3) := by decide +kernel
theorem dX6_whole_60 : decode cX6_whole 60 = .ok (.iload_n 1, 1) := by decide +kernel
theorem dX6_whole_61 : decode cX6_whole 61 = .ok (.iaload, 1) := by decide +kernel
theorem dX6_whole_62 : decode cX6_whole 62 = .ok (.iconst 3, 1) := by decide +kernel
theorem dX6_whole_63 : decode cX6_whole 63 = .ok (.if_icmp .ne 9, 3) := by decide +kernel
theorem dX6_whole_66 : decode cX6_whole 66 = .ok (.lload_n 2, 1) := by decide +kernel
theorem dX6_whole_67 : decode cX6_whole 67 = .ok (.invokestatic 154, 3) := by decide +kernel
theorem dX6_whole_70 : decode cX6_whole 70 = .ok (.d2i, 1) := by decide +kernel
theorem dX6_whole_71 : decode cX6_whole 71 = .ok (.ireturn, 1) := by decide +kernel
theorem dX6_whole_72 : decode cX6_whole 72 = .ok (.lload_n 2, 1) := by decide +kernel
theorem dX6_whole_73 : decode cX6_whole 73 = .ok (.ldc2_w 164, 3) := by decide +kernel
theorem dX6_whole_76 : decode cX6_whole 76 = .ok (.lcmp, 1) := by decide +kernel
theorem dX6_whole_77 : decode cX6_whole 77 = .ok (.ifCond .ge 9, 3) := by decide +kernel
theorem dX6_whole_80 : decode cX6_whole 80 = .ok (.ldc2_w 164, 3) := by decide +kernel
theorem dX6_whole_83 : decode cX6_whole 83 = .ok (.goto 18, 3) := by decide +kernel
theorem dX6_whole_86 : decode cX6_whole 86 = .ok (.lload_n 2, 1) := by decide +kernel
theorem dX6_whole_87 : decode cX6_whole 87 = .ok (.ldc2_w 166, 3) := by decide +kernel
theorem dX6_whole_90 : decode cX6_whole 90 = .ok (.lcmp, 1) := by decide +kernel
theorem dX6_whole_91 : decode cX6_whole 91 = .ok (.ifCond .le 9, 3) := by decide +kernel
theorem dX6_whole_94 : decode cX6_whole 94 = .ok (.ldc2_w 166, 3) := by decide +kernel
theorem dX6_whole_97 : decode cX6_whole 97 = .ok (.goto 4, 3) := by decide +kernel
theorem dX6_whole_100 : decode cX6_whole 100 = .ok (.lload_n 2, 1) := by decide +kernel
theorem dX6_whole_101 : decode cX6_whole 101 = .ok (.l2i, 1) := by decide +kernel
theorem dX6_whole_102 : decode cX6_whole 102 = .ok (.ireturn, 1) := by decide +kernel
theorem dX6_widest_0 : decode cX6_widest 0 = .ok (.aload_n 0, 1) := by decide +kernel
theorem dX6_widest_1 : decode cX6_widest 1 = .ok (.iconst 0, 1) := by decide +kernel
theorem dX6_widest_2 : decode cX6_widest 2 = .ok (.putfield 53, 3) := by decide +kernel
theorem dX6_widest_5 : decode cX6_widest 5 = .ok (.iload_n 1, 1) := by decide +kernel
theorem dX6_widest_6 : decode cX6_widest 6 = .ok (.ifCond .lt 8, 3) := by decide +kernel
theorem dX6_widest_9 : decode cX6_widest 9 = .ok (.iload_n 1, 1) := by decide +kernel
theorem dX6_widest_10 : decode cX6_widest 10 = .ok (.iconst 3, 1) := by decide +kernel
theorem dX6_widest_11 : decode cX6_widest 11 = .ok (.if_icmp .le 10, 3) := by decide +kernel
theorem dX6_widest_14 : decode cX6_widest 14 = .ok (.aload_n 0, 1) := by decide +kernel
theorem dX6_widest_15 : decode cX6_widest 15 = .ok (.iconst 1, 1) := by decide +kernel
theorem dX6_widest_16 : decode cX6_widest 16 = .ok (.invokevirtual 161, 3) := by decide +kernel
theorem dX6_widest_19 : decode cX6_widest 19 = .ok (.i2l, 1) := by decide +kernel
theorem dX6_widest_20 : decode cX6_widest 20 = .ok (.lreturn, 1) := by decide +kernel
theorem dX6_widest_21 : decode cX6_widest 21 = .ok (.iconst 0, 1) := by decide +kernel
theorem dX6_widest_22 : decode cX6_widest 22 = .ok (.istore_n 2, 1) := by decide +kernel
theorem dX6_widest_23 : decode cX6_widest 23 = .ok (.lconst 0, 1) := by decide +kernel
theorem dX6_widest_24 : decode cX6_widest 24 = .ok (.lstore_n 3, 1) := by decide +kernel
theorem dX6_widest_25 : decode cX6_widest 25 = .ok (.iconst 0, 1) := by decide +kernel
theorem dX6_widest_26 : decode cX6_widest 26 = .ok (.istore 5, 2) := by decide +kernel
theorem dX6_widest_28 : decode cX6_widest 28 = .ok (.iload 5, 2) := by decide +kernel
theorem dX6_widest_30 : decode cX6_widest 30 = .ok (.aload_n 0, 1) := by decide +kernel
theorem dX6_widest_31 : decode cX6_widest 31 = .ok (.getfield 57, 3) := by decide +kernel
theorem dX6_widest_34 : decode cX6_widest 34 = .ok (.if_icmp .ge 59, 3) := by decide +kernel
theorem dX6_widest_37 : decode cX6_widest 37 = .ok (.aload_n 0, 1) := by decide +kernel
theorem dX6_widest_38 : decode cX6_widest 38 = .ok (.getfield 7, 3) := by decide +kernel
theorem dX6_widest_41 : decode cX6_widest 41 = .ok (.iload 5, 2) := by decide +kernel
theorem dX6_widest_43 : decode cX6_widest 43 = .ok (.iaload, 1) := by decide +kernel
theorem dX6_widest_44 : decode cX6_widest 44 = .ok (.iload_n 1, 1) := by decide +kernel
theorem dX6_widest_45 : decode cX6_widest 45 = .ok (.if_icmp .ne 42, 3) := by decide +kernel
theorem dX6_widest_48 : decode cX6_widest 48 = .ok (.aload_n 0, 1) := by decide +kernel
theorem dX6_widest_49 : decode cX6_widest 49 = .ok (.getfield 32, 3) := by decide +kernel
theorem dX6_widest_52 : decode cX6_widest 52 = .ok (.iload 5, 2) := by decide +kernel
theorem dX6_widest_54 : decode cX6_widest 54 = .ok (.iaload, 1) := by decide +kernel
theorem dX6_widest_55 : decode cX6_widest 55 = .ok (.ifCond .le 32, 3) := by decide +kernel
theorem dX6_widest_58 : decode cX6_widest 58 = .ok (.iload_n 2, 1) := by decide +kernel
theorem dX6_widest_59 : decode cX6_widest 59 = .ok (.ifCond .eq 18, 3) := by decide +kernel
theorem dX6_widest_62 : decode cX6_widest 62 = .ok (.iload_n 1, 1) := by decide +kernel
theorem dX6_widest_63 : decode cX6_widest 63 = .ok (.lload_n 3, 1) := by decide +kernel
theorem dX6_widest_64 : decode cX6_widest 64 = .ok (.aload_n 0, 1) := by decide +kernel
theorem dX6_widest_65 : decode cX6_widest 65 = .ok (.getfield 44, 3) := by decide +kernel
theorem dX6_widest_68 : decode cX6_widest 68 = .ok (.iload 5, 2) := by decide +kernel
theorem dX6_widest_70 : decode cX6_widest 70 = .ok (.laload, 1) := by decide +kernel
theorem dX6_widest_71 : decode cX6_widest 71 = .ok (.invokestatic 123, 3) := by decide +kernel
theorem dX6_widest_74 : decode cX6_widest 74 = .ok (.goto 10, 3) := by decide +kernel
theorem dX6_widest_77 : decode cX6_widest 77 = .ok (.aload_n 0, 1) := by decide +kernel
theorem dX6_widest_78 : decode cX6_widest 78 = .ok (.getfield 44, 3) := by decide +kernel
theorem dX6_widest_81 : decode cX6_widest 81 = .ok (.iload 5, 2) := by decide +kernel
theorem dX6_widest_83 : decode cX6_widest 83 = .ok (.laload, 1) := by decide +kernel
theorem dX6_widest_84 : decode cX6_widest 84 = .ok (.lstore_n 3, 1) := by decide +kernel
theorem dX6_widest_85 : decode cX6_widest 85 = .ok (.iconst 1, 1) := by decide +kernel
theorem dX6_widest_86 : decode cX6_widest 86 = .ok (.istore_n 2, 1) := by decide +kernel
theorem dX6_widest_87 : decode cX6_widest 87 = .ok (.iinc 5 1, 3) := by decide +kernel
theorem dX6_widest_90 : decode cX6_widest 90 = .ok (.goto (-62), 3) := by decide +kernel
theorem dX6_widest_93 : decode cX6_widest 93 = .ok (.iload_n 2, 1) := by decide +kernel
theorem dX6_widest_94 : decode cX6_widest 94 = .ok (.ifCond .eq 7, 3) := by decide +kernel
theorem dX6_widest_97 : decode cX6_widest 97 = .ok (.lload_n 3, 1) := by decide +kernel
theorem dX6_widest_98 : decode cX6_widest 98 = .ok (.goto 9, 3) := by decide +kernel
theorem dX6_widest_101 : decode cX6_widest 101 = .ok (.aload_n 0, 1) := by decide +kernel
theorem dX6_widest_102 : decode cX6_widest 102 = .ok (.iconst 2, 1) := by decide +kernel
theorem dX6_widest_103 : decode cX6_widest 103 = .ok (.invokevirtual 161, 3) := by decide +kernel
theorem dX6_widest_106 : decode cX6_widest 106 = .ok (.i2l, 1) := by decide +kernel
theorem dX6_widest_107 : decode cX6_widest 107 = .ok (.lreturn, 1) := by decide +kernel
theorem dX6_alarms_0 : decode cX6_alarms 0 = .ok (.aload_n 0, 1) := by decide +kernel
theorem dX6_alarms_1 : decode cX6_alarms 1 = .ok (.iconst 0, 1) := by decide +kernel
theorem dX6_alarms_2 : decode cX6_alarms 2 = .ok (.putfield 53, 3) := by decide +kernel
theorem dX6_alarms_5 : decode cX6_alarms 5 = .ok (.aload_n 0, 1) := by decide +kernel
theorem dX6_alarms_6 : decode cX6_alarms 6 = .ok (.iload_n 1, 1) := by decide +kernel
theorem dX6_alarms_7 : decode cX6_alarms 7 = .ok (.invokevirtual 170, 3) := by decide +kernel
theorem dX6_alarms_10 : decode cX6_alarms 10 = .ok (.ifCond .eq 12, 3) := by decide +kernel
theorem dX6_alarms_13 : decode cX6_alarms 13 = .ok (.aload_n 0, 1) := by decide +kernel
theorem dX6_alarms_14 : decode cX6_alarms 14 = .ok (.getfield 50, 3) := by decide +kernel
theorem dX6_alarms_17 : decode cX6_alarms 17 = .ok (.iload_n 1, 1) := by decide +kernel
theorem dX6_alarms_18 : decode cX6_alarms 18 = .ok (.iaload, 1) := by decide +kernel
theorem dX6_alarms_19 : decode cX6_alarms 19 = .ok (.goto 8, 3) := by decide +kernel
theorem dX6_alarms_22 : decode cX6_alarms 22 = .ok (.aload_n 0, 1) := by decide +kernel
theorem dX6_alarms_23 : decode cX6_alarms 23 = .ok (.iconst 1, 1) := by decide +kernel
theorem dX6_alarms_24 : decode cX6_alarms 24 = .ok (.invokevirtual 161, 3) := by decide +kernel
theorem dX6_alarms_27 : decode cX6_alarms 27 = .ok (.ireturn, 1) := by decide +kernel
theorem dX6_count_0 : decode cX6_count 0 = .ok (.aload_n 0, 1) := by decide +kernel
theorem dX6_count_1 : decode cX6_count 1 = .ok (.iconst 0, 1) := by decide +kernel
theorem dX6_count_2 : decode cX6_count 2 = .ok (.putfield 53, 3) := by decide +kernel
theorem dX6_count_5 : decode cX6_count 5 = .ok (.iload_n 1, 1) := by decide +kernel
theorem dX6_count_6 : decode cX6_count 6 = .ok (.tableswitch 50 0 3 #[30, 35, 40, 45], 30) := by decide +kernel
theorem dX6_count_36 : decode cX6_count 36 = .ok (.aload_n 0, 1) := by decide +kernel
theorem dX6_count_37 : decode cX6_count 37 = .ok (.getfield 57, 3) := by decide +kernel
theorem dX6_count_40 : decode cX6_count 40 = .ok (.ireturn, 1) := by decide +kernel
theorem dX6_count_41 : decode cX6_count 41 = .ok (.aload_n 0, 1) := by decide +kernel
theorem dX6_count_42 : decode cX6_count 42 = .ok (.getfield 210, 3) := by decide +kernel
theorem dX6_count_45 : decode cX6_count 45 = .ok (.ireturn, 1) := by decide +kernel
theorem dX6_count_46 : decode cX6_count 46 = .ok (.aload_n 0, 1) := by decide +kernel
theorem dX6_count_47 : decode cX6_count 47 = .ok (.getfield 213, 3) := by decide +kernel
theorem dX6_count_50 : decode cX6_count 50 = .ok (.ireturn, 1) := by decide +kernel
theorem dX6_count_51 : decode cX6_count 51 = .ok (.aload_n 0, 1) := by decide +kernel
theorem dX6_count_52 : decode cX6_count 52 = .ok (.getfield 198, 3) := by decide +kernel
theorem dX6_count_55 : decode cX6_count 55 = .ok (.ireturn, 1) := by decide +kernel
theorem dX6_count_56 : decode cX6_count 56 = .ok (.iconst (-1), 1) := by decide +kernel
theorem dX6_count_57 : decode cX6_count 57 = .ok (.ireturn, 1) := by decide +kernel
theorem dJxe99ae_isNaN_b9ae7_0 : decode cJxe99ae_isNaN_b9ae7 0 = .ok (.dload_n 0, 1) := by decide +kernel
theorem dJxe99ae_isNaN_b9ae7_1 : decode cJxe99ae_isNaN_b9ae7 1 = .ok (.dload_n 0, 1) := by decide +kernel
theorem dJxe99ae_isNaN_b9ae7_2 : decode cJxe99ae_isNaN_b9ae7 2 = .ok (.dcmp .l, 1) := by decide +kernel
theorem dJxe99ae_isNaN_b9ae7_3 : decode cJxe99ae_isNaN_b9ae7 3 = .ok (.ifCond .eq 7, 3) := by decide +kernel
theorem dJxe99ae_isNaN_b9ae7_6 : decode cJxe99ae_isNaN_b9ae7 6 = .ok (.iconst 1, 1) := by decide +kernel
theorem dJxe99ae_isNaN_b9ae7_7 : decode cJxe99ae_isNaN_b9ae7 7 = .ok (.goto 4, 3) := by decide +kernel
theorem dJxe99ae_isNaN_b9ae7_10 : decode cJxe99ae_isNaN_b9ae7 10 = .ok (.iconst 0, 1) := by decide +kernel
theorem dJxe99ae_isNaN_b9ae7_11 : decode cJxe99ae_isNaN_b9ae7 11 = .ok (.ireturn, 1) := by decide +kernel
theorem dJxe99ae_doubleToLongBits_ccdee_0 : decode cJxe99ae_doubleToLongBits_ccdee 0 = .ok (.dload_n 0, 1) := by decide +kernel
theorem dJxe99ae_doubleToLongBits_ccdee_1 : decode cJxe99ae_doubleToLongBits_ccdee 1 = .ok (.invokestatic 122, 3) := by decide +kernel
theorem dJxe99ae_doubleToLongBits_ccdee_4 : decode cJxe99ae_doubleToLongBits_ccdee 4 = .ok (.ifCond .ne 8, 3) := by decide +kernel
theorem dJxe99ae_doubleToLongBits_ccdee_7 : decode cJxe99ae_doubleToLongBits_ccdee 7 = .ok (.dload_n 0, 1) := by decide +kernel
theorem dJxe99ae_doubleToLongBits_ccdee_8 : decode cJxe99ae_doubleToLongBits_ccdee 8 = .ok (.invokestatic 134, 3) := by decide +kernel
theorem dJxe99ae_doubleToLongBits_ccdee_11 : decode cJxe99ae_doubleToLongBits_ccdee 11 = .ok (.lreturn, 1) := by decide +kernel
theorem dJxe99ae_doubleToLongBits_ccdee_12 : decode cJxe99ae_doubleToLongBits_ccdee 12 = .ok (.ldc2_w 137, 3) := by decide +kernel
theorem dJxe99ae_doubleToLongBits_ccdee_15 : decode cJxe99ae_doubleToLongBits_ccdee 15 = .ok (.lreturn, 1) := by decide +kernel
theorem dJxf58ca_isNaN_12338_0 : decode cJxf58ca_isNaN_12338 0 = .ok (.fload_n 0, 1) := by decide +kernel
theorem dJxf58ca_isNaN_12338_1 : decode cJxf58ca_isNaN_12338 1 = .ok (.fload_n 0, 1) := by decide +kernel
theorem dJxf58ca_isNaN_12338_2 : decode cJxf58ca_isNaN_12338 2 = .ok (.fcmp .l, 1) := by decide +kernel
theorem dJxf58ca_isNaN_12338_3 : decode cJxf58ca_isNaN_12338 3 = .ok (.ifCond .eq 7, 3) := by decide +kernel
theorem dJxf58ca_isNaN_12338_6 : decode cJxf58ca_isNaN_12338 6 = .ok (.iconst 1, 1) := by decide +kernel
theorem dJxf58ca_isNaN_12338_7 : decode cJxf58ca_isNaN_12338 7 = .ok (.goto 4, 3) := by decide +kernel
theorem dJxf58ca_isNaN_12338_10 : decode cJxf58ca_isNaN_12338 10 = .ok (.iconst 0, 1) := by decide +kernel
theorem dJxf58ca_isNaN_12338_11 : decode cJxf58ca_isNaN_12338 11 = .ok (.ireturn, 1) := by decide +kernel
theorem dJxf58ca_floatToIntBits_5c35a_0 : decode cJxf58ca_floatToIntBits_5c35a 0 = .ok (.fload_n 0, 1) := by decide +kernel
theorem dJxf58ca_floatToIntBits_5c35a_1 : decode cJxf58ca_floatToIntBits_5c35a 1 = .ok (.invokestatic 59, 3) := by decide +kernel
theorem dJxf58ca_floatToIntBits_5c35a_4 : decode cJxf58ca_floatToIntBits_5c35a 4 = .ok (.ifCond .ne 8, 3) := by decide +kernel
theorem dJxf58ca_floatToIntBits_5c35a_7 : decode cJxf58ca_floatToIntBits_5c35a 7 = .ok (.fload_n 0, 1) := by decide +kernel
theorem dJxf58ca_floatToIntBits_5c35a_8 : decode cJxf58ca_floatToIntBits_5c35a 8 = .ok (.invokestatic 74, 3) := by decide +kernel
theorem dJxf58ca_floatToIntBits_5c35a_11 : decode cJxf58ca_floatToIntBits_5c35a 11 = .ok (.ireturn, 1) := by decide +kernel
theorem dJxf58ca_floatToIntBits_5c35a_12 : decode cJxf58ca_floatToIntBits_5c35a 12 = .ok (.ldc 77, 2) := by decide +kernel
theorem dJxf58ca_floatToIntBits_5c35a_14 : decode cJxf58ca_floatToIntBits_5c35a 14 = .ok (.ireturn, 1) := by decide +kernel
theorem dJ6_numberOfLeadingZeros_0f7a4_0 : decode cJ6_numberOfLeadingZeros_0f7a4 0 = .ok (.iload_n 0, 1) := by decide +kernel
theorem dJ6_numberOfLeadingZeros_0f7a4_1 : decode cJ6_numberOfLeadingZeros_0f7a4 1 = .ok (.ifCond .gt 14, 3) := by decide +kernel
theorem dJ6_numberOfLeadingZeros_0f7a4_4 : decode cJ6_numberOfLeadingZeros_0f7a4 4 = .ok (.iload_n 0, 1) := by decide +kernel
theorem dJ6_numberOfLeadingZeros_0f7a4_5 : decode cJ6_numberOfLeadingZeros_0f7a4 5 = .ok (.ifCond .ne 8, 3) := by decide +kernel
theorem dJ6_numberOfLeadingZeros_0f7a4_8 : decode cJ6_numberOfLeadingZeros_0f7a4 8 = .ok (.bipush 32, 2) := by decide +kernel
theorem dJ6_numberOfLeadingZeros_0f7a4_10 : decode cJ6_numberOfLeadingZeros_0f7a4 10 = .ok (.goto 4, 3) := by decide +kernel
theorem dJ6_numberOfLeadingZeros_0f7a4_13 : decode cJ6_numberOfLeadingZeros_0f7a4 13 = .ok (.iconst 0, 1) := by decide +kernel
theorem dJ6_numberOfLeadingZeros_0f7a4_14 : decode cJ6_numberOfLeadingZeros_0f7a4 14 = .ok (.ireturn, 1) := by decide +kernel
theorem dJ6_numberOfLeadingZeros_0f7a4_15 : decode cJ6_numberOfLeadingZeros_0f7a4 15 = .ok (.bipush 31, 2) := by decide +kernel
theorem dJ6_numberOfLeadingZeros_0f7a4_17 : decode cJ6_numberOfLeadingZeros_0f7a4 17 = .ok (.istore_n 1, 1) := by decide +kernel
theorem dJ6_numberOfLeadingZeros_0f7a4_18 : decode cJ6_numberOfLeadingZeros_0f7a4 18 = .ok (.iload_n 0, 1) := by decide +kernel
theorem dJ6_numberOfLeadingZeros_0f7a4_19 : decode cJ6_numberOfLeadingZeros_0f7a4 19 = .ok (.ldc_w 264, 3) := by decide +kernel
theorem dJ6_numberOfLeadingZeros_0f7a4_22 : decode cJ6_numberOfLeadingZeros_0f7a4 22 = .ok (.if_icmp .lt 11, 3) := by decide +kernel
theorem dJ6_numberOfLeadingZeros_0f7a4_25 : decode cJ6_numberOfLeadingZeros_0f7a4 25 = .ok (.iinc 1 (-16), 3) := by decide +kernel
theorem dJ6_numberOfLeadingZeros_0f7a4_28 : decode cJ6_numberOfLeadingZeros_0f7a4 28 = .ok (.iload_n 0, 1) := by decide +kernel
theorem dJ6_numberOfLeadingZeros_0f7a4_29 : decode cJ6_numberOfLeadingZeros_0f7a4 29 = .ok (.bipush 16, 2) := by decide +kernel
theorem dJ6_numberOfLeadingZeros_0f7a4_31 : decode cJ6_numberOfLeadingZeros_0f7a4 31 = .ok (.iushr, 1) := by decide +kernel
theorem dJ6_numberOfLeadingZeros_0f7a4_32 : decode cJ6_numberOfLeadingZeros_0f7a4 32 = .ok (.istore_n 0, 1) := by decide +kernel
theorem dJ6_numberOfLeadingZeros_0f7a4_33 : decode cJ6_numberOfLeadingZeros_0f7a4 33 = .ok (.iload_n 0, 1) := by decide +kernel
theorem dJ6_numberOfLeadingZeros_0f7a4_34 : decode cJ6_numberOfLeadingZeros_0f7a4 34 = .ok (.sipush 256, 3) := by decide +kernel
theorem dJ6_numberOfLeadingZeros_0f7a4_37 : decode cJ6_numberOfLeadingZeros_0f7a4 37 = .ok (.if_icmp .lt 11, 3) := by decide +kernel
theorem dJ6_numberOfLeadingZeros_0f7a4_40 : decode cJ6_numberOfLeadingZeros_0f7a4 40 = .ok (.iinc 1 (-8), 3) := by decide +kernel
theorem dJ6_numberOfLeadingZeros_0f7a4_43 : decode cJ6_numberOfLeadingZeros_0f7a4 43 = .ok (.iload_n 0, 1) := by decide +kernel
theorem dJ6_numberOfLeadingZeros_0f7a4_44 : decode cJ6_numberOfLeadingZeros_0f7a4 44 = .ok (.bipush 8, 2) := by decide +kernel
theorem dJ6_numberOfLeadingZeros_0f7a4_46 : decode cJ6_numberOfLeadingZeros_0f7a4 46 = .ok (.iushr, 1) := by decide +kernel
theorem dJ6_numberOfLeadingZeros_0f7a4_47 : decode cJ6_numberOfLeadingZeros_0f7a4 47 = .ok (.istore_n 0, 1) := by decide +kernel
theorem dJ6_numberOfLeadingZeros_0f7a4_48 : decode cJ6_numberOfLeadingZeros_0f7a4 48 = .ok (.iload_n 0, 1) := by decide +kernel
theorem dJ6_numberOfLeadingZeros_0f7a4_49 : decode cJ6_numberOfLeadingZeros_0f7a4 49 = .ok (.bipush 16, 2) := by decide +kernel
theorem dJ6_numberOfLeadingZeros_0f7a4_51 : decode cJ6_numberOfLeadingZeros_0f7a4 51 = .ok (.if_icmp .lt 10, 3) := by decide +kernel
theorem dJ6_numberOfLeadingZeros_0f7a4_54 : decode cJ6_numberOfLeadingZeros_0f7a4 54 = .ok (.iinc 1 (-4), 3) := by decide +kernel
theorem dJ6_numberOfLeadingZeros_0f7a4_57 : decode cJ6_numberOfLeadingZeros_0f7a4 57 = .ok (.iload_n 0, 1) := by decide +kernel
theorem dJ6_numberOfLeadingZeros_0f7a4_58 : decode cJ6_numberOfLeadingZeros_0f7a4 58 = .ok (.iconst 4, 1) := by decide +kernel
theorem dJ6_numberOfLeadingZeros_0f7a4_59 : decode cJ6_numberOfLeadingZeros_0f7a4 59 = .ok (.iushr, 1) := by decide +kernel
theorem dJ6_numberOfLeadingZeros_0f7a4_60 : decode cJ6_numberOfLeadingZeros_0f7a4 60 = .ok (.istore_n 0, 1) := by decide +kernel
theorem dJ6_numberOfLeadingZeros_0f7a4_61 : decode cJ6_numberOfLeadingZeros_0f7a4 61 = .ok (.iload_n 0, 1) := by decide +kernel
theorem dJ6_numberOfLeadingZeros_0f7a4_62 : decode cJ6_numberOfLeadingZeros_0f7a4 62 = .ok (.iconst 4, 1) := by decide +kernel
theorem dJ6_numberOfLeadingZeros_0f7a4_63 : decode cJ6_numberOfLeadingZeros_0f7a4 63 = .ok (.if_icmp .lt 10, 3) := by decide +kernel
theorem dJ6_numberOfLeadingZeros_0f7a4_66 : decode cJ6_numberOfLeadingZeros_0f7a4 66 = .ok (.iinc 1 (-2), 3) := by decide +kernel
theorem dJ6_numberOfLeadingZeros_0f7a4_69 : decode cJ6_numberOfLeadingZeros_0f7a4 69 = .ok (.iload_n 0, 1) := by decide +kernel
theorem dJ6_numberOfLeadingZeros_0f7a4_70 : decode cJ6_numberOfLeadingZeros_0f7a4 70 = .ok (.iconst 2, 1) := by decide +kernel
theorem dJ6_numberOfLeadingZeros_0f7a4_71 : decode cJ6_numberOfLeadingZeros_0f7a4 71 = .ok (.iushr, 1) := by decide +kernel
theorem dJ6_numberOfLeadingZeros_0f7a4_72 : decode cJ6_numberOfLeadingZeros_0f7a4 72 = .ok (.istore_n 0, 1) := by decide +kernel
theorem dJ6_numberOfLeadingZeros_0f7a4_73 : decode cJ6_numberOfLeadingZeros_0f7a4 73 = .ok (.iload_n 1, 1) := by decide +kernel
theorem dJ6_numberOfLeadingZeros_0f7a4_74 : decode cJ6_numberOfLeadingZeros_0f7a4 74 = .ok (.iload_n 0, 1) := by decide +kernel
theorem dJ6_numberOfLeadingZeros_0f7a4_75 : decode cJ6_numberOfLeadingZeros_0f7a4 75 = .ok (.iconst 1, 1) := by decide +kernel
theorem dJ6_numberOfLeadingZeros_0f7a4_76 : decode cJ6_numberOfLeadingZeros_0f7a4 76 = .ok (.iushr, 1) := by decide +kernel
theorem dJ6_numberOfLeadingZeros_0f7a4_77 : decode cJ6_numberOfLeadingZeros_0f7a4 77 = .ok (.isub, 1) := by decide +kernel
theorem dJ6_numberOfLeadingZeros_0f7a4_78 : decode cJ6_numberOfLeadingZeros_0f7a4 78 = .ok (.ireturn, 1) := by decide +kernel
theorem dJ13_numberOfLeadingZeros_95d88_0 : decode cJ13_numberOfLeadingZeros_95d88 0 = .ok (.lload_n 0, 1) := by decide +kernel
theorem dJ13_numberOfLeadingZeros_95d88_1 : decode cJ13_numberOfLeadingZeros_95d88 1 = .ok (.bipush 32, 2) := by decide +kernel
theorem dJ13_numberOfLeadingZeros_95d88_3 : decode cJ13_numberOfLeadingZeros_95d88 3 = .ok (.lushr, 1) := by decide +kernel
theorem dJ13_numberOfLeadingZeros_95d88_4 : decode cJ13_numberOfLeadingZeros_95d88 4 = .ok (.l2i, 1) := by decide +kernel
theorem dJ13_numberOfLeadingZeros_95d88_5 : decode cJ13_numberOfLeadingZeros_95d88 5 = .ok (.istore_n 2, 1) := by decide +kernel
theorem dJ13_numberOfLeadingZeros_95d88_6 : decode cJ13_numberOfLeadingZeros_95d88 6 = .ok (.iload_n 2, 1) := by decide +kernel
theorem dJ13_numberOfLeadingZeros_95d88_7 : decode cJ13_numberOfLeadingZeros_95d88 7 = .ok (.ifCond .ne 14, 3) := by decide +kernel
theorem dJ13_numberOfLeadingZeros_95d88_10 : decode cJ13_numberOfLeadingZeros_95d88 10 = .ok (.bipush 32, 2) := by decide +kernel
theorem dJ13_numberOfLeadingZeros_95d88_12 : decode cJ13_numberOfLeadingZeros_95d88 12 = .ok (.lload_n 0, 1) := by decide +kernel
theorem dJ13_numberOfLeadingZeros_95d88_13 : decode cJ13_numberOfLeadingZeros_95d88 13 = .ok (.l2i, 1) := by decide +kernel
theorem dJ13_numberOfLeadingZeros_95d88_14 : decode cJ13_numberOfLeadingZeros_95d88 14 = .ok (.invokestatic 308, 3) := by decide +kernel
theorem dJ13_numberOfLeadingZeros_95d88_17 : decode cJ13_numberOfLeadingZeros_95d88 17 = .ok (.iadd, 1) := by decide +kernel
theorem dJ13_numberOfLeadingZeros_95d88_18 : decode cJ13_numberOfLeadingZeros_95d88 18 = .ok (.goto 7, 3) := by decide +kernel
theorem dJ13_numberOfLeadingZeros_95d88_21 : decode cJ13_numberOfLeadingZeros_95d88 21 = .ok (.iload_n 2, 1) := by decide +kernel
theorem dJ13_numberOfLeadingZeros_95d88_22 : decode cJ13_numberOfLeadingZeros_95d88 22 = .ok (.invokestatic 308, 3) := by decide +kernel
theorem dJ13_numberOfLeadingZeros_95d88_25 : decode cJ13_numberOfLeadingZeros_95d88 25 = .ok (.ireturn, 1) := by decide +kernel
theorem dJ9_max_f86c9_0 : decode cJ9_max_f86c9 0 = .ok (.lload_n 0, 1) := by decide +kernel
theorem dJ9_max_f86c9_1 : decode cJ9_max_f86c9 1 = .ok (.lload_n 2, 1) := by decide +kernel
theorem dJ9_max_f86c9_2 : decode cJ9_max_f86c9 2 = .ok (.lcmp, 1) := by decide +kernel
theorem dJ9_max_f86c9_3 : decode cJ9_max_f86c9 3 = .ok (.ifCond .lt 7, 3) := by decide +kernel
theorem dJ9_max_f86c9_6 : decode cJ9_max_f86c9 6 = .ok (.lload_n 0, 1) := by decide +kernel
theorem dJ9_max_f86c9_7 : decode cJ9_max_f86c9 7 = .ok (.goto 4, 3) := by decide +kernel
theorem dJ9_max_f86c9_10 : decode cJ9_max_f86c9 10 = .ok (.lload_n 2, 1) := by decide +kernel
theorem dJ9_max_f86c9_11 : decode cJ9_max_f86c9 11 = .ok (.lreturn, 1) := by decide +kernel
theorem dJ9_min_7cf53_0 : decode cJ9_min_7cf53 0 = .ok (.iload_n 0, 1) := by decide +kernel
theorem dJ9_min_7cf53_1 : decode cJ9_min_7cf53 1 = .ok (.iload_n 1, 1) := by decide +kernel
theorem dJ9_min_7cf53_2 : decode cJ9_min_7cf53 2 = .ok (.if_icmp .gt 7, 3) := by decide +kernel
theorem dJ9_min_7cf53_5 : decode cJ9_min_7cf53 5 = .ok (.iload_n 0, 1) := by decide +kernel
theorem dJ9_min_7cf53_6 : decode cJ9_min_7cf53 6 = .ok (.goto 4, 3) := by decide +kernel
theorem dJ9_min_7cf53_9 : decode cJ9_min_7cf53 9 = .ok (.iload_n 1, 1) := by decide +kernel
theorem dJ9_min_7cf53_10 : decode cJ9_min_7cf53 10 = .ok (.ireturn, 1) := by decide +kernel
theorem dJ9_min_f86c9_0 : decode cJ9_min_f86c9 0 = .ok (.lload_n 0, 1) := by decide +kernel
theorem dJ9_min_f86c9_1 : decode cJ9_min_f86c9 1 = .ok (.lload_n 2, 1) := by decide +kernel
theorem dJ9_min_f86c9_2 : decode cJ9_min_f86c9 2 = .ok (.lcmp, 1) := by decide +kernel
theorem dJ9_min_f86c9_3 : decode cJ9_min_f86c9 3 = .ok (.ifCond .gt 7, 3) := by decide +kernel
theorem dJ9_min_f86c9_6 : decode cJ9_min_f86c9 6 = .ok (.lload_n 0, 1) := by decide +kernel
theorem dJ9_min_f86c9_7 : decode cJ9_min_f86c9 7 = .ok (.goto 4, 3) := by decide +kernel
theorem dJ9_min_f86c9_10 : decode cJ9_min_f86c9 10 = .ok (.lload_n 2, 1) := by decide +kernel
theorem dJ9_min_f86c9_11 : decode cJ9_min_f86c9 11 = .ok (.lreturn, 1) := by decide +kernel
theorem dL_mount_0 : decode cL_mount 0 = .ok (.aload_n 2, 1) := by decide +kernel
theorem dL_mount_1 : decode cL_mount 1 = .ok (.iconst 0, 1) := by decide +kernel
theorem dL_mount_2 : decode cL_mount 2 = .ok (.aload_n 0, 1) := by decide +kernel
theorem dL_mount_3 : decode cL_mount 3 = .ok (.iload_n 1, 1) := by decide +kernel
theorem dL_mount_4 : decode cL_mount 4 = .ok (.invokevirtual 7, 3) := by decide +kernel
theorem dL_mount_7 : decode cL_mount 7 = .ok (.i2l, 1) := by decide +kernel
theorem dL_mount_8 : decode cL_mount 8 = .ok (.lastore, 1) := by decide +kernel
theorem dL_mount_9 : decode cL_mount 9 = .ok (.goto 9, 3) := by decide +kernel
theorem dL_mount_12 : decode cL_mount 12 = .ok (.astore_n 3, 1) := by decide +kernel
theorem dL_mount_13 : decode cL_mount 13 = .ok (.iconst 1, 1) := by decide +kernel
theorem dL_mount_14 : decode cL_mount 14 = .ok (.ireturn, 1) := by decide +kernel
theorem dL_mount_15 : decode cL_mount 15 = .ok (.astore_n 3, 1) := by decide +kernel
theorem dL_mount_16 : decode cL_mount 16 = .ok (.iconst 2, 1) := by decide +kernel
theorem dL_mount_17 : decode cL_mount 17 = .ok (.ireturn, 1) := by decide +kernel
theorem dL_mount_18 : decode cL_mount 18 = .ok (.iconst 0, 1) := by decide +kernel
theorem dL_mount_19 : decode cL_mount 19 = .ok (.ireturn, 1) := by decide +kernel
theorem dL_step_0 : decode cL_step 0 = .ok (.aload 5, 2) := by decide +kernel
theorem dL_step_2 : decode cL_step 2 = .ok (.iconst 0, 1) := by decide +kernel
theorem dL_step_3 : decode cL_step 3 = .ok (.aload_n 0, 1) := by decide +kernel
theorem dL_step_4 : decode cL_step 4 = .ok (.iload_n 1, 1) := by decide +kernel
theorem dL_step_5 : decode cL_step 5 = .ok (.iload_n 2, 1) := by decide +kernel
theorem dL_step_6 : decode cL_step 6 = .ok (.lload_n 3, 1) := by decide +kernel
theorem dL_step_7 : decode cL_step 7 = .ok (.invokevirtual 17, 3) := by decide +kernel
theorem dL_step_10 : decode cL_step 10 = .ok (.i2l, 1) := by decide +kernel
theorem dL_step_11 : decode cL_step 11 = .ok (.lastore, 1) := by decide +kernel
theorem dL_step_12 : decode cL_step 12 = .ok (.goto 15, 3) := by decide +kernel
theorem dL_step_15 : decode cL_step 15 = .ok (.astore 6, 2) := by decide +kernel
theorem dL_step_17 : decode cL_step 17 = .ok (.iconst 1, 1) := by decide +kernel
theorem dL_step_18 : decode cL_step 18 = .ok (.ireturn, 1) := by decide +kernel
theorem dL_step_19 : decode cL_step 19 = .ok (.astore 6, 2) := by decide +kernel
theorem dL_step_21 : decode cL_step 21 = .ok (.iconst 2, 1) := by decide +kernel
theorem dL_step_22 : decode cL_step 22 = .ok (.ireturn, 1) := by decide +kernel
theorem dL_step_23 : decode cL_step 23 = .ok (.astore 6, 2) := by decide +kernel
theorem dL_step_25 : decode cL_step 25 = .ok (.iconst 3, 1) := by decide +kernel
theorem dL_step_26 : decode cL_step 26 = .ok (.ireturn, 1) := by decide +kernel
theorem dL_step_27 : decode cL_step 27 = .ok (.iconst 0, 1) := by decide +kernel
theorem dL_step_28 : decode cL_step 28 = .ok (.ireturn, 1) := by decide +kernel
theorem dL_follow_0 : decode cL_follow 0 = .ok (.aload 4, 2) := by decide +kernel
theorem dL_follow_2 : decode cL_follow 2 = .ok (.iconst 0, 1) := by decide +kernel
theorem dL_follow_3 : decode cL_follow 3 = .ok (.aload_n 0, 1) := by decide +kernel
theorem dL_follow_4 : decode cL_follow 4 = .ok (.iload_n 1, 1) := by decide +kernel
theorem dL_follow_5 : decode cL_follow 5 = .ok (.iload_n 2, 1) := by decide +kernel
theorem dL_follow_6 : decode cL_follow 6 = .ok (.iload_n 3, 1) := by decide +kernel
theorem dL_follow_7 : decode cL_follow 7 = .ok (.invokevirtual 25, 3) := by decide +kernel
theorem dL_follow_10 : decode cL_follow 10 = .ok (.i2l, 1) := by decide +kernel
theorem dL_follow_11 : decode cL_follow 11 = .ok (.lastore, 1) := by decide +kernel
theorem dL_follow_12 : decode cL_follow 12 = .ok (.goto 15, 3) := by decide +kernel
theorem dL_follow_15 : decode cL_follow 15 = .ok (.astore 5, 2) := by decide +kernel
theorem dL_follow_17 : decode cL_follow 17 = .ok (.iconst 1, 1) := by decide +kernel
theorem dL_follow_18 : decode cL_follow 18 = .ok (.ireturn, 1) := by decide +kernel
theorem dL_follow_19 : decode cL_follow 19 = .ok (.astore 5, 2) := by decide +kernel
theorem dL_follow_21 : decode cL_follow 21 = .ok (.iconst 2, 1) := by decide +kernel
theorem dL_follow_22 : decode cL_follow 22 = .ok (.ireturn, 1) := by decide +kernel
theorem dL_follow_23 : decode cL_follow 23 = .ok (.astore 5, 2) := by decide +kernel
theorem dL_follow_25 : decode cL_follow 25 = .ok (.iconst 3, 1) := by decide +kernel
theorem dL_follow_26 : decode cL_follow 26 = .ok (.ireturn, 1) := by decide +kernel
theorem dL_follow_27 : decode cL_follow 27 = .ok (.iconst 0, 1) := by decide +kernel
theorem dL_follow_28 : decode cL_follow 28 = .ok (.ireturn, 1) := by decide +kernel
theorem dL_read_0 : decode cL_read 0 = .ok (.aload 4, 2) := by decide +kernel
theorem dL_read_2 : decode cL_read 2 = .ok (.iconst 0, 1) := by decide +kernel
theorem dL_read_3 : decode cL_read 3 = .ok (.aload_n 0, 1) := by decide +kernel
theorem dL_read_4 : decode cL_read 4 = .ok (.iload_n 1, 1) := by decide +kernel
theorem dL_read_5 : decode cL_read 5 = .ok (.lload_n 2, 1) := by decide +kernel
theorem dL_read_6 : decode cL_read 6 = .ok (.invokevirtual 29, 3) := by decide +kernel
theorem dL_read_9 : decode cL_read 9 = .ok (.lastore, 1) := by decide +kernel
theorem dL_read_10 : decode cL_read 10 = .ok (.goto 11, 3) := by decide +kernel
theorem dL_read_13 : decode cL_read 13 = .ok (.astore 5, 2) := by decide +kernel
theorem dL_read_15 : decode cL_read 15 = .ok (.iconst 1, 1) := by decide +kernel
theorem dL_read_16 : decode cL_read 16 = .ok (.ireturn, 1) := by decide +kernel
theorem dL_read_17 : decode cL_read 17 = .ok (.astore 5, 2) := by decide +kernel
theorem dL_read_19 : decode cL_read 19 = .ok (.iconst 2, 1) := by decide +kernel
theorem dL_read_20 : decode cL_read 20 = .ok (.ireturn, 1) := by decide +kernel
theorem dL_read_21 : decode cL_read 21 = .ok (.iconst 0, 1) := by decide +kernel
theorem dL_read_22 : decode cL_read 22 = .ok (.ireturn, 1) := by decide +kernel
theorem dL_reading_0 : decode cL_reading 0 = .ok (.aload_n 3, 1) := by decide +kernel
theorem dL_reading_1 : decode cL_reading 1 = .ok (.iconst 0, 1) := by decide +kernel
theorem dL_reading_2 : decode cL_reading 2 = .ok (.aload_n 0, 1) := by decide +kernel
theorem dL_reading_3 : decode cL_reading 3 = .ok (.iload_n 1, 1) := by decide +kernel
theorem dL_reading_4 : decode cL_reading 4 = .ok (.iload_n 2, 1) := by decide +kernel
theorem dL_reading_5 : decode cL_reading 5 = .ok (.invokevirtual 33, 3) := by decide +kernel
theorem dL_reading_8 : decode cL_reading 8 = .ok (.lastore, 1) := by decide +kernel
theorem dL_reading_9 : decode cL_reading 9 = .ok (.goto 11, 3) := by decide +kernel
theorem dL_reading_12 : decode cL_reading 12 = .ok (.astore 4, 2) := by decide +kernel
theorem dL_reading_14 : decode cL_reading 14 = .ok (.iconst 1, 1) := by decide +kernel
theorem dL_reading_15 : decode cL_reading 15 = .ok (.ireturn, 1) := by decide +kernel
theorem dL_reading_16 : decode cL_reading 16 = .ok (.astore 4, 2) := by decide +kernel
theorem dL_reading_18 : decode cL_reading 18 = .ok (.iconst 2, 1) := by decide +kernel
theorem dL_reading_19 : decode cL_reading 19 = .ok (.ireturn, 1) := by decide +kernel
theorem dL_reading_20 : decode cL_reading 20 = .ok (.iconst 0, 1) := by decide +kernel
theorem dL_reading_21 : decode cL_reading 21 = .ok (.ireturn, 1) := by decide +kernel
theorem dL_tell_0 : decode cL_tell 0 = .ok (.aload_n 3, 1) := by decide +kernel
theorem dL_tell_1 : decode cL_tell 1 = .ok (.iconst 0, 1) := by decide +kernel
theorem dL_tell_2 : decode cL_tell 2 = .ok (.aload_n 0, 1) := by decide +kernel
theorem dL_tell_3 : decode cL_tell 3 = .ok (.iload_n 1, 1) := by decide +kernel
theorem dL_tell_4 : decode cL_tell 4 = .ok (.iload_n 2, 1) := by decide +kernel
theorem dL_tell_5 : decode cL_tell 5 = .ok (.invokevirtual 39, 3) := by decide +kernel
theorem dL_tell_8 : decode cL_tell 8 = .ok (.lastore, 1) := by decide +kernel
theorem dL_tell_9 : decode cL_tell 9 = .ok (.goto 15, 3) := by decide +kernel
theorem dL_tell_12 : decode cL_tell 12 = .ok (.astore 4, 2) := by decide +kernel
theorem dL_tell_14 : decode cL_tell 14 = .ok (.iconst 1, 1) := by decide +kernel
theorem dL_tell_15 : decode cL_tell 15 = .ok (.ireturn, 1) := by decide +kernel
theorem dL_tell_16 : decode cL_tell 16 = .ok (.astore 4, 2) := by decide +kernel
theorem dL_tell_18 : decode cL_tell 18 = .ok (.iconst 2, 1) := by decide +kernel
theorem dL_tell_19 : decode cL_tell 19 = .ok (.ireturn, 1) := by decide +kernel
theorem dL_tell_20 : decode cL_tell 20 = .ok (.astore 4, 2) := by decide +kernel
theorem dL_tell_22 : decode cL_tell 22 = .ok (.iconst 3, 1) := by decide +kernel
theorem dL_tell_23 : decode cL_tell 23 = .ok (.ireturn, 1) := by decide +kernel
theorem dL_tell_24 : decode cL_tell 24 = .ok (.iconst 0, 1) := by decide +kernel
theorem dL_tell_25 : decode cL_tell 25 = .ok (.ireturn, 1) := by decide +kernel
theorem dL_whole_0 : decode cL_whole 0 = .ok (.aload_n 2, 1) := by decide +kernel
theorem dL_whole_1 : decode cL_whole 1 = .ok (.iconst 0, 1) := by decide +kernel
theorem dL_whole_2 : decode cL_whole 2 = .ok (.aload_n 0, 1) := by decide +kernel
theorem dL_whole_3 : decode cL_whole 3 = .ok (.iload_n 1, 1) := by decide +kernel
theorem dL_whole_4 : decode cL_whole 4 = .ok (.invokevirtual 42, 3) := by decide +kernel
theorem dL_whole_7 : decode cL_whole 7 = .ok (.i2l, 1) := by decide +kernel
theorem dL_whole_8 : decode cL_whole 8 = .ok (.lastore, 1) := by decide +kernel
theorem dL_whole_9 : decode cL_whole 9 = .ok (.goto 9, 3) := by decide +kernel
theorem dL_whole_12 : decode cL_whole 12 = .ok (.astore_n 3, 1) := by decide +kernel
theorem dL_whole_13 : decode cL_whole 13 = .ok (.iconst 1, 1) := by decide +kernel
theorem dL_whole_14 : decode cL_whole 14 = .ok (.ireturn, 1) := by decide +kernel
theorem dL_whole_15 : decode cL_whole 15 = .ok (.astore_n 3, 1) := by decide +kernel
theorem dL_whole_16 : decode cL_whole 16 = .ok (.iconst 2, 1) := by decide +kernel
theorem dL_whole_17 : decode cL_whole 17 = .ok (.ireturn, 1) := by decide +kernel
theorem dL_whole_18 : decode cL_whole 18 = .ok (.iconst 0, 1) := by decide +kernel
theorem dL_whole_19 : decode cL_whole 19 = .ok (.ireturn, 1) := by decide +kernel
theorem dL_limits_0 : decode cL_limits 0 = .ok (.aload 6, 2) := by decide +kernel
theorem dL_limits_2 : decode cL_limits 2 = .ok (.iconst 0, 1) := by decide +kernel
theorem dL_limits_3 : decode cL_limits 3 = .ok (.aload_n 0, 1) := by decide +kernel
theorem dL_limits_4 : decode cL_limits 4 = .ok (.iload_n 1, 1) := by decide +kernel
theorem dL_limits_5 : decode cL_limits 5 = .ok (.lload_n 2, 1) := by decide +kernel
theorem dL_limits_6 : decode cL_limits 6 = .ok (.lload 4, 2) := by decide +kernel
theorem dL_limits_8 : decode cL_limits 8 = .ok (.invokevirtual 45, 3) := by decide +kernel
theorem dL_limits_11 : decode cL_limits 11 = .ok (.ifCond .eq 7, 3) := by decide +kernel
theorem dL_limits_14 : decode cL_limits 14 = .ok (.lconst 1, 1) := by decide +kernel
theorem dL_limits_15 : decode cL_limits 15 = .ok (.goto 4, 3) := by decide +kernel
theorem dL_limits_18 : decode cL_limits 18 = .ok (.lconst 0, 1) := by decide +kernel
theorem dL_limits_19 : decode cL_limits 19 = .ok (.lastore, 1) := by decide +kernel
theorem dL_limits_20 : decode cL_limits 20 = .ok (.goto 11, 3) := by decide +kernel
theorem dL_limits_23 : decode cL_limits 23 = .ok (.astore 7, 2) := by decide +kernel
theorem dL_limits_25 : decode cL_limits 25 = .ok (.iconst 1, 1) := by decide +kernel
theorem dL_limits_26 : decode cL_limits 26 = .ok (.ireturn, 1) := by decide +kernel
theorem dL_limits_27 : decode cL_limits 27 = .ok (.astore 7, 2) := by decide +kernel
theorem dL_limits_29 : decode cL_limits 29 = .ok (.iconst 2, 1) := by decide +kernel
theorem dL_limits_30 : decode cL_limits 30 = .ok (.ireturn, 1) := by decide +kernel
theorem dL_limits_31 : decode cL_limits 31 = .ok (.iconst 0, 1) := by decide +kernel
theorem dL_limits_32 : decode cL_limits 32 = .ok (.ireturn, 1) := by decide +kernel
theorem dL_widest_0 : decode cL_widest 0 = .ok (.aload_n 2, 1) := by decide +kernel
theorem dL_widest_1 : decode cL_widest 1 = .ok (.iconst 0, 1) := by decide +kernel
theorem dL_widest_2 : decode cL_widest 2 = .ok (.aload_n 0, 1) := by decide +kernel
theorem dL_widest_3 : decode cL_widest 3 = .ok (.iload_n 1, 1) := by decide +kernel
theorem dL_widest_4 : decode cL_widest 4 = .ok (.invokevirtual 49, 3) := by decide +kernel
theorem dL_widest_7 : decode cL_widest 7 = .ok (.lastore, 1) := by decide +kernel
theorem dL_widest_8 : decode cL_widest 8 = .ok (.goto 9, 3) := by decide +kernel
theorem dL_widest_11 : decode cL_widest 11 = .ok (.astore_n 3, 1) := by decide +kernel
theorem dL_widest_12 : decode cL_widest 12 = .ok (.iconst 1, 1) := by decide +kernel
theorem dL_widest_13 : decode cL_widest 13 = .ok (.ireturn, 1) := by decide +kernel
theorem dL_widest_14 : decode cL_widest 14 = .ok (.astore_n 3, 1) := by decide +kernel
theorem dL_widest_15 : decode cL_widest 15 = .ok (.iconst 2, 1) := by decide +kernel
theorem dL_widest_16 : decode cL_widest 16 = .ok (.ireturn, 1) := by decide +kernel
theorem dL_widest_17 : decode cL_widest 17 = .ok (.iconst 0, 1) := by decide +kernel
theorem dL_widest_18 : decode cL_widest 18 = .ok (.ireturn, 1) := by decide +kernel
theorem dL_forget_0 : decode cL_forget 0 = .ok (.aload_n 2, 1) := by decide +kernel
theorem dL_forget_1 : decode cL_forget 1 = .ok (.iconst 0, 1) := by decide +kernel
theorem dL_forget_2 : decode cL_forget 2 = .ok (.aload_n 0, 1) := by decide +kernel
theorem dL_forget_3 : decode cL_forget 3 = .ok (.iload_n 1, 1) := by decide +kernel
theorem dL_forget_4 : decode cL_forget 4 = .ok (.invokevirtual 53, 3) := by decide +kernel
theorem dL_forget_7 : decode cL_forget 7 = .ok (.i2l, 1) := by decide +kernel
theorem dL_forget_8 : decode cL_forget 8 = .ok (.lastore, 1) := by decide +kernel
theorem dL_forget_9 : decode cL_forget 9 = .ok (.goto 6, 3) := by decide +kernel
theorem dL_forget_12 : decode cL_forget 12 = .ok (.astore_n 3, 1) := by decide +kernel
theorem dL_forget_13 : decode cL_forget 13 = .ok (.iconst 1, 1) := by decide +kernel
theorem dL_forget_14 : decode cL_forget 14 = .ok (.ireturn, 1) := by decide +kernel
theorem dL_forget_15 : decode cL_forget 15 = .ok (.iconst 0, 1) := by decide +kernel
theorem dL_forget_16 : decode cL_forget 16 = .ok (.ireturn, 1) := by decide +kernel
theorem dL_alarms_0 : decode cL_alarms 0 = .ok (.aload_n 2, 1) := by decide +kernel
theorem dL_alarms_1 : decode cL_alarms 1 = .ok (.iconst 0, 1) := by decide +kernel
theorem dL_alarms_2 : decode cL_alarms 2 = .ok (.aload_n 0, 1) := by decide +kernel
theorem dL_alarms_3 : decode cL_alarms 3 = .ok (.iload_n 1, 1) := by decide +kernel
theorem dL_alarms_4 : decode cL_alarms 4 = .ok (.invokevirtual 56, 3) := by decide +kernel
theorem dL_alarms_7 : decode cL_alarms 7 = .ok (.i2l, 1) := by decide +kernel
theorem dL_alarms_8 : decode cL_alarms 8 = .ok (.lastore, 1) := by decide +kernel
theorem dL_alarms_9 : decode cL_alarms 9 = .ok (.goto 6, 3) := by decide +kernel
theorem dL_alarms_12 : decode cL_alarms 12 = .ok (.astore_n 3, 1) := by decide +kernel
theorem dL_alarms_13 : decode cL_alarms 13 = .ok (.iconst 1, 1) := by decide +kernel
theorem dL_alarms_14 : decode cL_alarms 14 = .ok (.ireturn, 1) := by decide +kernel
theorem dL_alarms_15 : decode cL_alarms 15 = .ok (.iconst 0, 1) := by decide +kernel
theorem dL_alarms_16 : decode cL_alarms 16 = .ok (.ireturn, 1) := by decide +kernel
