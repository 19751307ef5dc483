theorem dX9_tellsLatest_22 : decode cX9_tellsLatest 22 = .ok (.if_icmp .ge 31, 3) := by decide +kernel
theorem dX9_tellsLatest_25 : decode cX9_tellsLatest 25 = .ok (.aload_n 0, 1) := by decide +kernel
theorem dX9_tellsLatest_26 : decode cX9_tellsLatest 26 = .ok (.aload_n 0, 1) := by decide +kernel
theorem dX9_tellsLatest_27 : decode cX9_tellsLatest 27 = .ok (.getfield 55, 3) := by decide +kernel
theorem dX9_tellsLatest_30 : decode cX9_tellsLatest 30 = .ok (.iload_n 1, 1) := by decide +kernel
theorem dX9_tellsLatest_31 : decode cX9_tellsLatest 31 = .ok (.iaload, 1) := by decide +kernel
theorem dX9_tellsLatest_32 : decode cX9_tellsLatest 32 = .ok (.i2l, 1) := by decide +kernel
theorem dX9_tellsLatest_33 : decode cX9_tellsLatest 33 = .ok (.invokevirtual 153, 3) := by decide +kernel
theorem dX9_tellsLatest_36 : decode cX9_tellsLatest 36 = .ok (.aload_n 0, 1) := by decide +kernel
theorem dX9_tellsLatest_37 : decode cX9_tellsLatest 37 = .ok (.aload_n 0, 1) := by decide +kernel
theorem dX9_tellsLatest_38 : decode cX9_tellsLatest 38 = .ok (.getfield 58, 3) := by decide +kernel
theorem dX9_tellsLatest_41 : decode cX9_tellsLatest 41 = .ok (.iload_n 1, 1) := by decide +kernel
theorem dX9_tellsLatest_42 : decode cX9_tellsLatest 42 = .ok (.iaload, 1) := by decide +kernel
theorem dX9_tellsLatest_43 : decode cX9_tellsLatest 43 = .ok (.i2l, 1) := by decide +kernel
theorem dX9_tellsLatest_44 : decode cX9_tellsLatest 44 = .ok (.invokevirtual 153, 3) := by decide +kernel
theorem dX9_tellsLatest_47 : decode cX9_tellsLatest 47 = .ok (.iinc 1 1, 3) := by decide +kernel
theorem dX9_tellsLatest_50 : decode cX9_tellsLatest 50 = .ok (.goto (-33), 3) := by decide +kernel
theorem dX9_tellsLatest_53 : decode cX9_tellsLatest 53 = .ok (.return_, 1) := by decide +kernel
theorem dX9_tellsFirst_0 : decode cX9_tellsFirst 0 = .ok (.aload_n 0, 1) := by decide +kernel
theorem dX9_tellsFirst_1 : decode cX9_tellsFirst 1 = .ok (.iconst 0, 1) := by decide +kernel
theorem dX9_tellsFirst_2 : decode cX9_tellsFirst 2 = .ok (.putfield 11, 3) := by decide +kernel
theorem dX9_tellsFirst_5 : decode cX9_tellsFirst 5 = .ok (.iconst 0, 1) := by decide +kernel
theorem dX9_tellsFirst_6 : decode cX9_tellsFirst 6 = .ok (.istore_n 1, 1) := by decide +kernel
theorem dX9_tellsFirst_7 : decode cX9_tellsFirst 7 = .ok (.iload_n 1, 1) := by decide +kernel
theorem dX9_tellsFirst_8 : decode cX9_tellsFirst 8 = .ok (.aload_n 0, 1) := by decide +kernel
theorem dX9_tellsFirst_9 : decode cX9_tellsFirst 9 = .ok (.getfield 129, 3) := by decide +kernel
theorem dX9_tellsFirst_12 : decode cX9_tellsFirst 12 = .ok (.bipush 20, 2) := by decide +kernel
theorem dX9_tellsFirst_14 : decode cX9_tellsFirst 14 = .ok (.invokestatic 120, 3) := by decide +kernel
theorem dX9_tellsFirst_17 : decode cX9_tellsFirst 17 = .ok (.if_icmp .ge 31, 3) := by decide +kernel
theorem dX9_tellsFirst_20 : decode cX9_tellsFirst 20 = .ok (.aload_n 0, 1) := by decide +kernel
theorem dX9_tellsFirst_21 : decode cX9_tellsFirst 21 = .ok (.aload_n 0, 1) := by decide +kernel
theorem dX9_tellsFirst_22 : decode cX9_tellsFirst 22 = .ok (.getfield 55, 3) := by decide +kernel
theorem dX9_tellsFirst_25 : decode cX9_tellsFirst 25 = .ok (.iload_n 1, 1) := by decide +kernel
theorem dX9_tellsFirst_26 : decode cX9_tellsFirst 26 = .ok (.iaload, 1) := by decide +kernel
theorem dX9_tellsFirst_27 : decode cX9_tellsFirst 27 = .ok (.i2l, 1) := by decide +kernel
theorem dX9_tellsFirst_28 : decode cX9_tellsFirst 28 = .ok (.invokevirtual 153, 3) := by decide +kernel
theorem dX9_tellsFirst_31 : decode cX9_tellsFirst 31 = .ok (.aload_n 0, 1) := by decide +kernel
theorem dX9_tellsFirst_32 : decode cX9_tellsFirst 32 = .ok (.aload_n 0, 1) := by decide +kernel
theorem dX9_tellsFirst_33 : decode cX9_tellsFirst 33 = .ok (.getfield 58, 3) := by decide +kernel
theorem dX9_tellsFirst_36 : decode cX9_tellsFirst 36 = .ok (.iload_n 1, 1) := by decide +kernel
theorem dX9_tellsFirst_37 : decode cX9_tellsFirst 37 = .ok (.iaload, 1) := by decide +kernel
theorem dX9_tellsFirst_38 : decode cX9_tellsFirst 38 = .ok (.i2l, 1) := by decide +kernel
theorem dX9_tellsFirst_39 : decode cX9_tellsFirst 39 = .ok (.invokevirtual 153, 3) := by decide +kernel
theorem dX9_tellsFirst_42 : decode cX9_tellsFirst 42 = .ok (.iinc 1 1, 3) := by decide +kernel
theorem dX9_tellsFirst_45 : decode cX9_tellsFirst 45 = .ok (.goto (-38), 3) := by decide +kernel
theorem dX9_tellsFirst_48 : decode cX9_tellsFirst 48 = .ok (.return_, 1) := by decide +kernel
theorem dX9_ticksOf_0 : decode cX9_ticksOf 0 = .ok (.aload_n 0, 1) := by decide +kernel
theorem dX9_ticksOf_1 : decode cX9_ticksOf 1 = .ok (.bipush 6, 2) := by decide +kernel
theorem dX9_ticksOf_3 : decode cX9_ticksOf 3 = .ok (.invokevirtual 85, 3) := by decide +kernel
theorem dX9_ticksOf_6 : decode cX9_ticksOf 6 = .ok (.iload_n 1, 1) := by decide +kernel
theorem dX9_ticksOf_7 : decode cX9_ticksOf 7 = .ok (.iadd, 1) := by decide +kernel
theorem dX9_ticksOf_8 : decode cX9_ticksOf 8 = .ok (.ldc 157, 2) := by decide +kernel
theorem dX9_ticksOf_10 : decode cX9_ticksOf 10 = .ok (.if_icmp .le 6, 3) := by decide +kernel
theorem dX9_ticksOf_13 : decode cX9_ticksOf 13 = .ok (.bipush (-4), 2) := by decide +kernel
theorem dX9_ticksOf_15 : decode cX9_ticksOf 15 = .ok (.ireturn, 1) := by decide +kernel
theorem dX9_ticksOf_16 : decode cX9_ticksOf 16 = .ok (.aload_n 0, 1) := by decide +kernel
theorem dX9_ticksOf_17 : decode cX9_ticksOf 17 = .ok (.iconst 0, 1) := by decide +kernel
theorem dX9_ticksOf_18 : decode cX9_ticksOf 18 = .ok (.putfield 129, 3) := by decide +kernel
theorem dX9_ticksOf_21 : decode cX9_ticksOf 21 = .ok (.iconst 0, 1) := by decide +kernel
theorem dX9_ticksOf_22 : decode cX9_ticksOf 22 = .ok (.istore_n 2, 1) := by decide +kernel
theorem dX9_ticksOf_23 : decode cX9_ticksOf 23 = .ok (.iload_n 2, 1) := by decide +kernel
theorem dX9_ticksOf_24 : decode cX9_ticksOf 24 = .ok (.iload_n 1, 1) := by decide +kernel
theorem dX9_ticksOf_25 : decode cX9_ticksOf 25 = .ok (.if_icmp .ge 13, 3) := by decide +kernel
theorem dX9_ticksOf_28 : decode cX9_ticksOf 28 = .ok (.aload_n 0, 1) := by decide +kernel
theorem dX9_ticksOf_29 : decode cX9_ticksOf 29 = .ok (.invokevirtual 158, 3) := by decide +kernel
theorem dX9_ticksOf_32 : decode cX9_ticksOf 32 = .ok (.iinc 2 1, 3) := by decide +kernel
theorem dX9_ticksOf_35 : decode cX9_ticksOf 35 = .ok (.goto (-12), 3) := by decide +kernel
theorem dX9_ticksOf_38 : decode cX9_ticksOf 38 = .ok (.aload_n 0, 1) := by decide +kernel
theorem dX9_ticksOf_39 : decode cX9_ticksOf 39 = .ok (.getfield 129, 3) := by decide +kernel
theorem dX9_ticksOf_42 : decode cX9_ticksOf 42 = .ok (.ireturn, 1) := by decide +kernel
theorem dX9_leapsBy_0 : decode cX9_leapsBy 0 = .ok (.aload_n 0, 1) := by decide +kernel
theorem dX9_leapsBy_1 : decode cX9_leapsBy 1 = .ok (.bipush 6, 2) := by decide +kernel
theorem dX9_leapsBy_3 : decode cX9_leapsBy 3 = .ok (.invokevirtual 85, 3) := by decide +kernel
theorem dX9_leapsBy_6 : decode cX9_leapsBy 6 = .ok (.i2l, 1) := by decide +kernel
theorem dX9_leapsBy_7 : decode cX9_leapsBy 7 = .ok (.iload_n 1, 1) := by decide +kernel
theorem dX9_leapsBy_8 : decode cX9_leapsBy 8 = .ok (.i2l, 1) := by decide +kernel
theorem dX9_leapsBy_9 : decode cX9_leapsBy 9 = .ok (.ladd, 1) := by decide +kernel
theorem dX9_leapsBy_10 : decode cX9_leapsBy 10 = .ok (.lconst 0, 1) := by decide +kernel
theorem dX9_leapsBy_11 : decode cX9_leapsBy 11 = .ok (.ldc2_w 161, 3) := by decide +kernel
theorem dX9_leapsBy_14 : decode cX9_leapsBy 14 = .ok (.invokestatic 21, 3) := by decide +kernel
theorem dX9_leapsBy_17 : decode cX9_leapsBy 17 = .ok (.ifCond .ne 6, 3) := by decide +kernel
theorem dX9_leapsBy_20 : decode cX9_leapsBy 20 = .ok (.bipush (-4), 2) := by decide +kernel
theorem dX9_leapsBy_22 : decode cX9_leapsBy 22 = .ok (.ireturn, 1) := by decide +kernel
theorem dX9_leapsBy_23 : decode cX9_leapsBy 23 = .ok (.aload_n 0, 1) := by decide +kernel
theorem dX9_leapsBy_24 : decode cX9_leapsBy 24 = .ok (.iconst 0, 1) := by decide +kernel
theorem dX9_leapsBy_25 : decode cX9_leapsBy 25 = .ok (.putfield 129, 3) := by decide +kernel
theorem dX9_leapsBy_28 : decode cX9_leapsBy 28 = .ok (.aload_n 0, 1) := by decide +kernel
theorem dX9_leapsBy_29 : decode cX9_leapsBy 29 = .ok (.bipush 6, 2) := by decide +kernel
theorem dX9_leapsBy_31 : decode cX9_leapsBy 31 = .ok (.iload_n 1, 1) := by decide +kernel
theorem dX9_leapsBy_32 : decode cX9_leapsBy 32 = .ok (.invokevirtual 106, 3) := by decide +kernel
theorem dX9_leapsBy_35 : decode cX9_leapsBy 35 = .ok (.aload_n 0, 1) := by decide +kernel
theorem dX9_leapsBy_36 : decode cX9_leapsBy 36 = .ok (.bipush 7, 2) := by decide +kernel
theorem dX9_leapsBy_38 : decode cX9_leapsBy 38 = .ok (.iload_n 1, 1) := by decide +kernel
theorem dX9_leapsBy_39 : decode cX9_leapsBy 39 = .ok (.ifCond .le 7, 3) := by decide +kernel
theorem dX9_leapsBy_42 : decode cX9_leapsBy 42 = .ok (.iconst 4, 1) := by decide +kernel
theorem dX9_leapsBy_43 : decode cX9_leapsBy 43 = .ok (.goto 4, 3) := by decide +kernel
theorem dX9_leapsBy_46 : decode cX9_leapsBy 46 = .ok (.iconst 5, 1) := by decide +kernel
theorem dX9_leapsBy_47 : decode cX9_leapsBy 47 = .ok (.iadd, 1) := by decide +kernel
theorem dX9_leapsBy_48 : decode cX9_leapsBy 48 = .ok (.iload_n 1, 1) := by decide +kernel
theorem dX9_leapsBy_49 : decode cX9_leapsBy 49 = .ok (.invokestatic 163, 3) := by decide +kernel
theorem dX9_leapsBy_52 : decode cX9_leapsBy 52 = .ok (.invokevirtual 106, 3) := by decide +kernel
theorem dX9_leapsBy_55 : decode cX9_leapsBy 55 = .ok (.aload_n 0, 1) := by decide +kernel
theorem dX9_leapsBy_56 : decode cX9_leapsBy 56 = .ok (.iconst 0, 1) := by decide +kernel
theorem dX9_leapsBy_57 : decode cX9_leapsBy 57 = .ok (.putfield 109, 3) := by decide +kernel
theorem dX9_leapsBy_60 : decode cX9_leapsBy 60 = .ok (.iconst 0, 1) := by decide +kernel
theorem dX9_leapsBy_61 : decode cX9_leapsBy 61 = .ok (.istore_n 2, 1) := by decide +kernel
theorem dX9_leapsBy_62 : decode cX9_leapsBy 62 = .ok (.iload_n 2, 1) := by decide +kernel
theorem dX9_leapsBy_63 : decode cX9_leapsBy 63 = .ok (.bipush 16, 2) := by decide +kernel
theorem dX9_leapsBy_65 : decode cX9_leapsBy 65 = .ok (.if_icmp .ge 70, 3) := by decide +kernel
theorem dX9_leapsBy_68 : decode cX9_leapsBy 68 = .ok (.aload_n 0, 1) := by decide +kernel
theorem dX9_leapsBy_69 : decode cX9_leapsBy 69 = .ok (.iload_n 2, 1) := by decide +kernel
theorem dX9_leapsBy_70 : decode cX9_leapsBy 70 = .ok (.invokevirtual 99, 3) := by decide +kernel
theorem dX9_leapsBy_73 : decode cX9_leapsBy 73 = .ok (.ifCond .ne 6, 3) := by decide +kernel
theorem dX9_leapsBy_76 : decode cX9_leapsBy 76 = .ok (.goto 53, 3) := by decide +kernel
theorem dX9_leapsBy_79 : decode cX9_leapsBy 79 = .ok (.aload_n 0, 1) := by decide +kernel
theorem dX9_leapsBy_80 : decode cX9_leapsBy 80 = .ok (.sipush 327, 3) := by decide +kernel
theorem dX9_leapsBy_83 : decode cX9_leapsBy 83 = .ok (.iload_n 2, 1) := by decide +kernel
theorem dX9_leapsBy_84 : decode cX9_leapsBy 84 = .ok (.iadd, 1) := by decide +kernel
theorem dX9_leapsBy_85 : decode cX9_leapsBy 85 = .ok (.invokevirtual 85, 3) := by decide +kernel
theorem dX9_leapsBy_88 : decode cX9_leapsBy 88 = .ok (.iconst 1, 1) := by decide +kernel
theorem dX9_leapsBy_89 : decode cX9_leapsBy 89 = .ok (.if_icmp .ne 16, 3) := by decide +kernel
theorem dX9_leapsBy_92 : decode cX9_leapsBy 92 = .ok (.aload_n 0, 1) := by decide +kernel
theorem dX9_leapsBy_93 : decode cX9_leapsBy 93 = .ok (.sipush 231, 3) := by decide +kernel
theorem dX9_leapsBy_96 : decode cX9_leapsBy 96 = .ok (.iload_n 2, 1) := by decide +kernel
theorem dX9_leapsBy_97 : decode cX9_leapsBy 97 = .ok (.iadd, 1) := by decide +kernel
theorem dX9_leapsBy_98 : decode cX9_leapsBy 98 = .ok (.iload_n 1, 1) := by decide +kernel
theorem dX9_leapsBy_99 : decode cX9_leapsBy 99 = .ok (.invokevirtual 106, 3) := by decide +kernel
theorem dX9_leapsBy_102 : decode cX9_leapsBy 102 = .ok (.goto 27, 3) := by decide +kernel
theorem dX9_leapsBy_105 : decode cX9_leapsBy 105 = .ok (.aload_n 0, 1) := by decide +kernel
theorem dX9_leapsBy_106 : decode cX9_leapsBy 106 = .ok (.sipush 231, 3) := by decide +kernel
theorem dX9_leapsBy_109 : decode cX9_leapsBy 109 = .ok (.iload_n 2, 1) := by decide +kernel
theorem dX9_leapsBy_110 : decode cX9_leapsBy 110 = .ok (.iadd, 1) := by decide +kernel
theorem dX9_leapsBy_111 : decode cX9_leapsBy 111 = .ok (.invokevirtual 85, 3) := by decide +kernel
theorem dX9_leapsBy_114 : decode cX9_leapsBy 114 = .ok (.aload_n 0, 1) := by decide +kernel
theorem dX9_leapsBy_115 : decode cX9_leapsBy 115 = .ok (.bipush 6, 2) := by decide +kernel
theorem dX9_leapsBy_117 : decode cX9_leapsBy 117 = .ok (.invokevirtual 85, 3) := by decide +kernel
theorem dX9_leapsBy_120 : decode cX9_leapsBy 120 = .ok (.if_icmp .gt 9, 3) := by decide +kernel
theorem dX9_leapsBy_123 : decode cX9_leapsBy 123 = .ok (.aload_n 0, 1) := by decide +kernel
theorem dX9_leapsBy_124 : decode cX9_leapsBy 124 = .ok (.iload_n 2, 1) := by decide +kernel
theorem dX9_leapsBy_125 : decode cX9_leapsBy 125 = .ok (.iconst 1, 1) := by decide +kernel
theorem dX9_leapsBy_126 : decode cX9_leapsBy 126 = .ok (.invokevirtual 142, 3) := by decide +kernel
theorem dX9_leapsBy_129 : decode cX9_leapsBy 129 = .ok (.iinc 2 1, 3) := by decide +kernel
theorem dX9_leapsBy_132 : decode cX9_leapsBy 132 = .ok (.goto (-70), 3) := by decide +kernel
theorem dX9_leapsBy_135 : decode cX9_leapsBy 135 = .ok (.aload_n 0, 1) := by decide +kernel
theorem dX9_leapsBy_136 : decode cX9_leapsBy 136 = .ok (.iconst 1, 1) := by decide +kernel
theorem dX9_leapsBy_137 : decode cX9_leapsBy 137 = .ok (.invokevirtual 146, 3) := by decide +kernel
theorem dX9_leapsBy_140 : decode cX9_leapsBy 140 = .ok (.aload_n 0, 1) := by decide +kernel
theorem dX9_leapsBy_141 : decode cX9_leapsBy 141 = .ok (.invokevirtual 166, 3) := by decide +kernel
theorem dX9_leapsBy_144 : decode cX9_leapsBy 144 = .ok (.aload_n 0, 1) := by decide +kernel
theorem dX9_leapsBy_145 : decode cX9_leapsBy 145 = .ok (.getfield 129, 3) := by decide +kernel
theorem dX9_leapsBy_148 : decode cX9_leapsBy 148 = .ok (.ireturn, 1) := by decide +kernel
theorem dX9_wishes_0 : decode cX9_wishes 0 = .ok (.aload_n 0, 1) := by decide +kernel
theorem dX9_wishes_1 : decode cX9_wishes 1 = .ok (.getfield 61, 3) := by decide +kernel
theorem dX9_wishes_4 : decode cX9_wishes 4 = .ok (.iconst 0, 1) := by decide +kernel
theorem dX9_wishes_5 : decode cX9_wishes 5 = .ok (.iload_n 1, 1) := by decide +kernel
theorem dX9_wishes_6 : decode cX9_wishes 6 = .ok (.iastore, 1) := by decide +kernel
theorem dX9_wishes_7 : decode cX9_wishes 7 = .ok (.aload_n 0, 1) := by decide +kernel
theorem dX9_wishes_8 : decode cX9_wishes 8 = .ok (.getfield 61, 3) := by decide +kernel
theorem dX9_wishes_11 : decode cX9_wishes 11 = .ok (.iconst 1, 1) := by decide +kernel
theorem dX9_wishes_12 : decode cX9_wishes 12 = .ok (.iload_n 2, 1) := by decide +kernel
theorem dX9_wishes_13 : decode cX9_wishes 13 = .ok (.iastore, 1) := by decide +kernel
theorem dX9_wishes_14 : decode cX9_wishes 14 = .ok (.aload_n 0, 1) := by decide +kernel
theorem dX9_wishes_15 : decode cX9_wishes 15 = .ok (.getfield 61, 3) := by decide +kernel
theorem dX9_wishes_18 : decode cX9_wishes 18 = .ok (.iconst 2, 1) := by decide +kernel
theorem dX9_wishes_19 : decode cX9_wishes 19 = .ok (.iload_n 3, 1) := by decide +kernel
theorem dX9_wishes_20 : decode cX9_wishes 20 = .ok (.iastore, 1) := by decide +kernel
theorem dX9_wishes_21 : decode cX9_wishes 21 = .ok (.aload_n 0, 1) := by decide +kernel
theorem dX9_wishes_22 : decode cX9_wishes 22 = .ok (.getfield 61, 3) := by decide +kernel
theorem dX9_wishes_25 : decode cX9_wishes 25 = .ok (.iconst 3, 1) := by decide +kernel
theorem dX9_wishes_26 : decode cX9_wishes 26 = .ok (.iload 4, 2) := by decide +kernel
theorem dX9_wishes_28 : decode cX9_wishes 28 = .ok (.iastore, 1) := by decide +kernel
theorem dX9_wishes_29 : decode cX9_wishes 29 = .ok (.iconst 0, 1) := by decide +kernel
theorem dX9_wishes_30 : decode cX9_wishes 30 = .ok (.istore 5, 2) := by decide +kernel
theorem dX9_wishes_32 : decode cX9_wishes 32 = .ok (.iload 5, 2) := by decide +kernel
theorem dX9_wishes_34 : decode cX9_wishes 34 = .ok (.iconst 4, 1) := by decide +kernel
theorem dX9_wishes_35 : decode cX9_wishes 35 = .ok (.if_icmp .ge 19, 3) := by decide +kernel
theorem dX9_wishes_38 : decode cX9_wishes 38 = .ok (.aload_n 0, 1) := by decide +kernel
theorem dX9_wishes_39 : decode cX9_wishes 39 = .ok (.getfield 61, 3) := by decide +kernel
theorem dX9_wishes_42 : decode cX9_wishes 42 = .ok (.iload 5, 2) := by decide +kernel
theorem dX9_wishes_44 : decode cX9_wishes 44 = .ok (.iaload, 1) := by decide +kernel
theorem dX9_wishes_45 : decode cX9_wishes 45 = .ok (.ifCond .eq 9, 3) := by decide +kernel
theorem dX9_wishes_48 : decode cX9_wishes 48 = .ok (.iinc 5 1, 3) := by decide +kernel
theorem dX9_wishes_51 : decode cX9_wishes 51 = .ok (.goto (-19), 3) := by decide +kernel
theorem dX9_wishes_54 : decode cX9_wishes 54 = .ok (.iload 5, 2) := by decide +kernel
theorem dX9_wishes_56 : decode cX9_wishes 56 = .ok (.ifCond .le 7, 3) := by decide +kernel
theorem dX9_wishes_59 : decode cX9_wishes 59 = .ok (.iconst 1, 1) := by decide +kernel
theorem dX9_wishes_60 : decode cX9_wishes 60 = .ok (.goto 4, 3) := by decide +kernel
theorem dX9_wishes_63 : decode cX9_wishes 63 = .ok (.iconst 0, 1) := by decide +kernel
theorem dX9_wishes_64 : decode cX9_wishes 64 = .ok (.istore 6, 2) := by decide +kernel
theorem dX9_wishes_66 : decode cX9_wishes 66 = .ok (.iconst 0, 1) := by decide +kernel
theorem dX9_wishes_67 : decode cX9_wishes 67 = .ok (.istore 7, 2) := by decide +kernel
theorem dX9_wishes_69 : decode cX9_wishes 69 = .ok (.iload 7, 2) := by decide +kernel
theorem dX9_wishes_71 : decode cX9_wishes 71 = .ok (.iconst 4, 1) := by decide +kernel
theorem dX9_wishes_72 : decode cX9_wishes 72 = .ok (.if_icmp .ge 61, 3) := by decide +kernel
theorem dX9_wishes_75 : decode cX9_wishes 75 = .ok (.iload 6, 2) := by decide +kernel
theorem dX9_wishes_77 : decode cX9_wishes 77 = .ok (.ifCond .eq 47, 3) := by decide +kernel
theorem dX9_wishes_80 : decode cX9_wishes 80 = .ok (.iload 7, 2) := by decide +kernel
theorem dX9_wishes_82 : decode cX9_wishes 82 = .ok (.iload 5, 2) := by decide +kernel
theorem dX9_wishes_84 : decode cX9_wishes 84 = .ok (.if_icmp .ge 26, 3) := by decide +kernel
theorem dX9_wishes_87 : decode cX9_wishes 87 = .ok (.aload_n 0, 1) := by decide +kernel
theorem dX9_wishes_88 : decode cX9_wishes 88 = .ok (.getfield 61, 3) := by decide +kernel
theorem dX9_wishes_91 : decode cX9_wishes 91 = .ok (.iload 7, 2) := by decide +kernel
theorem dX9_wishes_93 : decode cX9_wishes 93 = .ok (.iaload, 1) := by decide +kernel
theorem dX9_wishes_94 : decode cX9_wishes 94 = .ok (.i2l, 1) := by decide +kernel
theorem dX9_wishes_95 : decode cX9_wishes 95 = .ok (.ldc2_w 169, 3) := by decide +kernel
theorem dX9_wishes_98 : decode cX9_wishes 98 = .ok (.ldc2_w 171, 3) := by decide +kernel
theorem dX9_wishes_101 : decode cX9_wishes 101 = .ok (.invokestatic 21, 3) := by decide +kernel
theorem dX9_wishes_104 : decode cX9_wishes 104 = .ok (.ifCond .eq 20, 3) := by decide +kernel
theorem dX9_wishes_107 : decode cX9_wishes 107 = .ok (.goto 13, 3) := by decide +kernel
theorem dX9_wishes_110 : decode cX9_wishes 110 = .ok (.aload_n 0, 1) := by decide +kernel
theorem dX9_wishes_111 : decode cX9_wishes 111 = .ok (.getfield 61, 3) := by decide +kernel
theorem dX9_wishes_114 : decode cX9_wishes 114 = .ok (.iload 7, 2) := by decide +kernel
theorem dX9_wishes_116 : decode cX9_wishes 116 = .ok (.iaload, 1) := by decide +kernel
theorem dX9_wishes_117 : decode cX9_wishes 117 = .ok (.ifCond .ne 7, 3) := by decide +kernel
theorem dX9_wishes_120 : decode cX9_wishes 120 = .ok (.iconst 1, 1) := by decide +kernel
theorem dX9_wishes_121 : decode cX9_wishes 121 = .ok (.goto 4, 3) := by decide +kernel
theorem dX9_wishes_124 : decode cX9_wishes 124 = .ok (.iconst 0, 1) := by decide +kernel
theorem dX9_wishes_125 : decode cX9_wishes 125 = .ok (.istore 6, 2) := by decide +kernel
theorem dX9_wishes_127 : decode cX9_wishes 127 = .ok (.iinc 7 1, 3) := by decide +kernel
theorem dX9_wishes_130 : decode cX9_wishes 130 = .ok (.goto (-61), 3) := by decide +kernel
theorem dX9_wishes_133 : decode cX9_wishes 133 = .ok (.iload 6, 2) := by decide +kernel
theorem dX9_wishes_135 : decode cX9_wishes 135 = .ok (.ifCond .eq 8, 3) := by decide +kernel
theorem dX9_wishes_138 : decode cX9_wishes 138 = .ok (.iload 5, 2) := by decide +kernel
theorem dX9_wishes_140 : decode cX9_wishes 140 = .ok (.goto 4, 3) := by decide +kernel
theorem dX9_wishes_143 : decode cX9_wishes 143 = .ok (.iconst (-1), 1) := by decide +kernel
theorem dX9_wishes_144 : decode cX9_wishes 144 = .ok (.ireturn, 1) := by decide +kernel
theorem dX9_isAsWished_0 : decode cX9_isAsWished 0 = .ok (.iload_n 1, 1) := by decide +kernel
theorem dX9_isAsWished_1 : decode cX9_isAsWished 1 = .ok (.aload_n 0, 1) := by decide +kernel
theorem dX9_isAsWished_2 : decode cX9_isAsWished 2 = .ok (.iconst 0, 1) := by decide +kernel
theorem dX9_isAsWished_3 : decode cX9_isAsWished 3 = .ok (.invokevirtual 85, 3) := by decide +kernel
theorem dX9_isAsWished_6 : decode cX9_isAsWished 6 = .ok (.if_icmp .ne 7, 3) := by decide +kernel
theorem dX9_isAsWished_9 : decode cX9_isAsWished 9 = .ok (.iconst 1, 1) := by decide +kernel
theorem dX9_isAsWished_10 : decode cX9_isAsWished 10 = .ok (.goto 4, 3) := by decide +kernel
theorem dX9_isAsWished_13 : decode cX9_isAsWished 13 = .ok (.iconst 0, 1) := by decide +kernel
theorem dX9_isAsWished_14 : decode cX9_isAsWished 14 = .ok (.istore_n 2, 1) := by decide +kernel
theorem dX9_isAsWished_15 : decode cX9_isAsWished 15 = .ok (.iconst 0, 1) := by decide +kernel
theorem dX9_isAsWished_16 : decode cX9_isAsWished 16 = .ok (.istore_n 3, 1) := by decide +kernel
theorem dX9_isAsWished_17 : decode cX9_isAsWished 17 = .ok (.iload_n 3, 1) := by decide +kernel
theorem dX9_isAsWished_18 : decode cX9_isAsWished 18 = .ok (.iload_n 1, 1) := by decide +kernel
theorem dX9_isAsWished_19 : decode cX9_isAsWished 19 = .ok (.if_icmp .ge 35, 3) := by decide +kernel
theorem dX9_isAsWished_22 : decode cX9_isAsWished 22 = .ok (.iload_n 2, 1) := by decide +kernel
theorem dX9_isAsWished_23 : decode cX9_isAsWished 23 = .ok (.ifCond .eq 23, 3) := by decide +kernel
theorem dX9_isAsWished_26 : decode cX9_isAsWished 26 = .ok (.aload_n 0, 1) := by decide +kernel
theorem dX9_isAsWished_27 : decode cX9_isAsWished 27 = .ok (.iconst 1, 1) := by decide +kernel
theorem dX9_isAsWished_28 : decode cX9_isAsWished 28 = .ok (.iload_n 3, 1) := by decide +kernel
theorem dX9_isAsWished_29 : decode cX9_isAsWished 29 = .ok (.iadd, 1) := by decide +kernel
theorem dX9_isAsWished_30 : decode cX9_isAsWished 30 = .ok (.invokevirtual 85, 3) := by decide +kernel
theorem dX9_isAsWished_33 : decode cX9_isAsWished 33 = .ok (.aload_n 0, 1) := by decide +kernel
theorem dX9_isAsWished_34 : decode cX9_isAsWished 34 = .ok (.getfield 61, 3) := by decide +kernel
theorem dX9_isAsWished_37 : decode cX9_isAsWished 37 = .ok (.iload_n 3, 1) := by decide +kernel
theorem dX9_isAsWished_38 : decode cX9_isAsWished 38 = .ok (.iaload, 1) := by decide +kernel
theorem dX9_isAsWished_39 : decode cX9_isAsWished 39 = .ok (.if_icmp .ne 7, 3) := by decide +kernel
theorem dX9_isAsWished_42 : decode cX9_isAsWished 42 = .ok (.iconst 1, 1) := by decide +kernel
theorem dX9_isAsWished_43 : decode cX9_isAsWished 43 = .ok (.goto 4, 3) := by decide +kernel
theorem dX9_isAsWished_46 : decode cX9_isAsWished 46 = .ok (.iconst 0, 1) := by decide +kernel
theorem dX9_isAsWished_47 : decode cX9_isAsWished 47 = .ok (.istore_n 2, 1) := by decide +kernel
theorem dX9_isAsWished_48 : decode cX9_isAsWished 48 = .ok (.iinc 3 1, 3) := by decide +kernel
theorem dX9_isAsWished_51 : decode cX9_isAsWished 51 = .ok (.goto (-34), 3) := by decide +kernel
theorem dX9_isAsWished_54 : decode cX9_isAsWished 54 = .ok (.iload_n 2, 1) := by decide +kernel
theorem dX9_isAsWished_55 : decode cX9_isAsWished 55 = .ok (.ireturn, 1) := by decide +kernel
theorem dX9_laysWished_0 : decode cX9_laysWished 0 = .ok (.aload_n 0, 1) := by decide +kernel
theorem dX9_laysWished_1 : decode cX9_laysWished 1 = .ok (.iconst 0, 1) := by decide +kernel
theorem dX9_laysWished_2 : decode cX9_laysWished 2 = .ok (.iload_n 1, 1) := by decide +kernel
theorem dX9_laysWished_3 : decode cX9_laysWished 3 = .ok (.invokevirtual 76, 3) := by decide +kernel
theorem dX9_laysWished_6 : decode cX9_laysWished 6 = .ok (.iconst 0, 1) := by decide +kernel
theorem dX9_laysWished_7 : decode cX9_laysWished 7 = .ok (.istore_n 2, 1) := by decide +kernel
theorem dX9_laysWished_8 : decode cX9_laysWished 8 = .ok (.iload_n 2, 1) := by decide +kernel
theorem dX9_laysWished_9 : decode cX9_laysWished 9 = .ok (.iconst 4, 1) := by decide +kernel
theorem dX9_laysWished_10 : decode cX9_laysWished 10 = .ok (.if_icmp .ge 22, 3) := by decide +kernel
theorem dX9_laysWished_13 : decode cX9_laysWished 13 = .ok (.aload_n 0, 1) := by decide +kernel
theorem dX9_laysWished_14 : decode cX9_laysWished 14 = .ok (.iconst 1, 1) := by decide +kernel
theorem dX9_laysWished_15 : decode cX9_laysWished 15 = .ok (.iload_n 2, 1) := by decide +kernel
theorem dX9_laysWished_16 : decode cX9_laysWished 16 = .ok (.iadd, 1) := by decide +kernel
theorem dX9_laysWished_17 : decode cX9_laysWished 17 = .ok (.aload_n 0, 1) := by decide +kernel
theorem dX9_laysWished_18 : decode cX9_laysWished 18 = .ok (.getfield 61, 3) := by decide +kernel
theorem dX9_laysWished_21 : decode cX9_laysWished 21 = .ok (.iload_n 2, 1) := by decide +kernel
theorem dX9_laysWished_22 : decode cX9_laysWished 22 = .ok (.iaload, 1) := by decide +kernel
theorem dX9_laysWished_23 : decode cX9_laysWished 23 = .ok (.invokevirtual 76, 3) := by decide +kernel
theorem dX9_laysWished_26 : decode cX9_laysWished 26 = .ok (.iinc 2 1, 3) := by decide +kernel
theorem dX9_laysWished_29 : decode cX9_laysWished 29 = .ok (.goto (-21), 3) := by decide +kernel
theorem dX9_laysWished_32 : decode cX9_laysWished 32 = .ok (.aload_n 0, 1) := by decide +kernel
theorem dX9_laysWished_33 : decode cX9_laysWished 33 = .ok (.invokevirtual 166, 3) := by decide +kernel
theorem dX9_laysWished_36 : decode cX9_laysWished 36 = .ok (.return_, 1) := by decide +kernel
theorem dX9_wheels_0 : decode cX9_wheels 0 = .ok (.aload_n 0, 1) := by decide +kernel
theorem dX9_wheels_1 : decode cX9_wheels 1 = .ok (.iconst 0, 1) := by decide +kernel
theorem dX9_wheels_2 : decode cX9_wheels 2 = .ok (.putfield 1, 3) := by decide +kernel
theorem dX9_wheels_5 : decode cX9_wheels 5 = .ok (.aload_n 0, 1) := by decide +kernel
theorem dX9_wheels_6 : decode cX9_wheels 6 = .ok (.iload_n 1, 1) := by decide +kernel
theorem dX9_wheels_7 : decode cX9_wheels 7 = .ok (.iload_n 2, 1) := by decide +kernel
theorem dX9_wheels_8 : decode cX9_wheels 8 = .ok (.iload_n 3, 1) := by decide +kernel
theorem dX9_wheels_9 : decode cX9_wheels 9 = .ok (.iload 4, 2) := by decide +kernel
theorem dX9_wheels_11 : decode cX9_wheels 11 = .ok (.invokevirtual 173, 3) := by decide +kernel
theorem dX9_wheels_14 : decode cX9_wheels 14 = .ok (.istore 5, 2) := by decide +kernel
theorem dX9_wheels_16 : decode cX9_wheels 16 = .ok (.iload 5, 2) := by decide +kernel
theorem dX9_wheels_18 : decode cX9_wheels 18 = .ok (.ifCond .ge 5, 3) := by decide +kernel
theorem dX9_wheels_21 : decode cX9_wheels 21 = .ok (.iconst (-1), 1) := by decide +kernel
theorem dX9_wheels_22 : decode cX9_wheels 22 = .ok (.ireturn, 1) := by decide +kernel
theorem dX9_wheels_23 : decode cX9_wheels 23 = .ok (.aload_n 0, 1) := by decide +kernel
theorem dX9_wheels_24 : decode cX9_wheels 24 = .ok (.iload 5, 2) := by decide +kernel
theorem dX9_wheels_26 : decode cX9_wheels 26 = .ok (.invokevirtual 177, 3) := by decide +kernel
theorem dX9_wheels_29 : decode cX9_wheels 29 = .ok (.ifCond .eq 6, 3) := by decide +kernel
theorem dX9_wheels_32 : decode cX9_wheels 32 = .ok (.bipush (-2), 2) := by decide +kernel
theorem dX9_wheels_34 : decode cX9_wheels 34 = .ok (.ireturn, 1) := by decide +kernel
theorem dX9_wheels_35 : decode cX9_wheels 35 = .ok (.aload_n 0, 1) := by decide +kernel
theorem dX9_wheels_36 : decode cX9_wheels 36 = .ok (.iload 5, 2) := by decide +kernel
theorem dX9_wheels_38 : decode cX9_wheels 38 = .ok (.invokevirtual 180, 3) := by decide +kernel
theorem dX9_wheels_41 : decode cX9_wheels 41 = .ok (.iload 5, 2) := by decide +kernel
theorem dX9_wheels_43 : decode cX9_wheels 43 = .ok (.ireturn, 1) := by decide +kernel
theorem dX9_order_0 : decode cX9_order 0 = .ok (.aload_n 0, 1) := by decide +kernel
theorem dX9_order_1 : decode cX9_order 1 = .ok (.iconst 0, 1) := by decide +kernel
theorem dX9_order_2 : decode cX9_order 2 = .ok (.putfield 1, 3) := by decide +kernel
theorem dX9_order_5 : decode cX9_order 5 = .ok (.iload_n 1, 1) := by decide +kernel
theorem dX9_order_6 : decode cX9_order 6 = .ok (.i2l, 1) := by decide +kernel
theorem dX9_order_7 : decode cX9_order 7 = .ok (.lconst 0, 1) := by decide +kernel
theorem dX9_order_8 : decode cX9_order 8 = .ok (.ldc2_w 169, 3) := by decide +kernel
theorem dX9_order_11 : decode cX9_order 11 = .ok (.invokestatic 21, 3) := by decide +kernel
theorem dX9_order_14 : decode cX9_order 14 = .ok (.ifCond .ne 5, 3) := by decide +kernel
theorem dX9_order_17 : decode cX9_order 17 = .ok (.iconst (-1), 1) := by decide +kernel
theorem dX9_order_18 : decode cX9_order 18 = .ok (.ireturn, 1) := by decide +kernel
theorem dX9_order_19 : decode cX9_order 19 = .ok (.aload_n 0, 1) := by decide +kernel
theorem dX9_order_20 : decode cX9_order 20 = .ok (.iconst 5, 1) := by decide +kernel
theorem dX9_order_21 : decode cX9_order 21 = .ok (.invokevirtual 85, 3) := by decide +kernel
theorem dX9_order_24 : decode cX9_order 24 = .ok (.istore_n 2, 1) := by decide +kernel
theorem dX9_order_25 : decode cX9_order 25 = .ok (.iload_n 2, 1) := by decide +kernel
theorem dX9_order_26 : decode cX9_order 26 = .ok (.iload_n 1, 1) := by decide +kernel
theorem dX9_order_27 : decode cX9_order 27 = .ok (.if_icmp .ne 6, 3) := by decide +kernel
theorem dX9_order_30 : decode cX9_order 30 = .ok (.bipush (-2), 2) := by decide +kernel
theorem dX9_order_32 : decode cX9_order 32 = .ok (.ireturn, 1) := by decide +kernel
theorem dX9_order_33 : decode cX9_order 33 = .ok (.aload_n 0, 1) := by decide +kernel
theorem dX9_order_34 : decode cX9_order 34 = .ok (.iconst 5, 1) := by decide +kernel
theorem dX9_order_35 : decode cX9_order 35 = .ok (.iload_n 1, 1) := by decide +kernel
theorem dX9_order_36 : decode cX9_order 36 = .ok (.invokevirtual 76, 3) := by decide +kernel
theorem dX9_order_39 : decode cX9_order 39 = .ok (.iload_n 2, 1) := by decide +kernel
theorem dX9_order_40 : decode cX9_order 40 = .ok (.ireturn, 1) := by decide +kernel
theorem dX9_ticks_0 : decode cX9_ticks 0 = .ok (.aload_n 0, 1) := by decide +kernel
theorem dX9_ticks_1 : decode cX9_ticks 1 = .ok (.iconst 0, 1) := by decide +kernel
theorem dX9_ticks_2 : decode cX9_ticks 2 = .ok (.putfield 1, 3) := by decide +kernel
theorem dX9_ticks_5 : decode cX9_ticks 5 = .ok (.iload_n 1, 1) := by decide +kernel
theorem dX9_ticks_6 : decode cX9_ticks 6 = .ok (.i2l, 1) := by decide +kernel
theorem dX9_ticks_7 : decode cX9_ticks 7 = .ok (.lconst 1, 1) := by decide +kernel
theorem dX9_ticks_8 : decode cX9_ticks 8 = .ok (.ldc2_w 183, 3) := by decide +kernel
theorem dX9_ticks_11 : decode cX9_ticks 11 = .ok (.invokestatic 21, 3) := by decide +kernel
theorem dX9_ticks_14 : decode cX9_ticks 14 = .ok (.ifCond .ne 5, 3) := by decide +kernel
theorem dX9_ticks_17 : decode cX9_ticks 17 = .ok (.iconst (-1), 1) := by decide +kernel
theorem dX9_ticks_18 : decode cX9_ticks 18 = .ok (.ireturn, 1) := by decide +kernel
theorem dX9_ticks_19 : decode cX9_ticks 19 = .ok (.aload_n 0, 1) := by decide +kernel
theorem dX9_ticks_20 : decode cX9_ticks 20 = .ok (.iload_n 1, 1) := by decide +kernel
theorem dX9_ticks_21 : decode cX9_ticks 21 = .ok (.invokevirtual 185, 3) := by decide +kernel
theorem dX9_ticks_24 : decode cX9_ticks 24 = .ok (.istore_n 2, 1) := by decide +kernel
theorem dX9_ticks_25 : decode cX9_ticks 25 = .ok (.iload_n 2, 1) := by decide +kernel
theorem dX9_ticks_26 : decode cX9_ticks 26 = .ok (.ifCond .lt 7, 3) := by decide +kernel
theorem dX9_ticks_29 : decode cX9_ticks 29 = .ok (.aload_n 0, 1) := by decide +kernel
theorem dX9_ticks_30 : decode cX9_ticks 30 = .ok (.invokevirtual 188, 3) := by decide +kernel
theorem dX9_ticks_33 : decode cX9_ticks 33 = .ok (.iload_n 2, 1) := by decide +kernel
theorem dX9_ticks_34 : decode cX9_ticks 34 = .ok (.ireturn, 1) := by decide +kernel
theorem dX9_isLeap_0 : decode cX9_isLeap 0 = .ok (.iload_n 0, 1) := by decide +kernel
theorem dX9_isLeap_1 : decode cX9_isLeap 1 = .ok (.ifCond .eq 21, 3) := by decide +kernel
theorem dX9_isLeap_4 : decode cX9_isLeap 4 = .ok (.iload_n 0, 1) := by decide +kernel
theorem dX9_isLeap_5 : decode cX9_isLeap 5 = .ok (.i2l, 1) := by decide +kernel
theorem dX9_isLeap_6 : decode cX9_isLeap 6 = .ok (.ldc2_w 191, 3) := by decide +kernel
theorem dX9_isLeap_9 : decode cX9_isLeap 9 = .ok (.ldc2_w 193, 3) := by decide +kernel
theorem dX9_isLeap_12 : decode cX9_isLeap 12 = .ok (.invokestatic 21, 3) := by decide +kernel
theorem dX9_isLeap_15 : decode cX9_isLeap 15 = .ok (.ifCond .eq 7, 3) := by decide +kernel
theorem dX9_isLeap_18 : decode cX9_isLeap 18 = .ok (.iconst 1, 1) := by decide +kernel
theorem dX9_isLeap_19 : decode cX9_isLeap 19 = .ok (.goto 4, 3) := by decide +kernel
theorem dX9_isLeap_22 : decode cX9_isLeap 22 = .ok (.iconst 0, 1) := by decide +kernel
theorem dX9_isLeap_23 : decode cX9_isLeap 23 = .ok (.ireturn, 1) := by decide +kernel
theorem dX9_leaps_0 : decode cX9_leaps 0 = .ok (.aload_n 0, 1) := by decide +kernel
theorem dX9_leaps_1 : decode cX9_leaps 1 = .ok (.iconst 0, 1) := by decide +kernel
theorem dX9_leaps_2 : decode cX9_leaps 2 = .ok (.putfield 1, 3) := by decide +kernel
theorem dX9_leaps_5 : decode cX9_leaps 5 = .ok (.iload_n 1, 1) := by decide +kernel
theorem dX9_leaps_6 : decode cX9_leaps 6 = .ok (.invokestatic 195, 3) := by decide +kernel
theorem dX9_leaps_9 : decode cX9_leaps 9 = .ok (.ifCond .ne 5, 3) := by decide +kernel
theorem dX9_leaps_12 : decode cX9_leaps 12 = .ok (.iconst (-1), 1) := by decide +kernel
theorem dX9_leaps_13 : decode cX9_leaps 13 = .ok (.ireturn, 1) := by decide +kernel
theorem dX9_leaps_14 : decode cX9_leaps 14 = .ok (.aload_n 0, 1) := by decide +kernel
theorem dX9_leaps_15 : decode cX9_leaps 15 = .ok (.iload_n 1, 1) := by decide +kernel
theorem dX9_leaps_16 : decode cX9_leaps 16 = .ok (.invokevirtual 198, 3) := by decide +kernel
theorem dX9_leaps_19 : decode cX9_leaps 19 = .ok (.istore_n 2, 1) := by decide +kernel
theorem dX9_leaps_20 : decode cX9_leaps 20 = .ok (.iload_n 2, 1) := by decide +kernel
theorem dX9_leaps_21 : decode cX9_leaps 21 = .ok (.ifCond .lt 7, 3) := by decide +kernel
theorem dX9_leaps_24 : decode cX9_leaps 24 = .ok (.aload_n 0, 1) := by decide +kernel
theorem dX9_leaps_25 : decode cX9_leaps 25 = .ok (.invokevirtual 188, 3) := by decide +kernel
theorem dX9_leaps_28 : decode cX9_leaps 28 = .ok (.iload_n 2, 1) := by decide +kernel
theorem dX9_leaps_29 : decode cX9_leaps 29 = .ok (.ireturn, 1) := by decide +kernel
theorem dX9_many_0 : decode cX9_many 0 = .ok (.iconst 0, 1) := by decide +kernel
theorem dX9_many_1 : decode cX9_many 1 = .ok (.istore_n 1, 1) := by decide +kernel
theorem dX9_many_2 : decode cX9_many 2 = .ok (.iconst 0, 1) := by decide +kernel
theorem dX9_many_3 : decode cX9_many 3 = .ok (.istore_n 2, 1) := by decide +kernel
theorem dX9_many_4 : decode cX9_many 4 = .ok (.iload_n 2, 1) := by decide +kernel
theorem dX9_many_5 : decode cX9_many 5 = .ok (.bipush 16, 2) := by decide +kernel
theorem dX9_many_7 : decode cX9_many 7 = .ok (.if_icmp .ge 21, 3) := by decide +kernel
theorem dX9_many_10 : decode cX9_many 10 = .ok (.iload_n 1, 1) := by decide +kernel
theorem dX9_many_11 : decode cX9_many 11 = .ok (.aload_n 0, 1) := by decide +kernel
theorem dX9_many_12 : decode cX9_many 12 = .ok (.sipush 215, 3) := by decide +kernel
theorem dX9_many_15 : decode cX9_many 15 = .ok (.iload_n 2, 1) := by decide +kernel
theorem dX9_many_16 : decode cX9_many 16 = .ok (.iadd, 1) := by decide +kernel
theorem dX9_many_17 : decode cX9_many 17 = .ok (.invokevirtual 85, 3) := by decide +kernel
theorem dX9_many_20 : decode cX9_many 20 = .ok (.iadd, 1) := by decide +kernel
theorem dX9_many_21 : decode cX9_many 21 = .ok (.istore_n 1, 1) := by decide +kernel
theorem dX9_many_22 : decode cX9_many 22 = .ok (.iinc 2 1, 3) := by decide +kernel
theorem dX9_many_25 : decode cX9_many 25 = .ok (.goto (-21), 3) := by decide +kernel
theorem dX9_many_28 : decode cX9_many 28 = .ok (.iload_n 1, 1) := by decide +kernel
theorem dX9_many_29 : decode cX9_many 29 = .ok (.ireturn, 1) := by decide +kernel
theorem dX9_setsOne_0 : decode cX9_setsOne 0 = .ok (.iconst 0, 1) := by decide +kernel
theorem dX9_setsOne_1 : decode cX9_setsOne 1 = .ok (.istore 6, 2) := by decide +kernel
theorem dX9_setsOne_3 : decode cX9_setsOne 3 = .ok (.iload 6, 2) := by decide +kernel
theorem dX9_setsOne_5 : decode cX9_setsOne 5 = .ok (.bipush 16, 2) := by decide +kernel
theorem dX9_setsOne_7 : decode cX9_setsOne 7 = .ok (.if_icmp .ge 23, 3) := by decide +kernel
theorem dX9_setsOne_10 : decode cX9_setsOne 10 = .ok (.aload_n 0, 1) := by decide +kernel
theorem dX9_setsOne_11 : decode cX9_setsOne 11 = .ok (.sipush 215, 3) := by decide +kernel
theorem dX9_setsOne_14 : decode cX9_setsOne 14 = .ok (.iload 6, 2) := by decide +kernel
theorem dX9_setsOne_16 : decode cX9_setsOne 16 = .ok (.iadd, 1) := by decide +kernel
theorem dX9_setsOne_17 : decode cX9_setsOne 17 = .ok (.invokevirtual 85, 3) := by decide +kernel
theorem dX9_setsOne_20 : decode cX9_setsOne 20 = .ok (.iconst 1, 1) := by decide +kernel
theorem dX9_setsOne_21 : decode cX9_setsOne 21 = .ok (.if_icmp .ne 9, 3) := by decide +kernel
theorem dX9_setsOne_24 : decode cX9_setsOne 24 = .ok (.iinc 6 1, 3) := by decide +kernel
theorem dX9_setsOne_27 : decode cX9_setsOne 27 = .ok (.goto (-24), 3) := by decide +kernel
theorem dX9_setsOne_30 : decode cX9_setsOne 30 = .ok (.iload 6, 2) := by decide +kernel
theorem dX9_setsOne_32 : decode cX9_setsOne 32 = .ok (.bipush 16, 2) := by decide +kernel
theorem dX9_setsOne_34 : decode cX9_setsOne 34 = .ok (.if_icmp .ne 6, 3) := by decide +kernel
theorem dX9_setsOne_37 : decode cX9_setsOne 37 = .ok (.bipush (-3), 2) := by decide +kernel
theorem dX9_setsOne_39 : decode cX9_setsOne 39 = .ok (.ireturn, 1) := by decide +kernel
theorem dX9_setsOne_40 : decode cX9_setsOne 40 = .ok (.aload_n 0, 1) := by decide +kernel
theorem dX9_setsOne_41 : decode cX9_setsOne 41 = .ok (.sipush 215, 3) := by decide +kernel
theorem dX9_setsOne_44 : decode cX9_setsOne 44 = .ok (.iload 6, 2) := by decide +kernel
theorem dX9_setsOne_46 : decode cX9_setsOne 46 = .ok (.iadd, 1) := by decide +kernel
theorem dX9_setsOne_47 : decode cX9_setsOne 47 = .ok (.iconst 1, 1) := by decide +kernel
theorem dX9_setsOne_48 : decode cX9_setsOne 48 = .ok (.invokevirtual 76, 3) := by decide +kernel
theorem dX9_setsOne_51 : decode cX9_setsOne 51 = .ok (.aload_n 0, 1) := by decide +kernel
theorem dX9_setsOne_52 : decode cX9_setsOne 52 = .ok (.sipush 231, 3) := by decide +kernel
theorem dX9_setsOne_55 : decode cX9_setsOne 55 = .ok (.iload 6, 2) := by decide +kernel
theorem dX9_setsOne_57 : decode cX9_setsOne 57 = .ok (.iadd, 1) := by decide +kernel
theorem dX9_setsOne_58 : decode cX9_setsOne 58 = .ok (.aload_n 0, 1) := by decide +kernel
theorem dX9_setsOne_59 : decode cX9_setsOne 59 = .ok (.bipush 6, 2) := by decide +kernel
theorem dX9_setsOne_61 : decode cX9_setsOne 61 = .ok (.invokevirtual 85, 3) := by decide +kernel
theorem dX9_setsOne_64 : decode cX9_setsOne 64 = .ok (.iload_n 1, 1) := by decide +kernel
theorem dX9_setsOne_65 : decode cX9_setsOne 65 = .ok (.iadd, 1) := by decide +kernel
theorem dX9_setsOne_66 : decode cX9_setsOne 66 = .ok (.invokevirtual 76, 3) := by decide +kernel
theorem dX9_setsOne_69 : decode cX9_setsOne 69 = .ok (.aload_n 0, 1) := by decide +kernel
theorem dX9_setsOne_70 : decode cX9_setsOne 70 = .ok (.sipush 247, 3) := by decide +kernel
theorem dX9_setsOne_73 : decode cX9_setsOne 73 = .ok (.iload 6, 2) := by decide +kernel
theorem dX9_setsOne_75 : decode cX9_setsOne 75 = .ok (.iadd, 1) := by decide +kernel
theorem dX9_setsOne_76 : decode cX9_setsOne 76 = .ok (.aload_n 0, 1) := by decide +kernel
theorem dX9_setsOne_77 : decode cX9_setsOne 77 = .ok (.bipush 13, 2) := by decide +kernel
theorem dX9_setsOne_79 : decode cX9_setsOne 79 = .ok (.invokevirtual 85, 3) := by decide +kernel
theorem dX9_setsOne_82 : decode cX9_setsOne 82 = .ok (.invokevirtual 76, 3) := by decide +kernel
theorem dX9_setsOne_85 : decode cX9_setsOne 85 = .ok (.aload_n 0, 1) := by decide +kernel
theorem dX9_setsOne_86 : decode cX9_setsOne 86 = .ok (.sipush 263, 3) := by decide +kernel
theorem dX9_setsOne_89 : decode cX9_setsOne 89 = .ok (.iload 6, 2) := by decide +kernel
theorem dX9_setsOne_91 : decode cX9_setsOne 91 = .ok (.iadd, 1) := by decide +kernel
theorem dX9_setsOne_92 : decode cX9_setsOne 92 = .ok (.iload_n 2, 1) := by decide +kernel
theorem dX9_setsOne_93 : decode cX9_setsOne 93 = .ok (.invokevirtual 76, 3) := by decide +kernel
theorem dX9_setsOne_96 : decode cX9_setsOne 96 = .ok (.aload_n 0, 1) := by decide +kernel
theorem dX9_setsOne_97 : decode cX9_setsOne 97 = .ok (.sipush 279, 3) := by decide +kernel
theorem dX9_setsOne_100 : decode cX9_setsOne 100 = .ok (.iload 6, 2) := by decide +kernel
theorem dX9_setsOne_102 : decode cX9_setsOne 102 = .ok (.iadd, 1) := by decide +kernel
theorem dX9_setsOne_103 : decode cX9_setsOne 103 = .ok (.iload_n 3, 1) := by decide +kernel
theorem dX9_setsOne_104 : decode cX9_setsOne 104 = .ok (.invokevirtual 76, 3) := by decide +kernel
theorem dX9_setsOne_107 : decode cX9_setsOne 107 = .ok (.aload_n 0, 1) := by decide +kernel
theorem dX9_setsOne_108 : decode cX9_setsOne 108 = .ok (.sipush 295, 3) := by decide +kernel
theorem dX9_setsOne_111 : decode cX9_setsOne 111 = .ok (.iload 6, 2) := by decide +kernel
theorem dX9_setsOne_113 : decode cX9_setsOne 113 = .ok (.iadd, 1) := by decide +kernel
theorem dX9_setsOne_114 : decode cX9_setsOne 114 = .ok (.iload 4, 2) := by decide +kernel
theorem dX9_setsOne_116 : decode cX9_setsOne 116 = .ok (.invokevirtual 76, 3) := by decide +kernel
theorem dX9_setsOne_119 : decode cX9_setsOne 119 = .ok (.aload_n 0, 1) := by decide +kernel
theorem dX9_setsOne_120 : decode cX9_setsOne 120 = .ok (.sipush 311, 3) := by decide +kernel
theorem dX9_setsOne_123 : decode cX9_setsOne 123 = .ok (.iload 6, 2) := by decide +kernel
theorem dX9_setsOne_125 : decode cX9_setsOne 125 = .ok (.iadd, 1) := by decide +kernel
theorem dX9_setsOne_126 : decode cX9_setsOne 126 = .ok (.iload 5, 2) := by decide +kernel
theorem dX9_setsOne_128 : decode cX9_setsOne 128 = .ok (.invokevirtual 76, 3) := by decide +kernel
theorem dX9_setsOne_131 : decode cX9_setsOne 131 = .ok (.aload_n 0, 1) := by decide +kernel
theorem dX9_setsOne_132 : decode cX9_setsOne 132 = .ok (.sipush 327, 3) := by decide +kernel
theorem dX9_setsOne_135 : decode cX9_setsOne 135 = .ok (.iload 6, 2) := by decide +kernel
theorem dX9_setsOne_137 : decode cX9_setsOne 137 = .ok (.iadd, 1) := by decide +kernel
theorem dX9_setsOne_138 : decode cX9_setsOne 138 = .ok (.iconst 0, 1) := by decide +kernel
theorem dX9_setsOne_139 : decode cX9_setsOne 139 = .ok (.invokevirtual 76, 3) := by decide +kernel
theorem dX9_setsOne_142 : decode cX9_setsOne 142 = .ok (.aload_n 0, 1) := by decide +kernel
theorem dX9_setsOne_143 : decode cX9_setsOne 143 = .ok (.sipush 343, 3) := by decide +kernel
theorem dX9_setsOne_146 : decode cX9_setsOne 146 = .ok (.iload 6, 2) := by decide +kernel
theorem dX9_setsOne_148 : decode cX9_setsOne 148 = .ok (.iadd, 1) := by decide +kernel
theorem dX9_setsOne_149 : decode cX9_setsOne 149 = .ok (.iconst 0, 1) := by decide +kernel
theorem dX9_setsOne_150 : decode cX9_setsOne 150 = .ok (.invokevirtual 76, 3) := by decide +kernel
theorem dX9_setsOne_153 : decode cX9_setsOne 153 = .ok (.aload_n 0, 1) := by decide +kernel
theorem dX9_setsOne_154 : decode cX9_setsOne 154 = .ok (.sipush 375, 3) := by decide +kernel
theorem dX9_setsOne_157 : decode cX9_setsOne 157 = .ok (.iload 6, 2) := by decide +kernel
theorem dX9_setsOne_159 : decode cX9_setsOne 159 = .ok (.iadd, 1) := by decide +kernel
theorem dX9_setsOne_160 : decode cX9_setsOne 160 = .ok (.iconst 0, 1) := by decide +kernel
theorem dX9_setsOne_161 : decode cX9_setsOne 161 = .ok (.invokevirtual 76, 3) := by decide +kernel
theorem dX9_setsOne_164 : decode cX9_setsOne 164 = .ok (.aload_n 0, 1) := by decide +kernel
theorem dX9_setsOne_165 : decode cX9_setsOne 165 = .ok (.bipush 13, 2) := by decide +kernel
theorem dX9_setsOne_167 : decode cX9_setsOne 167 = .ok (.iconst 1, 1) := by decide +kernel
theorem dX9_setsOne_168 : decode cX9_setsOne 168 = .ok (.invokevirtual 106, 3) := by decide +kernel
theorem dX9_setsOne_171 : decode cX9_setsOne 171 = .ok (.aload_n 0, 1) := by decide +kernel
theorem dX9_setsOne_172 : decode cX9_setsOne 172 = .ok (.iload 6, 2) := by decide +kernel
theorem dX9_setsOne_174 : decode cX9_setsOne 174 = .ok (.invokevirtual 102, 3) := by decide +kernel
theorem dX9_setsOne_177 : decode cX9_setsOne 177 = .ok (.iload 6, 2) := by decide +kernel
theorem dX9_setsOne_179 : decode cX9_setsOne 179 = .ok (.ireturn, 1) := by decide +kernel
theorem dX9_sets_0 : decode cX9_sets 0 = .ok (.aload_n 0, 1) := by decide +kernel
theorem dX9_sets_1 : decode cX9_sets 1 = .ok (.iconst 0, 1) := by decide +kernel
theorem dX9_sets_2 : decode cX9_sets 2 = .ok (.putfield 1, 3) := by decide +kernel
theorem dX9_sets_5 : decode cX9_sets 5 = .ok (.iload_n 1, 1) := by decide +kernel
theorem dX9_sets_6 : decode cX9_sets 6 = .ok (.i2l, 1) := by decide +kernel
theorem dX9_sets_7 : decode cX9_sets 7 = .ok (.lconst 1, 1) := by decide +kernel
theorem dX9_sets_8 : decode cX9_sets 8 = .ok (.ldc2_w 193, 3) := by decide +kernel
theorem dX9_sets_11 : decode cX9_sets 11 = .ok (.invokestatic 21, 3) := by decide +kernel
theorem dX9_sets_14 : decode cX9_sets 14 = .ok (.ifCond .eq 53, 3) := by decide +kernel
theorem dX9_sets_17 : decode cX9_sets 17 = .ok (.iload_n 2, 1) := by decide +kernel
theorem dX9_sets_18 : decode cX9_sets 18 = .ok (.i2l, 1) := by decide +kernel
theorem dX9_sets_19 : decode cX9_sets 19 = .ok (.lconst 0, 1) := by decide +kernel
theorem dX9_sets_20 : decode cX9_sets 20 = .ok (.ldc2_w 201, 3) := by decide +kernel
theorem dX9_sets_23 : decode cX9_sets 23 = .ok (.invokestatic 21, 3) := by decide +kernel
theorem dX9_sets_26 : decode cX9_sets 26 = .ok (.ifCond .eq 41, 3) := by decide +kernel
theorem dX9_sets_29 : decode cX9_sets 29 = .ok (.iload_n 3, 1) := by decide +kernel
theorem dX9_sets_30 : decode cX9_sets 30 = .ok (.i2l, 1) := by decide +kernel
theorem dX9_sets_31 : decode cX9_sets 31 = .ok (.lconst 0, 1) := by decide +kernel
theorem dX9_sets_32 : decode cX9_sets 32 = .ok (.ldc2_w 203, 3) := by decide +kernel
theorem dX9_sets_35 : decode cX9_sets 35 = .ok (.invokestatic 21, 3) := by decide +kernel
theorem dX9_sets_38 : decode cX9_sets 38 = .ok (.ifCond .eq 29, 3) := by decide +kernel
theorem dX9_sets_41 : decode cX9_sets 41 = .ok (.iload 4, 2) := by decide +kernel
theorem dX9_sets_43 : decode cX9_sets 43 = .ok (.i2l, 1) := by decide +kernel
theorem dX9_sets_44 : decode cX9_sets 44 = .ok (.lconst 1, 1) := by decide +kernel
theorem dX9_sets_45 : decode cX9_sets 45 = .ok (.ldc2_w 205, 3) := by decide +kernel
theorem dX9_sets_48 : decode cX9_sets 48 = .ok (.invokestatic 21, 3) := by decide +kernel
theorem dX9_sets_51 : decode cX9_sets 51 = .ok (.ifCond .eq 16, 3) := by decide +kernel
theorem dX9_sets_54 : decode cX9_sets 54 = .ok (.iload 5, 2) := by decide +kernel
theorem dX9_sets_56 : decode cX9_sets 56 = .ok (.i2l, 1) := by decide +kernel
theorem dX9_sets_57 : decode cX9_sets 57 = .ok (.lconst 0, 1) := by decide +kernel
theorem dX9_sets_58 : decode cX9_sets 58 = .ok (.ldc2_w 207, 3) := by decide +kernel
theorem dX9_sets_61 : decode cX9_sets 61 = .ok (.invokestatic 21, 3) := by decide +kernel
theorem dX9_sets_64 : decode cX9_sets 64 = .ok (.ifCond .ne 5, 3) := by decide +kernel
theorem dX9_sets_67 : decode cX9_sets 67 = .ok (.iconst (-1), 1) := by decide +kernel
theorem dX9_sets_68 : decode cX9_sets 68 = .ok (.ireturn, 1) := by decide +kernel
theorem dX9_sets_69 : decode cX9_sets 69 = .ok (.aload_n 0, 1) := by decide +kernel
theorem dX9_sets_70 : decode cX9_sets 70 = .ok (.iload_n 1, 1) := by decide +kernel
theorem dX9_sets_71 : decode cX9_sets 71 = .ok (.iload_n 2, 1) := by decide +kernel
theorem dX9_sets_72 : decode cX9_sets 72 = .ok (.iload_n 3, 1) := by decide +kernel
theorem dX9_sets_73 : decode cX9_sets 73 = .ok (.iload 4, 2) := by decide +kernel
theorem dX9_sets_75 : decode cX9_sets 75 = .ok (.iload 5, 2) := by decide +kernel
theorem dX9_sets_77 : decode cX9_sets 77 = .ok (.invokevirtual 209, 3) := by decide +kernel
theorem dX9_sets_80 : decode cX9_sets 80 = .ok (.ireturn, 1) := by decide +kernel
theorem dX9_cancelsOne_0 : decode cX9_cancelsOne 0 = .ok (.aload_n 0, 1) := by decide +kernel
theorem dX9_cancelsOne_1 : decode cX9_cancelsOne 1 = .ok (.iload_n 1, 1) := by decide +kernel
theorem dX9_cancelsOne_2 : decode cX9_cancelsOne 2 = .ok (.invokevirtual 89, 3) := by decide +kernel
theorem dX9_cancelsOne_5 : decode cX9_cancelsOne 5 = .ok (.ifCond .ne 5, 3) := by decide +kernel
theorem dX9_cancelsOne_8 : decode cX9_cancelsOne 8 = .ok (.iconst (-1), 1) := by decide +kernel
theorem dX9_cancelsOne_9 : decode cX9_cancelsOne 9 = .ok (.ireturn, 1) := by decide +kernel
theorem dX9_cancelsOne_10 : decode cX9_cancelsOne 10 = .ok (.aload_n 0, 1) := by decide +kernel
theorem dX9_cancelsOne_11 : decode cX9_cancelsOne 11 = .ok (.sipush 215, 3) := by decide +kernel
theorem dX9_cancelsOne_14 : decode cX9_cancelsOne 14 = .ok (.iload_n 1, 1) := by decide +kernel
theorem dX9_cancelsOne_15 : decode cX9_cancelsOne 15 = .ok (.iadd, 1) := by decide +kernel
theorem dX9_cancelsOne_16 : decode cX9_cancelsOne 16 = .ok (.iconst 0, 1) := by decide +kernel
theorem dX9_cancelsOne_17 : decode cX9_cancelsOne 17 = .ok (.invokevirtual 76, 3) := by decide +kernel
theorem dX9_cancelsOne_20 : decode cX9_cancelsOne 20 = .ok (.aload_n 0, 1) := by decide +kernel
theorem dX9_cancelsOne_21 : decode cX9_cancelsOne 21 = .ok (.bipush 10, 2) := by decide +kernel
theorem dX9_cancelsOne_23 : decode cX9_cancelsOne 23 = .ok (.iconst 1, 1) := by decide +kernel
theorem dX9_cancelsOne_24 : decode cX9_cancelsOne 24 = .ok (.invokevirtual 106, 3) := by decide +kernel
theorem dX9_cancelsOne_27 : decode cX9_cancelsOne 27 = .ok (.aload_n 0, 1) := by decide +kernel
theorem dX9_cancelsOne_28 : decode cX9_cancelsOne 28 = .ok (.invokevirtual 213, 3) := by decide +kernel
theorem dX9_cancelsOne_31 : decode cX9_cancelsOne 31 = .ok (.ireturn, 1) := by decide +kernel
theorem dX9_cancels_0 : decode cX9_cancels 0 = .ok (.aload_n 0, 1) := by decide +kernel
theorem dX9_cancels_1 : decode cX9_cancels 1 = .ok (.iconst 0, 1) := by decide +kernel
theorem dX9_cancels_2 : decode cX9_cancels 2 = .ok (.putfield 1, 3) := by decide +kernel
theorem dX9_cancels_5 : decode cX9_cancels 5 = .ok (.aload_n 0, 1) := by decide +kernel
theorem dX9_cancels_6 : decode cX9_cancels 6 = .ok (.iload_n 1, 1) := by decide +kernel
theorem dX9_cancels_7 : decode cX9_cancels 7 = .ok (.invokevirtual 216, 3) := by decide +kernel
theorem dX9_cancels_10 : decode cX9_cancels 10 = .ok (.ireturn, 1) := by decide +kernel
theorem dX9_cancelsAll_0 : decode cX9_cancelsAll 0 = .ok (.aload_n 0, 1) := by decide +kernel
theorem dX9_cancelsAll_1 : decode cX9_cancelsAll 1 = .ok (.iconst 0, 1) := by decide +kernel
theorem dX9_cancelsAll_2 : decode cX9_cancelsAll 2 = .ok (.putfield 1, 3) := by decide +kernel
theorem dX9_cancelsAll_5 : decode cX9_cancelsAll 5 = .ok (.iload_n 1, 1) := by decide +kernel
theorem dX9_cancelsAll_6 : decode cX9_cancelsAll 6 = .ok (.i2l, 1) := by decide +kernel
theorem dX9_cancelsAll_7 : decode cX9_cancelsAll 7 = .ok (.lconst 0, 1) := by decide +kernel
theorem dX9_cancelsAll_8 : decode cX9_cancelsAll 8 = .ok (.ldc2_w 201, 3) := by decide +kernel
theorem dX9_cancelsAll_11 : decode cX9_cancelsAll 11 = .ok (.invokestatic 21, 3) := by decide +kernel
theorem dX9_cancelsAll_14 : decode cX9_cancelsAll 14 = .ok (.ifCond .ne 5, 3) := by decide +kernel
theorem dX9_cancelsAll_17 : decode cX9_cancelsAll 17 = .ok (.iconst (-1), 1) := by decide +kernel
theorem dX9_cancelsAll_18 : decode cX9_cancelsAll 18 = .ok (.ireturn, 1) := by decide +kernel
theorem dX9_cancelsAll_19 : decode cX9_cancelsAll 19 = .ok (.iconst 0, 1) := by decide +kernel
theorem dX9_cancelsAll_20 : decode cX9_cancelsAll 20 = .ok (.istore_n 2, 1) := by decide +kernel
theorem dX9_cancelsAll_21 : decode cX9_cancelsAll 21 = .ok (.iconst 0, 1) := by decide +kernel
theorem dX9_cancelsAll_22 : decode cX9_cancelsAll 22 = .ok (.istore_n 3, 1) := by decide +kernel
theorem dX9_cancelsAll_23 : decode cX9_cancelsAll 23 = .ok (.iload_n 3, 1) := by decide +kernel
theorem dX9_cancelsAll_24 : decode cX9_cancelsAll 24 = .ok (.bipush 16, 2) := by decide +kernel
theorem dX9_cancelsAll_26 : decode cX9_cancelsAll 26 = .ok (.if_icmp .ge 40, 3) := by decide +kernel
theorem dX9_cancelsAll_29 : decode cX9_cancelsAll 29 = .ok (.aload_n 0, 1) := by decide +kernel
theorem dX9_cancelsAll_30 : decode cX9_cancelsAll 30 = .ok (.iload_n 3, 1) := by decide +kernel
theorem dX9_cancelsAll_31 : decode cX9_cancelsAll 31 = .ok (.invokevirtual 89, 3) := by decide +kernel
theorem dX9_cancelsAll_34 : decode cX9_cancelsAll 34 = .ok (.ifCond .eq 26, 3) := by decide +kernel
theorem dX9_cancelsAll_37 : decode cX9_cancelsAll 37 = .ok (.aload_n 0, 1) := by decide +kernel
theorem dX9_cancelsAll_38 : decode cX9_cancelsAll 38 = .ok (.sipush 263, 3) := by decide +kernel
theorem dX9_cancelsAll_41 : decode cX9_cancelsAll 41 = .ok (.iload_n 3, 1) := by decide +kernel
theorem dX9_cancelsAll_42 : decode cX9_cancelsAll 42 = .ok (.iadd, 1) := by decide +kernel
theorem dX9_cancelsAll_43 : decode cX9_cancelsAll 43 = .ok (.invokevirtual 85, 3) := by decide +kernel
theorem dX9_cancelsAll_46 : decode cX9_cancelsAll 46 = .ok (.iload_n 1, 1) := by decide +kernel
theorem dX9_cancelsAll_47 : decode cX9_cancelsAll 47 = .ok (.if_icmp .ne 13, 3) := by decide +kernel
theorem dX9_cancelsAll_50 : decode cX9_cancelsAll 50 = .ok (.aload_n 0, 1) := by decide +kernel
theorem dX9_cancelsAll_51 : decode cX9_cancelsAll 51 = .ok (.iload_n 3, 1) := by decide +kernel
theorem dX9_cancelsAll_52 : decode cX9_cancelsAll 52 = .ok (.invokevirtual 216, 3) := by decide +kernel
theorem dX9_cancelsAll_55 : decode cX9_cancelsAll 55 = .ok (.istore 4, 2) := by decide +kernel
theorem dX9_cancelsAll_57 : decode cX9_cancelsAll 57 = .ok (.iinc 2 1, 3) := by decide +kernel
theorem dX9_cancelsAll_60 : decode cX9_cancelsAll 60 = .ok (.iinc 3 1, 3) := by decide +kernel
theorem dX9_cancelsAll_63 : decode cX9_cancelsAll 63 = .ok (.goto (-40), 3) := by decide +kernel
theorem dX9_cancelsAll_66 : decode cX9_cancelsAll 66 = .ok (.iload_n 2, 1) := by decide +kernel
theorem dX9_cancelsAll_67 : decode cX9_cancelsAll 67 = .ok (.ireturn, 1) := by decide +kernel
theorem dX9_steady_0 : decode cX9_steady 0 = .ok (.aload_n 0, 1) := by decide +kernel
theorem dX9_steady_1 : decode cX9_steady 1 = .ok (.iconst 0, 1) := by decide +kernel
theorem dX9_steady_2 : decode cX9_steady 2 = .ok (.putfield 1, 3) := by decide +kernel
theorem dX9_steady_5 : decode cX9_steady 5 = .ok (.aload_n 0, 1) := by decide +kernel
theorem dX9_steady_6 : decode cX9_steady 6 = .ok (.iload_n 1, 1) := by decide +kernel
theorem dX9_steady_7 : decode cX9_steady 7 = .ok (.invokevirtual 89, 3) := by decide +kernel
theorem dX9_steady_10 : decode cX9_steady 10 = .ok (.ifCond .ne 5, 3) := by decide +kernel
theorem dX9_steady_13 : decode cX9_steady 13 = .ok (.iconst (-1), 1) := by decide +kernel
theorem dX9_steady_14 : decode cX9_steady 14 = .ok (.ireturn, 1) := by decide +kernel
theorem dX9_steady_15 : decode cX9_steady 15 = .ok (.aload_n 0, 1) := by decide +kernel
theorem dX9_steady_16 : decode cX9_steady 16 = .ok (.sipush 327, 3) := by decide +kernel
theorem dX9_steady_19 : decode cX9_steady 19 = .ok (.iload_n 1, 1) := by decide +kernel
theorem dX9_steady_20 : decode cX9_steady 20 = .ok (.iadd, 1) := by decide +kernel
theorem dX9_steady_21 : decode cX9_steady 21 = .ok (.invokevirtual 85, 3) := by decide +kernel
theorem dX9_steady_24 : decode cX9_steady 24 = .ok (.istore_n 3, 1) := by decide +kernel
theorem dX9_steady_25 : decode cX9_steady 25 = .ok (.iload_n 3, 1) := by decide +kernel
theorem dX9_steady_26 : decode cX9_steady 26 = .ok (.iload_n 2, 1) := by decide +kernel
theorem dX9_steady_27 : decode cX9_steady 27 = .ok (.invokestatic 31, 3) := by decide +kernel
theorem dX9_steady_30 : decode cX9_steady 30 = .ok (.if_icmp .ne 6, 3) := by decide +kernel
theorem dX9_steady_33 : decode cX9_steady 33 = .ok (.bipush (-2), 2) := by decide +kernel
theorem dX9_steady_35 : decode cX9_steady 35 = .ok (.ireturn, 1) := by decide +kernel
theorem dX9_steady_36 : decode cX9_steady 36 = .ok (.aload_n 0, 1) := by decide +kernel
theorem dX9_steady_37 : decode cX9_steady 37 = .ok (.sipush 327, 3) := by decide +kernel
theorem dX9_steady_40 : decode cX9_steady 40 = .ok (.iload_n 1, 1) := by decide +kernel
theorem dX9_steady_41 : decode cX9_steady 41 = .ok (.iadd, 1) := by decide +kernel
theorem dX9_steady_42 : decode cX9_steady 42 = .ok (.iload_n 2, 1) := by decide +kernel
theorem dX9_steady_43 : decode cX9_steady 43 = .ok (.invokestatic 31, 3) := by decide +kernel
theorem dX9_steady_46 : decode cX9_steady 46 = .ok (.invokevirtual 76, 3) := by decide +kernel
theorem dX9_steady_49 : decode cX9_steady 49 = .ok (.iload_n 3, 1) := by decide +kernel
theorem dX9_steady_50 : decode cX9_steady 50 = .ok (.ireturn, 1) := by decide +kernel
theorem dX9_pauses_0 : decode cX9_pauses 0 = .ok (.aload_n 0, 1) := by decide +kernel
theorem dX9_pauses_1 : decode cX9_pauses 1 = .ok (.iconst 0, 1) := by decide +kernel
theorem dX9_pauses_2 : decode cX9_pauses 2 = .ok (.putfield 1, 3) := by decide +kernel
theorem dX9_pauses_5 : decode cX9_pauses 5 = .ok (.aload_n 0, 1) := by decide +kernel
theorem dX9_pauses_6 : decode cX9_pauses 6 = .ok (.iload_n 1, 1) := by decide +kernel
theorem dX9_pauses_7 : decode cX9_pauses 7 = .ok (.invokevirtual 89, 3) := by decide +kernel
theorem dX9_pauses_10 : decode cX9_pauses 10 = .ok (.ifCond .ne 5, 3) := by decide +kernel
theorem dX9_pauses_13 : decode cX9_pauses 13 = .ok (.iconst (-1), 1) := by decide +kernel
theorem dX9_pauses_14 : decode cX9_pauses 14 = .ok (.ireturn, 1) := by decide +kernel
theorem dX9_pauses_15 : decode cX9_pauses 15 = .ok (.aload_n 0, 1) := by decide +kernel
theorem dX9_pauses_16 : decode cX9_pauses 16 = .ok (.sipush 343, 3) := by decide +kernel
theorem dX9_pauses_19 : decode cX9_pauses 19 = .ok (.iload_n 1, 1) := by decide +kernel
theorem dX9_pauses_20 : decode cX9_pauses 20 = .ok (.iadd, 1) := by decide +kernel
theorem dX9_pauses_21 : decode cX9_pauses 21 = .ok (.invokevirtual 85, 3) := by decide +kernel
theorem dX9_pauses_24 : decode cX9_pauses 24 = .ok (.iconst 1, 1) := by decide +kernel
theorem dX9_pauses_25 : decode cX9_pauses 25 = .ok (.if_icmp .ne 6, 3) := by decide +kernel
theorem dX9_pauses_28 : decode cX9_pauses 28 = .ok (.bipush (-2), 2) := by decide +kernel
theorem dX9_pauses_30 : decode cX9_pauses 30 = .ok (.ireturn, 1) := by decide +kernel
theorem dX9_pauses_31 : decode cX9_pauses 31 = .ok (.aload_n 0, 1) := by decide +kernel
theorem dX9_pauses_32 : decode cX9_pauses 32 = .ok (.iload_n 1, 1) := by decide +kernel
theorem dX9_pauses_33 : decode cX9_pauses 33 = .ok (.invokevirtual 219, 3) := by decide +kernel
theorem dX9_pauses_36 : decode cX9_pauses 36 = .ok (.aload_n 0, 1) := by decide +kernel
theorem dX9_pauses_37 : decode cX9_pauses 37 = .ok (.sipush 359, 3) := by decide +kernel
theorem dX9_pauses_40 : decode cX9_pauses 40 = .ok (.iload_n 1, 1) := by decide +kernel
theorem dX9_pauses_41 : decode cX9_pauses 41 = .ok (.iadd, 1) := by decide +kernel
theorem dX9_pauses_42 : decode cX9_pauses 42 = .ok (.invokevirtual 85, 3) := by decide +kernel
theorem dX9_pauses_45 : decode cX9_pauses 45 = .ok (.ireturn, 1) := by decide +kernel
theorem dX9_resumes_0 : decode cX9_resumes 0 = .ok (.aload_n 0, 1) := by decide +kernel
theorem dX9_resumes_1 : decode cX9_resumes 1 = .ok (.iconst 0, 1) := by decide +kernel
theorem dX9_resumes_2 : decode cX9_resumes 2 = .ok (.putfield 1, 3) := by decide +kernel
theorem dX9_resumes_5 : decode cX9_resumes 5 = .ok (.aload_n 0, 1) := by decide +kernel
theorem dX9_resumes_6 : decode cX9_resumes 6 = .ok (.iload_n 1, 1) := by decide +kernel
theorem dX9_resumes_7 : decode cX9_resumes 7 = .ok (.invokevirtual 89, 3) := by decide +kernel
theorem dX9_resumes_10 : decode cX9_resumes 10 = .ok (.ifCond .ne 5, 3) := by decide +kernel
theorem dX9_resumes_13 : decode cX9_resumes 13 = .ok (.iconst (-1), 1) := by decide +kernel
theorem dX9_resumes_14 : decode cX9_resumes 14 = .ok (.ireturn, 1) := by decide +kernel
theorem dX9_resumes_15 : decode cX9_resumes 15 = .ok (.aload_n 0, 1) := by decide +kernel
theorem dX9_resumes_16 : decode cX9_resumes 16 = .ok (.sipush 343, 3) := by decide +kernel
theorem dX9_resumes_19 : decode cX9_resumes 19 = .ok (.iload_n 1, 1) := by decide +kernel
theorem dX9_resumes_20 : decode cX9_resumes 20 = .ok (.iadd, 1) := by decide +kernel
theorem dX9_resumes_21 : decode cX9_resumes 21 = .ok (.invokevirtual 85, 3) := by decide +kernel
theorem dX9_resumes_24 : decode cX9_resumes 24 = .ok (.ifCond .ne 6, 3) := by decide +kernel
theorem dX9_resumes_27 : decode cX9_resumes 27 = .ok (.bipush (-2), 2) := by decide +kernel
theorem dX9_resumes_29 : decode cX9_resumes 29 = .ok (.ireturn, 1) := by decide +kernel
theorem dX9_resumes_30 : decode cX9_resumes 30 = .ok (.aload_n 0, 1) := by decide +kernel
theorem dX9_resumes_31 : decode cX9_resumes 31 = .ok (.iload_n 1, 1) := by decide +kernel
theorem dX9_resumes_32 : decode cX9_resumes 32 = .ok (.invokevirtual 222, 3) := by decide +kernel
theorem dX9_resumes_35 : decode cX9_resumes 35 = .ok (.aload_n 0, 1) := by decide +kernel
theorem dX9_resumes_36 : decode cX9_resumes 36 = .ok (.sipush 231, 3) := by decide +kernel
theorem dX9_resumes_39 : decode cX9_resumes 39 = .ok (.iload_n 1, 1) := by decide +kernel
theorem dX9_resumes_40 : decode cX9_resumes 40 = .ok (.iadd, 1) := by decide +kernel
theorem dX9_resumes_41 : decode cX9_resumes 41 = .ok (.invokevirtual 85, 3) := by decide +kernel
theorem dX9_resumes_44 : decode cX9_resumes 44 = .ok (.ireturn, 1) := by decide +kernel
theorem dX9_delays_0 : decode cX9_delays 0 = .ok (.aload_n 0, 1) := by decide +kernel
theorem dX9_delays_1 : decode cX9_delays 1 = .ok (.iconst 0, 1) := by decide +kernel
theorem dX9_delays_2 : decode cX9_delays 2 = .ok (.putfield 1, 3) := by decide +kernel
theorem dX9_delays_5 : decode cX9_delays 5 = .ok (.aload_n 0, 1) := by decide +kernel
theorem dX9_delays_6 : decode cX9_delays 6 = .ok (.iload_n 1, 1) := by decide +kernel
theorem dX9_delays_7 : decode cX9_delays 7 = .ok (.invokevirtual 89, 3) := by decide +kernel
theorem dX9_delays_10 : decode cX9_delays 10 = .ok (.ifCond .eq 15, 3) := by decide +kernel
theorem dX9_delays_13 : decode cX9_delays 13 = .ok (.iload_n 2, 1) := by decide +kernel
theorem dX9_delays_14 : decode cX9_delays 14 = .ok (.i2l, 1) := by decide +kernel
theorem dX9_delays_15 : decode cX9_delays 15 = .ok (.lconst 1, 1) := by decide +kernel
theorem dX9_delays_16 : decode cX9_delays 16 = .ok (.ldc2_w 193, 3) := by decide +kernel
theorem dX9_delays_19 : decode cX9_delays 19 = .ok (.invokestatic 21, 3) := by decide +kernel
theorem dX9_delays_22 : decode cX9_delays 22 = .ok (.ifCond .ne 5, 3) := by decide +kernel
theorem dX9_delays_25 : decode cX9_delays 25 = .ok (.iconst (-1), 1) := by decide +kernel
theorem dX9_delays_26 : decode cX9_delays 26 = .ok (.ireturn, 1) := by decide +kernel
theorem dX9_delays_27 : decode cX9_delays 27 = .ok (.aload_n 0, 1) := by decide +kernel
theorem dX9_delays_28 : decode cX9_delays 28 = .ok (.sipush 343, 3) := by decide +kernel
theorem dX9_delays_31 : decode cX9_delays 31 = .ok (.iload_n 1, 1) := by decide +kernel
theorem dX9_delays_32 : decode cX9_delays 32 = .ok (.iadd, 1) := by decide +kernel
theorem dX9_delays_33 : decode cX9_delays 33 = .ok (.invokevirtual 85, 3) := by decide +kernel
theorem dX9_delays_36 : decode cX9_delays 36 = .ok (.iconst 1, 1) := by decide +kernel
theorem dX9_delays_37 : decode cX9_delays 37 = .ok (.if_icmp .ne 7, 3) := by decide +kernel
theorem dX9_delays_40 : decode cX9_delays 40 = .ok (.iconst 1, 1) := by decide +kernel
theorem dX9_delays_41 : decode cX9_delays 41 = .ok (.goto 4, 3) := by decide +kernel
theorem dX9_delays_44 : decode cX9_delays 44 = .ok (.iconst 0, 1) := by decide +kernel
theorem dX9_delays_45 : decode cX9_delays 45 = .ok (.istore_n 3, 1) := by decide +kernel
theorem dX9_delays_46 : decode cX9_delays 46 = .ok (.iload_n 3, 1) := by decide +kernel
theorem dX9_delays_47 : decode cX9_delays 47 = .ok (.ifCond .eq 15, 3) := by decide +kernel
theorem dX9_delays_50 : decode cX9_delays 50 = .ok (.aload_n 0, 1) := by decide +kernel
theorem dX9_delays_51 : decode cX9_delays 51 = .ok (.sipush 359, 3) := by decide +kernel
theorem dX9_delays_54 : decode cX9_delays 54 = .ok (.iload_n 1, 1) := by decide +kernel
theorem dX9_delays_55 : decode cX9_delays 55 = .ok (.iadd, 1) := by decide +kernel
theorem dX9_delays_56 : decode cX9_delays 56 = .ok (.invokevirtual 85, 3) := by decide +kernel
theorem dX9_delays_59 : decode cX9_delays 59 = .ok (.goto 19, 3) := by decide +kernel
theorem dX9_delays_62 : decode cX9_delays 62 = .ok (.aload_n 0, 1) := by decide +kernel
theorem dX9_delays_63 : decode cX9_delays 63 = .ok (.sipush 231, 3) := by decide +kernel
theorem dX9_delays_66 : decode cX9_delays 66 = .ok (.iload_n 1, 1) := by decide +kernel
theorem dX9_delays_67 : decode cX9_delays 67 = .ok (.iadd, 1) := by decide +kernel
theorem dX9_delays_68 : decode cX9_delays 68 = .ok (.invokevirtual 85, 3) := by decide +kernel
theorem dX9_delays_71 : decode cX9_delays 71 = .ok (.aload_n 0, 1) := by decide +kernel
theorem dX9_delays_72 : decode cX9_delays 72 = .ok (.bipush 6, 2) := by decide +kernel
theorem dX9_delays_74 : decode cX9_delays 74 = .ok (.invokevirtual 85, 3) := by decide +kernel
theorem dX9_delays_77 : decode cX9_delays 77 = .ok (.isub, 1) := by decide +kernel
theorem dX9_delays_78 : decode cX9_delays 78 = .ok (.istore 4, 2) := by decide +kernel
theorem dX9_delays_80 : decode cX9_delays 80 = .ok (.iload 4, 2) := by decide +kernel
theorem dX9_delays_82 : decode cX9_delays 82 = .ok (.iload_n 2, 1) := by decide +kernel
theorem dX9_delays_83 : decode cX9_delays 83 = .ok (.if_icmp .ne 6, 3) := by decide +kernel
theorem dX9_delays_86 : decode cX9_delays 86 = .ok (.bipush (-2), 2) := by decide +kernel
theorem dX9_delays_88 : decode cX9_delays 88 = .ok (.ireturn, 1) := by decide +kernel
theorem dX9_delays_89 : decode cX9_delays 89 = .ok (.iload_n 3, 1) := by decide +kernel
theorem dX9_delays_90 : decode cX9_delays 90 = .ok (.ifCond .eq 16, 3) := by decide +kernel
theorem dX9_delays_93 : decode cX9_delays 93 = .ok (.aload_n 0, 1) := by decide +kernel
theorem dX9_delays_94 : decode cX9_delays 94 = .ok (.sipush 359, 3) := by decide +kernel
theorem dX9_delays_97 : decode cX9_delays 97 = .ok (.iload_n 1, 1) := by decide +kernel
theorem dX9_delays_98 : decode cX9_delays 98 = .ok (.iadd, 1) := by decide +kernel
theorem dX9_delays_99 : decode cX9_delays 99 = .ok (.iload_n 2, 1) := by decide +kernel
theorem dX9_delays_100 : decode cX9_delays 100 = .ok (.invokevirtual 76, 3) := by decide +kernel
theorem dX9_delays_103 : decode cX9_delays 103 = .ok (.goto 25, 3) := by decide +kernel
theorem dX9_delays_106 : decode cX9_delays 106 = .ok (.aload_n 0, 1) := by decide +kernel
theorem dX9_delays_107 : decode cX9_delays 107 = .ok (.sipush 231, 3) := by decide +kernel
theorem dX9_delays_110 : decode cX9_delays 110 = .ok (.iload_n 1, 1) := by decide +kernel
theorem dX9_delays_111 : decode cX9_delays 111 = .ok (.iadd, 1) := by decide +kernel
theorem dX9_delays_112 : decode cX9_delays 112 = .ok (.aload_n 0, 1) := by decide +kernel
theorem dX9_delays_113 : decode cX9_delays 113 = .ok (.bipush 6, 2) := by decide +kernel
theorem dX9_delays_115 : decode cX9_delays 115 = .ok (.invokevirtual 85, 3) := by decide +kernel
theorem dX9_delays_118 : decode cX9_delays 118 = .ok (.iload_n 2, 1) := by decide +kernel
theorem dX9_delays_119 : decode cX9_delays 119 = .ok (.iadd, 1) := by decide +kernel
theorem dX9_delays_120 : decode cX9_delays 120 = .ok (.invokevirtual 76, 3) := by decide +kernel
theorem dX9_delays_123 : decode cX9_delays 123 = .ok (.aload_n 0, 1) := by decide +kernel
theorem dX9_delays_124 : decode cX9_delays 124 = .ok (.iload_n 1, 1) := by decide +kernel
theorem dX9_delays_125 : decode cX9_delays 125 = .ok (.invokevirtual 102, 3) := by decide +kernel
theorem dX9_delays_128 : decode cX9_delays 128 = .ok (.aload_n 0, 1) := by decide +kernel
theorem dX9_delays_129 : decode cX9_delays 129 = .ok (.iconst 0, 1) := by decide +kernel
theorem dX9_delays_130 : decode cX9_delays 130 = .ok (.putfield 11, 3) := by decide +kernel
theorem dX9_delays_133 : decode cX9_delays 133 = .ok (.aload_n 0, 1) := by decide +kernel
theorem dX9_delays_134 : decode cX9_delays 134 = .ok (.iload_n 2, 1) := by decide +kernel
theorem dX9_delays_135 : decode cX9_delays 135 = .ok (.iload 4, 2) := by decide +kernel
theorem dX9_delays_137 : decode cX9_delays 137 = .ok (.isub, 1) := by decide +kernel
theorem dX9_delays_138 : decode cX9_delays 138 = .ok (.i2l, 1) := by decide +kernel
theorem dX9_delays_139 : decode cX9_delays 139 = .ok (.invokevirtual 153, 3) := by decide +kernel
theorem dX9_delays_142 : decode cX9_delays 142 = .ok (.iconst 0, 1) := by decide +kernel
theorem dX9_delays_143 : decode cX9_delays 143 = .ok (.ireturn, 1) := by decide +kernel
theorem dX9_isGroup_0 : decode cX9_isGroup 0 = .ok (.iload_n 0, 1) := by decide +kernel
theorem dX9_isGroup_1 : decode cX9_isGroup 1 = .ok (.i2l, 1) := by decide +kernel
theorem dX9_isGroup_2 : decode cX9_isGroup 2 = .ok (.lconst 0, 1) := by decide +kernel
theorem dX9_isGroup_3 : decode cX9_isGroup 3 = .ok (.ldc2_w 201, 3) := by decide +kernel
theorem dX9_isGroup_6 : decode cX9_isGroup 6 = .ok (.invokestatic 21, 3) := by decide +kernel
theorem dX9_isGroup_9 : decode cX9_isGroup 9 = .ok (.ireturn, 1) := by decide +kernel
theorem dX9_pausesOne_0 : decode cX9_pausesOne 0 = .ok (.aload_n 0, 1) := by decide +kernel
theorem dX9_pausesOne_1 : decode cX9_pausesOne 1 = .ok (.sipush 343, 3) := by decide +kernel
theorem dX9_pausesOne_4 : decode cX9_pausesOne 4 = .ok (.iload_n 1, 1) := by decide +kernel
theorem dX9_pausesOne_5 : decode cX9_pausesOne 5 = .ok (.iadd, 1) := by decide +kernel
theorem dX9_pausesOne_6 : decode cX9_pausesOne 6 = .ok (.iconst 1, 1) := by decide +kernel
theorem dX9_pausesOne_7 : decode cX9_pausesOne 7 = .ok (.invokevirtual 76, 3) := by decide +kernel
theorem dX9_pausesOne_10 : decode cX9_pausesOne 10 = .ok (.aload_n 0, 1) := by decide +kernel
theorem dX9_pausesOne_11 : decode cX9_pausesOne 11 = .ok (.sipush 359, 3) := by decide +kernel
theorem dX9_pausesOne_14 : decode cX9_pausesOne 14 = .ok (.iload_n 1, 1) := by decide +kernel
theorem dX9_pausesOne_15 : decode cX9_pausesOne 15 = .ok (.iadd, 1) := by decide +kernel
theorem dX9_pausesOne_16 : decode cX9_pausesOne 16 = .ok (.aload_n 0, 1) := by decide +kernel
theorem dX9_pausesOne_17 : decode cX9_pausesOne 17 = .ok (.sipush 231, 3) := by decide +kernel
theorem dX9_pausesOne_20 : decode cX9_pausesOne 20 = .ok (.iload_n 1, 1) := by decide +kernel
theorem dX9_pausesOne_21 : decode cX9_pausesOne 21 = .ok (.iadd, 1) := by decide +kernel
theorem dX9_pausesOne_22 : decode cX9_pausesOne 22 = .ok (.invokevirtual 85, 3) := by decide +kernel
theorem dX9_pausesOne_25 : decode cX9_pausesOne 25 = .ok (.aload_n 0, 1) := by decide +kernel
theorem dX9_pausesOne_26 : decode cX9_pausesOne 26 = .ok (.bipush 6, 2) := by decide +kernel
theorem dX9_pausesOne_28 : decode cX9_pausesOne 28 = .ok (.invokevirtual 85, 3) := by decide +kernel
theorem dX9_pausesOne_31 : decode cX9_pausesOne 31 = .ok (.isub, 1) := by decide +kernel
theorem dX9_pausesOne_32 : decode cX9_pausesOne 32 = .ok (.invokevirtual 76, 3) := by decide +kernel
theorem dX9_pausesOne_35 : decode cX9_pausesOne 35 = .ok (.return_, 1) := by decide +kernel
theorem dX9_resumesOne_0 : decode cX9_resumesOne 0 = .ok (.aload_n 0, 1) := by decide +kernel
theorem dX9_resumesOne_1 : decode cX9_resumesOne 1 = .ok (.sipush 343, 3) := by decide +kernel
theorem dX9_resumesOne_4 : decode cX9_resumesOne 4 = .ok (.iload_n 1, 1) := by decide +kernel
theorem dX9_resumesOne_5 : decode cX9_resumesOne 5 = .ok (.iadd, 1) := by decide +kernel
theorem dX9_resumesOne_6 : decode cX9_resumesOne 6 = .ok (.iconst 0, 1) := by decide +kernel
theorem dX9_resumesOne_7 : decode cX9_resumesOne 7 = .ok (.invokevirtual 76, 3) := by decide +kernel
theorem dX9_resumesOne_10 : decode cX9_resumesOne 10 = .ok (.aload_n 0, 1) := by decide +kernel
theorem dX9_resumesOne_11 : decode cX9_resumesOne 11 = .ok (.sipush 231, 3) := by decide +kernel
theorem dX9_resumesOne_14 : decode cX9_resumesOne 14 = .ok (.iload_n 1, 1) := by decide +kernel
theorem dX9_resumesOne_15 : decode cX9_resumesOne 15 = .ok (.iadd, 1) := by decide +kernel
theorem dX9_resumesOne_16 : decode cX9_resumesOne 16 = .ok (.aload_n 0, 1) := by decide +kernel
theorem dX9_resumesOne_17 : decode cX9_resumesOne 17 = .ok (.bipush 6, 2) := by decide +kernel
theorem dX9_resumesOne_19 : decode cX9_resumesOne 19 = .ok (.invokevirtual 85, 3) := by decide +kernel
theorem dX9_resumesOne_22 : decode cX9_resumesOne 22 = .ok (.aload_n 0, 1) := by decide +kernel
theorem dX9_resumesOne_23 : decode cX9_resumesOne 23 = .ok (.sipush 359, 3) := by decide +kernel
theorem dX9_resumesOne_26 : decode cX9_resumesOne 26 = .ok (.iload_n 1, 1) := by decide +kernel
theorem dX9_resumesOne_27 : decode cX9_resumesOne 27 = .ok (.iadd, 1) := by decide +kernel
theorem dX9_resumesOne_28 : decode cX9_resumesOne 28 = .ok (.invokevirtual 85, 3) := by decide +kernel
theorem dX9_resumesOne_31 : decode cX9_resumesOne 31 = .ok (.iadd, 1) := by decide +kernel
theorem dX9_resumesOne_32 : decode cX9_resumesOne 32 = .ok (.invokevirtual 76, 3) := by decide +kernel
theorem dX9_resumesOne_35 : decode cX9_resumesOne 35 = .ok (.aload_n 0, 1) := by decide +kernel
theorem dX9_resumesOne_36 : decode cX9_resumesOne 36 = .ok (.iload_n 1, 1) := by decide +kernel
theorem dX9_resumesOne_37 : decode cX9_resumesOne 37 = .ok (.invokevirtual 102, 3) := by decide +kernel
theorem dX9_resumesOne_40 : decode cX9_resumesOne 40 = .ok (.return_, 1) := by decide +kernel
theorem dX9_holds_0 : decode cX9_holds 0 = .ok (.aload_n 0, 1) := by decide +kernel
theorem dX9_holds_1 : decode cX9_holds 1 = .ok (.iconst 0, 1) := by decide +kernel
theorem dX9_holds_2 : decode cX9_holds 2 = .ok (.putfield 1, 3) := by decide +kernel
theorem dX9_holds_5 : decode cX9_holds 5 = .ok (.iload_n 1, 1) := by decide +kernel
theorem dX9_holds_6 : decode cX9_holds 6 = .ok (.invokestatic 225, 3) := by decide +kernel
theorem dX9_holds_9 : decode cX9_holds 9 = .ok (.ifCond .ne 5, 3) := by decide +kernel
theorem dX9_holds_12 : decode cX9_holds 12 = .ok (.iconst (-1), 1) := by decide +kernel
theorem dX9_holds_13 : decode cX9_holds 13 = .ok (.ireturn, 1) := by decide +kernel
theorem dX9_holds_14 : decode cX9_holds 14 = .ok (.iconst 0, 1) := by decide +kernel
theorem dX9_holds_15 : decode cX9_holds 15 = .ok (.istore_n 2, 1) := by decide +kernel
theorem dX9_holds_16 : decode cX9_holds 16 = .ok (.iconst 0, 1) := by decide +kernel
theorem dX9_holds_17 : decode cX9_holds 17 = .ok (.istore_n 3, 1) := by decide +kernel
theorem dX9_holds_18 : decode cX9_holds 18 = .ok (.iload_n 3, 1) := by decide +kernel
theorem dX9_holds_19 : decode cX9_holds 19 = .ok (.bipush 16, 2) := by decide +kernel
theorem dX9_holds_21 : decode cX9_holds 21 = .ok (.if_icmp .ge 38, 3) := by decide +kernel
theorem dX9_holds_24 : decode cX9_holds 24 = .ok (.aload_n 0, 1) := by decide +kernel
theorem dX9_holds_25 : decode cX9_holds 25 = .ok (.iload_n 3, 1) := by decide +kernel
theorem dX9_holds_26 : decode cX9_holds 26 = .ok (.invokevirtual 99, 3) := by decide +kernel
theorem dX9_holds_29 : decode cX9_holds 29 = .ok (.ifCond .eq 24, 3) := by decide +kernel
theorem dX9_holds_32 : decode cX9_holds 32 = .ok (.aload_n 0, 1) := by decide +kernel
theorem dX9_holds_33 : decode cX9_holds 33 = .ok (.sipush 263, 3) := by decide +kernel
theorem dX9_holds_36 : decode cX9_holds 36 = .ok (.iload_n 3, 1) := by decide +kernel
theorem dX9_holds_37 : decode cX9_holds 37 = .ok (.iadd, 1) := by decide +kernel
theorem dX9_holds_38 : decode cX9_holds 38 = .ok (.invokevirtual 85, 3) := by decide +kernel
theorem dX9_holds_41 : decode cX9_holds 41 = .ok (.iload_n 1, 1) := by decide +kernel
theorem dX9_holds_42 : decode cX9_holds 42 = .ok (.if_icmp .ne 11, 3) := by decide +kernel
theorem dX9_holds_45 : decode cX9_holds 45 = .ok (.aload_n 0, 1) := by decide +kernel
theorem dX9_holds_46 : decode cX9_holds 46 = .ok (.iload_n 3, 1) := by decide +kernel
theorem dX9_holds_47 : decode cX9_holds 47 = .ok (.invokevirtual 219, 3) := by decide +kernel
theorem dX9_holds_50 : decode cX9_holds 50 = .ok (.iinc 2 1, 3) := by decide +kernel
theorem dX9_holds_53 : decode cX9_holds 53 = .ok (.iinc 3 1, 3) := by decide +kernel
theorem dX9_holds_56 : decode cX9_holds 56 = .ok (.goto (-38), 3) := by decide +kernel
theorem dX9_holds_59 : decode cX9_holds 59 = .ok (.iload_n 2, 1) := by decide +kernel
theorem dX9_holds_60 : decode cX9_holds 60 = .ok (.ireturn, 1) := by decide +kernel
theorem dX9_goesOn_0 : decode cX9_goesOn 0 = .ok (.aload_n 0, 1) := by decide +kernel
theorem dX9_goesOn_1 : decode cX9_goesOn 1 = .ok (.iconst 0, 1) := by decide +kernel
theorem dX9_goesOn_2 : decode cX9_goesOn 2 = .ok (.putfield 1, 3) := by decide +kernel
theorem dX9_goesOn_5 : decode cX9_goesOn 5 = .ok (.iload_n 1, 1) := by decide +kernel
theorem dX9_goesOn_6 : decode cX9_goesOn 6 = .ok (.invokestatic 225, 3) := by decide +kernel
theorem dX9_goesOn_9 : decode cX9_goesOn 9 = .ok (.ifCond .ne 5, 3) := by decide +kernel
theorem dX9_goesOn_12 : decode cX9_goesOn 12 = .ok (.iconst (-1), 1) := by decide +kernel
theorem dX9_goesOn_13 : decode cX9_goesOn 13 = .ok (.ireturn, 1) := by decide +kernel
theorem dX9_goesOn_14 : decode cX9_goesOn 14 = .ok (.iconst 0, 1) := by decide +kernel
theorem dX9_goesOn_15 : decode cX9_goesOn 15 = .ok (.istore_n 2, 1) := by decide +kernel
theorem dX9_goesOn_16 : decode cX9_goesOn 16 = .ok (.iconst 0, 1) := by decide +kernel
theorem dX9_goesOn_17 : decode cX9_goesOn 17 = .ok (.istore_n 3, 1) := by decide +kernel
theorem dX9_goesOn_18 : decode cX9_goesOn 18 = .ok (.iload_n 3, 1) := by decide +kernel
theorem dX9_goesOn_19 : decode cX9_goesOn 19 = .ok (.bipush 16, 2) := by decide +kernel
theorem dX9_goesOn_21 : decode cX9_goesOn 21 = .ok (.if_icmp .ge 46, 3) := by decide +kernel
theorem dX9_goesOn_24 : decode cX9_goesOn 24 = .ok (.aload_n 0, 1) := by decide +kernel
theorem dX9_goesOn_25 : decode cX9_goesOn 25 = .ok (.iload_n 3, 1) := by decide +kernel
theorem dX9_goesOn_26 : decode cX9_goesOn 26 = .ok (.invokevirtual 89, 3) := by decide +kernel
theorem dX9_goesOn_29 : decode cX9_goesOn 29 = .ok (.ifCond .eq 32, 3) := by decide +kernel
theorem dX9_goesOn_32 : decode cX9_goesOn 32 = .ok (.aload_n 0, 1) := by decide +kernel
theorem dX9_goesOn_33 : decode cX9_goesOn 33 = .ok (.iload_n 3, 1) := by decide +kernel
theorem dX9_goesOn_34 : decode cX9_goesOn 34 = .ok (.invokevirtual 99, 3) := by decide +kernel
theorem dX9_goesOn_37 : decode cX9_goesOn 37 = .ok (.ifCond .ne 24, 3) := by decide +kernel
theorem dX9_goesOn_40 : decode cX9_goesOn 40 = .ok (.aload_n 0, 1) := by decide +kernel
theorem dX9_goesOn_41 : decode cX9_goesOn 41 = .ok (.sipush 263, 3) := by decide +kernel
theorem dX9_goesOn_44 : decode cX9_goesOn 44 = .ok (.iload_n 3, 1) := by decide +kernel
theorem dX9_goesOn_45 : decode cX9_goesOn 45 = .ok (.iadd, 1) := by decide +kernel
theorem dX9_goesOn_46 : decode cX9_goesOn 46 = .ok (.invokevirtual 85, 3) := by decide +kernel
theorem dX9_goesOn_49 : decode cX9_goesOn 49 = .ok (.iload_n 1, 1) := by decide +kernel
theorem dX9_goesOn_50 : decode cX9_goesOn 50 = .ok (.if_icmp .ne 11, 3) := by decide +kernel
theorem dX9_goesOn_53 : decode cX9_goesOn 53 = .ok (.aload_n 0, 1) := by decide +kernel
theorem dX9_goesOn_54 : decode cX9_goesOn 54 = .ok (.iload_n 3, 1) := by decide +kernel
theorem dX9_goesOn_55 : decode cX9_goesOn 55 = .ok (.invokevirtual 222, 3) := by decide +kernel
theorem dX9_goesOn_58 : decode cX9_goesOn 58 = .ok (.iinc 2 1, 3) := by decide +kernel
theorem dX9_goesOn_61 : decode cX9_goesOn 61 = .ok (.iinc 3 1, 3) := by decide +kernel
theorem dX9_goesOn_64 : decode cX9_goesOn 64 = .ok (.goto (-46), 3) := by decide +kernel
theorem dX9_goesOn_67 : decode cX9_goesOn 67 = .ok (.iload_n 2, 1) := by decide +kernel
theorem dX9_goesOn_68 : decode cX9_goesOn 68 = .ok (.ireturn, 1) := by decide +kernel
theorem dX9_spreads_0 : decode cX9_spreads 0 = .ok (.aload_n 0, 1) := by decide +kernel
theorem dX9_spreads_1 : decode cX9_spreads 1 = .ok (.iconst 0, 1) := by decide +kernel
theorem dX9_spreads_2 : decode cX9_spreads 2 = .ok (.putfield 1, 3) := by decide +kernel
theorem dX9_spreads_5 : decode cX9_spreads 5 = .ok (.iload_n 1, 1) := by decide +kernel
theorem dX9_spreads_6 : decode cX9_spreads 6 = .ok (.invokestatic 225, 3) := by decide +kernel
theorem dX9_spreads_9 : decode cX9_spreads 9 = .ok (.ifCond .eq 15, 3) := by decide +kernel
theorem dX9_spreads_12 : decode cX9_spreads 12 = .ok (.iload_n 2, 1) := by decide +kernel
theorem dX9_spreads_13 : decode cX9_spreads 13 = .ok (.i2l, 1) := by decide +kernel
theorem dX9_spreads_14 : decode cX9_spreads 14 = .ok (.lconst 0, 1) := by decide +kernel
theorem dX9_spreads_15 : decode cX9_spreads 15 = .ok (.ldc2_w 205, 3) := by decide +kernel
theorem dX9_spreads_18 : decode cX9_spreads 18 = .ok (.invokestatic 21, 3) := by decide +kernel
theorem dX9_spreads_21 : decode cX9_spreads 21 = .ok (.ifCond .ne 5, 3) := by decide +kernel
theorem dX9_spreads_24 : decode cX9_spreads 24 = .ok (.iconst (-1), 1) := by decide +kernel
theorem dX9_spreads_25 : decode cX9_spreads 25 = .ok (.ireturn, 1) := by decide +kernel
theorem dX9_spreads_26 : decode cX9_spreads 26 = .ok (.aload_n 0, 1) := by decide +kernel
theorem dX9_spreads_27 : decode cX9_spreads 27 = .ok (.iconst 0, 1) := by decide +kernel
theorem dX9_spreads_28 : decode cX9_spreads 28 = .ok (.putfield 109, 3) := by decide +kernel
theorem dX9_spreads_31 : decode cX9_spreads 31 = .ok (.iconst 0, 1) := by decide +kernel
theorem dX9_spreads_32 : decode cX9_spreads 32 = .ok (.istore_n 3, 1) := by decide +kernel
theorem dX9_spreads_33 : decode cX9_spreads 33 = .ok (.iload_n 3, 1) := by decide +kernel
theorem dX9_spreads_34 : decode cX9_spreads 34 = .ok (.bipush 16, 2) := by decide +kernel
theorem dX9_spreads_36 : decode cX9_spreads 36 = .ok (.if_icmp .ge 36, 3) := by decide +kernel
theorem dX9_spreads_39 : decode cX9_spreads 39 = .ok (.aload_n 0, 1) := by decide +kernel
theorem dX9_spreads_40 : decode cX9_spreads 40 = .ok (.iload_n 3, 1) := by decide +kernel
theorem dX9_spreads_41 : decode cX9_spreads 41 = .ok (.invokevirtual 99, 3) := by decide +kernel
theorem dX9_spreads_44 : decode cX9_spreads 44 = .ok (.ifCond .eq 22, 3) := by decide +kernel
theorem dX9_spreads_47 : decode cX9_spreads 47 = .ok (.aload_n 0, 1) := by decide +kernel
theorem dX9_spreads_48 : decode cX9_spreads 48 = .ok (.sipush 263, 3) := by decide +kernel
theorem dX9_spreads_51 : decode cX9_spreads 51 = .ok (.iload_n 3, 1) := by decide +kernel
theorem dX9_spreads_52 : decode cX9_spreads 52 = .ok (.iadd, 1) := by decide +kernel
theorem dX9_spreads_53 : decode cX9_spreads 53 = .ok (.invokevirtual 85, 3) := by decide +kernel
theorem dX9_spreads_56 : decode cX9_spreads 56 = .ok (.iload_n 1, 1) := by decide +kernel
theorem dX9_spreads_57 : decode cX9_spreads 57 = .ok (.if_icmp .ne 9, 3) := by decide +kernel
theorem dX9_spreads_60 : decode cX9_spreads 60 = .ok (.aload_n 0, 1) := by decide +kernel
theorem dX9_spreads_61 : decode cX9_spreads 61 = .ok (.iload_n 3, 1) := by decide +kernel
theorem dX9_spreads_62 : decode cX9_spreads 62 = .ok (.iconst 1, 1) := by decide +kernel
theorem dX9_spreads_63 : decode cX9_spreads 63 = .ok (.invokevirtual 142, 3) := by decide +kernel
theorem dX9_spreads_66 : decode cX9_spreads 66 = .ok (.iinc 3 1, 3) := by decide +kernel
theorem dX9_spreads_69 : decode cX9_spreads 69 = .ok (.goto (-36), 3) := by decide +kernel
theorem dX9_spreads_72 : decode cX9_spreads 72 = .ok (.aload_n 0, 1) := by decide +kernel
theorem dX9_spreads_73 : decode cX9_spreads 73 = .ok (.getfield 109, 3) := by decide +kernel
theorem dX9_spreads_76 : decode cX9_spreads 76 = .ok (.iconst 2, 1) := by decide +kernel
theorem dX9_spreads_77 : decode cX9_spreads 77 = .ok (.if_icmp .ge 6, 3) := by decide +kernel
theorem dX9_spreads_80 : decode cX9_spreads 80 = .ok (.bipush (-2), 2) := by decide +kernel
theorem dX9_spreads_82 : decode cX9_spreads 82 = .ok (.ireturn, 1) := by decide +kernel
theorem dX9_spreads_83 : decode cX9_spreads 83 = .ok (.iconst 0, 1) := by decide +kernel
theorem dX9_spreads_84 : decode cX9_spreads 84 = .ok (.istore_n 3, 1) := by decide +kernel
theorem dX9_spreads_85 : decode cX9_spreads 85 = .ok (.aload_n 0, 1) := by decide +kernel
theorem dX9_spreads_86 : decode cX9_spreads 86 = .ok (.sipush 231, 3) := by decide +kernel
theorem dX9_spreads_89 : decode cX9_spreads 89 = .ok (.aload_n 0, 1) := by decide +kernel
theorem dX9_spreads_90 : decode cX9_spreads 90 = .ok (.getfield 52, 3) := by decide +kernel
theorem dX9_spreads_93 : decode cX9_spreads 93 = .ok (.iconst 0, 1) := by decide +kernel
theorem dX9_spreads_94 : decode cX9_spreads 94 = .ok (.iaload, 1) := by decide +kernel
theorem dX9_spreads_95 : decode cX9_spreads 95 = .ok (.iadd, 1) := by decide +kernel
theorem dX9_spreads_96 : decode cX9_spreads 96 = .ok (.invokevirtual 85, 3) := by decide +kernel
theorem dX9_spreads_99 : decode cX9_spreads 99 = .ok (.istore 4, 2) := by decide +kernel
theorem dX9_spreads_101 : decode cX9_spreads 101 = .ok (.iconst 0, 1) := by decide +kernel
theorem dX9_spreads_102 : decode cX9_spreads 102 = .ok (.istore 5, 2) := by decide +kernel
theorem dX9_spreads_104 : decode cX9_spreads 104 = .ok (.iload 5, 2) := by decide +kernel
theorem dX9_spreads_106 : decode cX9_spreads 106 = .ok (.aload_n 0, 1) := by decide +kernel
theorem dX9_spreads_107 : decode cX9_spreads 107 = .ok (.getfield 109, 3) := by decide +kernel
theorem dX9_spreads_110 : decode cX9_spreads 110 = .ok (.if_icmp .ge 77, 3) := by decide +kernel
theorem dX9_spreads_113 : decode cX9_spreads 113 = .ok (.iload 4, 2) := by decide +kernel
theorem dX9_spreads_115 : decode cX9_spreads 115 = .ok (.iload 5, 2) := by decide +kernel
theorem dX9_spreads_117 : decode cX9_spreads 117 = .ok (.iload_n 2, 1) := by decide +kernel
theorem dX9_spreads_118 : decode cX9_spreads 118 = .ok (.imul, 1) := by decide +kernel
theorem dX9_spreads_119 : decode cX9_spreads 119 = .ok (.iadd, 1) := by decide +kernel
theorem dX9_spreads_120 : decode cX9_spreads 120 = .ok (.istore 6, 2) := by decide +kernel
theorem dX9_spreads_122 : decode cX9_spreads 122 = .ok (.iload_n 3, 1) := by decide +kernel
theorem dX9_spreads_123 : decode cX9_spreads 123 = .ok (.aload_n 0, 1) := by decide +kernel
theorem dX9_spreads_124 : decode cX9_spreads 124 = .ok (.sipush 231, 3) := by decide +kernel
theorem dX9_spreads_127 : decode cX9_spreads 127 = .ok (.aload_n 0, 1) := by decide +kernel
theorem dX9_spreads_128 : decode cX9_spreads 128 = .ok (.getfield 52, 3) := by decide +kernel
theorem dX9_spreads_131 : decode cX9_spreads 131 = .ok (.iload 5, 2) := by decide +kernel
theorem dX9_spreads_133 : decode cX9_spreads 133 = .ok (.iaload, 1) := by decide +kernel
theorem dX9_spreads_134 : decode cX9_spreads 134 = .ok (.iadd, 1) := by decide +kernel
theorem dX9_spreads_135 : decode cX9_spreads 135 = .ok (.invokevirtual 85, 3) := by decide +kernel
theorem dX9_spreads_138 : decode cX9_spreads 138 = .ok (.iload 6, 2) := by decide +kernel
theorem dX9_spreads_140 : decode cX9_spreads 140 = .ok (.if_icmp .eq 7, 3) := by decide +kernel
theorem dX9_spreads_143 : decode cX9_spreads 143 = .ok (.iconst 1, 1) := by decide +kernel
theorem dX9_spreads_144 : decode cX9_spreads 144 = .ok (.goto 4, 3) := by decide +kernel
theorem dX9_spreads_147 : decode cX9_spreads 147 = .ok (.iconst 0, 1) := by decide +kernel
theorem dX9_spreads_148 : decode cX9_spreads 148 = .ok (.invokestatic 31, 3) := by decide +kernel
theorem dX9_spreads_151 : decode cX9_spreads 151 = .ok (.iadd, 1) := by decide +kernel
theorem dX9_spreads_152 : decode cX9_spreads 152 = .ok (.istore_n 3, 1) := by decide +kernel
theorem dX9_spreads_153 : decode cX9_spreads 153 = .ok (.aload_n 0, 1) := by decide +kernel
theorem dX9_spreads_154 : decode cX9_spreads 154 = .ok (.sipush 231, 3) := by decide +kernel
theorem dX9_spreads_157 : decode cX9_spreads 157 = .ok (.aload_n 0, 1) := by decide +kernel
theorem dX9_spreads_158 : decode cX9_spreads 158 = .ok (.getfield 52, 3) := by decide +kernel
theorem dX9_spreads_161 : decode cX9_spreads 161 = .ok (.iload 5, 2) := by decide +kernel
theorem dX9_spreads_163 : decode cX9_spreads 163 = .ok (.iaload, 1) := by decide +kernel
theorem dX9_spreads_164 : decode cX9_spreads 164 = .ok (.iadd, 1) := by decide +kernel
theorem dX9_spreads_165 : decode cX9_spreads 165 = .ok (.iload 6, 2) := by decide +kernel
theorem dX9_spreads_167 : decode cX9_spreads 167 = .ok (.invokevirtual 76, 3) := by decide +kernel
theorem dX9_spreads_170 : decode cX9_spreads 170 = .ok (.aload_n 0, 1) := by decide +kernel
theorem dX9_spreads_171 : decode cX9_spreads 171 = .ok (.aload_n 0, 1) := by decide +kernel
theorem dX9_spreads_172 : decode cX9_spreads 172 = .ok (.getfield 52, 3) := by decide +kernel
theorem dX9_spreads_175 : decode cX9_spreads 175 = .ok (.iload 5, 2) := by decide +kernel
theorem dX9_spreads_177 : decode cX9_spreads 177 = .ok (.iaload, 1) := by decide +kernel
theorem dX9_spreads_178 : decode cX9_spreads 178 = .ok (.invokevirtual 102, 3) := by decide +kernel
theorem dX9_spreads_181 : decode cX9_spreads 181 = .ok (.iinc 5 1, 3) := by decide +kernel
theorem dX9_spreads_184 : decode cX9_spreads 184 = .ok (.goto (-80), 3) := by decide +kernel
theorem dX9_spreads_187 : decode cX9_spreads 187 = .ok (.aload_n 0, 1) := by decide +kernel
theorem dX9_spreads_188 : decode cX9_spreads 188 = .ok (.iconst 0, 1) := by decide +kernel
theorem dX9_spreads_189 : decode cX9_spreads 189 = .ok (.putfield 11, 3) := by decide +kernel
theorem dX9_spreads_192 : decode cX9_spreads 192 = .ok (.aload_n 0, 1) := by decide +kernel
theorem dX9_spreads_193 : decode cX9_spreads 193 = .ok (.aload_n 0, 1) := by decide +kernel
