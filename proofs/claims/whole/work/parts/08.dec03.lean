theorem dX8_way_8 : decode cX8_way 8 = .ok (.astore_n 2, 1) := by decide +kernel
theorem dX8_way_9 : decode cX8_way 9 = .ok (.aload_n 2, 1) := by decide +kernel
theorem dX8_way_10 : decode cX8_way 10 = .ok (.ifnonnull 5, 3) := by decide +kernel
theorem dX8_way_13 : decode cX8_way 13 = .ok (.iconst (-1), 1) := by decide +kernel
theorem dX8_way_14 : decode cX8_way 14 = .ok (.ireturn, 1) := by decide +kernel
theorem dX8_way_15 : decode cX8_way 15 = .ok (.aload_n 2, 1) := by decide +kernel
theorem dX8_way_16 : decode cX8_way 16 = .ok (.getfield 171, 3) := by decide +kernel
theorem dX8_way_19 : decode cX8_way 19 = .ok (.ifCond .eq 6, 3) := by decide +kernel
theorem dX8_way_22 : decode cX8_way 22 = .ok (.bipush (-2), 2) := by decide +kernel
theorem dX8_way_24 : decode cX8_way 24 = .ok (.ireturn, 1) := by decide +kernel
theorem dX8_way_25 : decode cX8_way 25 = .ok (.aload_n 0, 1) := by decide +kernel
theorem dX8_way_26 : decode cX8_way 26 = .ok (.getfield 10, 3) := by decide +kernel
theorem dX8_way_29 : decode cX8_way 29 = .ok (.getfield 62, 3) := by decide +kernel
theorem dX8_way_32 : decode cX8_way 32 = .ok (.aload_n 2, 1) := by decide +kernel
theorem dX8_way_33 : decode cX8_way 33 = .ok (.getfield 238, 3) := by decide +kernel
theorem dX8_way_36 : decode cX8_way 36 = .ok (.aload_n 2, 1) := by decide +kernel
theorem dX8_way_37 : decode cX8_way 37 = .ok (.getfield 183, 3) := by decide +kernel
theorem dX8_way_40 : decode cX8_way 40 = .ok (.invokevirtual 275, 3) := by decide +kernel
theorem dX8_way_43 : decode cX8_way 43 = .ok (.istore_n 3, 1) := by decide +kernel
theorem dX8_way_44 : decode cX8_way 44 = .ok (.aload_n 2, 1) := by decide +kernel
theorem dX8_way_45 : decode cX8_way 45 = .ok (.getfield 238, 3) := by decide +kernel
theorem dX8_way_48 : decode cX8_way 48 = .ok (.istore 4, 2) := by decide +kernel
theorem dX8_way_50 : decode cX8_way 50 = .ok (.aload_n 0, 1) := by decide +kernel
theorem dX8_way_51 : decode cX8_way 51 = .ok (.getfield 33, 3) := by decide +kernel
theorem dX8_way_54 : decode cX8_way 54 = .ok (.invokevirtual 209, 3) := by decide +kernel
theorem dX8_way_57 : decode cX8_way 57 = .ok (.aload_n 0, 1) := by decide +kernel
theorem dX8_way_58 : decode cX8_way 58 = .ok (.getfield 33, 3) := by decide +kernel
theorem dX8_way_61 : decode cX8_way 61 = .ok (.iload 4, 2) := by decide +kernel
theorem dX8_way_63 : decode cX8_way 63 = .ok (.i2l, 1) := by decide +kernel
theorem dX8_way_64 : decode cX8_way 64 = .ok (.invokevirtual 210, 3) := by decide +kernel
theorem dX8_way_67 : decode cX8_way 67 = .ok (.iconst 0, 1) := by decide +kernel
theorem dX8_way_68 : decode cX8_way 68 = .ok (.istore 5, 2) := by decide +kernel
theorem dX8_way_70 : decode cX8_way 70 = .ok (.iload 5, 2) := by decide +kernel
theorem dX8_way_72 : decode cX8_way 72 = .ok (.iload_n 3, 1) := by decide +kernel
theorem dX8_way_73 : decode cX8_way 73 = .ok (.if_icmp .ge 66, 3) := by decide +kernel
theorem dX8_way_76 : decode cX8_way 76 = .ok (.aload_n 0, 1) := by decide +kernel
theorem dX8_way_77 : decode cX8_way 77 = .ok (.getfield 10, 3) := by decide +kernel
theorem dX8_way_80 : decode cX8_way 80 = .ok (.getfield 62, 3) := by decide +kernel
theorem dX8_way_83 : decode cX8_way 83 = .ok (.iload 4, 2) := by decide +kernel
theorem dX8_way_85 : decode cX8_way 85 = .ok (.aload_n 2, 1) := by decide +kernel
theorem dX8_way_86 : decode cX8_way 86 = .ok (.getfield 183, 3) := by decide +kernel
theorem dX8_way_89 : decode cX8_way 89 = .ok (.invokevirtual 294, 3) := by decide +kernel
theorem dX8_way_92 : decode cX8_way 92 = .ok (.istore 6, 2) := by decide +kernel
theorem dX8_way_94 : decode cX8_way 94 = .ok (.aload_n 0, 1) := by decide +kernel
theorem dX8_way_95 : decode cX8_way 95 = .ok (.getfield 10, 3) := by decide +kernel
theorem dX8_way_98 : decode cX8_way 98 = .ok (.getfield 62, 3) := by decide +kernel
theorem dX8_way_101 : decode cX8_way 101 = .ok (.aload_n 2, 1) := by decide +kernel
theorem dX8_way_102 : decode cX8_way 102 = .ok (.getfield 183, 3) := by decide +kernel
theorem dX8_way_105 : decode cX8_way 105 = .ok (.iload 6, 2) := by decide +kernel
theorem dX8_way_107 : decode cX8_way 107 = .ok (.isub, 1) := by decide +kernel
theorem dX8_way_108 : decode cX8_way 108 = .ok (.invokevirtual 278, 3) := by decide +kernel
theorem dX8_way_111 : decode cX8_way 111 = .ok (.istore 4, 2) := by decide +kernel
theorem dX8_way_113 : decode cX8_way 113 = .ok (.aload_n 0, 1) := by decide +kernel
theorem dX8_way_114 : decode cX8_way 114 = .ok (.getfield 33, 3) := by decide +kernel
theorem dX8_way_117 : decode cX8_way 117 = .ok (.iload 6, 2) := by decide +kernel
theorem dX8_way_119 : decode cX8_way 119 = .ok (.i2l, 1) := by decide +kernel
theorem dX8_way_120 : decode cX8_way 120 = .ok (.invokevirtual 210, 3) := by decide +kernel
theorem dX8_way_123 : decode cX8_way 123 = .ok (.aload_n 0, 1) := by decide +kernel
theorem dX8_way_124 : decode cX8_way 124 = .ok (.getfield 33, 3) := by decide +kernel
theorem dX8_way_127 : decode cX8_way 127 = .ok (.iload 4, 2) := by decide +kernel
theorem dX8_way_129 : decode cX8_way 129 = .ok (.i2l, 1) := by decide +kernel
theorem dX8_way_130 : decode cX8_way 130 = .ok (.invokevirtual 210, 3) := by decide +kernel
theorem dX8_way_133 : decode cX8_way 133 = .ok (.iinc 5 1, 3) := by decide +kernel
theorem dX8_way_136 : decode cX8_way 136 = .ok (.goto (-66), 3) := by decide +kernel
theorem dX8_way_139 : decode cX8_way 139 = .ok (.aload_n 0, 1) := by decide +kernel
theorem dX8_way_140 : decode cX8_way 140 = .ok (.getfield 33, 3) := by decide +kernel
theorem dX8_way_143 : decode cX8_way 143 = .ok (.aload_n 2, 1) := by decide +kernel
theorem dX8_way_144 : decode cX8_way 144 = .ok (.getfield 183, 3) := by decide +kernel
theorem dX8_way_147 : decode cX8_way 147 = .ok (.i2l, 1) := by decide +kernel
theorem dX8_way_148 : decode cX8_way 148 = .ok (.invokevirtual 210, 3) := by decide +kernel
theorem dX8_way_151 : decode cX8_way 151 = .ok (.iload_n 3, 1) := by decide +kernel
theorem dX8_way_152 : decode cX8_way 152 = .ok (.ireturn, 1) := by decide +kernel
theorem dX8_would_0 : decode cX8_would 0 = .ok (.aload_n 0, 1) := by decide +kernel
theorem dX8_would_1 : decode cX8_would 1 = .ok (.iload_n 1, 1) := by decide +kernel
theorem dX8_would_2 : decode cX8_would 2 = .ok (.invokevirtual 101, 3) := by decide +kernel
theorem dX8_would_5 : decode cX8_would 5 = .ok (.istore_n 2, 1) := by decide +kernel
theorem dX8_would_6 : decode cX8_would 6 = .ok (.iload_n 2, 1) := by decide +kernel
theorem dX8_would_7 : decode cX8_would 7 = .ok (.ifCond .ge 5, 3) := by decide +kernel
theorem dX8_would_10 : decode cX8_would 10 = .ok (.iload_n 2, 1) := by decide +kernel
theorem dX8_would_11 : decode cX8_would 11 = .ok (.ireturn, 1) := by decide +kernel
theorem dX8_would_12 : decode cX8_would 12 = .ok (.aload_n 0, 1) := by decide +kernel
theorem dX8_would_13 : decode cX8_would 13 = .ok (.getfield 16, 3) := by decide +kernel
theorem dX8_would_16 : decode cX8_would 16 = .ok (.aload_n 0, 1) := by decide +kernel
theorem dX8_would_17 : decode cX8_would 17 = .ok (.getfield 10, 3) := by decide +kernel
theorem dX8_would_20 : decode cX8_would 20 = .ok (.invokevirtual 268, 3) := by decide +kernel
theorem dX8_would_23 : decode cX8_would 23 = .ok (.aload_n 0, 1) := by decide +kernel
theorem dX8_would_24 : decode cX8_would 24 = .ok (.getfield 16, 3) := by decide +kernel
theorem dX8_would_27 : decode cX8_would 27 = .ok (.iload_n 1, 1) := by decide +kernel
theorem dX8_would_28 : decode cX8_would 28 = .ok (.invokevirtual 104, 3) := by decide +kernel
theorem dX8_would_31 : decode cX8_would 31 = .ok (.aload_n 0, 1) := by decide +kernel
theorem dX8_would_32 : decode cX8_would 32 = .ok (.getfield 33, 3) := by decide +kernel
theorem dX8_would_35 : decode cX8_would 35 = .ok (.invokevirtual 209, 3) := by decide +kernel
theorem dX8_would_38 : decode cX8_would 38 = .ok (.iconst 0, 1) := by decide +kernel
theorem dX8_would_39 : decode cX8_would 39 = .ok (.istore_n 3, 1) := by decide +kernel
theorem dX8_would_40 : decode cX8_would 40 = .ok (.iload_n 3, 1) := by decide +kernel
theorem dX8_would_41 : decode cX8_would 41 = .ok (.aload_n 0, 1) := by decide +kernel
theorem dX8_would_42 : decode cX8_would 42 = .ok (.getfield 16, 3) := by decide +kernel
theorem dX8_would_45 : decode cX8_would 45 = .ok (.getfield 189, 3) := by decide +kernel
theorem dX8_would_48 : decode cX8_would 48 = .ok (.getfield 202, 3) := by decide +kernel
theorem dX8_would_51 : decode cX8_would 51 = .ok (.if_icmp .ge 73, 3) := by decide +kernel
theorem dX8_would_54 : decode cX8_would 54 = .ok (.iload_n 3, 1) := by decide +kernel
theorem dX8_would_55 : decode cX8_would 55 = .ok (.bipush 20, 2) := by decide +kernel
theorem dX8_would_57 : decode cX8_would 57 = .ok (.if_icmp .ge 67, 3) := by decide +kernel
theorem dX8_would_60 : decode cX8_would 60 = .ok (.aload_n 0, 1) := by decide +kernel
theorem dX8_would_61 : decode cX8_would 61 = .ok (.getfield 16, 3) := by decide +kernel
theorem dX8_would_64 : decode cX8_would 64 = .ok (.getfield 189, 3) := by decide +kernel
theorem dX8_would_67 : decode cX8_would 67 = .ok (.iload_n 3, 1) := by decide +kernel
theorem dX8_would_68 : decode cX8_would 68 = .ok (.invokevirtual 297, 3) := by decide +kernel
theorem dX8_would_71 : decode cX8_would 71 = .ok (.astore 4, 2) := by decide +kernel
theorem dX8_would_73 : decode cX8_would 73 = .ok (.aload 4, 2) := by decide +kernel
theorem dX8_would_75 : decode cX8_would 75 = .ok (.ifnull 43, 3) := by decide +kernel
theorem dX8_would_78 : decode cX8_would 78 = .ok (.aload_n 0, 1) := by decide +kernel
theorem dX8_would_79 : decode cX8_would 79 = .ok (.getfield 33, 3) := by decide +kernel
theorem dX8_would_82 : decode cX8_would 82 = .ok (.aload 4, 2) := by decide +kernel
theorem dX8_would_84 : decode cX8_would 84 = .ok (.getfield 151, 3) := by decide +kernel
theorem dX8_would_87 : decode cX8_would 87 = .ok (.i2l, 1) := by decide +kernel
theorem dX8_would_88 : decode cX8_would 88 = .ok (.invokevirtual 210, 3) := by decide +kernel
theorem dX8_would_91 : decode cX8_would 91 = .ok (.aload_n 0, 1) := by decide +kernel
theorem dX8_would_92 : decode cX8_would 92 = .ok (.getfield 33, 3) := by decide +kernel
theorem dX8_would_95 : decode cX8_would 95 = .ok (.aload 4, 2) := by decide +kernel
theorem dX8_would_97 : decode cX8_would 97 = .ok (.getfield 158, 3) := by decide +kernel
theorem dX8_would_100 : decode cX8_would 100 = .ok (.ifCond .eq 12, 3) := by decide +kernel
theorem dX8_would_103 : decode cX8_would 103 = .ok (.aload 4, 2) := by decide +kernel
theorem dX8_would_105 : decode cX8_would 105 = .ok (.getfield 183, 3) := by decide +kernel
theorem dX8_would_108 : decode cX8_would 108 = .ok (.i2l, 1) := by decide +kernel
theorem dX8_would_109 : decode cX8_would 109 = .ok (.goto 6, 3) := by decide +kernel
theorem dX8_would_112 : decode cX8_would 112 = .ok (.ldc2_w 300, 3) := by decide +kernel
theorem dX8_would_115 : decode cX8_would 115 = .ok (.invokevirtual 210, 3) := by decide +kernel
theorem dX8_would_118 : decode cX8_would 118 = .ok (.iinc 3 1, 3) := by decide +kernel
theorem dX8_would_121 : decode cX8_would 121 = .ok (.goto (-81), 3) := by decide +kernel
theorem dX8_would_124 : decode cX8_would 124 = .ok (.aload_n 0, 1) := by decide +kernel
theorem dX8_would_125 : decode cX8_would 125 = .ok (.getfield 16, 3) := by decide +kernel
theorem dX8_would_128 : decode cX8_would 128 = .ok (.getfield 189, 3) := by decide +kernel
theorem dX8_would_131 : decode cX8_would 131 = .ok (.getfield 202, 3) := by decide +kernel
theorem dX8_would_134 : decode cX8_would 134 = .ok (.ireturn, 1) := by decide +kernel
theorem dX8_busiest_0 : decode cX8_busiest 0 = .ok (.aload_n 0, 1) := by decide +kernel
theorem dX8_busiest_1 : decode cX8_busiest 1 = .ok (.iload_n 1, 1) := by decide +kernel
theorem dX8_busiest_2 : decode cX8_busiest 2 = .ok (.invokevirtual 86, 3) := by decide +kernel
theorem dX8_busiest_5 : decode cX8_busiest 5 = .ok (.istore_n 2, 1) := by decide +kernel
theorem dX8_busiest_6 : decode cX8_busiest 6 = .ok (.iload_n 2, 1) := by decide +kernel
theorem dX8_busiest_7 : decode cX8_busiest 7 = .ok (.ifCond .ge 5, 3) := by decide +kernel
theorem dX8_busiest_10 : decode cX8_busiest 10 = .ok (.iload_n 2, 1) := by decide +kernel
theorem dX8_busiest_11 : decode cX8_busiest 11 = .ok (.ireturn, 1) := by decide +kernel
theorem dX8_busiest_12 : decode cX8_busiest 12 = .ok (.aload_n 0, 1) := by decide +kernel
theorem dX8_busiest_13 : decode cX8_busiest 13 = .ok (.getfield 16, 3) := by decide +kernel
theorem dX8_busiest_16 : decode cX8_busiest 16 = .ok (.aload_n 0, 1) := by decide +kernel
theorem dX8_busiest_17 : decode cX8_busiest 17 = .ok (.getfield 10, 3) := by decide +kernel
theorem dX8_busiest_20 : decode cX8_busiest 20 = .ok (.invokevirtual 268, 3) := by decide +kernel
theorem dX8_busiest_23 : decode cX8_busiest 23 = .ok (.aload_n 0, 1) := by decide +kernel
theorem dX8_busiest_24 : decode cX8_busiest 24 = .ok (.getfield 10, 3) := by decide +kernel
theorem dX8_busiest_27 : decode cX8_busiest 27 = .ok (.getfield 123, 3) := by decide +kernel
theorem dX8_busiest_30 : decode cX8_busiest 30 = .ok (.istore_n 3, 1) := by decide +kernel
theorem dX8_busiest_31 : decode cX8_busiest 31 = .ok (.iconst 0, 1) := by decide +kernel
theorem dX8_busiest_32 : decode cX8_busiest 32 = .ok (.istore 4, 2) := by decide +kernel
theorem dX8_busiest_34 : decode cX8_busiest 34 = .ok (.iconst 0, 1) := by decide +kernel
theorem dX8_busiest_35 : decode cX8_busiest 35 = .ok (.istore 5, 2) := by decide +kernel
theorem dX8_busiest_37 : decode cX8_busiest 37 = .ok (.iconst 0, 1) := by decide +kernel
theorem dX8_busiest_38 : decode cX8_busiest 38 = .ok (.istore 6, 2) := by decide +kernel
theorem dX8_busiest_40 : decode cX8_busiest 40 = .ok (.iload 6, 2) := by decide +kernel
theorem dX8_busiest_42 : decode cX8_busiest 42 = .ok (.iload_n 1, 1) := by decide +kernel
theorem dX8_busiest_43 : decode cX8_busiest 43 = .ok (.if_icmp .ge 68, 3) := by decide +kernel
theorem dX8_busiest_46 : decode cX8_busiest 46 = .ok (.aload_n 0, 1) := by decide +kernel
theorem dX8_busiest_47 : decode cX8_busiest 47 = .ok (.getfield 16, 3) := by decide +kernel
theorem dX8_busiest_50 : decode cX8_busiest 50 = .ok (.invokevirtual 90, 3) := by decide +kernel
theorem dX8_busiest_53 : decode cX8_busiest 53 = .ok (.aload_n 0, 1) := by decide +kernel
theorem dX8_busiest_54 : decode cX8_busiest 54 = .ok (.getfield 16, 3) := by decide +kernel
theorem dX8_busiest_57 : decode cX8_busiest 57 = .ok (.getfield 189, 3) := by decide +kernel
theorem dX8_busiest_60 : decode cX8_busiest 60 = .ok (.getfield 202, 3) := by decide +kernel
theorem dX8_busiest_63 : decode cX8_busiest 63 = .ok (.istore 7, 2) := by decide +kernel
theorem dX8_busiest_65 : decode cX8_busiest 65 = .ok (.iload 7, 2) := by decide +kernel
theorem dX8_busiest_67 : decode cX8_busiest 67 = .ok (.iload 4, 2) := by decide +kernel
theorem dX8_busiest_69 : decode cX8_busiest 69 = .ok (.if_icmp .le 21, 3) := by decide +kernel
theorem dX8_busiest_72 : decode cX8_busiest 72 = .ok (.aload_n 0, 1) := by decide +kernel
theorem dX8_busiest_73 : decode cX8_busiest 73 = .ok (.getfield 16, 3) := by decide +kernel
theorem dX8_busiest_76 : decode cX8_busiest 76 = .ok (.getfield 123, 3) := by decide +kernel
theorem dX8_busiest_79 : decode cX8_busiest 79 = .ok (.istore_n 3, 1) := by decide +kernel
theorem dX8_busiest_80 : decode cX8_busiest 80 = .ok (.iload 7, 2) := by decide +kernel
theorem dX8_busiest_82 : decode cX8_busiest 82 = .ok (.istore 4, 2) := by decide +kernel
theorem dX8_busiest_84 : decode cX8_busiest 84 = .ok (.iconst 0, 1) := by decide +kernel
theorem dX8_busiest_85 : decode cX8_busiest 85 = .ok (.istore 5, 2) := by decide +kernel
theorem dX8_busiest_87 : decode cX8_busiest 87 = .ok (.goto 18, 3) := by decide +kernel
theorem dX8_busiest_90 : decode cX8_busiest 90 = .ok (.iload 7, 2) := by decide +kernel
theorem dX8_busiest_92 : decode cX8_busiest 92 = .ok (.iload 4, 2) := by decide +kernel
theorem dX8_busiest_94 : decode cX8_busiest 94 = .ok (.if_icmp .ne 11, 3) := by decide +kernel
theorem dX8_busiest_97 : decode cX8_busiest 97 = .ok (.iload 4, 2) := by decide +kernel
theorem dX8_busiest_99 : decode cX8_busiest 99 = .ok (.ifCond .le 6, 3) := by decide +kernel
theorem dX8_busiest_102 : decode cX8_busiest 102 = .ok (.iconst 1, 1) := by decide +kernel
theorem dX8_busiest_103 : decode cX8_busiest 103 = .ok (.istore 5, 2) := by decide +kernel
theorem dX8_busiest_105 : decode cX8_busiest 105 = .ok (.iinc 6 1, 3) := by decide +kernel
theorem dX8_busiest_108 : decode cX8_busiest 108 = .ok (.goto (-68), 3) := by decide +kernel
theorem dX8_busiest_111 : decode cX8_busiest 111 = .ok (.aload_n 0, 1) := by decide +kernel
theorem dX8_busiest_112 : decode cX8_busiest 112 = .ok (.getfield 33, 3) := by decide +kernel
theorem dX8_busiest_115 : decode cX8_busiest 115 = .ok (.invokevirtual 209, 3) := by decide +kernel
theorem dX8_busiest_118 : decode cX8_busiest 118 = .ok (.aload_n 0, 1) := by decide +kernel
theorem dX8_busiest_119 : decode cX8_busiest 119 = .ok (.getfield 33, 3) := by decide +kernel
theorem dX8_busiest_122 : decode cX8_busiest 122 = .ok (.iload 4, 2) := by decide +kernel
theorem dX8_busiest_124 : decode cX8_busiest 124 = .ok (.i2l, 1) := by decide +kernel
theorem dX8_busiest_125 : decode cX8_busiest 125 = .ok (.invokevirtual 210, 3) := by decide +kernel
theorem dX8_busiest_128 : decode cX8_busiest 128 = .ok (.aload_n 0, 1) := by decide +kernel
theorem dX8_busiest_129 : decode cX8_busiest 129 = .ok (.getfield 33, 3) := by decide +kernel
theorem dX8_busiest_132 : decode cX8_busiest 132 = .ok (.iload 5, 2) := by decide +kernel
theorem dX8_busiest_134 : decode cX8_busiest 134 = .ok (.i2l, 1) := by decide +kernel
theorem dX8_busiest_135 : decode cX8_busiest 135 = .ok (.invokevirtual 210, 3) := by decide +kernel
theorem dX8_busiest_138 : decode cX8_busiest 138 = .ok (.iload_n 3, 1) := by decide +kernel
theorem dX8_busiest_139 : decode cX8_busiest 139 = .ok (.ireturn, 1) := by decide +kernel
theorem dX8_till_0 : decode cX8_till 0 = .ok (.iload_n 1, 1) := by decide +kernel
theorem dX8_till_1 : decode cX8_till 1 = .ok (.iconst 1, 1) := by decide +kernel
theorem dX8_till_2 : decode cX8_till 2 = .ok (.bipush 100, 2) := by decide +kernel
theorem dX8_till_4 : decode cX8_till 4 = .ok (.invokestatic 79, 3) := by decide +kernel
theorem dX8_till_7 : decode cX8_till 7 = .ok (.ifCond .ne 5, 3) := by decide +kernel
theorem dX8_till_10 : decode cX8_till 10 = .ok (.iconst (-1), 1) := by decide +kernel
theorem dX8_till_11 : decode cX8_till 11 = .ok (.ireturn, 1) := by decide +kernel
theorem dX8_till_12 : decode cX8_till 12 = .ok (.aload_n 0, 1) := by decide +kernel
theorem dX8_till_13 : decode cX8_till 13 = .ok (.bipush 100, 2) := by decide +kernel
theorem dX8_till_15 : decode cX8_till 15 = .ok (.invokevirtual 86, 3) := by decide +kernel
theorem dX8_till_18 : decode cX8_till 18 = .ok (.istore_n 2, 1) := by decide +kernel
theorem dX8_till_19 : decode cX8_till 19 = .ok (.iload_n 2, 1) := by decide +kernel
theorem dX8_till_20 : decode cX8_till 20 = .ok (.ifCond .ge 5, 3) := by decide +kernel
theorem dX8_till_23 : decode cX8_till 23 = .ok (.iload_n 2, 1) := by decide +kernel
theorem dX8_till_24 : decode cX8_till 24 = .ok (.ireturn, 1) := by decide +kernel
theorem dX8_till_25 : decode cX8_till 25 = .ok (.aload_n 0, 1) := by decide +kernel
theorem dX8_till_26 : decode cX8_till 26 = .ok (.getfield 16, 3) := by decide +kernel
theorem dX8_till_29 : decode cX8_till 29 = .ok (.aload_n 0, 1) := by decide +kernel
theorem dX8_till_30 : decode cX8_till 30 = .ok (.getfield 10, 3) := by decide +kernel
theorem dX8_till_33 : decode cX8_till 33 = .ok (.invokevirtual 268, 3) := by decide +kernel
theorem dX8_till_36 : decode cX8_till 36 = .ok (.iconst 0, 1) := by decide +kernel
theorem dX8_till_37 : decode cX8_till 37 = .ok (.istore_n 3, 1) := by decide +kernel
theorem dX8_till_38 : decode cX8_till 38 = .ok (.iconst 0, 1) := by decide +kernel
theorem dX8_till_39 : decode cX8_till 39 = .ok (.istore 4, 2) := by decide +kernel
theorem dX8_till_41 : decode cX8_till 41 = .ok (.iload 4, 2) := by decide +kernel
theorem dX8_till_43 : decode cX8_till 43 = .ok (.bipush 100, 2) := by decide +kernel
theorem dX8_till_45 : decode cX8_till 45 = .ok (.if_icmp .ge 34, 3) := by decide +kernel
theorem dX8_till_48 : decode cX8_till 48 = .ok (.iload_n 3, 1) := by decide +kernel
theorem dX8_till_49 : decode cX8_till 49 = .ok (.iload_n 1, 1) := by decide +kernel
theorem dX8_till_50 : decode cX8_till 50 = .ok (.if_icmp .ge 29, 3) := by decide +kernel
theorem dX8_till_53 : decode cX8_till 53 = .ok (.aload_n 0, 1) := by decide +kernel
theorem dX8_till_54 : decode cX8_till 54 = .ok (.getfield 16, 3) := by decide +kernel
theorem dX8_till_57 : decode cX8_till 57 = .ok (.invokevirtual 90, 3) := by decide +kernel
theorem dX8_till_60 : decode cX8_till 60 = .ok (.iload_n 3, 1) := by decide +kernel
theorem dX8_till_61 : decode cX8_till 61 = .ok (.aload_n 0, 1) := by decide +kernel
theorem dX8_till_62 : decode cX8_till 62 = .ok (.getfield 16, 3) := by decide +kernel
theorem dX8_till_65 : decode cX8_till 65 = .ok (.getfield 189, 3) := by decide +kernel
theorem dX8_till_68 : decode cX8_till 68 = .ok (.getfield 202, 3) := by decide +kernel
theorem dX8_till_71 : decode cX8_till 71 = .ok (.iadd, 1) := by decide +kernel
theorem dX8_till_72 : decode cX8_till 72 = .ok (.istore_n 3, 1) := by decide +kernel
theorem dX8_till_73 : decode cX8_till 73 = .ok (.iinc 4 1, 3) := by decide +kernel
theorem dX8_till_76 : decode cX8_till 76 = .ok (.goto (-35), 3) := by decide +kernel
theorem dX8_till_79 : decode cX8_till 79 = .ok (.iload_n 3, 1) := by decide +kernel
theorem dX8_till_80 : decode cX8_till 80 = .ok (.iload_n 1, 1) := by decide +kernel
theorem dX8_till_81 : decode cX8_till 81 = .ok (.if_icmp .ge 6, 3) := by decide +kernel
theorem dX8_till_84 : decode cX8_till 84 = .ok (.bipush (-2), 2) := by decide +kernel
theorem dX8_till_86 : decode cX8_till 86 = .ok (.ireturn, 1) := by decide +kernel
theorem dX8_till_87 : decode cX8_till 87 = .ok (.aload_n 0, 1) := by decide +kernel
theorem dX8_till_88 : decode cX8_till 88 = .ok (.getfield 33, 3) := by decide +kernel
theorem dX8_till_91 : decode cX8_till 91 = .ok (.invokevirtual 209, 3) := by decide +kernel
theorem dX8_till_94 : decode cX8_till 94 = .ok (.aload_n 0, 1) := by decide +kernel
theorem dX8_till_95 : decode cX8_till 95 = .ok (.getfield 33, 3) := by decide +kernel
theorem dX8_till_98 : decode cX8_till 98 = .ok (.iload_n 3, 1) := by decide +kernel
theorem dX8_till_99 : decode cX8_till 99 = .ok (.i2l, 1) := by decide +kernel
theorem dX8_till_100 : decode cX8_till 100 = .ok (.invokevirtual 210, 3) := by decide +kernel
theorem dX8_till_103 : decode cX8_till 103 = .ok (.aload_n 0, 1) := by decide +kernel
theorem dX8_till_104 : decode cX8_till 104 = .ok (.getfield 33, 3) := by decide +kernel
theorem dX8_till_107 : decode cX8_till 107 = .ok (.aload_n 0, 1) := by decide +kernel
theorem dX8_till_108 : decode cX8_till 108 = .ok (.getfield 16, 3) := by decide +kernel
theorem dX8_till_111 : decode cX8_till 111 = .ok (.getfield 302, 3) := by decide +kernel
theorem dX8_till_114 : decode cX8_till 114 = .ok (.aload_n 0, 1) := by decide +kernel
theorem dX8_till_115 : decode cX8_till 115 = .ok (.getfield 10, 3) := by decide +kernel
theorem dX8_till_118 : decode cX8_till 118 = .ok (.getfield 302, 3) := by decide +kernel
theorem dX8_till_121 : decode cX8_till 121 = .ok (.isub, 1) := by decide +kernel
theorem dX8_till_122 : decode cX8_till 122 = .ok (.i2l, 1) := by decide +kernel
theorem dX8_till_123 : decode cX8_till 123 = .ok (.invokevirtual 210, 3) := by decide +kernel
theorem dX8_till_126 : decode cX8_till 126 = .ok (.aload_n 0, 1) := by decide +kernel
theorem dX8_till_127 : decode cX8_till 127 = .ok (.getfield 16, 3) := by decide +kernel
theorem dX8_till_130 : decode cX8_till 130 = .ok (.getfield 123, 3) := by decide +kernel
theorem dX8_till_133 : decode cX8_till 133 = .ok (.ireturn, 1) := by decide +kernel
theorem dX8_loudest_0 : decode cX8_loudest 0 = .ok (.aload_n 0, 1) := by decide +kernel
theorem dX8_loudest_1 : decode cX8_loudest 1 = .ok (.iload_n 1, 1) := by decide +kernel
theorem dX8_loudest_2 : decode cX8_loudest 2 = .ok (.invokevirtual 86, 3) := by decide +kernel
theorem dX8_loudest_5 : decode cX8_loudest 5 = .ok (.istore_n 2, 1) := by decide +kernel
theorem dX8_loudest_6 : decode cX8_loudest 6 = .ok (.iload_n 2, 1) := by decide +kernel
theorem dX8_loudest_7 : decode cX8_loudest 7 = .ok (.ifCond .ge 5, 3) := by decide +kernel
theorem dX8_loudest_10 : decode cX8_loudest 10 = .ok (.iload_n 2, 1) := by decide +kernel
theorem dX8_loudest_11 : decode cX8_loudest 11 = .ok (.ireturn, 1) := by decide +kernel
theorem dX8_loudest_12 : decode cX8_loudest 12 = .ok (.aload_n 0, 1) := by decide +kernel
theorem dX8_loudest_13 : decode cX8_loudest 13 = .ok (.getfield 26, 3) := by decide +kernel
theorem dX8_loudest_16 : decode cX8_loudest 16 = .ok (.astore_n 3, 1) := by decide +kernel
theorem dX8_loudest_17 : decode cX8_loudest 17 = .ok (.aload_n 3, 1) := by decide +kernel
theorem dX8_loudest_18 : decode cX8_loudest 18 = .ok (.iconst 0, 1) := by decide +kernel
theorem dX8_loudest_19 : decode cX8_loudest 19 = .ok (.invokestatic 305, 3) := by decide +kernel
theorem dX8_loudest_22 : decode cX8_loudest 22 = .ok (.aload_n 0, 1) := by decide +kernel
theorem dX8_loudest_23 : decode cX8_loudest 23 = .ok (.getfield 16, 3) := by decide +kernel
theorem dX8_loudest_26 : decode cX8_loudest 26 = .ok (.aload_n 0, 1) := by decide +kernel
theorem dX8_loudest_27 : decode cX8_loudest 27 = .ok (.getfield 10, 3) := by decide +kernel
theorem dX8_loudest_30 : decode cX8_loudest 30 = .ok (.invokevirtual 268, 3) := by decide +kernel
theorem dX8_loudest_33 : decode cX8_loudest 33 = .ok (.iconst 0, 1) := by decide +kernel
theorem dX8_loudest_34 : decode cX8_loudest 34 = .ok (.istore 4, 2) := by decide +kernel
theorem dX8_loudest_36 : decode cX8_loudest 36 = .ok (.iload 4, 2) := by decide +kernel
theorem dX8_loudest_38 : decode cX8_loudest 38 = .ok (.iload_n 1, 1) := by decide +kernel
theorem dX8_loudest_39 : decode cX8_loudest 39 = .ok (.if_icmp .ge 27, 3) := by decide +kernel
theorem dX8_loudest_42 : decode cX8_loudest 42 = .ok (.aload_n 0, 1) := by decide +kernel
theorem dX8_loudest_43 : decode cX8_loudest 43 = .ok (.getfield 16, 3) := by decide +kernel
theorem dX8_loudest_46 : decode cX8_loudest 46 = .ok (.invokevirtual 90, 3) := by decide +kernel
theorem dX8_loudest_49 : decode cX8_loudest 49 = .ok (.aload_n 0, 1) := by decide +kernel
theorem dX8_loudest_50 : decode cX8_loudest 50 = .ok (.getfield 16, 3) := by decide +kernel
theorem dX8_loudest_53 : decode cX8_loudest 53 = .ok (.getfield 189, 3) := by decide +kernel
theorem dX8_loudest_56 : decode cX8_loudest 56 = .ok (.aload_n 3, 1) := by decide +kernel
theorem dX8_loudest_57 : decode cX8_loudest 57 = .ok (.invokestatic 311, 3) := by decide +kernel
theorem dX8_loudest_60 : decode cX8_loudest 60 = .ok (.iinc 4 1, 3) := by decide +kernel
theorem dX8_loudest_63 : decode cX8_loudest 63 = .ok (.goto (-27), 3) := by decide +kernel
theorem dX8_loudest_66 : decode cX8_loudest 66 = .ok (.iconst 0, 1) := by decide +kernel
theorem dX8_loudest_67 : decode cX8_loudest 67 = .ok (.istore 4, 2) := by decide +kernel
theorem dX8_loudest_69 : decode cX8_loudest 69 = .ok (.iconst 1, 1) := by decide +kernel
theorem dX8_loudest_70 : decode cX8_loudest 70 = .ok (.istore 5, 2) := by decide +kernel
theorem dX8_loudest_72 : decode cX8_loudest 72 = .ok (.iload 5, 2) := by decide +kernel
theorem dX8_loudest_74 : decode cX8_loudest 74 = .ok (.bipush 8, 2) := by decide +kernel
theorem dX8_loudest_76 : decode cX8_loudest 76 = .ok (.if_icmp .ge 24, 3) := by decide +kernel
theorem dX8_loudest_79 : decode cX8_loudest 79 = .ok (.aload_n 3, 1) := by decide +kernel
theorem dX8_loudest_80 : decode cX8_loudest 80 = .ok (.iload 5, 2) := by decide +kernel
theorem dX8_loudest_82 : decode cX8_loudest 82 = .ok (.iaload, 1) := by decide +kernel
theorem dX8_loudest_83 : decode cX8_loudest 83 = .ok (.aload_n 3, 1) := by decide +kernel
theorem dX8_loudest_84 : decode cX8_loudest 84 = .ok (.iload 4, 2) := by decide +kernel
theorem dX8_loudest_86 : decode cX8_loudest 86 = .ok (.iaload, 1) := by decide +kernel
theorem dX8_loudest_87 : decode cX8_loudest 87 = .ok (.if_icmp .le 7, 3) := by decide +kernel
theorem dX8_loudest_90 : decode cX8_loudest 90 = .ok (.iload 5, 2) := by decide +kernel
theorem dX8_loudest_92 : decode cX8_loudest 92 = .ok (.istore 4, 2) := by decide +kernel
theorem dX8_loudest_94 : decode cX8_loudest 94 = .ok (.iinc 5 1, 3) := by decide +kernel
theorem dX8_loudest_97 : decode cX8_loudest 97 = .ok (.goto (-25), 3) := by decide +kernel
theorem dX8_loudest_100 : decode cX8_loudest 100 = .ok (.aload_n 3, 1) := by decide +kernel
theorem dX8_loudest_101 : decode cX8_loudest 101 = .ok (.iload 4, 2) := by decide +kernel
theorem dX8_loudest_103 : decode cX8_loudest 103 = .ok (.iaload, 1) := by decide +kernel
theorem dX8_loudest_104 : decode cX8_loudest 104 = .ok (.ifCond .ne 6, 3) := by decide +kernel
theorem dX8_loudest_107 : decode cX8_loudest 107 = .ok (.bipush (-2), 2) := by decide +kernel
theorem dX8_loudest_109 : decode cX8_loudest 109 = .ok (.ireturn, 1) := by decide +kernel
theorem dX8_loudest_110 : decode cX8_loudest 110 = .ok (.aload_n 0, 1) := by decide +kernel
theorem dX8_loudest_111 : decode cX8_loudest 111 = .ok (.getfield 33, 3) := by decide +kernel
theorem dX8_loudest_114 : decode cX8_loudest 114 = .ok (.invokevirtual 209, 3) := by decide +kernel
theorem dX8_loudest_117 : decode cX8_loudest 117 = .ok (.iconst 0, 1) := by decide +kernel
theorem dX8_loudest_118 : decode cX8_loudest 118 = .ok (.istore 5, 2) := by decide +kernel
theorem dX8_loudest_120 : decode cX8_loudest 120 = .ok (.iload 5, 2) := by decide +kernel
theorem dX8_loudest_122 : decode cX8_loudest 122 = .ok (.bipush 8, 2) := by decide +kernel
theorem dX8_loudest_124 : decode cX8_loudest 124 = .ok (.if_icmp .ge 21, 3) := by decide +kernel
theorem dX8_loudest_127 : decode cX8_loudest 127 = .ok (.aload_n 0, 1) := by decide +kernel
theorem dX8_loudest_128 : decode cX8_loudest 128 = .ok (.getfield 33, 3) := by decide +kernel
theorem dX8_loudest_131 : decode cX8_loudest 131 = .ok (.aload_n 3, 1) := by decide +kernel
theorem dX8_loudest_132 : decode cX8_loudest 132 = .ok (.iload 5, 2) := by decide +kernel
theorem dX8_loudest_134 : decode cX8_loudest 134 = .ok (.iaload, 1) := by decide +kernel
theorem dX8_loudest_135 : decode cX8_loudest 135 = .ok (.i2l, 1) := by decide +kernel
theorem dX8_loudest_136 : decode cX8_loudest 136 = .ok (.invokevirtual 210, 3) := by decide +kernel
theorem dX8_loudest_139 : decode cX8_loudest 139 = .ok (.iinc 5 1, 3) := by decide +kernel
theorem dX8_loudest_142 : decode cX8_loudest 142 = .ok (.goto (-22), 3) := by decide +kernel
theorem dX8_loudest_145 : decode cX8_loudest 145 = .ok (.iload 4, 2) := by decide +kernel
theorem dX8_loudest_147 : decode cX8_loudest 147 = .ok (.ireturn, 1) := by decide +kernel
theorem dX8_clashes_0 : decode cX8_clashes 0 = .ok (.aload_n 0, 1) := by decide +kernel
theorem dX8_clashes_1 : decode cX8_clashes 1 = .ok (.iload_n 1, 1) := by decide +kernel
theorem dX8_clashes_2 : decode cX8_clashes 2 = .ok (.invokevirtual 86, 3) := by decide +kernel
theorem dX8_clashes_5 : decode cX8_clashes 5 = .ok (.istore_n 2, 1) := by decide +kernel
theorem dX8_clashes_6 : decode cX8_clashes 6 = .ok (.iload_n 2, 1) := by decide +kernel
theorem dX8_clashes_7 : decode cX8_clashes 7 = .ok (.ifCond .ge 5, 3) := by decide +kernel
theorem dX8_clashes_10 : decode cX8_clashes 10 = .ok (.iload_n 2, 1) := by decide +kernel
theorem dX8_clashes_11 : decode cX8_clashes 11 = .ok (.ireturn, 1) := by decide +kernel
theorem dX8_clashes_12 : decode cX8_clashes 12 = .ok (.aload_n 0, 1) := by decide +kernel
theorem dX8_clashes_13 : decode cX8_clashes 13 = .ok (.getfield 16, 3) := by decide +kernel
theorem dX8_clashes_16 : decode cX8_clashes 16 = .ok (.aload_n 0, 1) := by decide +kernel
theorem dX8_clashes_17 : decode cX8_clashes 17 = .ok (.getfield 10, 3) := by decide +kernel
theorem dX8_clashes_20 : decode cX8_clashes 20 = .ok (.invokevirtual 268, 3) := by decide +kernel
theorem dX8_clashes_23 : decode cX8_clashes 23 = .ok (.aload_n 0, 1) := by decide +kernel
theorem dX8_clashes_24 : decode cX8_clashes 24 = .ok (.getfield 33, 3) := by decide +kernel
theorem dX8_clashes_27 : decode cX8_clashes 27 = .ok (.invokevirtual 209, 3) := by decide +kernel
theorem dX8_clashes_30 : decode cX8_clashes 30 = .ok (.iconst 0, 1) := by decide +kernel
theorem dX8_clashes_31 : decode cX8_clashes 31 = .ok (.istore_n 3, 1) := by decide +kernel
theorem dX8_clashes_32 : decode cX8_clashes 32 = .ok (.iconst 0, 1) := by decide +kernel
theorem dX8_clashes_33 : decode cX8_clashes 33 = .ok (.istore 4, 2) := by decide +kernel
theorem dX8_clashes_35 : decode cX8_clashes 35 = .ok (.iload 4, 2) := by decide +kernel
theorem dX8_clashes_37 : decode cX8_clashes 37 = .ok (.iload_n 1, 1) := by decide +kernel
theorem dX8_clashes_38 : decode cX8_clashes 38 = .ok (.if_icmp .ge 111, 3) := by decide +kernel
theorem dX8_clashes_41 : decode cX8_clashes 41 = .ok (.aload_n 0, 1) := by decide +kernel
theorem dX8_clashes_42 : decode cX8_clashes 42 = .ok (.getfield 16, 3) := by decide +kernel
theorem dX8_clashes_45 : decode cX8_clashes 45 = .ok (.invokevirtual 90, 3) := by decide +kernel
theorem dX8_clashes_48 : decode cX8_clashes 48 = .ok (.aload_n 0, 1) := by decide +kernel
theorem dX8_clashes_49 : decode cX8_clashes 49 = .ok (.getfield 16, 3) := by decide +kernel
theorem dX8_clashes_52 : decode cX8_clashes 52 = .ok (.getfield 189, 3) := by decide +kernel
theorem dX8_clashes_55 : decode cX8_clashes 55 = .ok (.getfield 202, 3) := by decide +kernel
theorem dX8_clashes_58 : decode cX8_clashes 58 = .ok (.iconst 1, 1) := by decide +kernel
theorem dX8_clashes_59 : decode cX8_clashes 59 = .ok (.if_icmp .le 6, 3) := by decide +kernel
theorem dX8_clashes_62 : decode cX8_clashes 62 = .ok (.iinc 3 1, 3) := by decide +kernel
theorem dX8_clashes_65 : decode cX8_clashes 65 = .ok (.aload_n 0, 1) := by decide +kernel
theorem dX8_clashes_66 : decode cX8_clashes 66 = .ok (.getfield 16, 3) := by decide +kernel
theorem dX8_clashes_69 : decode cX8_clashes 69 = .ok (.getfield 189, 3) := by decide +kernel
theorem dX8_clashes_72 : decode cX8_clashes 72 = .ok (.getfield 202, 3) := by decide +kernel
theorem dX8_clashes_75 : decode cX8_clashes 75 = .ok (.iconst 1, 1) := by decide +kernel
theorem dX8_clashes_76 : decode cX8_clashes 76 = .ok (.if_icmp .le 67, 3) := by decide +kernel
theorem dX8_clashes_79 : decode cX8_clashes 79 = .ok (.iload_n 3, 1) := by decide +kernel
theorem dX8_clashes_80 : decode cX8_clashes 80 = .ok (.iconst 1, 1) := by decide +kernel
theorem dX8_clashes_81 : decode cX8_clashes 81 = .ok (.if_icmp .ne 62, 3) := by decide +kernel
theorem dX8_clashes_84 : decode cX8_clashes 84 = .ok (.aload_n 0, 1) := by decide +kernel
theorem dX8_clashes_85 : decode cX8_clashes 85 = .ok (.getfield 33, 3) := by decide +kernel
theorem dX8_clashes_88 : decode cX8_clashes 88 = .ok (.aload_n 0, 1) := by decide +kernel
theorem dX8_clashes_89 : decode cX8_clashes 89 = .ok (.getfield 16, 3) := by decide +kernel
theorem dX8_clashes_92 : decode cX8_clashes 92 = .ok (.getfield 123, 3) := by decide +kernel
theorem dX8_clashes_95 : decode cX8_clashes 95 = .ok (.i2l, 1) := by decide +kernel
theorem dX8_clashes_96 : decode cX8_clashes 96 = .ok (.invokevirtual 210, 3) := by decide +kernel
theorem dX8_clashes_99 : decode cX8_clashes 99 = .ok (.aload_n 0, 1) := by decide +kernel
theorem dX8_clashes_100 : decode cX8_clashes 100 = .ok (.getfield 33, 3) := by decide +kernel
theorem dX8_clashes_103 : decode cX8_clashes 103 = .ok (.aload_n 0, 1) := by decide +kernel
theorem dX8_clashes_104 : decode cX8_clashes 104 = .ok (.getfield 16, 3) := by decide +kernel
theorem dX8_clashes_107 : decode cX8_clashes 107 = .ok (.getfield 189, 3) := by decide +kernel
theorem dX8_clashes_110 : decode cX8_clashes 110 = .ok (.iconst 0, 1) := by decide +kernel
theorem dX8_clashes_111 : decode cX8_clashes 111 = .ok (.invokevirtual 297, 3) := by decide +kernel
theorem dX8_clashes_114 : decode cX8_clashes 114 = .ok (.invokestatic 315, 3) := by decide +kernel
theorem dX8_clashes_117 : decode cX8_clashes 117 = .ok (.i2l, 1) := by decide +kernel
theorem dX8_clashes_118 : decode cX8_clashes 118 = .ok (.invokevirtual 210, 3) := by decide +kernel
theorem dX8_clashes_121 : decode cX8_clashes 121 = .ok (.aload_n 0, 1) := by decide +kernel
theorem dX8_clashes_122 : decode cX8_clashes 122 = .ok (.getfield 33, 3) := by decide +kernel
theorem dX8_clashes_125 : decode cX8_clashes 125 = .ok (.aload_n 0, 1) := by decide +kernel
theorem dX8_clashes_126 : decode cX8_clashes 126 = .ok (.getfield 16, 3) := by decide +kernel
theorem dX8_clashes_129 : decode cX8_clashes 129 = .ok (.getfield 189, 3) := by decide +kernel
theorem dX8_clashes_132 : decode cX8_clashes 132 = .ok (.iconst 1, 1) := by decide +kernel
theorem dX8_clashes_133 : decode cX8_clashes 133 = .ok (.invokevirtual 297, 3) := by decide +kernel
theorem dX8_clashes_136 : decode cX8_clashes 136 = .ok (.invokestatic 315, 3) := by decide +kernel
theorem dX8_clashes_139 : decode cX8_clashes 139 = .ok (.i2l, 1) := by decide +kernel
theorem dX8_clashes_140 : decode cX8_clashes 140 = .ok (.invokevirtual 210, 3) := by decide +kernel
theorem dX8_clashes_143 : decode cX8_clashes 143 = .ok (.iinc 4 1, 3) := by decide +kernel
theorem dX8_clashes_146 : decode cX8_clashes 146 = .ok (.goto (-111), 3) := by decide +kernel
theorem dX8_clashes_149 : decode cX8_clashes 149 = .ok (.iconst 0, 1) := by decide +kernel
theorem dX8_clashes_150 : decode cX8_clashes 150 = .ok (.istore 4, 2) := by decide +kernel
theorem dX8_clashes_152 : decode cX8_clashes 152 = .ok (.iload 4, 2) := by decide +kernel
theorem dX8_clashes_154 : decode cX8_clashes 154 = .ok (.iconst 3, 1) := by decide +kernel
theorem dX8_clashes_155 : decode cX8_clashes 155 = .ok (.if_icmp .ge 23, 3) := by decide +kernel
theorem dX8_clashes_158 : decode cX8_clashes 158 = .ok (.iload_n 3, 1) := by decide +kernel
theorem dX8_clashes_159 : decode cX8_clashes 159 = .ok (.ifCond .ne 19, 3) := by decide +kernel
theorem dX8_clashes_162 : decode cX8_clashes 162 = .ok (.aload_n 0, 1) := by decide +kernel
theorem dX8_clashes_163 : decode cX8_clashes 163 = .ok (.getfield 33, 3) := by decide +kernel
theorem dX8_clashes_166 : decode cX8_clashes 166 = .ok (.ldc2_w 300, 3) := by decide +kernel
theorem dX8_clashes_169 : decode cX8_clashes 169 = .ok (.invokevirtual 210, 3) := by decide +kernel
theorem dX8_clashes_172 : decode cX8_clashes 172 = .ok (.iinc 4 1, 3) := by decide +kernel
theorem dX8_clashes_175 : decode cX8_clashes 175 = .ok (.goto (-23), 3) := by decide +kernel
theorem dX8_clashes_178 : decode cX8_clashes 178 = .ok (.iload_n 3, 1) := by decide +kernel
theorem dX8_clashes_179 : decode cX8_clashes 179 = .ok (.ireturn, 1) := by decide +kernel
theorem dX8_rung_0 : decode cX8_rung 0 = .ok (.aload_n 0, 1) := by decide +kernel
theorem dX8_rung_1 : decode cX8_rung 1 = .ok (.getfield 40, 3) := by decide +kernel
theorem dX8_rung_4 : decode cX8_rung 4 = .ok (.iload_n 1, 1) := by decide +kernel
theorem dX8_rung_5 : decode cX8_rung 5 = .ok (.invokevirtual 319, 3) := by decide +kernel
theorem dX8_rung_8 : decode cX8_rung 8 = .ok (.istore_n 2, 1) := by decide +kernel
theorem dX8_rung_9 : decode cX8_rung 9 = .ok (.iload_n 2, 1) := by decide +kernel
theorem dX8_rung_10 : decode cX8_rung 10 = .ok (.iconst 0, 1) := by decide +kernel
theorem dX8_rung_11 : decode cX8_rung 11 = .ok (.bipush 39, 2) := by decide +kernel
theorem dX8_rung_13 : decode cX8_rung 13 = .ok (.invokestatic 79, 3) := by decide +kernel
theorem dX8_rung_16 : decode cX8_rung 16 = .ok (.ifCond .ne 5, 3) := by decide +kernel
theorem dX8_rung_19 : decode cX8_rung 19 = .ok (.iconst (-1), 1) := by decide +kernel
theorem dX8_rung_20 : decode cX8_rung 20 = .ok (.ireturn, 1) := by decide +kernel
theorem dX8_rung_21 : decode cX8_rung 21 = .ok (.aload_n 0, 1) := by decide +kernel
theorem dX8_rung_22 : decode cX8_rung 22 = .ok (.getfield 33, 3) := by decide +kernel
theorem dX8_rung_25 : decode cX8_rung 25 = .ok (.invokevirtual 209, 3) := by decide +kernel
theorem dX8_rung_28 : decode cX8_rung 28 = .ok (.aload_n 0, 1) := by decide +kernel
theorem dX8_rung_29 : decode cX8_rung 29 = .ok (.getfield 33, 3) := by decide +kernel
theorem dX8_rung_32 : decode cX8_rung 32 = .ok (.aload_n 0, 1) := by decide +kernel
theorem dX8_rung_33 : decode cX8_rung 33 = .ok (.getfield 40, 3) := by decide +kernel
theorem dX8_rung_36 : decode cX8_rung 36 = .ok (.getfield 322, 3) := by decide +kernel
theorem dX8_rung_39 : decode cX8_rung 39 = .ok (.iload_n 2, 1) := by decide +kernel
theorem dX8_rung_40 : decode cX8_rung 40 = .ok (.iaload, 1) := by decide +kernel
theorem dX8_rung_41 : decode cX8_rung 41 = .ok (.i2l, 1) := by decide +kernel
theorem dX8_rung_42 : decode cX8_rung 42 = .ok (.invokevirtual 210, 3) := by decide +kernel
theorem dX8_rung_45 : decode cX8_rung 45 = .ok (.aload_n 0, 1) := by decide +kernel
theorem dX8_rung_46 : decode cX8_rung 46 = .ok (.getfield 33, 3) := by decide +kernel
theorem dX8_rung_49 : decode cX8_rung 49 = .ok (.aload_n 0, 1) := by decide +kernel
theorem dX8_rung_50 : decode cX8_rung 50 = .ok (.getfield 40, 3) := by decide +kernel
theorem dX8_rung_53 : decode cX8_rung 53 = .ok (.getfield 325, 3) := by decide +kernel
theorem dX8_rung_56 : decode cX8_rung 56 = .ok (.iload_n 2, 1) := by decide +kernel
theorem dX8_rung_57 : decode cX8_rung 57 = .ok (.iaload, 1) := by decide +kernel
theorem dX8_rung_58 : decode cX8_rung 58 = .ok (.i2l, 1) := by decide +kernel
theorem dX8_rung_59 : decode cX8_rung 59 = .ok (.invokevirtual 210, 3) := by decide +kernel
theorem dX8_rung_62 : decode cX8_rung 62 = .ok (.aload_n 0, 1) := by decide +kernel
theorem dX8_rung_63 : decode cX8_rung 63 = .ok (.getfield 33, 3) := by decide +kernel
theorem dX8_rung_66 : decode cX8_rung 66 = .ok (.aload_n 0, 1) := by decide +kernel
theorem dX8_rung_67 : decode cX8_rung 67 = .ok (.getfield 40, 3) := by decide +kernel
theorem dX8_rung_70 : decode cX8_rung 70 = .ok (.getfield 328, 3) := by decide +kernel
theorem dX8_rung_73 : decode cX8_rung 73 = .ok (.iload_n 2, 1) := by decide +kernel
theorem dX8_rung_74 : decode cX8_rung 74 = .ok (.iaload, 1) := by decide +kernel
theorem dX8_rung_75 : decode cX8_rung 75 = .ok (.i2l, 1) := by decide +kernel
theorem dX8_rung_76 : decode cX8_rung 76 = .ok (.invokevirtual 210, 3) := by decide +kernel
theorem dX8_rung_79 : decode cX8_rung 79 = .ok (.aload_n 0, 1) := by decide +kernel
theorem dX8_rung_80 : decode cX8_rung 80 = .ok (.getfield 33, 3) := by decide +kernel
theorem dX8_rung_83 : decode cX8_rung 83 = .ok (.aload_n 0, 1) := by decide +kernel
theorem dX8_rung_84 : decode cX8_rung 84 = .ok (.getfield 40, 3) := by decide +kernel
theorem dX8_rung_87 : decode cX8_rung 87 = .ok (.getfield 331, 3) := by decide +kernel
theorem dX8_rung_90 : decode cX8_rung 90 = .ok (.iload_n 2, 1) := by decide +kernel
theorem dX8_rung_91 : decode cX8_rung 91 = .ok (.iaload, 1) := by decide +kernel
theorem dX8_rung_92 : decode cX8_rung 92 = .ok (.i2l, 1) := by decide +kernel
theorem dX8_rung_93 : decode cX8_rung 93 = .ok (.invokevirtual 210, 3) := by decide +kernel
theorem dX8_rung_96 : decode cX8_rung 96 = .ok (.aload_n 0, 1) := by decide +kernel
theorem dX8_rung_97 : decode cX8_rung 97 = .ok (.getfield 40, 3) := by decide +kernel
theorem dX8_rung_100 : decode cX8_rung 100 = .ok (.getfield 334, 3) := by decide +kernel
theorem dX8_rung_103 : decode cX8_rung 103 = .ok (.iload_n 2, 1) := by decide +kernel
theorem dX8_rung_104 : decode cX8_rung 104 = .ok (.iaload, 1) := by decide +kernel
theorem dX8_rung_105 : decode cX8_rung 105 = .ok (.ireturn, 1) := by decide +kernel
theorem dX8_told_0 : decode cX8_told 0 = .ok (.iload_n 1, 1) := by decide +kernel
theorem dX8_told_1 : decode cX8_told 1 = .ok (.tableswitch 87 0 6 #[43, 51, 59, 67, 72, 77, 82], 43) := by decide +kernel
theorem dX8_told_44 : decode cX8_told 44 = .ok (.aload_n 0, 1) := by decide +kernel
theorem dX8_told_45 : decode cX8_told 45 = .ok (.getfield 40, 3) := by decide +kernel
theorem dX8_told_48 : decode cX8_told 48 = .ok (.getfield 224, 3) := by decide +kernel
theorem dX8_told_51 : decode cX8_told 51 = .ok (.ireturn, 1) := by decide +kernel
theorem dX8_told_52 : decode cX8_told 52 = .ok (.aload_n 0, 1) := by decide +kernel
theorem dX8_told_53 : decode cX8_told 53 = .ok (.getfield 10, 3) := by decide +kernel
theorem dX8_told_56 : decode cX8_told 56 = .ok (.getfield 302, 3) := by decide +kernel
theorem dX8_told_59 : decode cX8_told 59 = .ok (.ireturn, 1) := by decide +kernel
theorem dX8_told_60 : decode cX8_told 60 = .ok (.aload_n 0, 1) := by decide +kernel
theorem dX8_told_61 : decode cX8_told 61 = .ok (.getfield 10, 3) := by decide +kernel
theorem dX8_told_64 : decode cX8_told 64 = .ok (.getfield 337, 3) := by decide +kernel
theorem dX8_told_67 : decode cX8_told 67 = .ok (.ireturn, 1) := by decide +kernel
theorem dX8_told_68 : decode cX8_told 68 = .ok (.aload_n 0, 1) := by decide +kernel
theorem dX8_told_69 : decode cX8_told 69 = .ok (.getfield 162, 3) := by decide +kernel
theorem dX8_told_72 : decode cX8_told 72 = .ok (.ireturn, 1) := by decide +kernel
theorem dX8_told_73 : decode cX8_told 73 = .ok (.aload_n 0, 1) := by decide +kernel
theorem dX8_told_74 : decode cX8_told 74 = .ok (.getfield 108, 3) := by decide +kernel
theorem dX8_told_77 : decode cX8_told 77 = .ok (.ireturn, 1) := by decide +kernel
theorem dX8_told_78 : decode cX8_told 78 = .ok (.aload_n 0, 1) := by decide +kernel
theorem dX8_told_79 : decode cX8_told 79 = .ok (.getfield 111, 3) := by decide +kernel
theorem dX8_told_82 : decode cX8_told 82 = .ok (.ireturn, 1) := by decide +kernel
theorem dX8_told_83 : decode cX8_told 83 = .ok (.aload_n 0, 1) := by decide +kernel
theorem dX8_told_84 : decode cX8_told 84 = .ok (.getfield 126, 3) := by decide +kernel
theorem dX8_told_87 : decode cX8_told 87 = .ok (.ireturn, 1) := by decide +kernel
theorem dX8_told_88 : decode cX8_told 88 = .ok (.iconst (-1), 1) := by decide +kernel
theorem dX8_told_89 : decode cX8_told 89 = .ok (.ireturn, 1) := by decide +kernel
theorem dX8_count_0 : decode cX8_count 0 = .ok (.iload_n 1, 1) := by decide +kernel
theorem dX8_count_1 : decode cX8_count 1 = .ok (.tableswitch 144 0 9 #[55, 63, 74, 85, 93, 103, 112, 120, 128, 136], 55) := by decide +kernel
theorem dX8_count_56 : decode cX8_count 56 = .ok (.aload_n 0, 1) := by decide +kernel
theorem dX8_count_57 : decode cX8_count 57 = .ok (.getfield 10, 3) := by decide +kernel
theorem dX8_count_60 : decode cX8_count 60 = .ok (.getfield 123, 3) := by decide +kernel
theorem dX8_count_63 : decode cX8_count 63 = .ok (.ireturn, 1) := by decide +kernel
theorem dX8_count_64 : decode cX8_count 64 = .ok (.aload_n 0, 1) := by decide +kernel
theorem dX8_count_65 : decode cX8_count 65 = .ok (.getfield 10, 3) := by decide +kernel
theorem dX8_count_68 : decode cX8_count 68 = .ok (.getfield 62, 3) := by decide +kernel
theorem dX8_count_71 : decode cX8_count 71 = .ok (.getfield 75, 3) := by decide +kernel
theorem dX8_count_74 : decode cX8_count 74 = .ok (.ireturn, 1) := by decide +kernel
theorem dX8_count_75 : decode cX8_count 75 = .ok (.aload_n 0, 1) := by decide +kernel
theorem dX8_count_76 : decode cX8_count 76 = .ok (.getfield 10, 3) := by decide +kernel
theorem dX8_count_79 : decode cX8_count 79 = .ok (.getfield 62, 3) := by decide +kernel
theorem dX8_count_82 : decode cX8_count 82 = .ok (.getfield 340, 3) := by decide +kernel
theorem dX8_count_85 : decode cX8_count 85 = .ok (.ireturn, 1) := by decide +kernel
theorem dX8_count_86 : decode cX8_count 86 = .ok (.aload_n 0, 1) := by decide +kernel
theorem dX8_count_87 : decode cX8_count 87 = .ok (.getfield 10, 3) := by decide +kernel
theorem dX8_count_90 : decode cX8_count 90 = .ok (.invokevirtual 165, 3) := by decide +kernel
theorem dX8_count_93 : decode cX8_count 93 = .ok (.ireturn, 1) := by decide +kernel
theorem dX8_count_94 : decode cX8_count 94 = .ok (.aload_n 0, 1) := by decide +kernel
theorem dX8_count_95 : decode cX8_count 95 = .ok (.getfield 10, 3) := by decide +kernel
theorem dX8_count_98 : decode cX8_count 98 = .ok (.bipush (-2), 2) := by decide +kernel
theorem dX8_count_100 : decode cX8_count 100 = .ok (.invokevirtual 343, 3) := by decide +kernel
theorem dX8_count_103 : decode cX8_count 103 = .ok (.ireturn, 1) := by decide +kernel
theorem dX8_count_104 : decode cX8_count 104 = .ok (.aload_n 0, 1) := by decide +kernel
theorem dX8_count_105 : decode cX8_count 105 = .ok (.getfield 10, 3) := by decide +kernel
theorem dX8_count_108 : decode cX8_count 108 = .ok (.iconst (-1), 1) := by decide +kernel
theorem dX8_count_109 : decode cX8_count 109 = .ok (.invokevirtual 343, 3) := by decide +kernel
theorem dX8_count_112 : decode cX8_count 112 = .ok (.ireturn, 1) := by decide +kernel
theorem dX8_count_113 : decode cX8_count 113 = .ok (.aload_n 0, 1) := by decide +kernel
theorem dX8_count_114 : decode cX8_count 114 = .ok (.getfield 10, 3) := by decide +kernel
theorem dX8_count_117 : decode cX8_count 117 = .ok (.getfield 83, 3) := by decide +kernel
theorem dX8_count_120 : decode cX8_count 120 = .ok (.ireturn, 1) := by decide +kernel
theorem dX8_count_121 : decode cX8_count 121 = .ok (.aload_n 0, 1) := by decide +kernel
theorem dX8_count_122 : decode cX8_count 122 = .ok (.getfield 40, 3) := by decide +kernel
theorem dX8_count_125 : decode cX8_count 125 = .ok (.getfield 346, 3) := by decide +kernel
theorem dX8_count_128 : decode cX8_count 128 = .ok (.ireturn, 1) := by decide +kernel
theorem dX8_count_129 : decode cX8_count 129 = .ok (.aload_n 0, 1) := by decide +kernel
theorem dX8_count_130 : decode cX8_count 130 = .ok (.getfield 33, 3) := by decide +kernel
theorem dX8_count_133 : decode cX8_count 133 = .ok (.getfield 260, 3) := by decide +kernel
theorem dX8_count_136 : decode cX8_count 136 = .ok (.ireturn, 1) := by decide +kernel
theorem dX8_count_137 : decode cX8_count 137 = .ok (.aload_n 0, 1) := by decide +kernel
theorem dX8_count_138 : decode cX8_count 138 = .ok (.getfield 47, 3) := by decide +kernel
theorem dX8_count_141 : decode cX8_count 141 = .ok (.getfield 234, 3) := by decide +kernel
theorem dX8_count_144 : decode cX8_count 144 = .ok (.ireturn, 1) := by decide +kernel
theorem dX8_count_145 : decode cX8_count 145 = .ok (.iload_n 1, 1) := by decide +kernel
theorem dX8_count_146 : decode cX8_count 146 = .ok (.bipush 10, 2) := by decide +kernel
theorem dX8_count_148 : decode cX8_count 148 = .ok (.bipush 13, 2) := by decide +kernel
theorem dX8_count_150 : decode cX8_count 150 = .ok (.invokestatic 79, 3) := by decide +kernel
theorem dX8_count_153 : decode cX8_count 153 = .ok (.ifCond .eq 20, 3) := by decide +kernel
theorem dX8_count_156 : decode cX8_count 156 = .ok (.aload_n 0, 1) := by decide +kernel
theorem dX8_count_157 : decode cX8_count 157 = .ok (.getfield 10, 3) := by decide +kernel
theorem dX8_count_160 : decode cX8_count 160 = .ok (.getfield 62, 3) := by decide +kernel
theorem dX8_count_163 : decode cX8_count 163 = .ok (.iload_n 1, 1) := by decide +kernel
theorem dX8_count_164 : decode cX8_count 164 = .ok (.bipush 10, 2) := by decide +kernel
theorem dX8_count_166 : decode cX8_count 166 = .ok (.isub, 1) := by decide +kernel
theorem dX8_count_167 : decode cX8_count 167 = .ok (.invokevirtual 253, 3) := by decide +kernel
theorem dX8_count_170 : decode cX8_count 170 = .ok (.goto 4, 3) := by decide +kernel
theorem dX8_count_173 : decode cX8_count 173 = .ok (.iconst (-1), 1) := by decide +kernel
theorem dX8_count_174 : decode cX8_count 174 = .ok (.ireturn, 1) := by decide +kernel
theorem dX8_row_0 : decode cX8_row 0 = .ok (.iload_n 1, 1) := by decide +kernel
theorem dX8_row_1 : decode cX8_row 1 = .ok (.iconst 0, 1) := by decide +kernel
theorem dX8_row_2 : decode cX8_row 2 = .ok (.aload_n 0, 1) := by decide +kernel
theorem dX8_row_3 : decode cX8_row 3 = .ok (.getfield 33, 3) := by decide +kernel
theorem dX8_row_6 : decode cX8_row 6 = .ok (.getfield 260, 3) := by decide +kernel
theorem dX8_row_9 : decode cX8_row 9 = .ok (.iconst 1, 1) := by decide +kernel
theorem dX8_row_10 : decode cX8_row 10 = .ok (.isub, 1) := by decide +kernel
theorem dX8_row_11 : decode cX8_row 11 = .ok (.invokestatic 79, 3) := by decide +kernel
theorem dX8_row_14 : decode cX8_row 14 = .ok (.ifCond .eq 15, 3) := by decide +kernel
theorem dX8_row_17 : decode cX8_row 17 = .ok (.iload_n 1, 1) := by decide +kernel
theorem dX8_row_18 : decode cX8_row 18 = .ok (.aload_n 0, 1) := by decide +kernel
theorem dX8_row_19 : decode cX8_row 19 = .ok (.getfield 33, 3) := by decide +kernel
theorem dX8_row_22 : decode cX8_row 22 = .ok (.getfield 349, 3) := by decide +kernel
theorem dX8_row_25 : decode cX8_row 25 = .ok (.arraylength, 1) := by decide +kernel
theorem dX8_row_26 : decode cX8_row 26 = .ok (.if_icmp .lt 11, 3) := by decide +kernel
theorem dX8_row_29 : decode cX8_row 29 = .ok (.new 235, 3) := by decide +kernel
theorem dX8_row_32 : decode cX8_row 32 = .ok (.dup, 1) := by decide +kernel
theorem dX8_row_33 : decode cX8_row 33 = .ok (.invokespecial 237, 3) := by decide +kernel
theorem dX8_row_36 : decode cX8_row 36 = .ok (.athrow, 1) := by decide +kernel
theorem dX8_row_37 : decode cX8_row 37 = .ok (.aload_n 0, 1) := by decide +kernel
theorem dX8_row_38 : decode cX8_row 38 = .ok (.getfield 33, 3) := by decide +kernel
theorem dX8_row_41 : decode cX8_row 41 = .ok (.getfield 349, 3) := by decide +kernel
theorem dX8_row_44 : decode cX8_row 44 = .ok (.iload_n 1, 1) := by decide +kernel
theorem dX8_row_45 : decode cX8_row 45 = .ok (.laload, 1) := by decide +kernel
theorem dX8_row_46 : decode cX8_row 46 = .ok (.lreturn, 1) := by decide +kernel
theorem dX8_isWithin_0 : decode cX8_isWithin 0 = .ok (.iload_n 0, 1) := by decide +kernel
theorem dX8_isWithin_1 : decode cX8_isWithin 1 = .ok (.iload_n 1, 1) := by decide +kernel
theorem dX8_isWithin_2 : decode cX8_isWithin 2 = .ok (.if_icmp .lt 12, 3) := by decide +kernel
theorem dX8_isWithin_5 : decode cX8_isWithin 5 = .ok (.iload_n 0, 1) := by decide +kernel
theorem dX8_isWithin_6 : decode cX8_isWithin 6 = .ok (.iload_n 2, 1) := by decide +kernel
theorem dX8_isWithin_7 : decode cX8_isWithin 7 = .ok (.if_icmp .gt 7, 3) := by decide +kernel
theorem dX8_isWithin_10 : decode cX8_isWithin 10 = .ok (.iconst 1, 1) := by decide +kernel
theorem dX8_isWithin_11 : decode cX8_isWithin 11 = .ok (.goto 4, 3) := by decide +kernel
theorem dX8_isWithin_14 : decode cX8_isWithin 14 = .ok (.iconst 0, 1) := by decide +kernel
theorem dX8_isWithin_15 : decode cX8_isWithin 15 = .ok (.ireturn, 1) := by decide +kernel
theorem dX8_isGroup_0 : decode cX8_isGroup 0 = .ok (.iload_n 0, 1) := by decide +kernel
theorem dX8_isGroup_1 : decode cX8_isGroup 1 = .ok (.iconst 0, 1) := by decide +kernel
theorem dX8_isGroup_2 : decode cX8_isGroup 2 = .ok (.bipush 7, 2) := by decide +kernel
theorem dX8_isGroup_4 : decode cX8_isGroup 4 = .ok (.invokestatic 79, 3) := by decide +kernel
theorem dX8_isGroup_7 : decode cX8_isGroup 7 = .ok (.ireturn, 1) := by decide +kernel
theorem dX8_isMultiple_0 : decode cX8_isMultiple 0 = .ok (.iload_n 1, 1) := by decide +kernel
theorem dX8_isMultiple_1 : decode cX8_isMultiple 1 = .ok (.ifCond .le 13, 3) := by decide +kernel
theorem dX8_isMultiple_4 : decode cX8_isMultiple 4 = .ok (.iload_n 0, 1) := by decide +kernel
theorem dX8_isMultiple_5 : decode cX8_isMultiple 5 = .ok (.iload_n 1, 1) := by decide +kernel
theorem dX8_isMultiple_6 : decode cX8_isMultiple 6 = .ok (.irem, 1) := by decide +kernel
theorem dX8_isMultiple_7 : decode cX8_isMultiple 7 = .ok (.ifCond .ne 7, 3) := by decide +kernel
theorem dX8_isMultiple_10 : decode cX8_isMultiple 10 = .ok (.iconst 1, 1) := by decide +kernel
theorem dX8_isMultiple_11 : decode cX8_isMultiple 11 = .ok (.goto 4, 3) := by decide +kernel
theorem dX8_isMultiple_14 : decode cX8_isMultiple 14 = .ok (.iconst 0, 1) := by decide +kernel
theorem dX8_isMultiple_15 : decode cX8_isMultiple 15 = .ok (.ireturn, 1) := by decide +kernel
theorem dX8_numberOf_0 : decode cX8_numberOf 0 = .ok (.aload_n 0, 1) := by decide +kernel
theorem dX8_numberOf_1 : decode cX8_numberOf 1 = .ok (.ifnonnull 7, 3) := by decide +kernel
theorem dX8_numberOf_4 : decode cX8_numberOf 4 = .ok (.iconst (-1), 1) := by decide +kernel
theorem dX8_numberOf_5 : decode cX8_numberOf 5 = .ok (.goto 7, 3) := by decide +kernel
theorem dX8_numberOf_8 : decode cX8_numberOf 8 = .ok (.aload_n 0, 1) := by decide +kernel
theorem dX8_numberOf_9 : decode cX8_numberOf 9 = .ok (.getfield 151, 3) := by decide +kernel
theorem dX8_numberOf_12 : decode cX8_numberOf 12 = .ok (.ireturn, 1) := by decide +kernel
theorem dX8_refusalOfTicks_0 : decode cX8_refusalOfTicks 0 = .ok (.iload_n 1, 1) := by decide +kernel
theorem dX8_refusalOfTicks_1 : decode cX8_refusalOfTicks 1 = .ok (.iconst 1, 1) := by decide +kernel
theorem dX8_refusalOfTicks_2 : decode cX8_refusalOfTicks 2 = .ok (.bipush 100, 2) := by decide +kernel
theorem dX8_refusalOfTicks_4 : decode cX8_refusalOfTicks 4 = .ok (.invokestatic 79, 3) := by decide +kernel
theorem dX8_refusalOfTicks_7 : decode cX8_refusalOfTicks 7 = .ok (.ifCond .ne 5, 3) := by decide +kernel
theorem dX8_refusalOfTicks_10 : decode cX8_refusalOfTicks 10 = .ok (.iconst (-1), 1) := by decide +kernel
theorem dX8_refusalOfTicks_11 : decode cX8_refusalOfTicks 11 = .ok (.ireturn, 1) := by decide +kernel
theorem dX8_refusalOfTicks_12 : decode cX8_refusalOfTicks 12 = .ok (.aload_n 0, 1) := by decide +kernel
theorem dX8_refusalOfTicks_13 : decode cX8_refusalOfTicks 13 = .ok (.getfield 10, 3) := by decide +kernel
theorem dX8_refusalOfTicks_16 : decode cX8_refusalOfTicks 16 = .ok (.getfield 123, 3) := by decide +kernel
theorem dX8_refusalOfTicks_19 : decode cX8_refusalOfTicks 19 = .ok (.ldc_w 353, 3) := by decide +kernel
theorem dX8_refusalOfTicks_22 : decode cX8_refusalOfTicks 22 = .ok (.iload_n 1, 1) := by decide +kernel
theorem dX8_refusalOfTicks_23 : decode cX8_refusalOfTicks 23 = .ok (.isub, 1) := by decide +kernel
theorem dX8_refusalOfTicks_24 : decode cX8_refusalOfTicks 24 = .ok (.if_icmp .le 8, 3) := by decide +kernel
theorem dX8_refusalOfTicks_27 : decode cX8_refusalOfTicks 27 = .ok (.bipush (-4), 2) := by decide +kernel
theorem dX8_refusalOfTicks_29 : decode cX8_refusalOfTicks 29 = .ok (.goto 4, 3) := by decide +kernel
theorem dX8_refusalOfTicks_32 : decode cX8_refusalOfTicks 32 = .ok (.iconst 0, 1) := by decide +kernel
theorem dX8_refusalOfTicks_33 : decode cX8_refusalOfTicks 33 = .ok (.ireturn, 1) := by decide +kernel
theorem dX8_refusalOfLeap_0 : decode cX8_refusalOfLeap 0 = .ok (.iload_n 1, 1) := by decide +kernel
theorem dX8_refusalOfLeap_1 : decode cX8_refusalOfLeap 1 = .ok (.ifCond .eq 15, 3) := by decide +kernel
theorem dX8_refusalOfLeap_4 : decode cX8_refusalOfLeap 4 = .ok (.iload_n 1, 1) := by decide +kernel
theorem dX8_refusalOfLeap_5 : decode cX8_refusalOfLeap 5 = .ok (.ldc_w 354, 3) := by decide +kernel
theorem dX8_refusalOfLeap_8 : decode cX8_refusalOfLeap 8 = .ok (.ldc 114, 2) := by decide +kernel
theorem dX8_refusalOfLeap_10 : decode cX8_refusalOfLeap 10 = .ok (.invokestatic 79, 3) := by decide +kernel
theorem dX8_refusalOfLeap_13 : decode cX8_refusalOfLeap 13 = .ok (.ifCond .ne 5, 3) := by decide +kernel
theorem dX8_refusalOfLeap_16 : decode cX8_refusalOfLeap 16 = .ok (.iconst (-1), 1) := by decide +kernel
theorem dX8_refusalOfLeap_17 : decode cX8_refusalOfLeap 17 = .ok (.ireturn, 1) := by decide +kernel
theorem dX8_refusalOfLeap_18 : decode cX8_refusalOfLeap 18 = .ok (.aload_n 0, 1) := by decide +kernel
theorem dX8_refusalOfLeap_19 : decode cX8_refusalOfLeap 19 = .ok (.getfield 10, 3) := by decide +kernel
theorem dX8_refusalOfLeap_22 : decode cX8_refusalOfLeap 22 = .ok (.getfield 123, 3) := by decide +kernel
theorem dX8_refusalOfLeap_25 : decode cX8_refusalOfLeap 25 = .ok (.iload_n 1, 1) := by decide +kernel
theorem dX8_refusalOfLeap_26 : decode cX8_refusalOfLeap 26 = .ok (.iadd, 1) := by decide +kernel
theorem dX8_refusalOfLeap_27 : decode cX8_refusalOfLeap 27 = .ok (.iconst 0, 1) := by decide +kernel
theorem dX8_refusalOfLeap_28 : decode cX8_refusalOfLeap 28 = .ok (.ldc_w 353, 3) := by decide +kernel
theorem dX8_refusalOfLeap_31 : decode cX8_refusalOfLeap 31 = .ok (.invokestatic 79, 3) := by decide +kernel
theorem dX8_refusalOfLeap_34 : decode cX8_refusalOfLeap 34 = .ok (.ifCond .eq 7, 3) := by decide +kernel
theorem dX8_refusalOfLeap_37 : decode cX8_refusalOfLeap 37 = .ok (.iconst 0, 1) := by decide +kernel
theorem dX8_refusalOfLeap_38 : decode cX8_refusalOfLeap 38 = .ok (.goto 5, 3) := by decide +kernel
theorem dX8_refusalOfLeap_41 : decode cX8_refusalOfLeap 41 = .ok (.bipush (-4), 2) := by decide +kernel
theorem dX8_refusalOfLeap_43 : decode cX8_refusalOfLeap 43 = .ok (.ireturn, 1) := by decide +kernel
theorem dX8_keepWhatRang_0 : decode cX8_keepWhatRang 0 = .ok (.aload_n 0, 1) := by decide +kernel
theorem dX8_keepWhatRang_1 : decode cX8_keepWhatRang 1 = .ok (.getfield 10, 3) := by decide +kernel
theorem dX8_keepWhatRang_4 : decode cX8_keepWhatRang 4 = .ok (.getfield 189, 3) := by decide +kernel
theorem dX8_keepWhatRang_7 : decode cX8_keepWhatRang 7 = .ok (.astore_n 1, 1) := by decide +kernel
theorem dX8_keepWhatRang_8 : decode cX8_keepWhatRang 8 = .ok (.iconst 0, 1) := by decide +kernel
theorem dX8_keepWhatRang_9 : decode cX8_keepWhatRang 9 = .ok (.istore_n 2, 1) := by decide +kernel
theorem dX8_keepWhatRang_10 : decode cX8_keepWhatRang 10 = .ok (.iload_n 2, 1) := by decide +kernel
theorem dX8_keepWhatRang_11 : decode cX8_keepWhatRang 11 = .ok (.aload_n 1, 1) := by decide +kernel
theorem dX8_keepWhatRang_12 : decode cX8_keepWhatRang 12 = .ok (.getfield 202, 3) := by decide +kernel
theorem dX8_keepWhatRang_15 : decode cX8_keepWhatRang 15 = .ok (.if_icmp .ge 34, 3) := by decide +kernel
theorem dX8_keepWhatRang_18 : decode cX8_keepWhatRang 18 = .ok (.aload_n 1, 1) := by decide +kernel
theorem dX8_keepWhatRang_19 : decode cX8_keepWhatRang 19 = .ok (.iload_n 2, 1) := by decide +kernel
theorem dX8_keepWhatRang_20 : decode cX8_keepWhatRang 20 = .ok (.invokevirtual 297, 3) := by decide +kernel
theorem dX8_keepWhatRang_23 : decode cX8_keepWhatRang 23 = .ok (.astore_n 3, 1) := by decide +kernel
theorem dX8_keepWhatRang_24 : decode cX8_keepWhatRang 24 = .ok (.aload_n 3, 1) := by decide +kernel
theorem dX8_keepWhatRang_25 : decode cX8_keepWhatRang 25 = .ok (.ifnull 18, 3) := by decide +kernel
theorem dX8_keepWhatRang_28 : decode cX8_keepWhatRang 28 = .ok (.aload_n 0, 1) := by decide +kernel
theorem dX8_keepWhatRang_29 : decode cX8_keepWhatRang 29 = .ok (.getfield 40, 3) := by decide +kernel
theorem dX8_keepWhatRang_32 : decode cX8_keepWhatRang 32 = .ok (.aload_n 3, 1) := by decide +kernel
theorem dX8_keepWhatRang_33 : decode cX8_keepWhatRang 33 = .ok (.aload_n 0, 1) := by decide +kernel
theorem dX8_keepWhatRang_34 : decode cX8_keepWhatRang 34 = .ok (.getfield 10, 3) := by decide +kernel
theorem dX8_keepWhatRang_37 : decode cX8_keepWhatRang 37 = .ok (.getfield 123, 3) := by decide +kernel
theorem dX8_keepWhatRang_40 : decode cX8_keepWhatRang 40 = .ok (.invokevirtual 355, 3) := by decide +kernel
theorem dX8_keepWhatRang_43 : decode cX8_keepWhatRang 43 = .ok (.iinc 2 1, 3) := by decide +kernel
theorem dX8_keepWhatRang_46 : decode cX8_keepWhatRang 46 = .ok (.goto (-36), 3) := by decide +kernel
theorem dX8_keepWhatRang_49 : decode cX8_keepWhatRang 49 = .ok (.aload_n 1, 1) := by decide +kernel
theorem dX8_keepWhatRang_50 : decode cX8_keepWhatRang 50 = .ok (.getfield 202, 3) := by decide +kernel
theorem dX8_keepWhatRang_53 : decode cX8_keepWhatRang 53 = .ok (.ireturn, 1) := by decide +kernel
theorem dX8_tellLatest_0 : decode cX8_tellLatest 0 = .ok (.aload_n 0, 1) := by decide +kernel
theorem dX8_tellLatest_1 : decode cX8_tellLatest 1 = .ok (.getfield 33, 3) := by decide +kernel
theorem dX8_tellLatest_4 : decode cX8_tellLatest 4 = .ok (.invokevirtual 209, 3) := by decide +kernel
theorem dX8_tellLatest_7 : decode cX8_tellLatest 7 = .ok (.iload_n 1, 1) := by decide +kernel
theorem dX8_tellLatest_8 : decode cX8_tellLatest 8 = .ok (.bipush 20, 2) := by decide +kernel
theorem dX8_tellLatest_10 : decode cX8_tellLatest 10 = .ok (.invokestatic 359, 3) := by decide +kernel
theorem dX8_tellLatest_13 : decode cX8_tellLatest 13 = .ok (.istore_n 3, 1) := by decide +kernel
theorem dX8_tellLatest_14 : decode cX8_tellLatest 14 = .ok (.aload_n 0, 1) := by decide +kernel
theorem dX8_tellLatest_15 : decode cX8_tellLatest 15 = .ok (.getfield 40, 3) := by decide +kernel
theorem dX8_tellLatest_18 : decode cX8_tellLatest 18 = .ok (.getfield 346, 3) := by decide +kernel
theorem dX8_tellLatest_21 : decode cX8_tellLatest 21 = .ok (.iload_n 3, 1) := by decide +kernel
theorem dX8_tellLatest_22 : decode cX8_tellLatest 22 = .ok (.isub, 1) := by decide +kernel
theorem dX8_tellLatest_23 : decode cX8_tellLatest 23 = .ok (.istore 4, 2) := by decide +kernel
theorem dX8_tellLatest_25 : decode cX8_tellLatest 25 = .ok (.iload 4, 2) := by decide +kernel
theorem dX8_tellLatest_27 : decode cX8_tellLatest 27 = .ok (.aload_n 0, 1) := by decide +kernel
theorem dX8_tellLatest_28 : decode cX8_tellLatest 28 = .ok (.getfield 40, 3) := by decide +kernel
theorem dX8_tellLatest_31 : decode cX8_tellLatest 31 = .ok (.getfield 346, 3) := by decide +kernel
theorem dX8_tellLatest_34 : decode cX8_tellLatest 34 = .ok (.if_icmp .ge 85, 3) := by decide +kernel
theorem dX8_tellLatest_37 : decode cX8_tellLatest 37 = .ok (.aload_n 0, 1) := by decide +kernel
theorem dX8_tellLatest_38 : decode cX8_tellLatest 38 = .ok (.getfield 40, 3) := by decide +kernel
theorem dX8_tellLatest_41 : decode cX8_tellLatest 41 = .ok (.iload 4, 2) := by decide +kernel
theorem dX8_tellLatest_43 : decode cX8_tellLatest 43 = .ok (.invokevirtual 319, 3) := by decide +kernel
theorem dX8_tellLatest_46 : decode cX8_tellLatest 46 = .ok (.istore 5, 2) := by decide +kernel
theorem dX8_tellLatest_48 : decode cX8_tellLatest 48 = .ok (.iload 5, 2) := by decide +kernel
theorem dX8_tellLatest_50 : decode cX8_tellLatest 50 = .ok (.iconst 0, 1) := by decide +kernel
theorem dX8_tellLatest_51 : decode cX8_tellLatest 51 = .ok (.bipush 39, 2) := by decide +kernel
theorem dX8_tellLatest_53 : decode cX8_tellLatest 53 = .ok (.invokestatic 79, 3) := by decide +kernel
theorem dX8_tellLatest_56 : decode cX8_tellLatest 56 = .ok (.ifCond .eq 57, 3) := by decide +kernel
theorem dX8_tellLatest_59 : decode cX8_tellLatest 59 = .ok (.aload_n 0, 1) := by decide +kernel
theorem dX8_tellLatest_60 : decode cX8_tellLatest 60 = .ok (.getfield 33, 3) := by decide +kernel
theorem dX8_tellLatest_63 : decode cX8_tellLatest 63 = .ok (.aload_n 0, 1) := by decide +kernel
theorem dX8_tellLatest_64 : decode cX8_tellLatest 64 = .ok (.getfield 40, 3) := by decide +kernel
theorem dX8_tellLatest_67 : decode cX8_tellLatest 67 = .ok (.getfield 334, 3) := by decide +kernel
theorem dX8_tellLatest_70 : decode cX8_tellLatest 70 = .ok (.iload 5, 2) := by decide +kernel
theorem dX8_tellLatest_72 : decode cX8_tellLatest 72 = .ok (.iaload, 1) := by decide +kernel
theorem dX8_tellLatest_73 : decode cX8_tellLatest 73 = .ok (.i2l, 1) := by decide +kernel
theorem dX8_tellLatest_74 : decode cX8_tellLatest 74 = .ok (.invokevirtual 210, 3) := by decide +kernel
theorem dX8_tellLatest_77 : decode cX8_tellLatest 77 = .ok (.aload_n 0, 1) := by decide +kernel
theorem dX8_tellLatest_78 : decode cX8_tellLatest 78 = .ok (.getfield 33, 3) := by decide +kernel
theorem dX8_tellLatest_81 : decode cX8_tellLatest 81 = .ok (.iload_n 2, 1) := by decide +kernel
theorem dX8_tellLatest_82 : decode cX8_tellLatest 82 = .ok (.ifCond .eq 17, 3) := by decide +kernel
theorem dX8_tellLatest_85 : decode cX8_tellLatest 85 = .ok (.aload_n 0, 1) := by decide +kernel
theorem dX8_tellLatest_86 : decode cX8_tellLatest 86 = .ok (.getfield 40, 3) := by decide +kernel
theorem dX8_tellLatest_89 : decode cX8_tellLatest 89 = .ok (.getfield 325, 3) := by decide +kernel
theorem dX8_tellLatest_92 : decode cX8_tellLatest 92 = .ok (.iload 5, 2) := by decide +kernel
theorem dX8_tellLatest_94 : decode cX8_tellLatest 94 = .ok (.iaload, 1) := by decide +kernel
theorem dX8_tellLatest_95 : decode cX8_tellLatest 95 = .ok (.i2l, 1) := by decide +kernel
theorem dX8_tellLatest_96 : decode cX8_tellLatest 96 = .ok (.goto 14, 3) := by decide +kernel
theorem dX8_tellLatest_99 : decode cX8_tellLatest 99 = .ok (.aload_n 0, 1) := by decide +kernel
theorem dX8_tellLatest_100 : decode cX8_tellLatest 100 = .ok (.getfield 40, 3) := by decide +kernel
theorem dX8_tellLatest_103 : decode cX8_tellLatest 103 = .ok (.getfield 322, 3) := by decide +kernel
theorem dX8_tellLatest_106 : decode cX8_tellLatest 106 = .ok (.iload 5, 2) := by decide +kernel
theorem dX8_tellLatest_108 : decode cX8_tellLatest 108 = .ok (.iaload, 1) := by decide +kernel
theorem dX8_tellLatest_109 : decode cX8_tellLatest 109 = .ok (.i2l, 1) := by decide +kernel
theorem dX8_tellLatest_110 : decode cX8_tellLatest 110 = .ok (.invokevirtual 210, 3) := by decide +kernel
theorem dX8_tellLatest_113 : decode cX8_tellLatest 113 = .ok (.iinc 4 1, 3) := by decide +kernel
theorem dX8_tellLatest_116 : decode cX8_tellLatest 116 = .ok (.goto (-91), 3) := by decide +kernel
theorem dX8_tellLatest_119 : decode cX8_tellLatest 119 = .ok (.return_, 1) := by decide +kernel
theorem dX8_tellLine_0 : decode cX8_tellLine 0 = .ok (.aload_n 0, 1) := by decide +kernel
theorem dX8_tellLine_1 : decode cX8_tellLine 1 = .ok (.getfield 33, 3) := by decide +kernel
theorem dX8_tellLine_4 : decode cX8_tellLine 4 = .ok (.invokevirtual 209, 3) := by decide +kernel
theorem dX8_tellLine_7 : decode cX8_tellLine 7 = .ok (.iconst 0, 1) := by decide +kernel
theorem dX8_tellLine_8 : decode cX8_tellLine 8 = .ok (.istore_n 2, 1) := by decide +kernel
theorem dX8_tellLine_9 : decode cX8_tellLine 9 = .ok (.iload_n 2, 1) := by decide +kernel
theorem dX8_tellLine_10 : decode cX8_tellLine 10 = .ok (.aload_n 1, 1) := by decide +kernel
theorem dX8_tellLine_11 : decode cX8_tellLine 11 = .ok (.getfield 202, 3) := by decide +kernel
theorem dX8_tellLine_14 : decode cX8_tellLine 14 = .ok (.if_icmp .ge 25, 3) := by decide +kernel
theorem dX8_tellLine_17 : decode cX8_tellLine 17 = .ok (.aload_n 0, 1) := by decide +kernel
theorem dX8_tellLine_18 : decode cX8_tellLine 18 = .ok (.getfield 33, 3) := by decide +kernel
theorem dX8_tellLine_21 : decode cX8_tellLine 21 = .ok (.aload_n 1, 1) := by decide +kernel
theorem dX8_tellLine_22 : decode cX8_tellLine 22 = .ok (.iload_n 2, 1) := by decide +kernel
theorem dX8_tellLine_23 : decode cX8_tellLine 23 = .ok (.invokevirtual 297, 3) := by decide +kernel
theorem dX8_tellLine_26 : decode cX8_tellLine 26 = .ok (.invokestatic 315, 3) := by decide +kernel
theorem dX8_tellLine_29 : decode cX8_tellLine 29 = .ok (.i2l, 1) := by decide +kernel
theorem dX8_tellLine_30 : decode cX8_tellLine 30 = .ok (.invokevirtual 210, 3) := by decide +kernel
theorem dX8_tellLine_33 : decode cX8_tellLine 33 = .ok (.iinc 2 1, 3) := by decide +kernel
theorem dX8_tellLine_36 : decode cX8_tellLine 36 = .ok (.goto (-27), 3) := by decide +kernel
theorem dX8_tellLine_39 : decode cX8_tellLine 39 = .ok (.return_, 1) := by decide +kernel
theorem dX8_tellWhatRings_0 : decode cX8_tellWhatRings 0 = .ok (.iconst 0, 1) := by decide +kernel
theorem dX8_tellWhatRings_1 : decode cX8_tellWhatRings 1 = .ok (.istore_n 2, 1) := by decide +kernel
theorem dX8_tellWhatRings_2 : decode cX8_tellWhatRings 2 = .ok (.iload_n 2, 1) := by decide +kernel
theorem dX8_tellWhatRings_3 : decode cX8_tellWhatRings 3 = .ok (.aload_n 0, 1) := by decide +kernel
theorem dX8_tellWhatRings_4 : decode cX8_tellWhatRings 4 = .ok (.getfield 16, 3) := by decide +kernel
theorem dX8_tellWhatRings_7 : decode cX8_tellWhatRings 7 = .ok (.getfield 189, 3) := by decide +kernel
theorem dX8_tellWhatRings_10 : decode cX8_tellWhatRings 10 = .ok (.getfield 202, 3) := by decide +kernel
theorem dX8_tellWhatRings_13 : decode cX8_tellWhatRings 13 = .ok (.if_icmp .ge 51, 3) := by decide +kernel
theorem dX8_tellWhatRings_16 : decode cX8_tellWhatRings 16 = .ok (.iload_n 2, 1) := by decide +kernel
theorem dX8_tellWhatRings_17 : decode cX8_tellWhatRings 17 = .ok (.iload_n 1, 1) := by decide +kernel
theorem dX8_tellWhatRings_18 : decode cX8_tellWhatRings 18 = .ok (.if_icmp .ge 46, 3) := by decide +kernel
theorem dX8_tellWhatRings_21 : decode cX8_tellWhatRings 21 = .ok (.aload_n 0, 1) := by decide +kernel
theorem dX8_tellWhatRings_22 : decode cX8_tellWhatRings 22 = .ok (.getfield 33, 3) := by decide +kernel
theorem dX8_tellWhatRings_25 : decode cX8_tellWhatRings 25 = .ok (.aload_n 0, 1) := by decide +kernel
theorem dX8_tellWhatRings_26 : decode cX8_tellWhatRings 26 = .ok (.getfield 16, 3) := by decide +kernel
theorem dX8_tellWhatRings_29 : decode cX8_tellWhatRings 29 = .ok (.getfield 189, 3) := by decide +kernel
theorem dX8_tellWhatRings_32 : decode cX8_tellWhatRings 32 = .ok (.iload_n 2, 1) := by decide +kernel
theorem dX8_tellWhatRings_33 : decode cX8_tellWhatRings 33 = .ok (.invokevirtual 297, 3) := by decide +kernel
theorem dX8_tellWhatRings_36 : decode cX8_tellWhatRings 36 = .ok (.invokestatic 315, 3) := by decide +kernel
theorem dX8_tellWhatRings_39 : decode cX8_tellWhatRings 39 = .ok (.i2l, 1) := by decide +kernel
theorem dX8_tellWhatRings_40 : decode cX8_tellWhatRings 40 = .ok (.invokevirtual 210, 3) := by decide +kernel
theorem dX8_tellWhatRings_43 : decode cX8_tellWhatRings 43 = .ok (.aload_n 0, 1) := by decide +kernel
theorem dX8_tellWhatRings_44 : decode cX8_tellWhatRings 44 = .ok (.getfield 33, 3) := by decide +kernel
theorem dX8_tellWhatRings_47 : decode cX8_tellWhatRings 47 = .ok (.aload_n 0, 1) := by decide +kernel
theorem dX8_tellWhatRings_48 : decode cX8_tellWhatRings 48 = .ok (.getfield 16, 3) := by decide +kernel
theorem dX8_tellWhatRings_51 : decode cX8_tellWhatRings 51 = .ok (.getfield 123, 3) := by decide +kernel
theorem dX8_tellWhatRings_54 : decode cX8_tellWhatRings 54 = .ok (.i2l, 1) := by decide +kernel
theorem dX8_tellWhatRings_55 : decode cX8_tellWhatRings 55 = .ok (.invokevirtual 210, 3) := by decide +kernel
theorem dX8_tellWhatRings_58 : decode cX8_tellWhatRings 58 = .ok (.iinc 2 1, 3) := by decide +kernel
theorem dX8_tellWhatRings_61 : decode cX8_tellWhatRings 61 = .ok (.goto (-59), 3) := by decide +kernel
theorem dX8_tellWhatRings_64 : decode cX8_tellWhatRings 64 = .ok (.return_, 1) := by decide +kernel
theorem dX8_putApart_0 : decode cX8_putApart 0 = .ok (.iconst 0, 1) := by decide +kernel
theorem dX8_putApart_1 : decode cX8_putApart 1 = .ok (.istore_n 3, 1) := by decide +kernel
theorem dX8_putApart_2 : decode cX8_putApart 2 = .ok (.iconst 0, 1) := by decide +kernel
theorem dX8_putApart_3 : decode cX8_putApart 3 = .ok (.istore 4, 2) := by decide +kernel
theorem dX8_putApart_5 : decode cX8_putApart 5 = .ok (.iconst 0, 1) := by decide +kernel
theorem dX8_putApart_6 : decode cX8_putApart 6 = .ok (.istore 5, 2) := by decide +kernel
theorem dX8_putApart_8 : decode cX8_putApart 8 = .ok (.iload 5, 2) := by decide +kernel
theorem dX8_putApart_10 : decode cX8_putApart 10 = .ok (.aload_n 1, 1) := by decide +kernel
theorem dX8_putApart_11 : decode cX8_putApart 11 = .ok (.getfield 202, 3) := by decide +kernel
theorem dX8_putApart_14 : decode cX8_putApart 14 = .ok (.if_icmp .ge 75, 3) := by decide +kernel
theorem dX8_putApart_17 : decode cX8_putApart 17 = .ok (.aload_n 1, 1) := by decide +kernel
theorem dX8_putApart_18 : decode cX8_putApart 18 = .ok (.iload 5, 2) := by decide +kernel
theorem dX8_putApart_20 : decode cX8_putApart 20 = .ok (.invokevirtual 297, 3) := by decide +kernel
theorem dX8_putApart_23 : decode cX8_putApart 23 = .ok (.astore 6, 2) := by decide +kernel
theorem dX8_putApart_25 : decode cX8_putApart 25 = .ok (.aload 6, 2) := by decide +kernel
theorem dX8_putApart_27 : decode cX8_putApart 27 = .ok (.ifnull 56, 3) := by decide +kernel
theorem dX8_putApart_30 : decode cX8_putApart 30 = .ok (.iload 5, 2) := by decide +kernel
theorem dX8_putApart_32 : decode cX8_putApart 32 = .ok (.ifCond .ne 11, 3) := by decide +kernel
theorem dX8_putApart_35 : decode cX8_putApart 35 = .ok (.aload 6, 2) := by decide +kernel
theorem dX8_putApart_37 : decode cX8_putApart 37 = .ok (.getfield 183, 3) := by decide +kernel
theorem dX8_putApart_40 : decode cX8_putApart 40 = .ok (.goto 7, 3) := by decide +kernel
theorem dX8_putApart_43 : decode cX8_putApart 43 = .ok (.iload 4, 2) := by decide +kernel
theorem dX8_putApart_45 : decode cX8_putApart 45 = .ok (.iload_n 2, 1) := by decide +kernel
theorem dX8_putApart_46 : decode cX8_putApart 46 = .ok (.iadd, 1) := by decide +kernel
theorem dX8_putApart_47 : decode cX8_putApart 47 = .ok (.istore 4, 2) := by decide +kernel
theorem dX8_putApart_49 : decode cX8_putApart 49 = .ok (.iload_n 3, 1) := by decide +kernel
theorem dX8_putApart_50 : decode cX8_putApart 50 = .ok (.aload 6, 2) := by decide +kernel
theorem dX8_putApart_52 : decode cX8_putApart 52 = .ok (.getfield 183, 3) := by decide +kernel
theorem dX8_putApart_55 : decode cX8_putApart 55 = .ok (.iload 4, 2) := by decide +kernel
theorem dX8_putApart_57 : decode cX8_putApart 57 = .ok (.if_icmp .ne 7, 3) := by decide +kernel
theorem dX8_putApart_60 : decode cX8_putApart 60 = .ok (.iconst 0, 1) := by decide +kernel
theorem dX8_putApart_61 : decode cX8_putApart 61 = .ok (.goto 4, 3) := by decide +kernel
theorem dX8_putApart_64 : decode cX8_putApart 64 = .ok (.iconst 1, 1) := by decide +kernel
theorem dX8_putApart_65 : decode cX8_putApart 65 = .ok (.iadd, 1) := by decide +kernel
theorem dX8_putApart_66 : decode cX8_putApart 66 = .ok (.istore_n 3, 1) := by decide +kernel
theorem dX8_putApart_67 : decode cX8_putApart 67 = .ok (.aload 6, 2) := by decide +kernel
theorem dX8_putApart_69 : decode cX8_putApart 69 = .ok (.iload 4, 2) := by decide +kernel
theorem dX8_putApart_71 : decode cX8_putApart 71 = .ok (.putfield 183, 3) := by decide +kernel
theorem dX8_putApart_74 : decode cX8_putApart 74 = .ok (.aload_n 0, 1) := by decide +kernel
theorem dX8_putApart_75 : decode cX8_putApart 75 = .ok (.getfield 10, 3) := by decide +kernel
theorem dX8_putApart_78 : decode cX8_putApart 78 = .ok (.aload 6, 2) := by decide +kernel
theorem dX8_putApart_80 : decode cX8_putApart 80 = .ok (.invokevirtual 147, 3) := by decide +kernel
theorem dX8_putApart_83 : decode cX8_putApart 83 = .ok (.iinc 5 1, 3) := by decide +kernel
theorem dX8_putApart_86 : decode cX8_putApart 86 = .ok (.goto (-78), 3) := by decide +kernel
theorem dX8_putApart_89 : decode cX8_putApart 89 = .ok (.aload_n 0, 1) := by decide +kernel
theorem dX8_putApart_90 : decode cX8_putApart 90 = .ok (.getfield 33, 3) := by decide +kernel
theorem dX8_putApart_93 : decode cX8_putApart 93 = .ok (.invokevirtual 209, 3) := by decide +kernel
theorem dX8_putApart_96 : decode cX8_putApart 96 = .ok (.aload_n 0, 1) := by decide +kernel
theorem dX8_putApart_97 : decode cX8_putApart 97 = .ok (.getfield 33, 3) := by decide +kernel
theorem dX8_putApart_100 : decode cX8_putApart 100 = .ok (.iload 4, 2) := by decide +kernel
theorem dX8_putApart_102 : decode cX8_putApart 102 = .ok (.i2l, 1) := by decide +kernel
theorem dX8_putApart_103 : decode cX8_putApart 103 = .ok (.invokevirtual 210, 3) := by decide +kernel
theorem dX8_putApart_106 : decode cX8_putApart 106 = .ok (.iload_n 3, 1) := by decide +kernel
theorem dX8_putApart_107 : decode cX8_putApart 107 = .ok (.ireturn, 1) := by decide +kernel
theorem dX8_movesBy_0 : decode cX8_movesBy 0 = .ok (.iconst 0, 1) := by decide +kernel
theorem dX8_movesBy_1 : decode cX8_movesBy 1 = .ok (.istore_n 2, 1) := by decide +kernel
theorem dX8_movesBy_2 : decode cX8_movesBy 2 = .ok (.iconst 0, 1) := by decide +kernel
theorem dX8_movesBy_3 : decode cX8_movesBy 3 = .ok (.istore_n 3, 1) := by decide +kernel
theorem dX8_movesBy_4 : decode cX8_movesBy 4 = .ok (.iload_n 3, 1) := by decide +kernel
theorem dX8_movesBy_5 : decode cX8_movesBy 5 = .ok (.bipush 16, 2) := by decide +kernel
theorem dX8_movesBy_7 : decode cX8_movesBy 7 = .ok (.if_icmp .ge 53, 3) := by decide +kernel
theorem dX8_movesBy_10 : decode cX8_movesBy 10 = .ok (.aload_n 0, 1) := by decide +kernel
theorem dX8_movesBy_11 : decode cX8_movesBy 11 = .ok (.getfield 10, 3) := by decide +kernel
theorem dX8_movesBy_14 : decode cX8_movesBy 14 = .ok (.iload_n 3, 1) := by decide +kernel
theorem dX8_movesBy_15 : decode cX8_movesBy 15 = .ok (.invokevirtual 186, 3) := by decide +kernel
theorem dX8_movesBy_18 : decode cX8_movesBy 18 = .ok (.astore 4, 2) := by decide +kernel
theorem dX8_movesBy_20 : decode cX8_movesBy 20 = .ok (.aload 4, 2) := by decide +kernel
theorem dX8_movesBy_22 : decode cX8_movesBy 22 = .ok (.ifnull 32, 3) := by decide +kernel
theorem dX8_movesBy_25 : decode cX8_movesBy 25 = .ok (.iload_n 2, 1) := by decide +kernel
theorem dX8_movesBy_26 : decode cX8_movesBy 26 = .ok (.aload_n 1, 1) := by decide +kernel
theorem dX8_movesBy_27 : decode cX8_movesBy 27 = .ok (.aload_n 1, 1) := by decide +kernel
theorem dX8_movesBy_28 : decode cX8_movesBy 28 = .ok (.aload 4, 2) := by decide +kernel
theorem dX8_movesBy_30 : decode cX8_movesBy 30 = .ok (.getfield 183, 3) := by decide +kernel
theorem dX8_movesBy_33 : decode cX8_movesBy 33 = .ok (.aload_n 0, 1) := by decide +kernel
theorem dX8_movesBy_34 : decode cX8_movesBy 34 = .ok (.getfield 10, 3) := by decide +kernel
theorem dX8_movesBy_37 : decode cX8_movesBy 37 = .ok (.getfield 123, 3) := by decide +kernel
theorem dX8_movesBy_40 : decode cX8_movesBy 40 = .ok (.isub, 1) := by decide +kernel
theorem dX8_movesBy_41 : decode cX8_movesBy 41 = .ok (.invokevirtual 278, 3) := by decide +kernel
theorem dX8_movesBy_44 : decode cX8_movesBy 44 = .ok (.aload 4, 2) := by decide +kernel
theorem dX8_movesBy_46 : decode cX8_movesBy 46 = .ok (.getfield 183, 3) := by decide +kernel
theorem dX8_movesBy_49 : decode cX8_movesBy 49 = .ok (.invokevirtual 275, 3) := by decide +kernel
theorem dX8_movesBy_52 : decode cX8_movesBy 52 = .ok (.iadd, 1) := by decide +kernel
theorem dX8_movesBy_53 : decode cX8_movesBy 53 = .ok (.istore_n 2, 1) := by decide +kernel
theorem dX8_movesBy_54 : decode cX8_movesBy 54 = .ok (.iinc 3 1, 3) := by decide +kernel
theorem dX8_movesBy_57 : decode cX8_movesBy 57 = .ok (.goto (-53), 3) := by decide +kernel
theorem dX8_movesBy_60 : decode cX8_movesBy 60 = .ok (.iload_n 2, 1) := by decide +kernel
theorem dX8_movesBy_61 : decode cX8_movesBy 61 = .ok (.ireturn, 1) := by decide +kernel
theorem dX8_countGroups_0 : decode cX8_countGroups 0 = .ok (.iconst 0, 1) := by decide +kernel
theorem dX8_countGroups_1 : decode cX8_countGroups 1 = .ok (.istore_n 2, 1) := by decide +kernel
theorem dX8_countGroups_2 : decode cX8_countGroups 2 = .ok (.iload_n 2, 1) := by decide +kernel
theorem dX8_countGroups_3 : decode cX8_countGroups 3 = .ok (.aload_n 0, 1) := by decide +kernel
theorem dX8_countGroups_4 : decode cX8_countGroups 4 = .ok (.getfield 202, 3) := by decide +kernel
theorem dX8_countGroups_7 : decode cX8_countGroups 7 = .ok (.if_icmp .ge 45, 3) := by decide +kernel
theorem dX8_countGroups_10 : decode cX8_countGroups 10 = .ok (.aload_n 0, 1) := by decide +kernel
theorem dX8_countGroups_11 : decode cX8_countGroups 11 = .ok (.iload_n 2, 1) := by decide +kernel
theorem dX8_countGroups_12 : decode cX8_countGroups 12 = .ok (.invokevirtual 297, 3) := by decide +kernel
theorem dX8_countGroups_15 : decode cX8_countGroups 15 = .ok (.astore_n 3, 1) := by decide +kernel
theorem dX8_countGroups_16 : decode cX8_countGroups 16 = .ok (.aload_n 3, 1) := by decide +kernel
theorem dX8_countGroups_17 : decode cX8_countGroups 17 = .ok (.ifnull 29, 3) := by decide +kernel
theorem dX8_countGroups_20 : decode cX8_countGroups 20 = .ok (.aload_n 3, 1) := by decide +kernel
theorem dX8_countGroups_21 : decode cX8_countGroups 21 = .ok (.getfield 135, 3) := by decide +kernel
theorem dX8_countGroups_24 : decode cX8_countGroups 24 = .ok (.ifCond .lt 22, 3) := by decide +kernel
theorem dX8_countGroups_27 : decode cX8_countGroups 27 = .ok (.aload_n 3, 1) := by decide +kernel
theorem dX8_countGroups_28 : decode cX8_countGroups 28 = .ok (.getfield 135, 3) := by decide +kernel
theorem dX8_countGroups_31 : decode cX8_countGroups 31 = .ok (.aload_n 1, 1) := by decide +kernel
theorem dX8_countGroups_32 : decode cX8_countGroups 32 = .ok (.arraylength, 1) := by decide +kernel
theorem dX8_countGroups_33 : decode cX8_countGroups 33 = .ok (.if_icmp .ge 13, 3) := by decide +kernel
theorem dX8_countGroups_36 : decode cX8_countGroups 36 = .ok (.aload_n 1, 1) := by decide +kernel
theorem dX8_countGroups_37 : decode cX8_countGroups 37 = .ok (.aload_n 3, 1) := by decide +kernel
theorem dX8_countGroups_38 : decode cX8_countGroups 38 = .ok (.getfield 135, 3) := by decide +kernel
theorem dX8_countGroups_41 : decode cX8_countGroups 41 = .ok (.dup2, 1) := by decide +kernel
theorem dX8_countGroups_42 : decode cX8_countGroups 42 = .ok (.iaload, 1) := by decide +kernel
theorem dX8_countGroups_43 : decode cX8_countGroups 43 = .ok (.iconst 1, 1) := by decide +kernel
theorem dX8_countGroups_44 : decode cX8_countGroups 44 = .ok (.iadd, 1) := by decide +kernel
theorem dX8_countGroups_45 : decode cX8_countGroups 45 = .ok (.iastore, 1) := by decide +kernel
theorem dX8_countGroups_46 : decode cX8_countGroups 46 = .ok (.iinc 2 1, 3) := by decide +kernel
theorem dX8_countGroups_49 : decode cX8_countGroups 49 = .ok (.goto (-47), 3) := by decide +kernel
theorem dX8_countGroups_52 : decode cX8_countGroups 52 = .ok (.return_, 1) := by decide +kernel
theorem dX8_does_0 : decode cX8_does 0 = .ok (.iload_n 1, 1) := by decide +kernel
theorem dX8_does_1 : decode cX8_does 1 = .ok (.ifCond .lt 9, 3) := by decide +kernel
theorem dX8_does_4 : decode cX8_does 4 = .ok (.iload_n 1, 1) := by decide +kernel
theorem dX8_does_5 : decode cX8_does 5 = .ok (.bipush 34, 2) := by decide +kernel
theorem dX8_does_7 : decode cX8_does 7 = .ok (.if_icmp .lt 5, 3) := by decide +kernel
theorem dX8_does_10 : decode cX8_does 10 = .ok (.iconst 0, 1) := by decide +kernel
theorem dX8_does_11 : decode cX8_does 11 = .ok (.ireturn, 1) := by decide +kernel
theorem dX8_does_12 : decode cX8_does 12 = .ok (.aload_n 0, 1) := by decide +kernel
theorem dX8_does_13 : decode cX8_does 13 = .ok (.getfield 54, 3) := by decide +kernel
theorem dX8_does_16 : decode cX8_does 16 = .ok (.getfield 362, 3) := by decide +kernel
theorem dX8_does_19 : decode cX8_does 19 = .ok (.iload_n 1, 1) := by decide +kernel
theorem dX8_does_20 : decode cX8_does 20 = .ok (.iaload, 1) := by decide +kernel
theorem dX8_does_21 : decode cX8_does 21 = .ok (.istore_n 2, 1) := by decide +kernel
theorem dX8_does_22 : decode cX8_does 22 = .ok (.aload_n 0, 1) := by decide +kernel
theorem dX8_does_23 : decode cX8_does 23 = .ok (.getfield 54, 3) := by decide +kernel
theorem dX8_does_26 : decode cX8_does 26 = .ok (.getfield 364, 3) := by decide +kernel
theorem dX8_does_29 : decode cX8_does 29 = .ok (.iload_n 1, 1) := by decide +kernel
theorem dX8_does_30 : decode cX8_does 30 = .ok (.iaload, 1) := by decide +kernel
theorem dX8_does_31 : decode cX8_does 31 = .ok (.lookupswitch 117 #[(99, 103), (108, 89), (115, 41), (116, 75)], 41) := by decide +kernel
theorem dX8_does_72 : decode cX8_does 72 = .ok (.aload_n 0, 1) := by decide +kernel
theorem dX8_does_73 : decode cX8_does 73 = .ok (.iload_n 2, 1) := by decide +kernel
theorem dX8_does_74 : decode cX8_does 74 = .ok (.iconst 0, 1) := by decide +kernel
theorem dX8_does_75 : decode cX8_does 75 = .ok (.aload_n 0, 1) := by decide +kernel
theorem dX8_does_76 : decode cX8_does 76 = .ok (.getfield 54, 3) := by decide +kernel
theorem dX8_does_79 : decode cX8_does 79 = .ok (.getfield 367, 3) := by decide +kernel
theorem dX8_does_82 : decode cX8_does 82 = .ok (.iload_n 1, 1) := by decide +kernel
theorem dX8_does_83 : decode cX8_does 83 = .ok (.iaload, 1) := by decide +kernel
theorem dX8_does_84 : decode cX8_does 84 = .ok (.aload_n 0, 1) := by decide +kernel
theorem dX8_does_85 : decode cX8_does 85 = .ok (.getfield 54, 3) := by decide +kernel
theorem dX8_does_88 : decode cX8_does 88 = .ok (.getfield 370, 3) := by decide +kernel
theorem dX8_does_91 : decode cX8_does 91 = .ok (.iload_n 1, 1) := by decide +kernel
theorem dX8_does_92 : decode cX8_does 92 = .ok (.iaload, 1) := by decide +kernel
theorem dX8_does_93 : decode cX8_does 93 = .ok (.iconst 0, 1) := by decide +kernel
theorem dX8_does_94 : decode cX8_does 94 = .ok (.invokevirtual 373, 3) := by decide +kernel
theorem dX8_does_97 : decode cX8_does 97 = .ok (.ifCond .lt 7, 3) := by decide +kernel
theorem dX8_does_100 : decode cX8_does 100 = .ok (.iconst 1, 1) := by decide +kernel
theorem dX8_does_101 : decode cX8_does 101 = .ok (.goto 4, 3) := by decide +kernel
theorem dX8_does_104 : decode cX8_does 104 = .ok (.iconst 0, 1) := by decide +kernel
theorem dX8_does_105 : decode cX8_does 105 = .ok (.ireturn, 1) := by decide +kernel
theorem dX8_does_106 : decode cX8_does 106 = .ok (.aload_n 0, 1) := by decide +kernel
theorem dX8_does_107 : decode cX8_does 107 = .ok (.iload_n 2, 1) := by decide +kernel
theorem dX8_does_108 : decode cX8_does 108 = .ok (.invokevirtual 377, 3) := by decide +kernel
theorem dX8_does_111 : decode cX8_does 111 = .ok (.ifCond .lt 7, 3) := by decide +kernel
theorem dX8_does_114 : decode cX8_does 114 = .ok (.iconst 1, 1) := by decide +kernel
theorem dX8_does_115 : decode cX8_does 115 = .ok (.goto 4, 3) := by decide +kernel
theorem dX8_does_118 : decode cX8_does 118 = .ok (.iconst 0, 1) := by decide +kernel
theorem dX8_does_119 : decode cX8_does 119 = .ok (.ireturn, 1) := by decide +kernel
theorem dX8_does_120 : decode cX8_does 120 = .ok (.aload_n 0, 1) := by decide +kernel
theorem dX8_does_121 : decode cX8_does 121 = .ok (.iload_n 2, 1) := by decide +kernel
theorem dX8_does_122 : decode cX8_does 122 = .ok (.invokevirtual 380, 3) := by decide +kernel
theorem dX8_does_125 : decode cX8_does 125 = .ok (.ifCond .lt 7, 3) := by decide +kernel
theorem dX8_does_128 : decode cX8_does 128 = .ok (.iconst 1, 1) := by decide +kernel
theorem dX8_does_129 : decode cX8_does 129 = .ok (.goto 4, 3) := by decide +kernel
theorem dX8_does_132 : decode cX8_does 132 = .ok (.iconst 0, 1) := by decide +kernel
theorem dX8_does_133 : decode cX8_does 133 = .ok (.ireturn, 1) := by decide +kernel
theorem dX8_does_134 : decode cX8_does 134 = .ok (.aload_n 0, 1) := by decide +kernel
theorem dX8_does_135 : decode cX8_does 135 = .ok (.iload_n 2, 1) := by decide +kernel
theorem dX8_does_136 : decode cX8_does 136 = .ok (.invokevirtual 383, 3) := by decide +kernel
theorem dX8_does_139 : decode cX8_does 139 = .ok (.ifCond .lt 7, 3) := by decide +kernel
theorem dX8_does_142 : decode cX8_does 142 = .ok (.iconst 1, 1) := by decide +kernel
theorem dX8_does_143 : decode cX8_does 143 = .ok (.goto 4, 3) := by decide +kernel
theorem dX8_does_146 : decode cX8_does 146 = .ok (.iconst 0, 1) := by decide +kernel
theorem dX8_does_147 : decode cX8_does 147 = .ok (.ireturn, 1) := by decide +kernel
theorem dX8_does_148 : decode cX8_does 148 = .ok (.iconst 0, 1) := by decide +kernel
