theorem dX0_init_0 : decode cX0_init 0 = .ok (.aload_n 0, 1) := by decide +kernel
theorem dX0_init_1 : decode cX0_init 1 = .ok (.invokespecial 3, 3) := by decide +kernel
theorem dX0_init_4 : decode cX0_init 4 = .ok (.aload_n 0, 1) := by decide +kernel
theorem dX0_init_5 : decode cX0_init 5 = .ok (.bipush 34, 2) := by decide +kernel
theorem dX0_init_7 : decode cX0_init 7 = .ok (.newarray .int, 2) := by decide +kernel
theorem dX0_init_9 : decode cX0_init 9 = .ok (.putfield 9, 3) := by decide +kernel
theorem dX0_init_12 : decode cX0_init 12 = .ok (.aload_n 0, 1) := by decide +kernel
theorem dX0_init_13 : decode cX0_init 13 = .ok (.bipush 34, 2) := by decide +kernel
theorem dX0_init_15 : decode cX0_init 15 = .ok (.newarray .int, 2) := by decide +kernel
theorem dX0_init_17 : decode cX0_init 17 = .ok (.putfield 15, 3) := by decide +kernel
theorem dX0_init_20 : decode cX0_init 20 = .ok (.aload_n 0, 1) := by decide +kernel
theorem dX0_init_21 : decode cX0_init 21 = .ok (.bipush 34, 2) := by decide +kernel
theorem dX0_init_23 : decode cX0_init 23 = .ok (.newarray .int, 2) := by decide +kernel
theorem dX0_init_25 : decode cX0_init 25 = .ok (.putfield 18, 3) := by decide +kernel
theorem dX0_init_28 : decode cX0_init 28 = .ok (.aload_n 0, 1) := by decide +kernel
theorem dX0_init_29 : decode cX0_init 29 = .ok (.bipush 34, 2) := by decide +kernel
theorem dX0_init_31 : decode cX0_init 31 = .ok (.newarray .int, 2) := by decide +kernel
theorem dX0_init_33 : decode cX0_init 33 = .ok (.putfield 21, 3) := by decide +kernel
theorem dX0_init_36 : decode cX0_init 36 = .ok (.return_, 1) := by decide +kernel
theorem dX0_readsAll_0 : decode cX0_readsAll 0 = .ok (.aload_n 0, 1) := by decide +kernel
theorem dX0_readsAll_1 : decode cX0_readsAll 1 = .ok (.iconst 0, 1) := by decide +kernel
theorem dX0_readsAll_2 : decode cX0_readsAll 2 = .ok (.putfield 24, 3) := by decide +kernel
theorem dX0_readsAll_5 : decode cX0_readsAll 5 = .ok (.aload_n 0, 1) := by decide +kernel
theorem dX0_readsAll_6 : decode cX0_readsAll 6 = .ok (.iconst 0, 1) := by decide +kernel
theorem dX0_readsAll_7 : decode cX0_readsAll 7 = .ok (.putfield 28, 3) := by decide +kernel
theorem dX0_readsAll_10 : decode cX0_readsAll 10 = .ok (.aload_n 0, 1) := by decide +kernel
theorem dX0_readsAll_11 : decode cX0_readsAll 11 = .ok (.iconst 0, 1) := by decide +kernel
theorem dX0_readsAll_12 : decode cX0_readsAll 12 = .ok (.putfield 31, 3) := by decide +kernel
theorem dX0_readsAll_15 : decode cX0_readsAll 15 = .ok (.aload_n 1, 1) := by decide +kernel
theorem dX0_readsAll_16 : decode cX0_readsAll 16 = .ok (.getfield 34, 3) := by decide +kernel
theorem dX0_readsAll_19 : decode cX0_readsAll 19 = .ok (.ifCond .ne 5, 3) := by decide +kernel
theorem dX0_readsAll_22 : decode cX0_readsAll 22 = .ok (.iconst 1, 1) := by decide +kernel
theorem dX0_readsAll_23 : decode cX0_readsAll 23 = .ok (.ireturn, 1) := by decide +kernel
theorem dX0_readsAll_24 : decode cX0_readsAll 24 = .ok (.aload_n 0, 1) := by decide +kernel
theorem dX0_readsAll_25 : decode cX0_readsAll 25 = .ok (.getfield 24, 3) := by decide +kernel
theorem dX0_readsAll_28 : decode cX0_readsAll 28 = .ok (.ifCond .lt 57, 3) := by decide +kernel
theorem dX0_readsAll_31 : decode cX0_readsAll 31 = .ok (.aload_n 0, 1) := by decide +kernel
theorem dX0_readsAll_32 : decode cX0_readsAll 32 = .ok (.getfield 24, 3) := by decide +kernel
theorem dX0_readsAll_35 : decode cX0_readsAll 35 = .ok (.bipush 34, 2) := by decide +kernel
theorem dX0_readsAll_37 : decode cX0_readsAll 37 = .ok (.if_icmp .ge 48, 3) := by decide +kernel
theorem dX0_readsAll_40 : decode cX0_readsAll 40 = .ok (.aload_n 0, 1) := by decide +kernel
theorem dX0_readsAll_41 : decode cX0_readsAll 41 = .ok (.aload_n 1, 1) := by decide +kernel
theorem dX0_readsAll_42 : decode cX0_readsAll 42 = .ok (.invokevirtual 37, 3) := by decide +kernel
theorem dX0_readsAll_45 : decode cX0_readsAll 45 = .ok (.ifCond .ne 5, 3) := by decide +kernel
theorem dX0_readsAll_48 : decode cX0_readsAll 48 = .ok (.iconst 0, 1) := by decide +kernel
theorem dX0_readsAll_49 : decode cX0_readsAll 49 = .ok (.ireturn, 1) := by decide +kernel
theorem dX0_readsAll_50 : decode cX0_readsAll 50 = .ok (.aload_n 0, 1) := by decide +kernel
theorem dX0_readsAll_51 : decode cX0_readsAll 51 = .ok (.dup, 1) := by decide +kernel
theorem dX0_readsAll_52 : decode cX0_readsAll 52 = .ok (.getfield 24, 3) := by decide +kernel
theorem dX0_readsAll_55 : decode cX0_readsAll 55 = .ok (.iconst 1, 1) := by decide +kernel
theorem dX0_readsAll_56 : decode cX0_readsAll 56 = .ok (.iadd, 1) := by decide +kernel
theorem dX0_readsAll_57 : decode cX0_readsAll 57 = .ok (.putfield 24, 3) := by decide +kernel
theorem dX0_readsAll_60 : decode cX0_readsAll 60 = .ok (.aload_n 0, 1) := by decide +kernel
theorem dX0_readsAll_61 : decode cX0_readsAll 61 = .ok (.getfield 28, 3) := by decide +kernel
theorem dX0_readsAll_64 : decode cX0_readsAll 64 = .ok (.aload_n 1, 1) := by decide +kernel
theorem dX0_readsAll_65 : decode cX0_readsAll 65 = .ok (.getfield 34, 3) := by decide +kernel
theorem dX0_readsAll_68 : decode cX0_readsAll 68 = .ok (.if_icmp .lt 5, 3) := by decide +kernel
theorem dX0_readsAll_71 : decode cX0_readsAll 71 = .ok (.iconst 1, 1) := by decide +kernel
theorem dX0_readsAll_72 : decode cX0_readsAll 72 = .ok (.ireturn, 1) := by decide +kernel
theorem dX0_readsAll_73 : decode cX0_readsAll 73 = .ok (.aload_n 0, 1) := by decide +kernel
theorem dX0_readsAll_74 : decode cX0_readsAll 74 = .ok (.aload_n 1, 1) := by decide +kernel
theorem dX0_readsAll_75 : decode cX0_readsAll 75 = .ok (.bipush 59, 2) := by decide +kernel
theorem dX0_readsAll_77 : decode cX0_readsAll 77 = .ok (.invokevirtual 41, 3) := by decide +kernel
theorem dX0_readsAll_80 : decode cX0_readsAll 80 = .ok (.ifCond .ne (-56), 3) := by decide +kernel
theorem dX0_readsAll_83 : decode cX0_readsAll 83 = .ok (.iconst 0, 1) := by decide +kernel
theorem dX0_readsAll_84 : decode cX0_readsAll 84 = .ok (.ireturn, 1) := by decide +kernel
theorem dX0_readsAll_85 : decode cX0_readsAll 85 = .ok (.aload_n 0, 1) := by decide +kernel
theorem dX0_readsAll_86 : decode cX0_readsAll 86 = .ok (.aload_n 0, 1) := by decide +kernel
theorem dX0_readsAll_87 : decode cX0_readsAll 87 = .ok (.getfield 28, 3) := by decide +kernel
theorem dX0_readsAll_90 : decode cX0_readsAll 90 = .ok (.invokevirtual 45, 3) := by decide +kernel
theorem dX0_readsAll_93 : decode cX0_readsAll 93 = .ok (.ireturn, 1) := by decide +kernel
theorem dX0_readsAct_0 : decode cX0_readsAct 0 = .ok (.aload_n 1, 1) := by decide +kernel
theorem dX0_readsAct_1 : decode cX0_readsAct 1 = .ok (.aload_n 0, 1) := by decide +kernel
theorem dX0_readsAct_2 : decode cX0_readsAct 2 = .ok (.getfield 28, 3) := by decide +kernel
theorem dX0_readsAct_5 : decode cX0_readsAct 5 = .ok (.invokevirtual 49, 3) := by decide +kernel
theorem dX0_readsAct_8 : decode cX0_readsAct 8 = .ok (.istore_n 2, 1) := by decide +kernel
theorem dX0_readsAct_9 : decode cX0_readsAct 9 = .ok (.aload_n 0, 1) := by decide +kernel
theorem dX0_readsAct_10 : decode cX0_readsAct 10 = .ok (.getfield 24, 3) := by decide +kernel
theorem dX0_readsAct_13 : decode cX0_readsAct 13 = .ok (.ifCond .lt 12, 3) := by decide +kernel
theorem dX0_readsAct_16 : decode cX0_readsAct 16 = .ok (.aload_n 0, 1) := by decide +kernel
theorem dX0_readsAct_17 : decode cX0_readsAct 17 = .ok (.getfield 24, 3) := by decide +kernel
theorem dX0_readsAct_20 : decode cX0_readsAct 20 = .ok (.bipush 34, 2) := by decide +kernel
theorem dX0_readsAct_22 : decode cX0_readsAct 22 = .ok (.if_icmp .lt 12, 3) := by decide +kernel
theorem dX0_readsAct_25 : decode cX0_readsAct 25 = .ok (.aload_n 0, 1) := by decide +kernel
theorem dX0_readsAct_26 : decode cX0_readsAct 26 = .ok (.aload_n 0, 1) := by decide +kernel
theorem dX0_readsAct_27 : decode cX0_readsAct 27 = .ok (.getfield 28, 3) := by decide +kernel
theorem dX0_readsAct_30 : decode cX0_readsAct 30 = .ok (.invokevirtual 45, 3) := by decide +kernel
theorem dX0_readsAct_33 : decode cX0_readsAct 33 = .ok (.ireturn, 1) := by decide +kernel
theorem dX0_readsAct_34 : decode cX0_readsAct 34 = .ok (.aload_n 0, 1) := by decide +kernel
theorem dX0_readsAct_35 : decode cX0_readsAct 35 = .ok (.getfield 9, 3) := by decide +kernel
theorem dX0_readsAct_38 : decode cX0_readsAct 38 = .ok (.aload_n 0, 1) := by decide +kernel
theorem dX0_readsAct_39 : decode cX0_readsAct 39 = .ok (.getfield 24, 3) := by decide +kernel
theorem dX0_readsAct_42 : decode cX0_readsAct 42 = .ok (.iload_n 2, 1) := by decide +kernel
theorem dX0_readsAct_43 : decode cX0_readsAct 43 = .ok (.iastore, 1) := by decide +kernel
theorem dX0_readsAct_44 : decode cX0_readsAct 44 = .ok (.aload_n 0, 1) := by decide +kernel
theorem dX0_readsAct_45 : decode cX0_readsAct 45 = .ok (.dup, 1) := by decide +kernel
theorem dX0_readsAct_46 : decode cX0_readsAct 46 = .ok (.getfield 28, 3) := by decide +kernel
theorem dX0_readsAct_49 : decode cX0_readsAct 49 = .ok (.iconst 1, 1) := by decide +kernel
theorem dX0_readsAct_50 : decode cX0_readsAct 50 = .ok (.iadd, 1) := by decide +kernel
theorem dX0_readsAct_51 : decode cX0_readsAct 51 = .ok (.putfield 28, 3) := by decide +kernel
theorem dX0_readsAct_54 : decode cX0_readsAct 54 = .ok (.iload_n 2, 1) := by decide +kernel
theorem dX0_readsAct_55 : decode cX0_readsAct 55 = .ok (.lookupswitch 103 #[(99, 78), (108, 72), (115, 41), (116, 47)], 41) := by decide +kernel
theorem dX0_readsAct_96 : decode cX0_readsAct 96 = .ok (.aload_n 0, 1) := by decide +kernel
theorem dX0_readsAct_97 : decode cX0_readsAct 97 = .ok (.aload_n 1, 1) := by decide +kernel
theorem dX0_readsAct_98 : decode cX0_readsAct 98 = .ok (.invokevirtual 53, 3) := by decide +kernel
theorem dX0_readsAct_101 : decode cX0_readsAct 101 = .ok (.ireturn, 1) := by decide +kernel
theorem dX0_readsAct_102 : decode cX0_readsAct 102 = .ok (.aload_n 0, 1) := by decide +kernel
theorem dX0_readsAct_103 : decode cX0_readsAct 103 = .ok (.aload_n 1, 1) := by decide +kernel
theorem dX0_readsAct_104 : decode cX0_readsAct 104 = .ok (.iconst 1, 1) := by decide +kernel
theorem dX0_readsAct_105 : decode cX0_readsAct 105 = .ok (.iconst 1, 1) := by decide +kernel
theorem dX0_readsAct_106 : decode cX0_readsAct 106 = .ok (.bipush 9, 2) := by decide +kernel
theorem dX0_readsAct_108 : decode cX0_readsAct 108 = .ok (.invokevirtual 56, 3) := by decide +kernel
theorem dX0_readsAct_111 : decode cX0_readsAct 111 = .ok (.ifCond .eq 14, 3) := by decide +kernel
theorem dX0_readsAct_114 : decode cX0_readsAct 114 = .ok (.aload_n 0, 1) := by decide +kernel
theorem dX0_readsAct_115 : decode cX0_readsAct 115 = .ok (.invokevirtual 60, 3) := by decide +kernel
theorem dX0_readsAct_118 : decode cX0_readsAct 118 = .ok (.ifCond .eq 7, 3) := by decide +kernel
theorem dX0_readsAct_121 : decode cX0_readsAct 121 = .ok (.iconst 1, 1) := by decide +kernel
theorem dX0_readsAct_122 : decode cX0_readsAct 122 = .ok (.goto 4, 3) := by decide +kernel
theorem dX0_readsAct_125 : decode cX0_readsAct 125 = .ok (.iconst 0, 1) := by decide +kernel
theorem dX0_readsAct_126 : decode cX0_readsAct 126 = .ok (.ireturn, 1) := by decide +kernel
theorem dX0_readsAct_127 : decode cX0_readsAct 127 = .ok (.aload_n 0, 1) := by decide +kernel
theorem dX0_readsAct_128 : decode cX0_readsAct 128 = .ok (.aload_n 1, 1) := by decide +kernel
theorem dX0_readsAct_129 : decode cX0_readsAct 129 = .ok (.invokevirtual 64, 3) := by decide +kernel
theorem dX0_readsAct_132 : decode cX0_readsAct 132 = .ok (.ireturn, 1) := by decide +kernel
theorem dX0_readsAct_133 : decode cX0_readsAct 133 = .ok (.aload_n 0, 1) := by decide +kernel
theorem dX0_readsAct_134 : decode cX0_readsAct 134 = .ok (.aload_n 1, 1) := by decide +kernel
theorem dX0_readsAct_135 : decode cX0_readsAct 135 = .ok (.iconst 2, 1) := by decide +kernel
theorem dX0_readsAct_136 : decode cX0_readsAct 136 = .ok (.iconst 0, 1) := by decide +kernel
theorem dX0_readsAct_137 : decode cX0_readsAct 137 = .ok (.bipush 99, 2) := by decide +kernel
theorem dX0_readsAct_139 : decode cX0_readsAct 139 = .ok (.invokevirtual 56, 3) := by decide +kernel
theorem dX0_readsAct_142 : decode cX0_readsAct 142 = .ok (.ifCond .eq 14, 3) := by decide +kernel
theorem dX0_readsAct_145 : decode cX0_readsAct 145 = .ok (.aload_n 0, 1) := by decide +kernel
theorem dX0_readsAct_146 : decode cX0_readsAct 146 = .ok (.invokevirtual 60, 3) := by decide +kernel
theorem dX0_readsAct_149 : decode cX0_readsAct 149 = .ok (.ifCond .eq 7, 3) := by decide +kernel
theorem dX0_readsAct_152 : decode cX0_readsAct 152 = .ok (.iconst 1, 1) := by decide +kernel
theorem dX0_readsAct_153 : decode cX0_readsAct 153 = .ok (.goto 4, 3) := by decide +kernel
theorem dX0_readsAct_156 : decode cX0_readsAct 156 = .ok (.iconst 0, 1) := by decide +kernel
theorem dX0_readsAct_157 : decode cX0_readsAct 157 = .ok (.ireturn, 1) := by decide +kernel
theorem dX0_readsAct_158 : decode cX0_readsAct 158 = .ok (.aload_n 0, 1) := by decide +kernel
theorem dX0_readsAct_159 : decode cX0_readsAct 159 = .ok (.aload_n 0, 1) := by decide +kernel
theorem dX0_readsAct_160 : decode cX0_readsAct 160 = .ok (.getfield 28, 3) := by decide +kernel
theorem dX0_readsAct_163 : decode cX0_readsAct 163 = .ok (.iconst 1, 1) := by decide +kernel
theorem dX0_readsAct_164 : decode cX0_readsAct 164 = .ok (.isub, 1) := by decide +kernel
theorem dX0_readsAct_165 : decode cX0_readsAct 165 = .ok (.invokevirtual 45, 3) := by decide +kernel
theorem dX0_readsAct_168 : decode cX0_readsAct 168 = .ok (.ireturn, 1) := by decide +kernel
theorem dX0_readsSet_0 : decode cX0_readsSet 0 = .ok (.aload_n 0, 1) := by decide +kernel
theorem dX0_readsSet_1 : decode cX0_readsSet 1 = .ok (.aload_n 1, 1) := by decide +kernel
theorem dX0_readsSet_2 : decode cX0_readsSet 2 = .ok (.iconst 4, 1) := by decide +kernel
theorem dX0_readsSet_3 : decode cX0_readsSet 3 = .ok (.iconst 1, 1) := by decide +kernel
theorem dX0_readsSet_4 : decode cX0_readsSet 4 = .ok (.sipush 9999, 3) := by decide +kernel
theorem dX0_readsSet_7 : decode cX0_readsSet 7 = .ok (.invokevirtual 56, 3) := by decide +kernel
theorem dX0_readsSet_10 : decode cX0_readsSet 10 = .ok (.ifCond .eq 35, 3) := by decide +kernel
theorem dX0_readsSet_13 : decode cX0_readsSet 13 = .ok (.aload_n 0, 1) := by decide +kernel
theorem dX0_readsSet_14 : decode cX0_readsSet 14 = .ok (.invokevirtual 60, 3) := by decide +kernel
theorem dX0_readsSet_17 : decode cX0_readsSet 17 = .ok (.ifCond .eq 28, 3) := by decide +kernel
theorem dX0_readsSet_20 : decode cX0_readsSet 20 = .ok (.aload_n 0, 1) := by decide +kernel
theorem dX0_readsSet_21 : decode cX0_readsSet 21 = .ok (.aload_n 1, 1) := by decide +kernel
theorem dX0_readsSet_22 : decode cX0_readsSet 22 = .ok (.bipush 44, 2) := by decide +kernel
theorem dX0_readsSet_24 : decode cX0_readsSet 24 = .ok (.invokevirtual 41, 3) := by decide +kernel
theorem dX0_readsSet_27 : decode cX0_readsSet 27 = .ok (.ifCond .eq 18, 3) := by decide +kernel
theorem dX0_readsSet_30 : decode cX0_readsSet 30 = .ok (.aload_n 0, 1) := by decide +kernel
theorem dX0_readsSet_31 : decode cX0_readsSet 31 = .ok (.aload_n 1, 1) := by decide +kernel
theorem dX0_readsSet_32 : decode cX0_readsSet 32 = .ok (.iconst 1, 1) := by decide +kernel
theorem dX0_readsSet_33 : decode cX0_readsSet 33 = .ok (.iconst 0, 1) := by decide +kernel
theorem dX0_readsSet_34 : decode cX0_readsSet 34 = .ok (.iconst 3, 1) := by decide +kernel
theorem dX0_readsSet_35 : decode cX0_readsSet 35 = .ok (.invokevirtual 56, 3) := by decide +kernel
theorem dX0_readsSet_38 : decode cX0_readsSet 38 = .ok (.ifCond .eq 7, 3) := by decide +kernel
theorem dX0_readsSet_41 : decode cX0_readsSet 41 = .ok (.iconst 1, 1) := by decide +kernel
theorem dX0_readsSet_42 : decode cX0_readsSet 42 = .ok (.goto 4, 3) := by decide +kernel
theorem dX0_readsSet_45 : decode cX0_readsSet 45 = .ok (.iconst 0, 1) := by decide +kernel
theorem dX0_readsSet_46 : decode cX0_readsSet 46 = .ok (.istore_n 2, 1) := by decide +kernel
theorem dX0_readsSet_47 : decode cX0_readsSet 47 = .ok (.iload_n 2, 1) := by decide +kernel
theorem dX0_readsSet_48 : decode cX0_readsSet 48 = .ok (.ifCond .eq 19, 3) := by decide +kernel
theorem dX0_readsSet_51 : decode cX0_readsSet 51 = .ok (.aload_n 0, 1) := by decide +kernel
theorem dX0_readsSet_52 : decode cX0_readsSet 52 = .ok (.getfield 24, 3) := by decide +kernel
theorem dX0_readsSet_55 : decode cX0_readsSet 55 = .ok (.ifCond .lt 12, 3) := by decide +kernel
theorem dX0_readsSet_58 : decode cX0_readsSet 58 = .ok (.aload_n 0, 1) := by decide +kernel
theorem dX0_readsSet_59 : decode cX0_readsSet 59 = .ok (.getfield 24, 3) := by decide +kernel
theorem dX0_readsSet_62 : decode cX0_readsSet 62 = .ok (.bipush 34, 2) := by decide +kernel
theorem dX0_readsSet_64 : decode cX0_readsSet 64 = .ok (.if_icmp .lt 5, 3) := by decide +kernel
theorem dX0_readsSet_67 : decode cX0_readsSet 67 = .ok (.iconst 0, 1) := by decide +kernel
theorem dX0_readsSet_68 : decode cX0_readsSet 68 = .ok (.ireturn, 1) := by decide +kernel
theorem dX0_readsSet_69 : decode cX0_readsSet 69 = .ok (.aload_n 0, 1) := by decide +kernel
theorem dX0_readsSet_70 : decode cX0_readsSet 70 = .ok (.getfield 18, 3) := by decide +kernel
theorem dX0_readsSet_73 : decode cX0_readsSet 73 = .ok (.aload_n 0, 1) := by decide +kernel
theorem dX0_readsSet_74 : decode cX0_readsSet 74 = .ok (.getfield 24, 3) := by decide +kernel
theorem dX0_readsSet_77 : decode cX0_readsSet 77 = .ok (.aload_n 0, 1) := by decide +kernel
theorem dX0_readsSet_78 : decode cX0_readsSet 78 = .ok (.getfield 67, 3) := by decide +kernel
theorem dX0_readsSet_81 : decode cX0_readsSet 81 = .ok (.iastore, 1) := by decide +kernel
theorem dX0_readsSet_82 : decode cX0_readsSet 82 = .ok (.aload_n 0, 1) := by decide +kernel
theorem dX0_readsSet_83 : decode cX0_readsSet 83 = .ok (.getfield 21, 3) := by decide +kernel
theorem dX0_readsSet_86 : decode cX0_readsSet 86 = .ok (.aload_n 0, 1) := by decide +kernel
theorem dX0_readsSet_87 : decode cX0_readsSet 87 = .ok (.getfield 24, 3) := by decide +kernel
theorem dX0_readsSet_90 : decode cX0_readsSet 90 = .ok (.iconst 1, 1) := by decide +kernel
theorem dX0_readsSet_91 : decode cX0_readsSet 91 = .ok (.iastore, 1) := by decide +kernel
theorem dX0_readsSet_92 : decode cX0_readsSet 92 = .ok (.aload_n 0, 1) := by decide +kernel
theorem dX0_readsSet_93 : decode cX0_readsSet 93 = .ok (.getfield 67, 3) := by decide +kernel
theorem dX0_readsSet_96 : decode cX0_readsSet 96 = .ok (.ifCond .ne 5, 3) := by decide +kernel
theorem dX0_readsSet_99 : decode cX0_readsSet 99 = .ok (.iconst 1, 1) := by decide +kernel
theorem dX0_readsSet_100 : decode cX0_readsSet 100 = .ok (.ireturn, 1) := by decide +kernel
theorem dX0_readsSet_101 : decode cX0_readsSet 101 = .ok (.aload_n 0, 1) := by decide +kernel
theorem dX0_readsSet_102 : decode cX0_readsSet 102 = .ok (.aload_n 1, 1) := by decide +kernel
theorem dX0_readsSet_103 : decode cX0_readsSet 103 = .ok (.bipush 44, 2) := by decide +kernel
theorem dX0_readsSet_105 : decode cX0_readsSet 105 = .ok (.invokevirtual 41, 3) := by decide +kernel
theorem dX0_readsSet_108 : decode cX0_readsSet 108 = .ok (.ifCond .eq 16, 3) := by decide +kernel
theorem dX0_readsSet_111 : decode cX0_readsSet 111 = .ok (.aload_n 0, 1) := by decide +kernel
theorem dX0_readsSet_112 : decode cX0_readsSet 112 = .ok (.aload_n 1, 1) := by decide +kernel
theorem dX0_readsSet_113 : decode cX0_readsSet 113 = .ok (.iconst 4, 1) := by decide +kernel
theorem dX0_readsSet_114 : decode cX0_readsSet 114 = .ok (.iconst 1, 1) := by decide +kernel
theorem dX0_readsSet_115 : decode cX0_readsSet 115 = .ok (.sipush 1000, 3) := by decide +kernel
theorem dX0_readsSet_118 : decode cX0_readsSet 118 = .ok (.invokevirtual 56, 3) := by decide +kernel
theorem dX0_readsSet_121 : decode cX0_readsSet 121 = .ok (.ifCond .ne 5, 3) := by decide +kernel
theorem dX0_readsSet_124 : decode cX0_readsSet 124 = .ok (.iconst 0, 1) := by decide +kernel
theorem dX0_readsSet_125 : decode cX0_readsSet 125 = .ok (.ireturn, 1) := by decide +kernel
theorem dX0_readsSet_126 : decode cX0_readsSet 126 = .ok (.aload_n 0, 1) := by decide +kernel
theorem dX0_readsSet_127 : decode cX0_readsSet 127 = .ok (.getfield 21, 3) := by decide +kernel
theorem dX0_readsSet_130 : decode cX0_readsSet 130 = .ok (.aload_n 0, 1) := by decide +kernel
theorem dX0_readsSet_131 : decode cX0_readsSet 131 = .ok (.getfield 24, 3) := by decide +kernel
theorem dX0_readsSet_134 : decode cX0_readsSet 134 = .ok (.aload_n 0, 1) := by decide +kernel
theorem dX0_readsSet_135 : decode cX0_readsSet 135 = .ok (.getfield 67, 3) := by decide +kernel
theorem dX0_readsSet_138 : decode cX0_readsSet 138 = .ok (.iastore, 1) := by decide +kernel
theorem dX0_readsSet_139 : decode cX0_readsSet 139 = .ok (.iconst 1, 1) := by decide +kernel
theorem dX0_readsSet_140 : decode cX0_readsSet 140 = .ok (.ireturn, 1) := by decide +kernel
theorem dX0_readsLeap_0 : decode cX0_readsLeap 0 = .ok (.aload_n 1, 1) := by decide +kernel
theorem dX0_readsLeap_1 : decode cX0_readsLeap 1 = .ok (.aload_n 0, 1) := by decide +kernel
theorem dX0_readsLeap_2 : decode cX0_readsLeap 2 = .ok (.getfield 28, 3) := by decide +kernel
theorem dX0_readsLeap_5 : decode cX0_readsLeap 5 = .ok (.invokevirtual 49, 3) := by decide +kernel
theorem dX0_readsLeap_8 : decode cX0_readsLeap 8 = .ok (.bipush 45, 2) := by decide +kernel
theorem dX0_readsLeap_10 : decode cX0_readsLeap 10 = .ok (.if_icmp .ne 7, 3) := by decide +kernel
theorem dX0_readsLeap_13 : decode cX0_readsLeap 13 = .ok (.iconst 1, 1) := by decide +kernel
theorem dX0_readsLeap_14 : decode cX0_readsLeap 14 = .ok (.goto 4, 3) := by decide +kernel
theorem dX0_readsLeap_17 : decode cX0_readsLeap 17 = .ok (.iconst 0, 1) := by decide +kernel
theorem dX0_readsLeap_18 : decode cX0_readsLeap 18 = .ok (.istore_n 2, 1) := by decide +kernel
theorem dX0_readsLeap_19 : decode cX0_readsLeap 19 = .ok (.iload_n 2, 1) := by decide +kernel
theorem dX0_readsLeap_20 : decode cX0_readsLeap 20 = .ok (.ifCond .eq 13, 3) := by decide +kernel
theorem dX0_readsLeap_23 : decode cX0_readsLeap 23 = .ok (.aload_n 0, 1) := by decide +kernel
theorem dX0_readsLeap_24 : decode cX0_readsLeap 24 = .ok (.dup, 1) := by decide +kernel
theorem dX0_readsLeap_25 : decode cX0_readsLeap 25 = .ok (.getfield 28, 3) := by decide +kernel
theorem dX0_readsLeap_28 : decode cX0_readsLeap 28 = .ok (.iconst 1, 1) := by decide +kernel
theorem dX0_readsLeap_29 : decode cX0_readsLeap 29 = .ok (.iadd, 1) := by decide +kernel
theorem dX0_readsLeap_30 : decode cX0_readsLeap 30 = .ok (.putfield 28, 3) := by decide +kernel
theorem dX0_readsLeap_33 : decode cX0_readsLeap 33 = .ok (.aload_n 0, 1) := by decide +kernel
theorem dX0_readsLeap_34 : decode cX0_readsLeap 34 = .ok (.aload_n 1, 1) := by decide +kernel
theorem dX0_readsLeap_35 : decode cX0_readsLeap 35 = .ok (.iconst 4, 1) := by decide +kernel
theorem dX0_readsLeap_36 : decode cX0_readsLeap 36 = .ok (.iconst 1, 1) := by decide +kernel
theorem dX0_readsLeap_37 : decode cX0_readsLeap 37 = .ok (.sipush 9999, 3) := by decide +kernel
theorem dX0_readsLeap_40 : decode cX0_readsLeap 40 = .ok (.invokevirtual 56, 3) := by decide +kernel
theorem dX0_readsLeap_43 : decode cX0_readsLeap 43 = .ok (.ifCond .ne 5, 3) := by decide +kernel
theorem dX0_readsLeap_46 : decode cX0_readsLeap 46 = .ok (.iconst 0, 1) := by decide +kernel
theorem dX0_readsLeap_47 : decode cX0_readsLeap 47 = .ok (.ireturn, 1) := by decide +kernel
theorem dX0_readsLeap_48 : decode cX0_readsLeap 48 = .ok (.aload_n 0, 1) := by decide +kernel
theorem dX0_readsLeap_49 : decode cX0_readsLeap 49 = .ok (.iload_n 2, 1) := by decide +kernel
theorem dX0_readsLeap_50 : decode cX0_readsLeap 50 = .ok (.ifCond .eq 11, 3) := by decide +kernel
theorem dX0_readsLeap_53 : decode cX0_readsLeap 53 = .ok (.aload_n 0, 1) := by decide +kernel
theorem dX0_readsLeap_54 : decode cX0_readsLeap 54 = .ok (.getfield 67, 3) := by decide +kernel
theorem dX0_readsLeap_57 : decode cX0_readsLeap 57 = .ok (.ineg, 1) := by decide +kernel
theorem dX0_readsLeap_58 : decode cX0_readsLeap 58 = .ok (.goto 7, 3) := by decide +kernel
theorem dX0_readsLeap_61 : decode cX0_readsLeap 61 = .ok (.aload_n 0, 1) := by decide +kernel
theorem dX0_readsLeap_62 : decode cX0_readsLeap 62 = .ok (.getfield 67, 3) := by decide +kernel
theorem dX0_readsLeap_65 : decode cX0_readsLeap 65 = .ok (.putfield 67, 3) := by decide +kernel
theorem dX0_readsLeap_68 : decode cX0_readsLeap 68 = .ok (.aload_n 0, 1) := by decide +kernel
theorem dX0_readsLeap_69 : decode cX0_readsLeap 69 = .ok (.invokevirtual 60, 3) := by decide +kernel
theorem dX0_readsLeap_72 : decode cX0_readsLeap 72 = .ok (.ireturn, 1) := by decide +kernel
theorem dX0_keepsNumber_0 : decode cX0_keepsNumber 0 = .ok (.aload_n 0, 1) := by decide +kernel
theorem dX0_keepsNumber_1 : decode cX0_keepsNumber 1 = .ok (.getfield 24, 3) := by decide +kernel
theorem dX0_keepsNumber_4 : decode cX0_keepsNumber 4 = .ok (.ifCond .lt 12, 3) := by decide +kernel
theorem dX0_keepsNumber_7 : decode cX0_keepsNumber 7 = .ok (.aload_n 0, 1) := by decide +kernel
theorem dX0_keepsNumber_8 : decode cX0_keepsNumber 8 = .ok (.getfield 24, 3) := by decide +kernel
theorem dX0_keepsNumber_11 : decode cX0_keepsNumber 11 = .ok (.bipush 34, 2) := by decide +kernel
theorem dX0_keepsNumber_13 : decode cX0_keepsNumber 13 = .ok (.if_icmp .lt 5, 3) := by decide +kernel
theorem dX0_keepsNumber_16 : decode cX0_keepsNumber 16 = .ok (.iconst 0, 1) := by decide +kernel
theorem dX0_keepsNumber_17 : decode cX0_keepsNumber 17 = .ok (.ireturn, 1) := by decide +kernel
theorem dX0_keepsNumber_18 : decode cX0_keepsNumber 18 = .ok (.aload_n 0, 1) := by decide +kernel
theorem dX0_keepsNumber_19 : decode cX0_keepsNumber 19 = .ok (.getfield 15, 3) := by decide +kernel
theorem dX0_keepsNumber_22 : decode cX0_keepsNumber 22 = .ok (.aload_n 0, 1) := by decide +kernel
theorem dX0_keepsNumber_23 : decode cX0_keepsNumber 23 = .ok (.getfield 24, 3) := by decide +kernel
theorem dX0_keepsNumber_26 : decode cX0_keepsNumber 26 = .ok (.aload_n 0, 1) := by decide +kernel
theorem dX0_keepsNumber_27 : decode cX0_keepsNumber 27 = .ok (.getfield 67, 3) := by decide +kernel
theorem dX0_keepsNumber_30 : decode cX0_keepsNumber 30 = .ok (.iastore, 1) := by decide +kernel
theorem dX0_keepsNumber_31 : decode cX0_keepsNumber 31 = .ok (.iconst 1, 1) := by decide +kernel
theorem dX0_keepsNumber_32 : decode cX0_keepsNumber 32 = .ok (.ireturn, 1) := by decide +kernel
theorem dX0_readsNumber_0 : decode cX0_readsNumber 0 = .ok (.aload_n 0, 1) := by decide +kernel
theorem dX0_readsNumber_1 : decode cX0_readsNumber 1 = .ok (.iconst 0, 1) := by decide +kernel
theorem dX0_readsNumber_2 : decode cX0_readsNumber 2 = .ok (.putfield 67, 3) := by decide +kernel
theorem dX0_readsNumber_5 : decode cX0_readsNumber 5 = .ok (.iconst 0, 1) := by decide +kernel
theorem dX0_readsNumber_6 : decode cX0_readsNumber 6 = .ok (.istore 5, 2) := by decide +kernel
theorem dX0_readsNumber_8 : decode cX0_readsNumber 8 = .ok (.iload 5, 2) := by decide +kernel
theorem dX0_readsNumber_10 : decode cX0_readsNumber 10 = .ok (.iload_n 2, 1) := by decide +kernel
theorem dX0_readsNumber_11 : decode cX0_readsNumber 11 = .ok (.if_icmp .ge 56, 3) := by decide +kernel
theorem dX0_readsNumber_14 : decode cX0_readsNumber 14 = .ok (.aload_n 1, 1) := by decide +kernel
theorem dX0_readsNumber_15 : decode cX0_readsNumber 15 = .ok (.aload_n 0, 1) := by decide +kernel
theorem dX0_readsNumber_16 : decode cX0_readsNumber 16 = .ok (.getfield 28, 3) := by decide +kernel
theorem dX0_readsNumber_19 : decode cX0_readsNumber 19 = .ok (.invokevirtual 49, 3) := by decide +kernel
theorem dX0_readsNumber_22 : decode cX0_readsNumber 22 = .ok (.invokestatic 70, 3) := by decide +kernel
theorem dX0_readsNumber_25 : decode cX0_readsNumber 25 = .ok (.ifCond .eq 42, 3) := by decide +kernel
theorem dX0_readsNumber_28 : decode cX0_readsNumber 28 = .ok (.aload_n 0, 1) := by decide +kernel
theorem dX0_readsNumber_29 : decode cX0_readsNumber 29 = .ok (.bipush 10, 2) := by decide +kernel
theorem dX0_readsNumber_31 : decode cX0_readsNumber 31 = .ok (.aload_n 0, 1) := by decide +kernel
theorem dX0_readsNumber_32 : decode cX0_readsNumber 32 = .ok (.getfield 67, 3) := by decide +kernel
theorem dX0_readsNumber_35 : decode cX0_readsNumber 35 = .ok (.imul, 1) := by decide +kernel
theorem dX0_readsNumber_36 : decode cX0_readsNumber 36 = .ok (.aload_n 1, 1) := by decide +kernel
theorem dX0_readsNumber_37 : decode cX0_readsNumber 37 = .ok (.aload_n 0, 1) := by decide +kernel
theorem dX0_readsNumber_38 : decode cX0_readsNumber 38 = .ok (.getfield 28, 3) := by decide +kernel
theorem dX0_readsNumber_41 : decode cX0_readsNumber 41 = .ok (.invokevirtual 49, 3) := by decide +kernel
theorem dX0_readsNumber_44 : decode cX0_readsNumber 44 = .ok (.iadd, 1) := by decide +kernel
theorem dX0_readsNumber_45 : decode cX0_readsNumber 45 = .ok (.bipush 48, 2) := by decide +kernel
theorem dX0_readsNumber_47 : decode cX0_readsNumber 47 = .ok (.isub, 1) := by decide +kernel
theorem dX0_readsNumber_48 : decode cX0_readsNumber 48 = .ok (.putfield 67, 3) := by decide +kernel
theorem dX0_readsNumber_51 : decode cX0_readsNumber 51 = .ok (.aload_n 0, 1) := by decide +kernel
theorem dX0_readsNumber_52 : decode cX0_readsNumber 52 = .ok (.dup, 1) := by decide +kernel
theorem dX0_readsNumber_53 : decode cX0_readsNumber 53 = .ok (.getfield 28, 3) := by decide +kernel
theorem dX0_readsNumber_56 : decode cX0_readsNumber 56 = .ok (.iconst 1, 1) := by decide +kernel
theorem dX0_readsNumber_57 : decode cX0_readsNumber 57 = .ok (.iadd, 1) := by decide +kernel
theorem dX0_readsNumber_58 : decode cX0_readsNumber 58 = .ok (.putfield 28, 3) := by decide +kernel
theorem dX0_readsNumber_61 : decode cX0_readsNumber 61 = .ok (.iinc 5 1, 3) := by decide +kernel
theorem dX0_readsNumber_64 : decode cX0_readsNumber 64 = .ok (.goto (-56), 3) := by decide +kernel
theorem dX0_readsNumber_67 : decode cX0_readsNumber 67 = .ok (.iload 5, 2) := by decide +kernel
theorem dX0_readsNumber_69 : decode cX0_readsNumber 69 = .ok (.ifCond .eq 17, 3) := by decide +kernel
theorem dX0_readsNumber_72 : decode cX0_readsNumber 72 = .ok (.aload_n 1, 1) := by decide +kernel
theorem dX0_readsNumber_73 : decode cX0_readsNumber 73 = .ok (.aload_n 0, 1) := by decide +kernel
theorem dX0_readsNumber_74 : decode cX0_readsNumber 74 = .ok (.getfield 28, 3) := by decide +kernel
theorem dX0_readsNumber_77 : decode cX0_readsNumber 77 = .ok (.invokevirtual 49, 3) := by decide +kernel
theorem dX0_readsNumber_80 : decode cX0_readsNumber 80 = .ok (.invokestatic 70, 3) := by decide +kernel
theorem dX0_readsNumber_83 : decode cX0_readsNumber 83 = .ok (.ifCond .eq 12, 3) := by decide +kernel
theorem dX0_readsNumber_86 : decode cX0_readsNumber 86 = .ok (.aload_n 0, 1) := by decide +kernel
theorem dX0_readsNumber_87 : decode cX0_readsNumber 87 = .ok (.aload_n 0, 1) := by decide +kernel
theorem dX0_readsNumber_88 : decode cX0_readsNumber 88 = .ok (.getfield 28, 3) := by decide +kernel
theorem dX0_readsNumber_91 : decode cX0_readsNumber 91 = .ok (.invokevirtual 45, 3) := by decide +kernel
theorem dX0_readsNumber_94 : decode cX0_readsNumber 94 = .ok (.ireturn, 1) := by decide +kernel
theorem dX0_readsNumber_95 : decode cX0_readsNumber 95 = .ok (.aload_n 0, 1) := by decide +kernel
theorem dX0_readsNumber_96 : decode cX0_readsNumber 96 = .ok (.getfield 67, 3) := by decide +kernel
theorem dX0_readsNumber_99 : decode cX0_readsNumber 99 = .ok (.iload_n 3, 1) := by decide +kernel
theorem dX0_readsNumber_100 : decode cX0_readsNumber 100 = .ok (.iload 4, 2) := by decide +kernel
theorem dX0_readsNumber_102 : decode cX0_readsNumber 102 = .ok (.invokestatic 73, 3) := by decide +kernel
theorem dX0_readsNumber_105 : decode cX0_readsNumber 105 = .ok (.ifCond .ne 16, 3) := by decide +kernel
theorem dX0_readsNumber_108 : decode cX0_readsNumber 108 = .ok (.aload_n 0, 1) := by decide +kernel
theorem dX0_readsNumber_109 : decode cX0_readsNumber 109 = .ok (.aload_n 0, 1) := by decide +kernel
theorem dX0_readsNumber_110 : decode cX0_readsNumber 110 = .ok (.getfield 28, 3) := by decide +kernel
theorem dX0_readsNumber_113 : decode cX0_readsNumber 113 = .ok (.iconst 1, 1) := by decide +kernel
theorem dX0_readsNumber_114 : decode cX0_readsNumber 114 = .ok (.isub, 1) := by decide +kernel
theorem dX0_readsNumber_115 : decode cX0_readsNumber 115 = .ok (.invokevirtual 45, 3) := by decide +kernel
theorem dX0_readsNumber_118 : decode cX0_readsNumber 118 = .ok (.ifCond .eq 7, 3) := by decide +kernel
theorem dX0_readsNumber_121 : decode cX0_readsNumber 121 = .ok (.iconst 1, 1) := by decide +kernel
theorem dX0_readsNumber_122 : decode cX0_readsNumber 122 = .ok (.goto 4, 3) := by decide +kernel
theorem dX0_readsNumber_125 : decode cX0_readsNumber 125 = .ok (.iconst 0, 1) := by decide +kernel
theorem dX0_readsNumber_126 : decode cX0_readsNumber 126 = .ok (.ireturn, 1) := by decide +kernel
theorem dX0_readsSign_0 : decode cX0_readsSign 0 = .ok (.aload_n 1, 1) := by decide +kernel
theorem dX0_readsSign_1 : decode cX0_readsSign 1 = .ok (.aload_n 0, 1) := by decide +kernel
theorem dX0_readsSign_2 : decode cX0_readsSign 2 = .ok (.getfield 28, 3) := by decide +kernel
theorem dX0_readsSign_5 : decode cX0_readsSign 5 = .ok (.invokevirtual 49, 3) := by decide +kernel
theorem dX0_readsSign_8 : decode cX0_readsSign 8 = .ok (.iload_n 2, 1) := by decide +kernel
theorem dX0_readsSign_9 : decode cX0_readsSign 9 = .ok (.if_icmp .eq 12, 3) := by decide +kernel
theorem dX0_readsSign_12 : decode cX0_readsSign 12 = .ok (.aload_n 0, 1) := by decide +kernel
theorem dX0_readsSign_13 : decode cX0_readsSign 13 = .ok (.aload_n 0, 1) := by decide +kernel
theorem dX0_readsSign_14 : decode cX0_readsSign 14 = .ok (.getfield 28, 3) := by decide +kernel
theorem dX0_readsSign_17 : decode cX0_readsSign 17 = .ok (.invokevirtual 45, 3) := by decide +kernel
theorem dX0_readsSign_20 : decode cX0_readsSign 20 = .ok (.ireturn, 1) := by decide +kernel
theorem dX0_readsSign_21 : decode cX0_readsSign 21 = .ok (.aload_n 0, 1) := by decide +kernel
theorem dX0_readsSign_22 : decode cX0_readsSign 22 = .ok (.dup, 1) := by decide +kernel
theorem dX0_readsSign_23 : decode cX0_readsSign 23 = .ok (.getfield 28, 3) := by decide +kernel
theorem dX0_readsSign_26 : decode cX0_readsSign 26 = .ok (.iconst 1, 1) := by decide +kernel
theorem dX0_readsSign_27 : decode cX0_readsSign 27 = .ok (.iadd, 1) := by decide +kernel
theorem dX0_readsSign_28 : decode cX0_readsSign 28 = .ok (.putfield 28, 3) := by decide +kernel
theorem dX0_readsSign_31 : decode cX0_readsSign 31 = .ok (.iconst 1, 1) := by decide +kernel
theorem dX0_readsSign_32 : decode cX0_readsSign 32 = .ok (.ireturn, 1) := by decide +kernel
theorem dX0_isDigit_0 : decode cX0_isDigit 0 = .ok (.iload_n 0, 1) := by decide +kernel
theorem dX0_isDigit_1 : decode cX0_isDigit 1 = .ok (.bipush 48, 2) := by decide +kernel
theorem dX0_isDigit_3 : decode cX0_isDigit 3 = .ok (.bipush 57, 2) := by decide +kernel
theorem dX0_isDigit_5 : decode cX0_isDigit 5 = .ok (.invokestatic 73, 3) := by decide +kernel
theorem dX0_isDigit_8 : decode cX0_isDigit 8 = .ok (.ireturn, 1) := by decide +kernel
theorem dX0_fails_0 : decode cX0_fails 0 = .ok (.aload_n 0, 1) := by decide +kernel
theorem dX0_fails_1 : decode cX0_fails 1 = .ok (.iload_n 1, 1) := by decide +kernel
theorem dX0_fails_2 : decode cX0_fails 2 = .ok (.putfield 31, 3) := by decide +kernel
theorem dX0_fails_5 : decode cX0_fails 5 = .ok (.iconst 0, 1) := by decide +kernel
theorem dX0_fails_6 : decode cX0_fails 6 = .ok (.ireturn, 1) := by decide +kernel
theorem dX1_init_0 : decode cX1_init 0 = .ok (.aload_n 0, 1) := by decide +kernel
theorem dX1_init_1 : decode cX1_init 1 = .ok (.invokespecial 3, 3) := by decide +kernel
theorem dX1_init_4 : decode cX1_init 4 = .ok (.aload_n 0, 1) := by decide +kernel
theorem dX1_init_5 : decode cX1_init 5 = .ok (.bipush 16, 2) := by decide +kernel
theorem dX1_init_7 : decode cX1_init 7 = .ok (.anewarray 9, 3) := by decide +kernel
theorem dX1_init_10 : decode cX1_init 10 = .ok (.putfield 11, 3) := by decide +kernel
theorem dX1_init_13 : decode cX1_init 13 = .ok (.return_, 1) := by decide +kernel
theorem dX1_empty_0 : decode cX1_empty 0 = .ok (.aload_n 0, 1) := by decide +kernel
theorem dX1_empty_1 : decode cX1_empty 1 = .ok (.iconst 0, 1) := by decide +kernel
theorem dX1_empty_2 : decode cX1_empty 2 = .ok (.putfield 17, 3) := by decide +kernel
theorem dX1_empty_5 : decode cX1_empty 5 = .ok (.return_, 1) := by decide +kernel
theorem dX1_at_0 : decode cX1_at 0 = .ok (.iload_n 1, 1) := by decide +kernel
theorem dX1_at_1 : decode cX1_at 1 = .ok (.ifCond .lt 17, 3) := by decide +kernel
theorem dX1_at_4 : decode cX1_at 4 = .ok (.iload_n 1, 1) := by decide +kernel
theorem dX1_at_5 : decode cX1_at 5 = .ok (.aload_n 0, 1) := by decide +kernel
theorem dX1_at_6 : decode cX1_at 6 = .ok (.getfield 17, 3) := by decide +kernel
theorem dX1_at_9 : decode cX1_at 9 = .ok (.if_icmp .ge 9, 3) := by decide +kernel
theorem dX1_at_12 : decode cX1_at 12 = .ok (.iload_n 1, 1) := by decide +kernel
theorem dX1_at_13 : decode cX1_at 13 = .ok (.bipush 16, 2) := by decide +kernel
theorem dX1_at_15 : decode cX1_at 15 = .ok (.if_icmp .lt 7, 3) := by decide +kernel
theorem dX1_at_18 : decode cX1_at 18 = .ok (.aconst_null, 1) := by decide +kernel
theorem dX1_at_19 : decode cX1_at 19 = .ok (.goto 9, 3) := by decide +kernel
theorem dX1_at_22 : decode cX1_at 22 = .ok (.aload_n 0, 1) := by decide +kernel
theorem dX1_at_23 : decode cX1_at 23 = .ok (.getfield 11, 3) := by decide +kernel
theorem dX1_at_26 : decode cX1_at 26 = .ok (.iload_n 1, 1) := by decide +kernel
theorem dX1_at_27 : decode cX1_at 27 = .ok (.aaload, 1) := by decide +kernel
theorem dX1_at_28 : decode cX1_at 28 = .ok (.areturn, 1) := by decide +kernel
theorem dX1_join_0 : decode cX1_join 0 = .ok (.aload_n 0, 1) := by decide +kernel
theorem dX1_join_1 : decode cX1_join 1 = .ok (.getfield 17, 3) := by decide +kernel
theorem dX1_join_4 : decode cX1_join 4 = .ok (.ifCond .lt 12, 3) := by decide +kernel
theorem dX1_join_7 : decode cX1_join 7 = .ok (.aload_n 0, 1) := by decide +kernel
theorem dX1_join_8 : decode cX1_join 8 = .ok (.getfield 17, 3) := by decide +kernel
theorem dX1_join_11 : decode cX1_join 11 = .ok (.bipush 16, 2) := by decide +kernel
theorem dX1_join_13 : decode cX1_join 13 = .ok (.if_icmp .lt 4, 3) := by decide +kernel
theorem dX1_join_16 : decode cX1_join 16 = .ok (.return_, 1) := by decide +kernel
theorem dX1_join_17 : decode cX1_join 17 = .ok (.aload_n 0, 1) := by decide +kernel
theorem dX1_join_18 : decode cX1_join 18 = .ok (.getfield 17, 3) := by decide +kernel
theorem dX1_join_21 : decode cX1_join 21 = .ok (.istore 4, 2) := by decide +kernel
theorem dX1_join_23 : decode cX1_join 23 = .ok (.iload 4, 2) := by decide +kernel
theorem dX1_join_25 : decode cX1_join 25 = .ok (.ifCond .le 48, 3) := by decide +kernel
theorem dX1_join_28 : decode cX1_join 28 = .ok (.aload_n 0, 1) := by decide +kernel
theorem dX1_join_29 : decode cX1_join 29 = .ok (.getfield 11, 3) := by decide +kernel
theorem dX1_join_32 : decode cX1_join 32 = .ok (.iload 4, 2) := by decide +kernel
theorem dX1_join_34 : decode cX1_join 34 = .ok (.iconst 1, 1) := by decide +kernel
theorem dX1_join_35 : decode cX1_join 35 = .ok (.isub, 1) := by decide +kernel
theorem dX1_join_36 : decode cX1_join 36 = .ok (.aaload, 1) := by decide +kernel
theorem dX1_join_37 : decode cX1_join 37 = .ok (.astore 5, 2) := by decide +kernel
theorem dX1_join_39 : decode cX1_join 39 = .ok (.aload 5, 2) := by decide +kernel
theorem dX1_join_41 : decode cX1_join 41 = .ok (.ifnull 32, 3) := by decide +kernel
theorem dX1_join_44 : decode cX1_join 44 = .ok (.aload_n 1, 1) := by decide +kernel
theorem dX1_join_45 : decode cX1_join 45 = .ok (.aload 5, 2) := by decide +kernel
theorem dX1_join_47 : decode cX1_join 47 = .ok (.iload_n 2, 1) := by decide +kernel
theorem dX1_join_48 : decode cX1_join 48 = .ok (.iload_n 3, 1) := by decide +kernel
theorem dX1_join_49 : decode cX1_join 49 = .ok (.invokevirtual 21, 3) := by decide +kernel
theorem dX1_join_52 : decode cX1_join 52 = .ok (.ifCond .ne 6, 3) := by decide +kernel
theorem dX1_join_55 : decode cX1_join 55 = .ok (.goto 18, 3) := by decide +kernel
theorem dX1_join_58 : decode cX1_join 58 = .ok (.aload_n 0, 1) := by decide +kernel
theorem dX1_join_59 : decode cX1_join 59 = .ok (.getfield 11, 3) := by decide +kernel
theorem dX1_join_62 : decode cX1_join 62 = .ok (.iload 4, 2) := by decide +kernel
theorem dX1_join_64 : decode cX1_join 64 = .ok (.aload 5, 2) := by decide +kernel
theorem dX1_join_66 : decode cX1_join 66 = .ok (.aastore, 1) := by decide +kernel
theorem dX1_join_67 : decode cX1_join 67 = .ok (.iinc 4 (-1), 3) := by decide +kernel
theorem dX1_join_70 : decode cX1_join 70 = .ok (.goto (-47), 3) := by decide +kernel
theorem dX1_join_73 : decode cX1_join 73 = .ok (.aload_n 0, 1) := by decide +kernel
theorem dX1_join_74 : decode cX1_join 74 = .ok (.getfield 11, 3) := by decide +kernel
theorem dX1_join_77 : decode cX1_join 77 = .ok (.iload 4, 2) := by decide +kernel
theorem dX1_join_79 : decode cX1_join 79 = .ok (.aload_n 1, 1) := by decide +kernel
theorem dX1_join_80 : decode cX1_join 80 = .ok (.aastore, 1) := by decide +kernel
theorem dX1_join_81 : decode cX1_join 81 = .ok (.aload_n 0, 1) := by decide +kernel
theorem dX1_join_82 : decode cX1_join 82 = .ok (.dup, 1) := by decide +kernel
theorem dX1_join_83 : decode cX1_join 83 = .ok (.getfield 17, 3) := by decide +kernel
theorem dX1_join_86 : decode cX1_join 86 = .ok (.iconst 1, 1) := by decide +kernel
theorem dX1_join_87 : decode cX1_join 87 = .ok (.iadd, 1) := by decide +kernel
theorem dX1_join_88 : decode cX1_join 88 = .ok (.putfield 17, 3) := by decide +kernel
theorem dX1_join_91 : decode cX1_join 91 = .ok (.return_, 1) := by decide +kernel
theorem dX2_init_0 : decode cX2_init 0 = .ok (.aload_n 0, 1) := by decide +kernel
theorem dX2_init_1 : decode cX2_init 1 = .ok (.invokespecial 3, 3) := by decide +kernel
theorem dX2_init_4 : decode cX2_init 4 = .ok (.aload_n 0, 1) := by decide +kernel
theorem dX2_init_5 : decode cX2_init 5 = .ok (.bipush 40, 2) := by decide +kernel
theorem dX2_init_7 : decode cX2_init 7 = .ok (.newarray .int, 2) := by decide +kernel
theorem dX2_init_9 : decode cX2_init 9 = .ok (.putfield 9, 3) := by decide +kernel
theorem dX2_init_12 : decode cX2_init 12 = .ok (.aload_n 0, 1) := by decide +kernel
theorem dX2_init_13 : decode cX2_init 13 = .ok (.bipush 40, 2) := by decide +kernel
theorem dX2_init_15 : decode cX2_init 15 = .ok (.newarray .int, 2) := by decide +kernel
theorem dX2_init_17 : decode cX2_init 17 = .ok (.putfield 15, 3) := by decide +kernel
theorem dX2_init_20 : decode cX2_init 20 = .ok (.aload_n 0, 1) := by decide +kernel
theorem dX2_init_21 : decode cX2_init 21 = .ok (.bipush 40, 2) := by decide +kernel
theorem dX2_init_23 : decode cX2_init 23 = .ok (.newarray .int, 2) := by decide +kernel
theorem dX2_init_25 : decode cX2_init 25 = .ok (.putfield 18, 3) := by decide +kernel
theorem dX2_init_28 : decode cX2_init 28 = .ok (.aload_n 0, 1) := by decide +kernel
theorem dX2_init_29 : decode cX2_init 29 = .ok (.bipush 40, 2) := by decide +kernel
theorem dX2_init_31 : decode cX2_init 31 = .ok (.newarray .int, 2) := by decide +kernel
theorem dX2_init_33 : decode cX2_init 33 = .ok (.putfield 21, 3) := by decide +kernel
theorem dX2_init_36 : decode cX2_init 36 = .ok (.aload_n 0, 1) := by decide +kernel
theorem dX2_init_37 : decode cX2_init 37 = .ok (.bipush 40, 2) := by decide +kernel
theorem dX2_init_39 : decode cX2_init 39 = .ok (.newarray .int, 2) := by decide +kernel
theorem dX2_init_41 : decode cX2_init 41 = .ok (.putfield 24, 3) := by decide +kernel
theorem dX2_init_44 : decode cX2_init 44 = .ok (.return_, 1) := by decide +kernel
theorem dX2_keep_0 : decode cX2_keep 0 = .ok (.aload_n 0, 1) := by decide +kernel
theorem dX2_keep_1 : decode cX2_keep 1 = .ok (.getfield 27, 3) := by decide +kernel
theorem dX2_keep_4 : decode cX2_keep 4 = .ok (.ifCond .lt 12, 3) := by decide +kernel
theorem dX2_keep_7 : decode cX2_keep 7 = .ok (.aload_n 0, 1) := by decide +kernel
theorem dX2_keep_8 : decode cX2_keep 8 = .ok (.getfield 27, 3) := by decide +kernel
theorem dX2_keep_11 : decode cX2_keep 11 = .ok (.bipush 40, 2) := by decide +kernel
theorem dX2_keep_13 : decode cX2_keep 13 = .ok (.if_icmp .lt 8, 3) := by decide +kernel
theorem dX2_keep_16 : decode cX2_keep 16 = .ok (.aload_n 0, 1) := by decide +kernel
theorem dX2_keep_17 : decode cX2_keep 17 = .ok (.iconst 0, 1) := by decide +kernel
theorem dX2_keep_18 : decode cX2_keep 18 = .ok (.putfield 27, 3) := by decide +kernel
theorem dX2_keep_21 : decode cX2_keep 21 = .ok (.aload_n 0, 1) := by decide +kernel
theorem dX2_keep_22 : decode cX2_keep 22 = .ok (.getfield 9, 3) := by decide +kernel
theorem dX2_keep_25 : decode cX2_keep 25 = .ok (.aload_n 0, 1) := by decide +kernel
theorem dX2_keep_26 : decode cX2_keep 26 = .ok (.getfield 27, 3) := by decide +kernel
theorem dX2_keep_29 : decode cX2_keep 29 = .ok (.aload_n 1, 1) := by decide +kernel
theorem dX2_keep_30 : decode cX2_keep 30 = .ok (.getfield 31, 3) := by decide +kernel
theorem dX2_keep_33 : decode cX2_keep 33 = .ok (.iastore, 1) := by decide +kernel
theorem dX2_keep_34 : decode cX2_keep 34 = .ok (.aload_n 0, 1) := by decide +kernel
theorem dX2_keep_35 : decode cX2_keep 35 = .ok (.getfield 15, 3) := by decide +kernel
theorem dX2_keep_38 : decode cX2_keep 38 = .ok (.aload_n 0, 1) := by decide +kernel
theorem dX2_keep_39 : decode cX2_keep 39 = .ok (.getfield 27, 3) := by decide +kernel
theorem dX2_keep_42 : decode cX2_keep 42 = .ok (.iload_n 2, 1) := by decide +kernel
theorem dX2_keep_43 : decode cX2_keep 43 = .ok (.iastore, 1) := by decide +kernel
theorem dX2_keep_44 : decode cX2_keep 44 = .ok (.aload_n 0, 1) := by decide +kernel
theorem dX2_keep_45 : decode cX2_keep 45 = .ok (.getfield 18, 3) := by decide +kernel
theorem dX2_keep_48 : decode cX2_keep 48 = .ok (.aload_n 0, 1) := by decide +kernel
theorem dX2_keep_49 : decode cX2_keep 49 = .ok (.getfield 27, 3) := by decide +kernel
theorem dX2_keep_52 : decode cX2_keep 52 = .ok (.aload_n 1, 1) := by decide +kernel
theorem dX2_keep_53 : decode cX2_keep 53 = .ok (.getfield 36, 3) := by decide +kernel
theorem dX2_keep_56 : decode cX2_keep 56 = .ok (.iastore, 1) := by decide +kernel
theorem dX2_keep_57 : decode cX2_keep 57 = .ok (.aload_n 0, 1) := by decide +kernel
theorem dX2_keep_58 : decode cX2_keep 58 = .ok (.getfield 21, 3) := by decide +kernel
theorem dX2_keep_61 : decode cX2_keep 61 = .ok (.aload_n 0, 1) := by decide +kernel
theorem dX2_keep_62 : decode cX2_keep 62 = .ok (.getfield 27, 3) := by decide +kernel
theorem dX2_keep_65 : decode cX2_keep 65 = .ok (.aload_n 1, 1) := by decide +kernel
theorem dX2_keep_66 : decode cX2_keep 66 = .ok (.getfield 39, 3) := by decide +kernel
theorem dX2_keep_69 : decode cX2_keep 69 = .ok (.iastore, 1) := by decide +kernel
theorem dX2_keep_70 : decode cX2_keep 70 = .ok (.aload_n 0, 1) := by decide +kernel
theorem dX2_keep_71 : decode cX2_keep 71 = .ok (.getfield 24, 3) := by decide +kernel
theorem dX2_keep_74 : decode cX2_keep 74 = .ok (.aload_n 0, 1) := by decide +kernel
theorem dX2_keep_75 : decode cX2_keep 75 = .ok (.getfield 27, 3) := by decide +kernel
theorem dX2_keep_78 : decode cX2_keep 78 = .ok (.aload_n 1, 1) := by decide +kernel
theorem dX2_keep_79 : decode cX2_keep 79 = .ok (.getfield 42, 3) := by decide +kernel
theorem dX2_keep_82 : decode cX2_keep 82 = .ok (.iastore, 1) := by decide +kernel
theorem dX2_keep_83 : decode cX2_keep 83 = .ok (.aload_n 0, 1) := by decide +kernel
theorem dX2_keep_84 : decode cX2_keep 84 = .ok (.dup, 1) := by decide +kernel
theorem dX2_keep_85 : decode cX2_keep 85 = .ok (.getfield 27, 3) := by decide +kernel
theorem dX2_keep_88 : decode cX2_keep 88 = .ok (.iconst 1, 1) := by decide +kernel
theorem dX2_keep_89 : decode cX2_keep 89 = .ok (.iadd, 1) := by decide +kernel
theorem dX2_keep_90 : decode cX2_keep 90 = .ok (.putfield 27, 3) := by decide +kernel
theorem dX2_keep_93 : decode cX2_keep 93 = .ok (.aload_n 0, 1) := by decide +kernel
theorem dX2_keep_94 : decode cX2_keep 94 = .ok (.aload_n 0, 1) := by decide +kernel
theorem dX2_keep_95 : decode cX2_keep 95 = .ok (.getfield 45, 3) := by decide +kernel
theorem dX2_keep_98 : decode cX2_keep 98 = .ok (.iconst 1, 1) := by decide +kernel
theorem dX2_keep_99 : decode cX2_keep 99 = .ok (.iadd, 1) := by decide +kernel
theorem dX2_keep_100 : decode cX2_keep 100 = .ok (.bipush 40, 2) := by decide +kernel
theorem dX2_keep_102 : decode cX2_keep 102 = .ok (.invokestatic 48, 3) := by decide +kernel
theorem dX2_keep_105 : decode cX2_keep 105 = .ok (.putfield 45, 3) := by decide +kernel
theorem dX2_keep_108 : decode cX2_keep 108 = .ok (.aload_n 0, 1) := by decide +kernel
theorem dX2_keep_109 : decode cX2_keep 109 = .ok (.dup, 1) := by decide +kernel
theorem dX2_keep_110 : decode cX2_keep 110 = .ok (.getfield 54, 3) := by decide +kernel
theorem dX2_keep_113 : decode cX2_keep 113 = .ok (.iconst 1, 1) := by decide +kernel
theorem dX2_keep_114 : decode cX2_keep 114 = .ok (.iadd, 1) := by decide +kernel
theorem dX2_keep_115 : decode cX2_keep 115 = .ok (.putfield 54, 3) := by decide +kernel
theorem dX2_keep_118 : decode cX2_keep 118 = .ok (.return_, 1) := by decide +kernel
theorem dX2_placeOf_0 : decode cX2_placeOf 0 = .ok (.iload_n 1, 1) := by decide +kernel
theorem dX2_placeOf_1 : decode cX2_placeOf 1 = .ok (.iconst 0, 1) := by decide +kernel
theorem dX2_placeOf_2 : decode cX2_placeOf 2 = .ok (.aload_n 0, 1) := by decide +kernel
theorem dX2_placeOf_3 : decode cX2_placeOf 3 = .ok (.getfield 45, 3) := by decide +kernel
theorem dX2_placeOf_6 : decode cX2_placeOf 6 = .ok (.iconst 1, 1) := by decide +kernel
theorem dX2_placeOf_7 : decode cX2_placeOf 7 = .ok (.isub, 1) := by decide +kernel
theorem dX2_placeOf_8 : decode cX2_placeOf 8 = .ok (.invokestatic 57, 3) := by decide +kernel
theorem dX2_placeOf_11 : decode cX2_placeOf 11 = .ok (.ifCond .ne 5, 3) := by decide +kernel
theorem dX2_placeOf_14 : decode cX2_placeOf 14 = .ok (.iconst (-1), 1) := by decide +kernel
theorem dX2_placeOf_15 : decode cX2_placeOf 15 = .ok (.ireturn, 1) := by decide +kernel
theorem dX2_placeOf_16 : decode cX2_placeOf 16 = .ok (.aload_n 0, 1) := by decide +kernel
theorem dX2_placeOf_17 : decode cX2_placeOf 17 = .ok (.getfield 27, 3) := by decide +kernel
theorem dX2_placeOf_20 : decode cX2_placeOf 20 = .ok (.aload_n 0, 1) := by decide +kernel
theorem dX2_placeOf_21 : decode cX2_placeOf 21 = .ok (.getfield 45, 3) := by decide +kernel
theorem dX2_placeOf_24 : decode cX2_placeOf 24 = .ok (.isub, 1) := by decide +kernel
theorem dX2_placeOf_25 : decode cX2_placeOf 25 = .ok (.iload_n 1, 1) := by decide +kernel
theorem dX2_placeOf_26 : decode cX2_placeOf 26 = .ok (.iadd, 1) := by decide +kernel
theorem dX2_placeOf_27 : decode cX2_placeOf 27 = .ok (.bipush 40, 2) := by decide +kernel
theorem dX2_placeOf_29 : decode cX2_placeOf 29 = .ok (.invokestatic 61, 3) := by decide +kernel
theorem dX2_placeOf_32 : decode cX2_placeOf 32 = .ok (.ireturn, 1) := by decide +kernel
theorem dX3_init_0 : decode cX3_init 0 = .ok (.aload_n 0, 1) := by decide +kernel
theorem dX3_init_1 : decode cX3_init 1 = .ok (.invokespecial 3, 3) := by decide +kernel
theorem dX3_init_4 : decode cX3_init 4 = .ok (.aload_n 0, 1) := by decide +kernel
theorem dX3_init_5 : decode cX3_init 5 = .ok (.bipush 40, 2) := by decide +kernel
theorem dX3_init_7 : decode cX3_init 7 = .ok (.newarray .long, 2) := by decide +kernel
theorem dX3_init_9 : decode cX3_init 9 = .ok (.putfield 9, 3) := by decide +kernel
theorem dX3_init_12 : decode cX3_init 12 = .ok (.return_, 1) := by decide +kernel
theorem dX3_empty_0 : decode cX3_empty 0 = .ok (.aload_n 0, 1) := by decide +kernel
theorem dX3_empty_1 : decode cX3_empty 1 = .ok (.iconst 0, 1) := by decide +kernel
theorem dX3_empty_2 : decode cX3_empty 2 = .ok (.putfield 15, 3) := by decide +kernel
theorem dX3_empty_5 : decode cX3_empty 5 = .ok (.return_, 1) := by decide +kernel
theorem dX3_put_0 : decode cX3_put 0 = .ok (.aload_n 0, 1) := by decide +kernel
theorem dX3_put_1 : decode cX3_put 1 = .ok (.getfield 15, 3) := by decide +kernel
theorem dX3_put_4 : decode cX3_put 4 = .ok (.ifCond .lt 35, 3) := by decide +kernel
theorem dX3_put_7 : decode cX3_put 7 = .ok (.aload_n 0, 1) := by decide +kernel
theorem dX3_put_8 : decode cX3_put 8 = .ok (.getfield 15, 3) := by decide +kernel
theorem dX3_put_11 : decode cX3_put 11 = .ok (.aload_n 0, 1) := by decide +kernel
theorem dX3_put_12 : decode cX3_put 12 = .ok (.getfield 9, 3) := by decide +kernel
theorem dX3_put_15 : decode cX3_put 15 = .ok (.arraylength, 1) := by decide +kernel
theorem dX3_put_16 : decode cX3_put 16 = .ok (.if_icmp .ge 23, 3) := by decide +kernel
theorem dX3_put_19 : decode cX3_put 19 = .ok (.aload_n 0, 1) := by decide +kernel
theorem dX3_put_20 : decode cX3_put 20 = .ok (.getfield 9, 3) := by decide +kernel
theorem dX3_put_23 : decode cX3_put 23 = .ok (.aload_n 0, 1) := by decide +kernel
theorem dX3_put_24 : decode cX3_put 24 = .ok (.getfield 15, 3) := by decide +kernel
theorem dX3_put_27 : decode cX3_put 27 = .ok (.lload_n 1, 1) := by decide +kernel
theorem dX3_put_28 : decode cX3_put 28 = .ok (.lastore, 1) := by decide +kernel
theorem dX3_put_29 : decode cX3_put 29 = .ok (.aload_n 0, 1) := by decide +kernel
theorem dX3_put_30 : decode cX3_put 30 = .ok (.dup, 1) := by decide +kernel
theorem dX3_put_31 : decode cX3_put 31 = .ok (.getfield 15, 3) := by decide +kernel
theorem dX3_put_34 : decode cX3_put 34 = .ok (.iconst 1, 1) := by decide +kernel
theorem dX3_put_35 : decode cX3_put 35 = .ok (.iadd, 1) := by decide +kernel
theorem dX3_put_36 : decode cX3_put 36 = .ok (.putfield 15, 3) := by decide +kernel
theorem dX3_put_39 : decode cX3_put 39 = .ok (.return_, 1) := by decide +kernel
theorem dX4_init_0 : decode cX4_init 0 = .ok (.aload_n 0, 1) := by decide +kernel
theorem dX4_init_1 : decode cX4_init 1 = .ok (.invokespecial 3, 3) := by decide +kernel
theorem dX4_init_4 : decode cX4_init 4 = .ok (.aload_n 0, 1) := by decide +kernel
theorem dX4_init_5 : decode cX4_init 5 = .ok (.iconst 4, 1) := by decide +kernel
theorem dX4_init_6 : decode cX4_init 6 = .ok (.newarray .int, 2) := by decide +kernel
theorem dX4_init_8 : decode cX4_init 8 = .ok (.putfield 9, 3) := by decide +kernel
theorem dX4_init_11 : decode cX4_init 11 = .ok (.aload_n 0, 1) := by decide +kernel
theorem dX4_init_12 : decode cX4_init 12 = .ok (.iconst 4, 1) := by decide +kernel
theorem dX4_init_13 : decode cX4_init 13 = .ok (.newarray .int, 2) := by decide +kernel
theorem dX4_init_15 : decode cX4_init 15 = .ok (.putfield 15, 3) := by decide +kernel
theorem dX4_init_18 : decode cX4_init 18 = .ok (.return_, 1) := by decide +kernel
theorem dX4_isPossible_0 : decode cX4_isPossible 0 = .ok (.iload_n 0, 1) := by decide +kernel
theorem dX4_isPossible_1 : decode cX4_isPossible 1 = .ok (.invokestatic 18, 3) := by decide +kernel
theorem dX4_isPossible_4 : decode cX4_isPossible 4 = .ok (.ifCond .eq 28, 3) := by decide +kernel
theorem dX4_isPossible_7 : decode cX4_isPossible 7 = .ok (.iload_n 1, 1) := by decide +kernel
theorem dX4_isPossible_8 : decode cX4_isPossible 8 = .ok (.invokestatic 22, 3) := by decide +kernel
theorem dX4_isPossible_11 : decode cX4_isPossible 11 = .ok (.ifCond .eq 21, 3) := by decide +kernel
theorem dX4_isPossible_14 : decode cX4_isPossible 14 = .ok (.iload_n 2, 1) := by decide +kernel
theorem dX4_isPossible_15 : decode cX4_isPossible 15 = .ok (.invokestatic 22, 3) := by decide +kernel
theorem dX4_isPossible_18 : decode cX4_isPossible 18 = .ok (.ifCond .eq 14, 3) := by decide +kernel
theorem dX4_isPossible_21 : decode cX4_isPossible 21 = .ok (.iload_n 3, 1) := by decide +kernel
theorem dX4_isPossible_22 : decode cX4_isPossible 22 = .ok (.invokestatic 22, 3) := by decide +kernel
theorem dX4_isPossible_25 : decode cX4_isPossible 25 = .ok (.ifCond .eq 7, 3) := by decide +kernel
theorem dX4_isPossible_28 : decode cX4_isPossible 28 = .ok (.iconst 1, 1) := by decide +kernel
theorem dX4_isPossible_29 : decode cX4_isPossible 29 = .ok (.goto 4, 3) := by decide +kernel
theorem dX4_isPossible_32 : decode cX4_isPossible 32 = .ok (.iconst 0, 1) := by decide +kernel
theorem dX4_isPossible_33 : decode cX4_isPossible 33 = .ok (.istore 4, 2) := by decide +kernel
theorem dX4_isPossible_35 : decode cX4_isPossible 35 = .ok (.iload_n 1, 1) := by decide +kernel
theorem dX4_isPossible_36 : decode cX4_isPossible 36 = .ok (.ifCond .ne 7, 3) := by decide +kernel
theorem dX4_isPossible_39 : decode cX4_isPossible 39 = .ok (.iload_n 2, 1) := by decide +kernel
theorem dX4_isPossible_40 : decode cX4_isPossible 40 = .ok (.ifCond .ne 15, 3) := by decide +kernel
theorem dX4_isPossible_43 : decode cX4_isPossible 43 = .ok (.iload_n 2, 1) := by decide +kernel
theorem dX4_isPossible_44 : decode cX4_isPossible 44 = .ok (.ifCond .ne 7, 3) := by decide +kernel
theorem dX4_isPossible_47 : decode cX4_isPossible 47 = .ok (.iload_n 3, 1) := by decide +kernel
theorem dX4_isPossible_48 : decode cX4_isPossible 48 = .ok (.ifCond .ne 7, 3) := by decide +kernel
theorem dX4_isPossible_51 : decode cX4_isPossible 51 = .ok (.iconst 1, 1) := by decide +kernel
theorem dX4_isPossible_52 : decode cX4_isPossible 52 = .ok (.goto 4, 3) := by decide +kernel
theorem dX4_isPossible_55 : decode cX4_isPossible 55 = .ok (.iconst 0, 1) := by decide +kernel
theorem dX4_isPossible_56 : decode cX4_isPossible 56 = .ok (.istore 5, 2) := by decide +kernel
theorem dX4_isPossible_58 : decode cX4_isPossible 58 = .ok (.iload 4, 2) := by decide +kernel
theorem dX4_isPossible_60 : decode cX4_isPossible 60 = .ok (.ifCond .eq 12, 3) := by decide +kernel
theorem dX4_isPossible_63 : decode cX4_isPossible 63 = .ok (.iload 5, 2) := by decide +kernel
theorem dX4_isPossible_65 : decode cX4_isPossible 65 = .ok (.ifCond .eq 7, 3) := by decide +kernel
theorem dX4_isPossible_68 : decode cX4_isPossible 68 = .ok (.iconst 1, 1) := by decide +kernel
theorem dX4_isPossible_69 : decode cX4_isPossible 69 = .ok (.goto 4, 3) := by decide +kernel
theorem dX4_isPossible_72 : decode cX4_isPossible 72 = .ok (.iconst 0, 1) := by decide +kernel
theorem dX4_isPossible_73 : decode cX4_isPossible 73 = .ok (.ireturn, 1) := by decide +kernel
theorem dX4_isSize_0 : decode cX4_isSize 0 = .ok (.iload_n 0, 1) := by decide +kernel
theorem dX4_isSize_1 : decode cX4_isSize 1 = .ok (.iconst 2, 1) := by decide +kernel
theorem dX4_isSize_2 : decode cX4_isSize 2 = .ok (.bipush 16, 2) := by decide +kernel
theorem dX4_isSize_4 : decode cX4_isSize 4 = .ok (.invokestatic 25, 3) := by decide +kernel
theorem dX4_isSize_7 : decode cX4_isSize 7 = .ok (.ireturn, 1) := by decide +kernel
theorem dX4_isSizeOrNone_0 : decode cX4_isSizeOrNone 0 = .ok (.iload_n 0, 1) := by decide +kernel
theorem dX4_isSizeOrNone_1 : decode cX4_isSizeOrNone 1 = .ok (.ifCond .eq 10, 3) := by decide +kernel
theorem dX4_isSizeOrNone_4 : decode cX4_isSizeOrNone 4 = .ok (.iload_n 0, 1) := by decide +kernel
theorem dX4_isSizeOrNone_5 : decode cX4_isSizeOrNone 5 = .ok (.invokestatic 18, 3) := by decide +kernel
theorem dX4_isSizeOrNone_8 : decode cX4_isSizeOrNone 8 = .ok (.ifCond .eq 7, 3) := by decide +kernel
theorem dX4_isSizeOrNone_11 : decode cX4_isSizeOrNone 11 = .ok (.iconst 1, 1) := by decide +kernel
theorem dX4_isSizeOrNone_12 : decode cX4_isSizeOrNone 12 = .ok (.goto 4, 3) := by decide +kernel
theorem dX4_isSizeOrNone_15 : decode cX4_isSizeOrNone 15 = .ok (.iconst 0, 1) := by decide +kernel
theorem dX4_isSizeOrNone_16 : decode cX4_isSizeOrNone 16 = .ok (.ireturn, 1) := by decide +kernel
theorem dX4_isOf_0 : decode cX4_isOf 0 = .ok (.aload_n 0, 1) := by decide +kernel
theorem dX4_isOf_1 : decode cX4_isOf 1 = .ok (.iconst 0, 1) := by decide +kernel
theorem dX4_isOf_2 : decode cX4_isOf 2 = .ok (.invokevirtual 29, 3) := by decide +kernel
theorem dX4_isOf_5 : decode cX4_isOf 5 = .ok (.iload_n 1, 1) := by decide +kernel
theorem dX4_isOf_6 : decode cX4_isOf 6 = .ok (.if_icmp .ne 35, 3) := by decide +kernel
theorem dX4_isOf_9 : decode cX4_isOf 9 = .ok (.aload_n 0, 1) := by decide +kernel
theorem dX4_isOf_10 : decode cX4_isOf 10 = .ok (.iconst 1, 1) := by decide +kernel
theorem dX4_isOf_11 : decode cX4_isOf 11 = .ok (.invokevirtual 29, 3) := by decide +kernel
theorem dX4_isOf_14 : decode cX4_isOf 14 = .ok (.iload_n 2, 1) := by decide +kernel
theorem dX4_isOf_15 : decode cX4_isOf 15 = .ok (.if_icmp .ne 26, 3) := by decide +kernel
theorem dX4_isOf_18 : decode cX4_isOf 18 = .ok (.aload_n 0, 1) := by decide +kernel
theorem dX4_isOf_19 : decode cX4_isOf 19 = .ok (.iconst 2, 1) := by decide +kernel
theorem dX4_isOf_20 : decode cX4_isOf 20 = .ok (.invokevirtual 29, 3) := by decide +kernel
theorem dX4_isOf_23 : decode cX4_isOf 23 = .ok (.iload_n 3, 1) := by decide +kernel
theorem dX4_isOf_24 : decode cX4_isOf 24 = .ok (.if_icmp .ne 17, 3) := by decide +kernel
theorem dX4_isOf_27 : decode cX4_isOf 27 = .ok (.aload_n 0, 1) := by decide +kernel
theorem dX4_isOf_28 : decode cX4_isOf 28 = .ok (.iconst 3, 1) := by decide +kernel
theorem dX4_isOf_29 : decode cX4_isOf 29 = .ok (.invokevirtual 29, 3) := by decide +kernel
theorem dX4_isOf_32 : decode cX4_isOf 32 = .ok (.iload 4, 2) := by decide +kernel
theorem dX4_isOf_34 : decode cX4_isOf 34 = .ok (.if_icmp .ne 7, 3) := by decide +kernel
theorem dX4_isOf_37 : decode cX4_isOf 37 = .ok (.iconst 1, 1) := by decide +kernel
theorem dX4_isOf_38 : decode cX4_isOf 38 = .ok (.goto 4, 3) := by decide +kernel
theorem dX4_isOf_41 : decode cX4_isOf 41 = .ok (.iconst 0, 1) := by decide +kernel
theorem dX4_isOf_42 : decode cX4_isOf 42 = .ok (.ireturn, 1) := by decide +kernel
theorem dX4_become_0 : decode cX4_become 0 = .ok (.aload_n 0, 1) := by decide +kernel
theorem dX4_become_1 : decode cX4_become 1 = .ok (.iconst 0, 1) := by decide +kernel
theorem dX4_become_2 : decode cX4_become 2 = .ok (.putfield 33, 3) := by decide +kernel
theorem dX4_become_5 : decode cX4_become 5 = .ok (.aload_n 0, 1) := by decide +kernel
theorem dX4_become_6 : decode cX4_become 6 = .ok (.iconst 1, 1) := by decide +kernel
theorem dX4_become_7 : decode cX4_become 7 = .ok (.putfield 37, 3) := by decide +kernel
theorem dX4_become_10 : decode cX4_become 10 = .ok (.iconst 0, 1) := by decide +kernel
theorem dX4_become_11 : decode cX4_become 11 = .ok (.istore 5, 2) := by decide +kernel
theorem dX4_become_13 : decode cX4_become 13 = .ok (.iload 5, 2) := by decide +kernel
theorem dX4_become_15 : decode cX4_become 15 = .ok (.iconst 4, 1) := by decide +kernel
theorem dX4_become_16 : decode cX4_become 16 = .ok (.if_icmp .ge 88, 3) := by decide +kernel
theorem dX4_become_19 : decode cX4_become 19 = .ok (.iload 5, 2) := by decide +kernel
theorem dX4_become_21 : decode cX4_become 21 = .ok (.ifCond .ne 7, 3) := by decide +kernel
theorem dX4_become_24 : decode cX4_become 24 = .ok (.iload_n 1, 1) := by decide +kernel
theorem dX4_become_25 : decode cX4_become 25 = .ok (.goto 25, 3) := by decide +kernel
theorem dX4_become_28 : decode cX4_become 28 = .ok (.iload 5, 2) := by decide +kernel
theorem dX4_become_30 : decode cX4_become 30 = .ok (.iconst 1, 1) := by decide +kernel
theorem dX4_become_31 : decode cX4_become 31 = .ok (.if_icmp .ne 7, 3) := by decide +kernel
theorem dX4_become_34 : decode cX4_become 34 = .ok (.iload_n 2, 1) := by decide +kernel
theorem dX4_become_35 : decode cX4_become 35 = .ok (.goto 15, 3) := by decide +kernel
theorem dX4_become_38 : decode cX4_become 38 = .ok (.iload 5, 2) := by decide +kernel
theorem dX4_become_40 : decode cX4_become 40 = .ok (.iconst 2, 1) := by decide +kernel
theorem dX4_become_41 : decode cX4_become 41 = .ok (.if_icmp .ne 7, 3) := by decide +kernel
theorem dX4_become_44 : decode cX4_become 44 = .ok (.iload_n 3, 1) := by decide +kernel
theorem dX4_become_45 : decode cX4_become 45 = .ok (.goto 5, 3) := by decide +kernel
theorem dX4_become_48 : decode cX4_become 48 = .ok (.iload 4, 2) := by decide +kernel
theorem dX4_become_50 : decode cX4_become 50 = .ok (.istore 6, 2) := by decide +kernel
theorem dX4_become_52 : decode cX4_become 52 = .ok (.aload_n 0, 1) := by decide +kernel
theorem dX4_become_53 : decode cX4_become 53 = .ok (.getfield 9, 3) := by decide +kernel
theorem dX4_become_56 : decode cX4_become 56 = .ok (.iload 5, 2) := by decide +kernel
theorem dX4_become_58 : decode cX4_become 58 = .ok (.iload 6, 2) := by decide +kernel
theorem dX4_become_60 : decode cX4_become 60 = .ok (.iastore, 1) := by decide +kernel
theorem dX4_become_61 : decode cX4_become 61 = .ok (.aload_n 0, 1) := by decide +kernel
theorem dX4_become_62 : decode cX4_become 62 = .ok (.getfield 15, 3) := by decide +kernel
theorem dX4_become_65 : decode cX4_become 65 = .ok (.iload 5, 2) := by decide +kernel
theorem dX4_become_67 : decode cX4_become 67 = .ok (.aload_n 0, 1) := by decide +kernel
theorem dX4_become_68 : decode cX4_become 68 = .ok (.getfield 37, 3) := by decide +kernel
theorem dX4_become_71 : decode cX4_become 71 = .ok (.iastore, 1) := by decide +kernel
theorem dX4_become_72 : decode cX4_become 72 = .ok (.iload 6, 2) := by decide +kernel
theorem dX4_become_74 : decode cX4_become 74 = .ok (.ifCond .le 24, 3) := by decide +kernel
theorem dX4_become_77 : decode cX4_become 77 = .ok (.aload_n 0, 1) := by decide +kernel
theorem dX4_become_78 : decode cX4_become 78 = .ok (.dup, 1) := by decide +kernel
theorem dX4_become_79 : decode cX4_become 79 = .ok (.getfield 33, 3) := by decide +kernel
theorem dX4_become_82 : decode cX4_become 82 = .ok (.iconst 1, 1) := by decide +kernel
theorem dX4_become_83 : decode cX4_become 83 = .ok (.iadd, 1) := by decide +kernel
theorem dX4_become_84 : decode cX4_become 84 = .ok (.putfield 33, 3) := by decide +kernel
theorem dX4_become_87 : decode cX4_become 87 = .ok (.aload_n 0, 1) := by decide +kernel
theorem dX4_become_88 : decode cX4_become 88 = .ok (.dup, 1) := by decide +kernel
theorem dX4_become_89 : decode cX4_become 89 = .ok (.getfield 37, 3) := by decide +kernel
theorem dX4_become_92 : decode cX4_become 92 = .ok (.iload 6, 2) := by decide +kernel
theorem dX4_become_94 : decode cX4_become 94 = .ok (.imul, 1) := by decide +kernel
theorem dX4_become_95 : decode cX4_become 95 = .ok (.putfield 37, 3) := by decide +kernel
theorem dX4_become_98 : decode cX4_become 98 = .ok (.iinc 5 1, 3) := by decide +kernel
theorem dX4_become_101 : decode cX4_become 101 = .ok (.goto (-88), 3) := by decide +kernel
theorem dX4_become_104 : decode cX4_become 104 = .ok (.return_, 1) := by decide +kernel
theorem dX4_copy_0 : decode cX4_copy 0 = .ok (.aload_n 0, 1) := by decide +kernel
theorem dX4_copy_1 : decode cX4_copy 1 = .ok (.aload_n 1, 1) := by decide +kernel
theorem dX4_copy_2 : decode cX4_copy 2 = .ok (.iconst 0, 1) := by decide +kernel
theorem dX4_copy_3 : decode cX4_copy 3 = .ok (.invokevirtual 29, 3) := by decide +kernel
theorem dX4_copy_6 : decode cX4_copy 6 = .ok (.aload_n 1, 1) := by decide +kernel
theorem dX4_copy_7 : decode cX4_copy 7 = .ok (.iconst 1, 1) := by decide +kernel
theorem dX4_copy_8 : decode cX4_copy 8 = .ok (.invokevirtual 29, 3) := by decide +kernel
theorem dX4_copy_11 : decode cX4_copy 11 = .ok (.aload_n 1, 1) := by decide +kernel
theorem dX4_copy_12 : decode cX4_copy 12 = .ok (.iconst 2, 1) := by decide +kernel
theorem dX4_copy_13 : decode cX4_copy 13 = .ok (.invokevirtual 29, 3) := by decide +kernel
theorem dX4_copy_16 : decode cX4_copy 16 = .ok (.aload_n 1, 1) := by decide +kernel
theorem dX4_copy_17 : decode cX4_copy 17 = .ok (.iconst 3, 1) := by decide +kernel
theorem dX4_copy_18 : decode cX4_copy 18 = .ok (.invokevirtual 29, 3) := by decide +kernel
theorem dX4_copy_21 : decode cX4_copy 21 = .ok (.invokevirtual 40, 3) := by decide +kernel
theorem dX4_copy_24 : decode cX4_copy 24 = .ok (.return_, 1) := by decide +kernel
theorem dX4_hasLevel_0 : decode cX4_hasLevel 0 = .ok (.iload_n 1, 1) := by decide +kernel
theorem dX4_hasLevel_1 : decode cX4_hasLevel 1 = .ok (.iconst 0, 1) := by decide +kernel
theorem dX4_hasLevel_2 : decode cX4_hasLevel 2 = .ok (.aload_n 0, 1) := by decide +kernel
theorem dX4_hasLevel_3 : decode cX4_hasLevel 3 = .ok (.getfield 33, 3) := by decide +kernel
theorem dX4_hasLevel_6 : decode cX4_hasLevel 6 = .ok (.iconst 1, 1) := by decide +kernel
theorem dX4_hasLevel_7 : decode cX4_hasLevel 7 = .ok (.isub, 1) := by decide +kernel
theorem dX4_hasLevel_8 : decode cX4_hasLevel 8 = .ok (.invokestatic 25, 3) := by decide +kernel
theorem dX4_hasLevel_11 : decode cX4_hasLevel 11 = .ok (.ireturn, 1) := by decide +kernel
theorem dX4_sizeOf_0 : decode cX4_sizeOf 0 = .ok (.iload_n 1, 1) := by decide +kernel
theorem dX4_sizeOf_1 : decode cX4_sizeOf 1 = .ok (.ifCond .lt 8, 3) := by decide +kernel
theorem dX4_sizeOf_4 : decode cX4_sizeOf 4 = .ok (.iload_n 1, 1) := by decide +kernel
theorem dX4_sizeOf_5 : decode cX4_sizeOf 5 = .ok (.iconst 4, 1) := by decide +kernel
theorem dX4_sizeOf_6 : decode cX4_sizeOf 6 = .ok (.if_icmp .lt 7, 3) := by decide +kernel
theorem dX4_sizeOf_9 : decode cX4_sizeOf 9 = .ok (.iconst 0, 1) := by decide +kernel
theorem dX4_sizeOf_10 : decode cX4_sizeOf 10 = .ok (.goto 9, 3) := by decide +kernel
theorem dX4_sizeOf_13 : decode cX4_sizeOf 13 = .ok (.aload_n 0, 1) := by decide +kernel
theorem dX4_sizeOf_14 : decode cX4_sizeOf 14 = .ok (.getfield 9, 3) := by decide +kernel
theorem dX4_sizeOf_17 : decode cX4_sizeOf 17 = .ok (.iload_n 1, 1) := by decide +kernel
theorem dX4_sizeOf_18 : decode cX4_sizeOf 18 = .ok (.iaload, 1) := by decide +kernel
theorem dX4_sizeOf_19 : decode cX4_sizeOf 19 = .ok (.ireturn, 1) := by decide +kernel
theorem dX4_spanOf_0 : decode cX4_spanOf 0 = .ok (.iload_n 1, 1) := by decide +kernel
theorem dX4_spanOf_1 : decode cX4_spanOf 1 = .ok (.ifCond .lt 8, 3) := by decide +kernel
theorem dX4_spanOf_4 : decode cX4_spanOf 4 = .ok (.iload_n 1, 1) := by decide +kernel
theorem dX4_spanOf_5 : decode cX4_spanOf 5 = .ok (.iconst 4, 1) := by decide +kernel
theorem dX4_spanOf_6 : decode cX4_spanOf 6 = .ok (.if_icmp .lt 10, 3) := by decide +kernel
theorem dX4_spanOf_9 : decode cX4_spanOf 9 = .ok (.aload_n 0, 1) := by decide +kernel
theorem dX4_spanOf_10 : decode cX4_spanOf 10 = .ok (.getfield 37, 3) := by decide +kernel
theorem dX4_spanOf_13 : decode cX4_spanOf 13 = .ok (.goto 9, 3) := by decide +kernel
theorem dX4_spanOf_16 : decode cX4_spanOf 16 = .ok (.aload_n 0, 1) := by decide +kernel
theorem dX4_spanOf_17 : decode cX4_spanOf 17 = .ok (.getfield 15, 3) := by decide +kernel
theorem dX4_spanOf_20 : decode cX4_spanOf 20 = .ok (.iload_n 1, 1) := by decide +kernel
theorem dX4_spanOf_21 : decode cX4_spanOf 21 = .ok (.iaload, 1) := by decide +kernel
theorem dX4_spanOf_22 : decode cX4_spanOf 22 = .ok (.ireturn, 1) := by decide +kernel
theorem dX4_levelFor_0 : decode cX4_levelFor 0 = .ok (.iconst 0, 1) := by decide +kernel
theorem dX4_levelFor_1 : decode cX4_levelFor 1 = .ok (.istore_n 2, 1) := by decide +kernel
theorem dX4_levelFor_2 : decode cX4_levelFor 2 = .ok (.iload_n 2, 1) := by decide +kernel
theorem dX4_levelFor_3 : decode cX4_levelFor 3 = .ok (.aload_n 0, 1) := by decide +kernel
theorem dX4_levelFor_4 : decode cX4_levelFor 4 = .ok (.getfield 33, 3) := by decide +kernel
theorem dX4_levelFor_7 : decode cX4_levelFor 7 = .ok (.if_icmp .ge 33, 3) := by decide +kernel
theorem dX4_levelFor_10 : decode cX4_levelFor 10 = .ok (.iload_n 2, 1) := by decide +kernel
theorem dX4_levelFor_11 : decode cX4_levelFor 11 = .ok (.iconst 4, 1) := by decide +kernel
theorem dX4_levelFor_12 : decode cX4_levelFor 12 = .ok (.if_icmp .ge 28, 3) := by decide +kernel
theorem dX4_levelFor_15 : decode cX4_levelFor 15 = .ok (.aload_n 0, 1) := by decide +kernel
theorem dX4_levelFor_16 : decode cX4_levelFor 16 = .ok (.getfield 9, 3) := by decide +kernel
theorem dX4_levelFor_19 : decode cX4_levelFor 19 = .ok (.iload_n 2, 1) := by decide +kernel
theorem dX4_levelFor_20 : decode cX4_levelFor 20 = .ok (.iaload, 1) := by decide +kernel
theorem dX4_levelFor_21 : decode cX4_levelFor 21 = .ok (.aload_n 0, 1) := by decide +kernel
theorem dX4_levelFor_22 : decode cX4_levelFor 22 = .ok (.getfield 15, 3) := by decide +kernel
theorem dX4_levelFor_25 : decode cX4_levelFor 25 = .ok (.iload_n 2, 1) := by decide +kernel
theorem dX4_levelFor_26 : decode cX4_levelFor 26 = .ok (.iaload, 1) := by decide +kernel
theorem dX4_levelFor_27 : decode cX4_levelFor 27 = .ok (.imul, 1) := by decide +kernel
theorem dX4_levelFor_28 : decode cX4_levelFor 28 = .ok (.iload_n 1, 1) := by decide +kernel
theorem dX4_levelFor_29 : decode cX4_levelFor 29 = .ok (.if_icmp .le 5, 3) := by decide +kernel
theorem dX4_levelFor_32 : decode cX4_levelFor 32 = .ok (.iload_n 2, 1) := by decide +kernel
theorem dX4_levelFor_33 : decode cX4_levelFor 33 = .ok (.ireturn, 1) := by decide +kernel
theorem dX4_levelFor_34 : decode cX4_levelFor 34 = .ok (.iinc 2 1, 3) := by decide +kernel
theorem dX4_levelFor_37 : decode cX4_levelFor 37 = .ok (.goto (-35), 3) := by decide +kernel
theorem dX4_levelFor_40 : decode cX4_levelFor 40 = .ok (.iconst (-1), 1) := by decide +kernel
theorem dX4_levelFor_41 : decode cX4_levelFor 41 = .ok (.ireturn, 1) := by decide +kernel
theorem dX4_slotFor_0 : decode cX4_slotFor 0 = .ok (.iload_n 1, 1) := by decide +kernel
theorem dX4_slotFor_1 : decode cX4_slotFor 1 = .ok (.ifCond .lt 28, 3) := by decide +kernel
theorem dX4_slotFor_4 : decode cX4_slotFor 4 = .ok (.iload_n 1, 1) := by decide +kernel
theorem dX4_slotFor_5 : decode cX4_slotFor 5 = .ok (.iconst 4, 1) := by decide +kernel
theorem dX4_slotFor_6 : decode cX4_slotFor 6 = .ok (.if_icmp .ge 23, 3) := by decide +kernel
theorem dX4_slotFor_9 : decode cX4_slotFor 9 = .ok (.aload_n 0, 1) := by decide +kernel
theorem dX4_slotFor_10 : decode cX4_slotFor 10 = .ok (.getfield 15, 3) := by decide +kernel
theorem dX4_slotFor_13 : decode cX4_slotFor 13 = .ok (.iload_n 1, 1) := by decide +kernel
theorem dX4_slotFor_14 : decode cX4_slotFor 14 = .ok (.iaload, 1) := by decide +kernel
theorem dX4_slotFor_15 : decode cX4_slotFor 15 = .ok (.iconst 1, 1) := by decide +kernel
theorem dX4_slotFor_16 : decode cX4_slotFor 16 = .ok (.if_icmp .lt 13, 3) := by decide +kernel
theorem dX4_slotFor_19 : decode cX4_slotFor 19 = .ok (.aload_n 0, 1) := by decide +kernel
theorem dX4_slotFor_20 : decode cX4_slotFor 20 = .ok (.getfield 9, 3) := by decide +kernel
theorem dX4_slotFor_23 : decode cX4_slotFor 23 = .ok (.iload_n 1, 1) := by decide +kernel
theorem dX4_slotFor_24 : decode cX4_slotFor 24 = .ok (.iaload, 1) := by decide +kernel
theorem dX4_slotFor_25 : decode cX4_slotFor 25 = .ok (.iconst 1, 1) := by decide +kernel
theorem dX4_slotFor_26 : decode cX4_slotFor 26 = .ok (.if_icmp .ge 5, 3) := by decide +kernel
theorem dX4_slotFor_29 : decode cX4_slotFor 29 = .ok (.iconst 0, 1) := by decide +kernel
theorem dX4_slotFor_30 : decode cX4_slotFor 30 = .ok (.ireturn, 1) := by decide +kernel
theorem dX4_slotFor_31 : decode cX4_slotFor 31 = .ok (.iload_n 2, 1) := by decide +kernel
theorem dX4_slotFor_32 : decode cX4_slotFor 32 = .ok (.aload_n 0, 1) := by decide +kernel
theorem dX4_slotFor_33 : decode cX4_slotFor 33 = .ok (.getfield 15, 3) := by decide +kernel
theorem dX4_slotFor_36 : decode cX4_slotFor 36 = .ok (.iload_n 1, 1) := by decide +kernel
theorem dX4_slotFor_37 : decode cX4_slotFor 37 = .ok (.iaload, 1) := by decide +kernel
theorem dX4_slotFor_38 : decode cX4_slotFor 38 = .ok (.idiv, 1) := by decide +kernel
theorem dX4_slotFor_39 : decode cX4_slotFor 39 = .ok (.aload_n 0, 1) := by decide +kernel
theorem dX4_slotFor_40 : decode cX4_slotFor 40 = .ok (.getfield 9, 3) := by decide +kernel
theorem dX4_slotFor_43 : decode cX4_slotFor 43 = .ok (.iload_n 1, 1) := by decide +kernel
theorem dX4_slotFor_44 : decode cX4_slotFor 44 = .ok (.iaload, 1) := by decide +kernel
theorem dX4_slotFor_45 : decode cX4_slotFor 45 = .ok (.irem, 1) := by decide +kernel
theorem dX4_slotFor_46 : decode cX4_slotFor 46 = .ok (.ireturn, 1) := by decide +kernel
theorem dX4_turnTime_0 : decode cX4_turnTime 0 = .ok (.aload_n 0, 1) := by decide +kernel
theorem dX4_turnTime_1 : decode cX4_turnTime 1 = .ok (.iload_n 1, 1) := by decide +kernel
theorem dX4_turnTime_2 : decode cX4_turnTime 2 = .ok (.invokevirtual 44, 3) := by decide +kernel
theorem dX4_turnTime_5 : decode cX4_turnTime 5 = .ok (.istore_n 3, 1) := by decide +kernel
theorem dX4_turnTime_6 : decode cX4_turnTime 6 = .ok (.iload_n 3, 1) := by decide +kernel
theorem dX4_turnTime_7 : decode cX4_turnTime 7 = .ok (.iconst 1, 1) := by decide +kernel
theorem dX4_turnTime_8 : decode cX4_turnTime 8 = .ok (.if_icmp .ge 7, 3) := by decide +kernel
theorem dX4_turnTime_11 : decode cX4_turnTime 11 = .ok (.iload_n 2, 1) := by decide +kernel
theorem dX4_turnTime_12 : decode cX4_turnTime 12 = .ok (.goto 8, 3) := by decide +kernel
theorem dX4_turnTime_15 : decode cX4_turnTime 15 = .ok (.iload_n 2, 1) := by decide +kernel
theorem dX4_turnTime_16 : decode cX4_turnTime 16 = .ok (.iload_n 2, 1) := by decide +kernel
theorem dX4_turnTime_17 : decode cX4_turnTime 17 = .ok (.iload_n 3, 1) := by decide +kernel
theorem dX4_turnTime_18 : decode cX4_turnTime 18 = .ok (.irem, 1) := by decide +kernel
theorem dX4_turnTime_19 : decode cX4_turnTime 19 = .ok (.isub, 1) := by decide +kernel
theorem dX4_turnTime_20 : decode cX4_turnTime 20 = .ok (.ireturn, 1) := by decide +kernel
theorem dX4_movesFrom_0 : decode cX4_movesFrom 0 = .ok (.iconst 0, 1) := by decide +kernel
theorem dX4_movesFrom_1 : decode cX4_movesFrom 1 = .ok (.istore_n 3, 1) := by decide +kernel
theorem dX4_movesFrom_2 : decode cX4_movesFrom 2 = .ok (.iload_n 1, 1) := by decide +kernel
theorem dX4_movesFrom_3 : decode cX4_movesFrom 3 = .ok (.istore 4, 2) := by decide +kernel
theorem dX4_movesFrom_5 : decode cX4_movesFrom 5 = .ok (.iconst 0, 1) := by decide +kernel
theorem dX4_movesFrom_6 : decode cX4_movesFrom 6 = .ok (.istore 5, 2) := by decide +kernel
theorem dX4_movesFrom_8 : decode cX4_movesFrom 8 = .ok (.iload 5, 2) := by decide +kernel
theorem dX4_movesFrom_10 : decode cX4_movesFrom 10 = .ok (.iconst 4, 1) := by decide +kernel
theorem dX4_movesFrom_11 : decode cX4_movesFrom 11 = .ok (.if_icmp .gt 32, 3) := by decide +kernel
theorem dX4_movesFrom_14 : decode cX4_movesFrom 14 = .ok (.iload 4, 2) := by decide +kernel
theorem dX4_movesFrom_16 : decode cX4_movesFrom 16 = .ok (.ifCond .eq 27, 3) := by decide +kernel
theorem dX4_movesFrom_19 : decode cX4_movesFrom 19 = .ok (.aload_n 0, 1) := by decide +kernel
theorem dX4_movesFrom_20 : decode cX4_movesFrom 20 = .ok (.iload_n 2, 1) := by decide +kernel
theorem dX4_movesFrom_21 : decode cX4_movesFrom 21 = .ok (.aload_n 0, 1) := by decide +kernel
theorem dX4_movesFrom_22 : decode cX4_movesFrom 22 = .ok (.iload 4, 2) := by decide +kernel
theorem dX4_movesFrom_24 : decode cX4_movesFrom 24 = .ok (.iload_n 2, 1) := by decide +kernel
theorem dX4_movesFrom_25 : decode cX4_movesFrom 25 = .ok (.invokevirtual 47, 3) := by decide +kernel
theorem dX4_movesFrom_28 : decode cX4_movesFrom 28 = .ok (.isub, 1) := by decide +kernel
theorem dX4_movesFrom_29 : decode cX4_movesFrom 29 = .ok (.invokevirtual 51, 3) := by decide +kernel
theorem dX4_movesFrom_32 : decode cX4_movesFrom 32 = .ok (.istore 4, 2) := by decide +kernel
theorem dX4_movesFrom_34 : decode cX4_movesFrom 34 = .ok (.iinc 3 1, 3) := by decide +kernel
theorem dX4_movesFrom_37 : decode cX4_movesFrom 37 = .ok (.iinc 5 1, 3) := by decide +kernel
theorem dX4_movesFrom_40 : decode cX4_movesFrom 40 = .ok (.goto (-32), 3) := by decide +kernel
theorem dX4_movesFrom_43 : decode cX4_movesFrom 43 = .ok (.iload_n 3, 1) := by decide +kernel
theorem dX4_movesFrom_44 : decode cX4_movesFrom 44 = .ok (.ireturn, 1) := by decide +kernel
theorem dX5_init_0 : decode cX5_init 0 = .ok (.aload_n 0, 1) := by decide +kernel
theorem dX5_init_1 : decode cX5_init 1 = .ok (.invokespecial 3, 3) := by decide +kernel
theorem dX5_init_4 : decode cX5_init 4 = .ok (.aload_n 0, 1) := by decide +kernel
theorem dX5_init_5 : decode cX5_init 5 = .ok (.bipush 100, 2) := by decide +kernel
theorem dX5_init_7 : decode cX5_init 7 = .ok (.newarray .int, 2) := by decide +kernel
theorem dX5_init_9 : decode cX5_init 9 = .ok (.putfield 9, 3) := by decide +kernel
theorem dX5_init_12 : decode cX5_init 12 = .ok (.return_, 1) := by decide +kernel
theorem dX5_append_0 : decode cX5_append 0 = .ok (.aload_n 0, 1) := by decide +kernel
theorem dX5_append_1 : decode cX5_append 1 = .ok (.getfield 15, 3) := by decide +kernel
theorem dX5_append_4 : decode cX5_append 4 = .ok (.ifCond .lt 12, 3) := by decide +kernel
theorem dX5_append_7 : decode cX5_append 7 = .ok (.aload_n 0, 1) := by decide +kernel
theorem dX5_append_8 : decode cX5_append 8 = .ok (.getfield 15, 3) := by decide +kernel
theorem dX5_append_11 : decode cX5_append 11 = .ok (.bipush 96, 2) := by decide +kernel
theorem dX5_append_13 : decode cX5_append 13 = .ok (.if_icmp .le 5, 3) := by decide +kernel
theorem dX5_append_16 : decode cX5_append 16 = .ok (.iconst 0, 1) := by decide +kernel
theorem dX5_append_17 : decode cX5_append 17 = .ok (.ireturn, 1) := by decide +kernel
theorem dX5_append_18 : decode cX5_append 18 = .ok (.iconst 0, 1) := by decide +kernel
theorem dX5_append_19 : decode cX5_append 19 = .ok (.istore_n 2, 1) := by decide +kernel
theorem dX5_append_20 : decode cX5_append 20 = .ok (.iload_n 2, 1) := by decide +kernel
theorem dX5_append_21 : decode cX5_append 21 = .ok (.iconst 4, 1) := by decide +kernel
theorem dX5_append_22 : decode cX5_append 22 = .ok (.if_icmp .ge 33, 3) := by decide +kernel
theorem dX5_append_25 : decode cX5_append 25 = .ok (.aload_n 0, 1) := by decide +kernel
theorem dX5_append_26 : decode cX5_append 26 = .ok (.getfield 9, 3) := by decide +kernel
theorem dX5_append_29 : decode cX5_append 29 = .ok (.aload_n 0, 1) := by decide +kernel
theorem dX5_append_30 : decode cX5_append 30 = .ok (.getfield 15, 3) := by decide +kernel
theorem dX5_append_33 : decode cX5_append 33 = .ok (.iload_n 2, 1) := by decide +kernel
theorem dX5_append_34 : decode cX5_append 34 = .ok (.iadd, 1) := by decide +kernel
theorem dX5_append_35 : decode cX5_append 35 = .ok (.iload_n 1, 1) := by decide +kernel
theorem dX5_append_36 : decode cX5_append 36 = .ok (.bipush 24, 2) := by decide +kernel
theorem dX5_append_38 : decode cX5_append 38 = .ok (.bipush 8, 2) := by decide +kernel
theorem dX5_append_40 : decode cX5_append 40 = .ok (.iload_n 2, 1) := by decide +kernel
theorem dX5_append_41 : decode cX5_append 41 = .ok (.imul, 1) := by decide +kernel
theorem dX5_append_42 : decode cX5_append 42 = .ok (.isub, 1) := by decide +kernel
theorem dX5_append_43 : decode cX5_append 43 = .ok (.iushr, 1) := by decide +kernel
theorem dX5_append_44 : decode cX5_append 44 = .ok (.sipush 255, 3) := by decide +kernel
theorem dX5_append_47 : decode cX5_append 47 = .ok (.iand, 1) := by decide +kernel
theorem dX5_append_48 : decode cX5_append 48 = .ok (.iastore, 1) := by decide +kernel
theorem dX5_append_49 : decode cX5_append 49 = .ok (.iinc 2 1, 3) := by decide +kernel
theorem dX5_append_52 : decode cX5_append 52 = .ok (.goto (-32), 3) := by decide +kernel
theorem dX5_append_55 : decode cX5_append 55 = .ok (.aload_n 0, 1) := by decide +kernel
theorem dX5_append_56 : decode cX5_append 56 = .ok (.dup, 1) := by decide +kernel
theorem dX5_append_57 : decode cX5_append 57 = .ok (.getfield 15, 3) := by decide +kernel
theorem dX5_append_60 : decode cX5_append 60 = .ok (.iconst 4, 1) := by decide +kernel
theorem dX5_append_61 : decode cX5_append 61 = .ok (.iadd, 1) := by decide +kernel
theorem dX5_append_62 : decode cX5_append 62 = .ok (.putfield 15, 3) := by decide +kernel
theorem dX5_append_65 : decode cX5_append 65 = .ok (.iconst 1, 1) := by decide +kernel
theorem dX5_append_66 : decode cX5_append 66 = .ok (.ireturn, 1) := by decide +kernel
theorem dX5_shorten_0 : decode cX5_shorten 0 = .ok (.aload_n 0, 1) := by decide +kernel
theorem dX5_shorten_1 : decode cX5_shorten 1 = .ok (.iload_n 1, 1) := by decide +kernel
theorem dX5_shorten_2 : decode cX5_shorten 2 = .ok (.putfield 15, 3) := by decide +kernel
theorem dX5_shorten_5 : decode cX5_shorten 5 = .ok (.return_, 1) := by decide +kernel
theorem dX5_at_0 : decode cX5_at 0 = .ok (.iload_n 1, 1) := by decide +kernel
theorem dX5_at_1 : decode cX5_at 1 = .ok (.ifCond .lt 17, 3) := by decide +kernel
theorem dX5_at_4 : decode cX5_at 4 = .ok (.iload_n 1, 1) := by decide +kernel
theorem dX5_at_5 : decode cX5_at 5 = .ok (.aload_n 0, 1) := by decide +kernel
theorem dX5_at_6 : decode cX5_at 6 = .ok (.getfield 15, 3) := by decide +kernel
theorem dX5_at_9 : decode cX5_at 9 = .ok (.if_icmp .ge 9, 3) := by decide +kernel
theorem dX5_at_12 : decode cX5_at 12 = .ok (.iload_n 1, 1) := by decide +kernel
theorem dX5_at_13 : decode cX5_at 13 = .ok (.bipush 100, 2) := by decide +kernel
theorem dX5_at_15 : decode cX5_at 15 = .ok (.if_icmp .lt 7, 3) := by decide +kernel
theorem dX5_at_18 : decode cX5_at 18 = .ok (.iconst (-1), 1) := by decide +kernel
theorem dX5_at_19 : decode cX5_at 19 = .ok (.goto 9, 3) := by decide +kernel
theorem dX5_at_22 : decode cX5_at 22 = .ok (.aload_n 0, 1) := by decide +kernel
theorem dX5_at_23 : decode cX5_at 23 = .ok (.getfield 9, 3) := by decide +kernel
theorem dX5_at_26 : decode cX5_at 26 = .ok (.iload_n 1, 1) := by decide +kernel
theorem dX5_at_27 : decode cX5_at 27 = .ok (.iaload, 1) := by decide +kernel
theorem dX5_at_28 : decode cX5_at 28 = .ok (.ireturn, 1) := by decide +kernel
theorem dX6_init_0 : decode cX6_init 0 = .ok (.aload_n 0, 1) := by decide +kernel
theorem dX6_init_1 : decode cX6_init 1 = .ok (.invokespecial 1, 3) := by decide +kernel
theorem dX6_init_4 : decode cX6_init 4 = .ok (.aload_n 0, 1) := by decide +kernel
theorem dX6_init_5 : decode cX6_init 5 = .ok (.iload_n 1, 1) := by decide +kernel
theorem dX6_init_6 : decode cX6_init 6 = .ok (.putfield 7, 3) := by decide +kernel
theorem dX6_init_9 : decode cX6_init 9 = .ok (.return_, 1) := by decide +kernel
theorem dX6_start_0 : decode cX6_start 0 = .ok (.aload_n 0, 1) := by decide +kernel
theorem dX6_start_1 : decode cX6_start 1 = .ok (.iconst 1, 1) := by decide +kernel
theorem dX6_start_2 : decode cX6_start 2 = .ok (.putfield 13, 3) := by decide +kernel
theorem dX6_start_5 : decode cX6_start 5 = .ok (.aload_n 0, 1) := by decide +kernel
theorem dX6_start_6 : decode cX6_start 6 = .ok (.iload_n 1, 1) := by decide +kernel
theorem dX6_start_7 : decode cX6_start 7 = .ok (.putfield 17, 3) := by decide +kernel
theorem dX6_start_10 : decode cX6_start 10 = .ok (.aload_n 0, 1) := by decide +kernel
theorem dX6_start_11 : decode cX6_start 11 = .ok (.iload_n 2, 1) := by decide +kernel
theorem dX6_start_12 : decode cX6_start 12 = .ok (.putfield 20, 3) := by decide +kernel
theorem dX6_start_15 : decode cX6_start 15 = .ok (.aload_n 0, 1) := by decide +kernel
theorem dX6_start_16 : decode cX6_start 16 = .ok (.iconst 0, 1) := by decide +kernel
theorem dX6_start_17 : decode cX6_start 17 = .ok (.putfield 23, 3) := by decide +kernel
theorem dX6_start_20 : decode cX6_start 20 = .ok (.aload_n 0, 1) := by decide +kernel
theorem dX6_start_21 : decode cX6_start 21 = .ok (.iconst 0, 1) := by decide +kernel
theorem dX6_start_22 : decode cX6_start 22 = .ok (.putfield 26, 3) := by decide +kernel
theorem dX6_start_25 : decode cX6_start 25 = .ok (.aload_n 0, 1) := by decide +kernel
theorem dX6_start_26 : decode cX6_start 26 = .ok (.iconst 0, 1) := by decide +kernel
theorem dX6_start_27 : decode cX6_start 27 = .ok (.putfield 29, 3) := by decide +kernel
theorem dX6_start_30 : decode cX6_start 30 = .ok (.aload_n 0, 1) := by decide +kernel
theorem dX6_start_31 : decode cX6_start 31 = .ok (.iconst 0, 1) := by decide +kernel
theorem dX6_start_32 : decode cX6_start 32 = .ok (.putfield 32, 3) := by decide +kernel
theorem dX6_start_35 : decode cX6_start 35 = .ok (.return_, 1) := by decide +kernel
theorem dX6_copy_0 : decode cX6_copy 0 = .ok (.aload_n 0, 1) := by decide +kernel
theorem dX6_copy_1 : decode cX6_copy 1 = .ok (.aload_n 1, 1) := by decide +kernel
theorem dX6_copy_2 : decode cX6_copy 2 = .ok (.getfield 13, 3) := by decide +kernel
theorem dX6_copy_5 : decode cX6_copy 5 = .ok (.putfield 13, 3) := by decide +kernel
theorem dX6_copy_8 : decode cX6_copy 8 = .ok (.aload_n 0, 1) := by decide +kernel
theorem dX6_copy_9 : decode cX6_copy 9 = .ok (.aload_n 1, 1) := by decide +kernel
theorem dX6_copy_10 : decode cX6_copy 10 = .ok (.getfield 17, 3) := by decide +kernel
theorem dX6_copy_13 : decode cX6_copy 13 = .ok (.putfield 17, 3) := by decide +kernel
theorem dX6_copy_16 : decode cX6_copy 16 = .ok (.aload_n 0, 1) := by decide +kernel
theorem dX6_copy_17 : decode cX6_copy 17 = .ok (.aload_n 1, 1) := by decide +kernel
theorem dX6_copy_18 : decode cX6_copy 18 = .ok (.getfield 35, 3) := by decide +kernel
theorem dX6_copy_21 : decode cX6_copy 21 = .ok (.putfield 35, 3) := by decide +kernel
theorem dX6_copy_24 : decode cX6_copy 24 = .ok (.aload_n 0, 1) := by decide +kernel
theorem dX6_copy_25 : decode cX6_copy 25 = .ok (.aload_n 1, 1) := by decide +kernel
theorem dX6_copy_26 : decode cX6_copy 26 = .ok (.getfield 20, 3) := by decide +kernel
theorem dX6_copy_29 : decode cX6_copy 29 = .ok (.putfield 20, 3) := by decide +kernel
theorem dX6_copy_32 : decode cX6_copy 32 = .ok (.aload_n 0, 1) := by decide +kernel
theorem dX6_copy_33 : decode cX6_copy 33 = .ok (.aload_n 1, 1) := by decide +kernel
theorem dX6_copy_34 : decode cX6_copy 34 = .ok (.getfield 38, 3) := by decide +kernel
theorem dX6_copy_37 : decode cX6_copy 37 = .ok (.putfield 38, 3) := by decide +kernel
theorem dX6_copy_40 : decode cX6_copy 40 = .ok (.aload_n 0, 1) := by decide +kernel
theorem dX6_copy_41 : decode cX6_copy 41 = .ok (.aload_n 1, 1) := by decide +kernel
theorem dX6_copy_42 : decode cX6_copy 42 = .ok (.getfield 41, 3) := by decide +kernel
theorem dX6_copy_45 : decode cX6_copy 45 = .ok (.putfield 41, 3) := by decide +kernel
theorem dX6_copy_48 : decode cX6_copy 48 = .ok (.aload_n 0, 1) := by decide +kernel
theorem dX6_copy_49 : decode cX6_copy 49 = .ok (.aload_n 1, 1) := by decide +kernel
theorem dX6_copy_50 : decode cX6_copy 50 = .ok (.getfield 44, 3) := by decide +kernel
theorem dX6_copy_53 : decode cX6_copy 53 = .ok (.putfield 44, 3) := by decide +kernel
theorem dX6_copy_56 : decode cX6_copy 56 = .ok (.aload_n 0, 1) := by decide +kernel
