theorem dX9_way_16 : decode cX9_way 16 = .ok (.sipush 343, 3) := by decide +kernel
theorem dX9_way_19 : decode cX9_way 19 = .ok (.iload_n 1, 1) := by decide +kernel
theorem dX9_way_20 : decode cX9_way 20 = .ok (.iadd, 1) := by decide +kernel
theorem dX9_way_21 : decode cX9_way 21 = .ok (.invokevirtual 85, 3) := by decide +kernel
theorem dX9_way_24 : decode cX9_way 24 = .ok (.iconst 1, 1) := by decide +kernel
theorem dX9_way_25 : decode cX9_way 25 = .ok (.if_icmp .ne 6, 3) := by decide +kernel
theorem dX9_way_28 : decode cX9_way 28 = .ok (.bipush (-2), 2) := by decide +kernel
theorem dX9_way_30 : decode cX9_way 30 = .ok (.ireturn, 1) := by decide +kernel
theorem dX9_way_31 : decode cX9_way 31 = .ok (.aload_n 0, 1) := by decide +kernel
theorem dX9_way_32 : decode cX9_way 32 = .ok (.iload_n 1, 1) := by decide +kernel
theorem dX9_way_33 : decode cX9_way 33 = .ok (.invokevirtual 258, 3) := by decide +kernel
theorem dX9_way_36 : decode cX9_way 36 = .ok (.istore_n 2, 1) := by decide +kernel
theorem dX9_way_37 : decode cX9_way 37 = .ok (.aload_n 0, 1) := by decide +kernel
theorem dX9_way_38 : decode cX9_way 38 = .ok (.iconst 0, 1) := by decide +kernel
theorem dX9_way_39 : decode cX9_way 39 = .ok (.putfield 11, 3) := by decide +kernel
theorem dX9_way_42 : decode cX9_way 42 = .ok (.aload_n 0, 1) := by decide +kernel
theorem dX9_way_43 : decode cX9_way 43 = .ok (.aload_n 0, 1) := by decide +kernel
theorem dX9_way_44 : decode cX9_way 44 = .ok (.sipush 391, 3) := by decide +kernel
theorem dX9_way_47 : decode cX9_way 47 = .ok (.iload_n 1, 1) := by decide +kernel
theorem dX9_way_48 : decode cX9_way 48 = .ok (.iadd, 1) := by decide +kernel
theorem dX9_way_49 : decode cX9_way 49 = .ok (.invokevirtual 85, 3) := by decide +kernel
theorem dX9_way_52 : decode cX9_way 52 = .ok (.i2l, 1) := by decide +kernel
theorem dX9_way_53 : decode cX9_way 53 = .ok (.invokevirtual 153, 3) := by decide +kernel
theorem dX9_way_56 : decode cX9_way 56 = .ok (.iconst 0, 1) := by decide +kernel
theorem dX9_way_57 : decode cX9_way 57 = .ok (.istore_n 3, 1) := by decide +kernel
theorem dX9_way_58 : decode cX9_way 58 = .ok (.iload_n 3, 1) := by decide +kernel
theorem dX9_way_59 : decode cX9_way 59 = .ok (.iload_n 2, 1) := by decide +kernel
theorem dX9_way_60 : decode cX9_way 60 = .ok (.if_icmp .ge 31, 3) := by decide +kernel
theorem dX9_way_63 : decode cX9_way 63 = .ok (.aload_n 0, 1) := by decide +kernel
theorem dX9_way_64 : decode cX9_way 64 = .ok (.aload_n 0, 1) := by decide +kernel
theorem dX9_way_65 : decode cX9_way 65 = .ok (.getfield 67, 3) := by decide +kernel
theorem dX9_way_68 : decode cX9_way 68 = .ok (.iload_n 3, 1) := by decide +kernel
theorem dX9_way_69 : decode cX9_way 69 = .ok (.iaload, 1) := by decide +kernel
theorem dX9_way_70 : decode cX9_way 70 = .ok (.i2l, 1) := by decide +kernel
theorem dX9_way_71 : decode cX9_way 71 = .ok (.invokevirtual 153, 3) := by decide +kernel
theorem dX9_way_74 : decode cX9_way 74 = .ok (.aload_n 0, 1) := by decide +kernel
theorem dX9_way_75 : decode cX9_way 75 = .ok (.aload_n 0, 1) := by decide +kernel
theorem dX9_way_76 : decode cX9_way 76 = .ok (.getfield 70, 3) := by decide +kernel
theorem dX9_way_79 : decode cX9_way 79 = .ok (.iload_n 3, 1) := by decide +kernel
theorem dX9_way_80 : decode cX9_way 80 = .ok (.iaload, 1) := by decide +kernel
theorem dX9_way_81 : decode cX9_way 81 = .ok (.i2l, 1) := by decide +kernel
theorem dX9_way_82 : decode cX9_way 82 = .ok (.invokevirtual 153, 3) := by decide +kernel
theorem dX9_way_85 : decode cX9_way 85 = .ok (.iinc 3 1, 3) := by decide +kernel
theorem dX9_way_88 : decode cX9_way 88 = .ok (.goto (-30), 3) := by decide +kernel
theorem dX9_way_91 : decode cX9_way 91 = .ok (.aload_n 0, 1) := by decide +kernel
theorem dX9_way_92 : decode cX9_way 92 = .ok (.aload_n 0, 1) := by decide +kernel
theorem dX9_way_93 : decode cX9_way 93 = .ok (.sipush 231, 3) := by decide +kernel
theorem dX9_way_96 : decode cX9_way 96 = .ok (.iload_n 1, 1) := by decide +kernel
theorem dX9_way_97 : decode cX9_way 97 = .ok (.iadd, 1) := by decide +kernel
theorem dX9_way_98 : decode cX9_way 98 = .ok (.invokevirtual 85, 3) := by decide +kernel
theorem dX9_way_101 : decode cX9_way 101 = .ok (.i2l, 1) := by decide +kernel
theorem dX9_way_102 : decode cX9_way 102 = .ok (.invokevirtual 153, 3) := by decide +kernel
theorem dX9_way_105 : decode cX9_way 105 = .ok (.iload_n 2, 1) := by decide +kernel
theorem dX9_way_106 : decode cX9_way 106 = .ok (.ireturn, 1) := by decide +kernel
theorem dX9_costOf_0 : decode cX9_costOf 0 = .ok (.aload_n 0, 1) := by decide +kernel
theorem dX9_costOf_1 : decode cX9_costOf 1 = .ok (.invokevirtual 246, 3) := by decide +kernel
theorem dX9_costOf_4 : decode cX9_costOf 4 = .ok (.aload_n 0, 1) := by decide +kernel
theorem dX9_costOf_5 : decode cX9_costOf 5 = .ok (.iload_n 1, 1) := by decide +kernel
theorem dX9_costOf_6 : decode cX9_costOf 6 = .ok (.invokevirtual 180, 3) := by decide +kernel
theorem dX9_costOf_9 : decode cX9_costOf 9 = .ok (.iconst 0, 1) := by decide +kernel
theorem dX9_costOf_10 : decode cX9_costOf 10 = .ok (.istore_n 2, 1) := by decide +kernel
theorem dX9_costOf_11 : decode cX9_costOf 11 = .ok (.aload_n 0, 1) := by decide +kernel
theorem dX9_costOf_12 : decode cX9_costOf 12 = .ok (.iconst 0, 1) := by decide +kernel
theorem dX9_costOf_13 : decode cX9_costOf 13 = .ok (.putfield 261, 3) := by decide +kernel
theorem dX9_costOf_16 : decode cX9_costOf 16 = .ok (.aload_n 0, 1) := by decide +kernel
theorem dX9_costOf_17 : decode cX9_costOf 17 = .ok (.iconst 0, 1) := by decide +kernel
theorem dX9_costOf_18 : decode cX9_costOf 18 = .ok (.putfield 264, 3) := by decide +kernel
theorem dX9_costOf_21 : decode cX9_costOf 21 = .ok (.iconst 0, 1) := by decide +kernel
theorem dX9_costOf_22 : decode cX9_costOf 22 = .ok (.istore_n 3, 1) := by decide +kernel
theorem dX9_costOf_23 : decode cX9_costOf 23 = .ok (.iload_n 3, 1) := by decide +kernel
theorem dX9_costOf_24 : decode cX9_costOf 24 = .ok (.bipush 16, 2) := by decide +kernel
theorem dX9_costOf_26 : decode cX9_costOf 26 = .ok (.if_icmp .ge 72, 3) := by decide +kernel
theorem dX9_costOf_29 : decode cX9_costOf 29 = .ok (.aload_n 0, 1) := by decide +kernel
theorem dX9_costOf_30 : decode cX9_costOf 30 = .ok (.iload_n 3, 1) := by decide +kernel
theorem dX9_costOf_31 : decode cX9_costOf 31 = .ok (.invokevirtual 99, 3) := by decide +kernel
theorem dX9_costOf_34 : decode cX9_costOf 34 = .ok (.ifCond .eq 58, 3) := by decide +kernel
theorem dX9_costOf_37 : decode cX9_costOf 37 = .ok (.aload_n 0, 1) := by decide +kernel
theorem dX9_costOf_38 : decode cX9_costOf 38 = .ok (.iload_n 3, 1) := by decide +kernel
theorem dX9_costOf_39 : decode cX9_costOf 39 = .ok (.invokevirtual 258, 3) := by decide +kernel
theorem dX9_costOf_42 : decode cX9_costOf 42 = .ok (.istore 4, 2) := by decide +kernel
theorem dX9_costOf_44 : decode cX9_costOf 44 = .ok (.iload_n 2, 1) := by decide +kernel
theorem dX9_costOf_45 : decode cX9_costOf 45 = .ok (.iload 4, 2) := by decide +kernel
theorem dX9_costOf_47 : decode cX9_costOf 47 = .ok (.iadd, 1) := by decide +kernel
theorem dX9_costOf_48 : decode cX9_costOf 48 = .ok (.istore_n 2, 1) := by decide +kernel
theorem dX9_costOf_49 : decode cX9_costOf 49 = .ok (.aload_n 0, 1) := by decide +kernel
theorem dX9_costOf_50 : decode cX9_costOf 50 = .ok (.dup, 1) := by decide +kernel
theorem dX9_costOf_51 : decode cX9_costOf 51 = .ok (.getfield 261, 3) := by decide +kernel
theorem dX9_costOf_54 : decode cX9_costOf 54 = .ok (.aload_n 0, 1) := by decide +kernel
theorem dX9_costOf_55 : decode cX9_costOf 55 = .ok (.sipush 391, 3) := by decide +kernel
theorem dX9_costOf_58 : decode cX9_costOf 58 = .ok (.iload_n 3, 1) := by decide +kernel
theorem dX9_costOf_59 : decode cX9_costOf 59 = .ok (.iadd, 1) := by decide +kernel
theorem dX9_costOf_60 : decode cX9_costOf 60 = .ok (.invokevirtual 85, 3) := by decide +kernel
theorem dX9_costOf_63 : decode cX9_costOf 63 = .ok (.iconst (-1), 1) := by decide +kernel
theorem dX9_costOf_64 : decode cX9_costOf 64 = .ok (.if_icmp .ne 7, 3) := by decide +kernel
theorem dX9_costOf_67 : decode cX9_costOf 67 = .ok (.iconst 1, 1) := by decide +kernel
theorem dX9_costOf_68 : decode cX9_costOf 68 = .ok (.goto 4, 3) := by decide +kernel
theorem dX9_costOf_71 : decode cX9_costOf 71 = .ok (.iconst 0, 1) := by decide +kernel
theorem dX9_costOf_72 : decode cX9_costOf 72 = .ok (.invokestatic 31, 3) := by decide +kernel
theorem dX9_costOf_75 : decode cX9_costOf 75 = .ok (.iadd, 1) := by decide +kernel
theorem dX9_costOf_76 : decode cX9_costOf 76 = .ok (.putfield 261, 3) := by decide +kernel
theorem dX9_costOf_79 : decode cX9_costOf 79 = .ok (.aload_n 0, 1) := by decide +kernel
theorem dX9_costOf_80 : decode cX9_costOf 80 = .ok (.aload_n 0, 1) := by decide +kernel
theorem dX9_costOf_81 : decode cX9_costOf 81 = .ok (.getfield 264, 3) := by decide +kernel
theorem dX9_costOf_84 : decode cX9_costOf 84 = .ok (.iload 4, 2) := by decide +kernel
theorem dX9_costOf_86 : decode cX9_costOf 86 = .ok (.invokestatic 150, 3) := by decide +kernel
theorem dX9_costOf_89 : decode cX9_costOf 89 = .ok (.putfield 264, 3) := by decide +kernel
theorem dX9_costOf_92 : decode cX9_costOf 92 = .ok (.iinc 3 1, 3) := by decide +kernel
theorem dX9_costOf_95 : decode cX9_costOf 95 = .ok (.goto (-72), 3) := by decide +kernel
theorem dX9_costOf_98 : decode cX9_costOf 98 = .ok (.aload_n 0, 1) := by decide +kernel
theorem dX9_costOf_99 : decode cX9_costOf 99 = .ok (.invokevirtual 249, 3) := by decide +kernel
theorem dX9_costOf_102 : decode cX9_costOf 102 = .ok (.iload_n 2, 1) := by decide +kernel
theorem dX9_costOf_103 : decode cX9_costOf 103 = .ok (.ireturn, 1) := by decide +kernel
theorem dX9_cost_0 : decode cX9_cost 0 = .ok (.aload_n 0, 1) := by decide +kernel
theorem dX9_cost_1 : decode cX9_cost 1 = .ok (.iconst 0, 1) := by decide +kernel
theorem dX9_cost_2 : decode cX9_cost 2 = .ok (.putfield 1, 3) := by decide +kernel
theorem dX9_cost_5 : decode cX9_cost 5 = .ok (.aload_n 0, 1) := by decide +kernel
theorem dX9_cost_6 : decode cX9_cost 6 = .ok (.iload_n 1, 1) := by decide +kernel
theorem dX9_cost_7 : decode cX9_cost 7 = .ok (.iload_n 2, 1) := by decide +kernel
theorem dX9_cost_8 : decode cX9_cost 8 = .ok (.iload_n 3, 1) := by decide +kernel
theorem dX9_cost_9 : decode cX9_cost 9 = .ok (.iload 4, 2) := by decide +kernel
theorem dX9_cost_11 : decode cX9_cost 11 = .ok (.invokevirtual 173, 3) := by decide +kernel
theorem dX9_cost_14 : decode cX9_cost 14 = .ok (.istore 5, 2) := by decide +kernel
theorem dX9_cost_16 : decode cX9_cost 16 = .ok (.iload 5, 2) := by decide +kernel
theorem dX9_cost_18 : decode cX9_cost 18 = .ok (.ifCond .ge 5, 3) := by decide +kernel
theorem dX9_cost_21 : decode cX9_cost 21 = .ok (.iconst (-1), 1) := by decide +kernel
theorem dX9_cost_22 : decode cX9_cost 22 = .ok (.ireturn, 1) := by decide +kernel
theorem dX9_cost_23 : decode cX9_cost 23 = .ok (.aload_n 0, 1) := by decide +kernel
theorem dX9_cost_24 : decode cX9_cost 24 = .ok (.iload 5, 2) := by decide +kernel
theorem dX9_cost_26 : decode cX9_cost 26 = .ok (.invokevirtual 267, 3) := by decide +kernel
theorem dX9_cost_29 : decode cX9_cost 29 = .ok (.istore 6, 2) := by decide +kernel
theorem dX9_cost_31 : decode cX9_cost 31 = .ok (.aload_n 0, 1) := by decide +kernel
theorem dX9_cost_32 : decode cX9_cost 32 = .ok (.iconst 0, 1) := by decide +kernel
theorem dX9_cost_33 : decode cX9_cost 33 = .ok (.putfield 11, 3) := by decide +kernel
theorem dX9_cost_36 : decode cX9_cost 36 = .ok (.aload_n 0, 1) := by decide +kernel
theorem dX9_cost_37 : decode cX9_cost 37 = .ok (.aload_n 0, 1) := by decide +kernel
theorem dX9_cost_38 : decode cX9_cost 38 = .ok (.getfield 261, 3) := by decide +kernel
theorem dX9_cost_41 : decode cX9_cost 41 = .ok (.i2l, 1) := by decide +kernel
theorem dX9_cost_42 : decode cX9_cost 42 = .ok (.invokevirtual 153, 3) := by decide +kernel
theorem dX9_cost_45 : decode cX9_cost 45 = .ok (.aload_n 0, 1) := by decide +kernel
theorem dX9_cost_46 : decode cX9_cost 46 = .ok (.aload_n 0, 1) := by decide +kernel
theorem dX9_cost_47 : decode cX9_cost 47 = .ok (.getfield 264, 3) := by decide +kernel
theorem dX9_cost_50 : decode cX9_cost 50 = .ok (.i2l, 1) := by decide +kernel
theorem dX9_cost_51 : decode cX9_cost 51 = .ok (.invokevirtual 153, 3) := by decide +kernel
theorem dX9_cost_54 : decode cX9_cost 54 = .ok (.iload 6, 2) := by decide +kernel
theorem dX9_cost_56 : decode cX9_cost 56 = .ok (.ireturn, 1) := by decide +kernel
theorem dX9_best_0 : decode cX9_best 0 = .ok (.aload_n 0, 1) := by decide +kernel
theorem dX9_best_1 : decode cX9_best 1 = .ok (.iconst 0, 1) := by decide +kernel
theorem dX9_best_2 : decode cX9_best 2 = .ok (.putfield 1, 3) := by decide +kernel
theorem dX9_best_5 : decode cX9_best 5 = .ok (.iload_n 1, 1) := by decide +kernel
theorem dX9_best_6 : decode cX9_best 6 = .ok (.i2l, 1) := by decide +kernel
theorem dX9_best_7 : decode cX9_best 7 = .ok (.lconst 1, 1) := by decide +kernel
theorem dX9_best_8 : decode cX9_best 8 = .ok (.ldc2_w 270, 3) := by decide +kernel
theorem dX9_best_11 : decode cX9_best 11 = .ok (.invokestatic 21, 3) := by decide +kernel
theorem dX9_best_14 : decode cX9_best 14 = .ok (.ifCond .ne 5, 3) := by decide +kernel
theorem dX9_best_17 : decode cX9_best 17 = .ok (.iconst (-1), 1) := by decide +kernel
theorem dX9_best_18 : decode cX9_best 18 = .ok (.ireturn, 1) := by decide +kernel
theorem dX9_best_19 : decode cX9_best 19 = .ok (.iconst (-1), 1) := by decide +kernel
theorem dX9_best_20 : decode cX9_best 20 = .ok (.istore_n 2, 1) := by decide +kernel
theorem dX9_best_21 : decode cX9_best 21 = .ok (.iconst 0, 1) := by decide +kernel
theorem dX9_best_22 : decode cX9_best 22 = .ok (.istore_n 3, 1) := by decide +kernel
theorem dX9_best_23 : decode cX9_best 23 = .ok (.iconst 2, 1) := by decide +kernel
theorem dX9_best_24 : decode cX9_best 24 = .ok (.istore 4, 2) := by decide +kernel
theorem dX9_best_26 : decode cX9_best 26 = .ok (.iload 4, 2) := by decide +kernel
theorem dX9_best_28 : decode cX9_best 28 = .ok (.bipush 16, 2) := by decide +kernel
theorem dX9_best_30 : decode cX9_best 30 = .ok (.if_icmp .gt 71, 3) := by decide +kernel
theorem dX9_best_33 : decode cX9_best 33 = .ok (.iconst 0, 1) := by decide +kernel
theorem dX9_best_34 : decode cX9_best 34 = .ok (.istore 5, 2) := by decide +kernel
theorem dX9_best_36 : decode cX9_best 36 = .ok (.iload 5, 2) := by decide +kernel
theorem dX9_best_38 : decode cX9_best 38 = .ok (.iconst 4, 1) := by decide +kernel
theorem dX9_best_39 : decode cX9_best 39 = .ok (.if_icmp .ge 28, 3) := by decide +kernel
theorem dX9_best_42 : decode cX9_best 42 = .ok (.aload_n 0, 1) := by decide +kernel
theorem dX9_best_43 : decode cX9_best 43 = .ok (.getfield 61, 3) := by decide +kernel
theorem dX9_best_46 : decode cX9_best 46 = .ok (.iload 5, 2) := by decide +kernel
theorem dX9_best_48 : decode cX9_best 48 = .ok (.iload 5, 2) := by decide +kernel
theorem dX9_best_50 : decode cX9_best 50 = .ok (.iload_n 1, 1) := by decide +kernel
theorem dX9_best_51 : decode cX9_best 51 = .ok (.if_icmp .ge 8, 3) := by decide +kernel
theorem dX9_best_54 : decode cX9_best 54 = .ok (.iload 4, 2) := by decide +kernel
theorem dX9_best_56 : decode cX9_best 56 = .ok (.goto 4, 3) := by decide +kernel
theorem dX9_best_59 : decode cX9_best 59 = .ok (.iconst 0, 1) := by decide +kernel
theorem dX9_best_60 : decode cX9_best 60 = .ok (.iastore, 1) := by decide +kernel
theorem dX9_best_61 : decode cX9_best 61 = .ok (.iinc 5 1, 3) := by decide +kernel
theorem dX9_best_64 : decode cX9_best 64 = .ok (.goto (-28), 3) := by decide +kernel
theorem dX9_best_67 : decode cX9_best 67 = .ok (.aload_n 0, 1) := by decide +kernel
theorem dX9_best_68 : decode cX9_best 68 = .ok (.iload_n 1, 1) := by decide +kernel
theorem dX9_best_69 : decode cX9_best 69 = .ok (.invokevirtual 267, 3) := by decide +kernel
theorem dX9_best_72 : decode cX9_best 72 = .ok (.iload_n 1, 1) := by decide +kernel
theorem dX9_best_73 : decode cX9_best 73 = .ok (.iload 4, 2) := by decide +kernel
theorem dX9_best_75 : decode cX9_best 75 = .ok (.imul, 1) := by decide +kernel
theorem dX9_best_76 : decode cX9_best 76 = .ok (.iadd, 1) := by decide +kernel
theorem dX9_best_77 : decode cX9_best 77 = .ok (.istore 5, 2) := by decide +kernel
theorem dX9_best_79 : decode cX9_best 79 = .ok (.iload_n 2, 1) := by decide +kernel
theorem dX9_best_80 : decode cX9_best 80 = .ok (.ifCond .lt 9, 3) := by decide +kernel
theorem dX9_best_83 : decode cX9_best 83 = .ok (.iload 5, 2) := by decide +kernel
theorem dX9_best_85 : decode cX9_best 85 = .ok (.iload_n 3, 1) := by decide +kernel
theorem dX9_best_86 : decode cX9_best 86 = .ok (.if_icmp .ge 9, 3) := by decide +kernel
theorem dX9_best_89 : decode cX9_best 89 = .ok (.iload 4, 2) := by decide +kernel
theorem dX9_best_91 : decode cX9_best 91 = .ok (.istore_n 2, 1) := by decide +kernel
theorem dX9_best_92 : decode cX9_best 92 = .ok (.iload 5, 2) := by decide +kernel
theorem dX9_best_94 : decode cX9_best 94 = .ok (.istore_n 3, 1) := by decide +kernel
theorem dX9_best_95 : decode cX9_best 95 = .ok (.iinc 4 1, 3) := by decide +kernel
theorem dX9_best_98 : decode cX9_best 98 = .ok (.goto (-72), 3) := by decide +kernel
theorem dX9_best_101 : decode cX9_best 101 = .ok (.aload_n 0, 1) := by decide +kernel
theorem dX9_best_102 : decode cX9_best 102 = .ok (.iconst 0, 1) := by decide +kernel
theorem dX9_best_103 : decode cX9_best 103 = .ok (.putfield 11, 3) := by decide +kernel
theorem dX9_best_106 : decode cX9_best 106 = .ok (.aload_n 0, 1) := by decide +kernel
theorem dX9_best_107 : decode cX9_best 107 = .ok (.iload_n 3, 1) := by decide +kernel
theorem dX9_best_108 : decode cX9_best 108 = .ok (.i2l, 1) := by decide +kernel
theorem dX9_best_109 : decode cX9_best 109 = .ok (.invokevirtual 153, 3) := by decide +kernel
theorem dX9_best_112 : decode cX9_best 112 = .ok (.iload_n 2, 1) := by decide +kernel
theorem dX9_best_113 : decode cX9_best 113 = .ok (.ireturn, 1) := by decide +kernel
theorem dX9_ahead_0 : decode cX9_ahead 0 = .ok (.aload_n 0, 1) := by decide +kernel
theorem dX9_ahead_1 : decode cX9_ahead 1 = .ok (.iconst 0, 1) := by decide +kernel
theorem dX9_ahead_2 : decode cX9_ahead 2 = .ok (.putfield 1, 3) := by decide +kernel
theorem dX9_ahead_5 : decode cX9_ahead 5 = .ok (.aload_n 0, 1) := by decide +kernel
theorem dX9_ahead_6 : decode cX9_ahead 6 = .ok (.iload_n 1, 1) := by decide +kernel
theorem dX9_ahead_7 : decode cX9_ahead 7 = .ok (.invokevirtual 89, 3) := by decide +kernel
theorem dX9_ahead_10 : decode cX9_ahead 10 = .ok (.ifCond .eq 16, 3) := by decide +kernel
theorem dX9_ahead_13 : decode cX9_ahead 13 = .ok (.aload_n 0, 1) := by decide +kernel
theorem dX9_ahead_14 : decode cX9_ahead 14 = .ok (.iload_n 2, 1) := by decide +kernel
theorem dX9_ahead_15 : decode cX9_ahead 15 = .ok (.invokevirtual 89, 3) := by decide +kernel
theorem dX9_ahead_18 : decode cX9_ahead 18 = .ok (.ifCond .eq 8, 3) := by decide +kernel
theorem dX9_ahead_21 : decode cX9_ahead 21 = .ok (.iload_n 1, 1) := by decide +kernel
theorem dX9_ahead_22 : decode cX9_ahead 22 = .ok (.iload_n 2, 1) := by decide +kernel
theorem dX9_ahead_23 : decode cX9_ahead 23 = .ok (.if_icmp .ne 5, 3) := by decide +kernel
theorem dX9_ahead_26 : decode cX9_ahead 26 = .ok (.iconst (-1), 1) := by decide +kernel
theorem dX9_ahead_27 : decode cX9_ahead 27 = .ok (.ireturn, 1) := by decide +kernel
theorem dX9_ahead_28 : decode cX9_ahead 28 = .ok (.aload_n 0, 1) := by decide +kernel
theorem dX9_ahead_29 : decode cX9_ahead 29 = .ok (.iload_n 1, 1) := by decide +kernel
theorem dX9_ahead_30 : decode cX9_ahead 30 = .ok (.invokevirtual 99, 3) := by decide +kernel
theorem dX9_ahead_33 : decode cX9_ahead 33 = .ok (.ifCond .eq 11, 3) := by decide +kernel
theorem dX9_ahead_36 : decode cX9_ahead 36 = .ok (.aload_n 0, 1) := by decide +kernel
theorem dX9_ahead_37 : decode cX9_ahead 37 = .ok (.iload_n 2, 1) := by decide +kernel
theorem dX9_ahead_38 : decode cX9_ahead 38 = .ok (.invokevirtual 99, 3) := by decide +kernel
theorem dX9_ahead_41 : decode cX9_ahead 41 = .ok (.ifCond .ne 6, 3) := by decide +kernel
theorem dX9_ahead_44 : decode cX9_ahead 44 = .ok (.bipush (-2), 2) := by decide +kernel
theorem dX9_ahead_46 : decode cX9_ahead 46 = .ok (.ireturn, 1) := by decide +kernel
theorem dX9_ahead_47 : decode cX9_ahead 47 = .ok (.aload_n 0, 1) := by decide +kernel
theorem dX9_ahead_48 : decode cX9_ahead 48 = .ok (.iload_n 1, 1) := by decide +kernel
theorem dX9_ahead_49 : decode cX9_ahead 49 = .ok (.iload_n 2, 1) := by decide +kernel
theorem dX9_ahead_50 : decode cX9_ahead 50 = .ok (.iconst 1, 1) := by decide +kernel
theorem dX9_ahead_51 : decode cX9_ahead 51 = .ok (.invokevirtual 112, 3) := by decide +kernel
theorem dX9_ahead_54 : decode cX9_ahead 54 = .ok (.istore_n 3, 1) := by decide +kernel
theorem dX9_ahead_55 : decode cX9_ahead 55 = .ok (.aload_n 0, 1) := by decide +kernel
theorem dX9_ahead_56 : decode cX9_ahead 56 = .ok (.iconst 0, 1) := by decide +kernel
theorem dX9_ahead_57 : decode cX9_ahead 57 = .ok (.putfield 11, 3) := by decide +kernel
theorem dX9_ahead_60 : decode cX9_ahead 60 = .ok (.aload_n 0, 1) := by decide +kernel
theorem dX9_ahead_61 : decode cX9_ahead 61 = .ok (.aload_n 0, 1) := by decide +kernel
theorem dX9_ahead_62 : decode cX9_ahead 62 = .ok (.sipush 231, 3) := by decide +kernel
theorem dX9_ahead_65 : decode cX9_ahead 65 = .ok (.iload_n 1, 1) := by decide +kernel
theorem dX9_ahead_66 : decode cX9_ahead 66 = .ok (.iadd, 1) := by decide +kernel
theorem dX9_ahead_67 : decode cX9_ahead 67 = .ok (.invokevirtual 85, 3) := by decide +kernel
theorem dX9_ahead_70 : decode cX9_ahead 70 = .ok (.aload_n 0, 1) := by decide +kernel
theorem dX9_ahead_71 : decode cX9_ahead 71 = .ok (.sipush 231, 3) := by decide +kernel
theorem dX9_ahead_74 : decode cX9_ahead 74 = .ok (.iload_n 2, 1) := by decide +kernel
theorem dX9_ahead_75 : decode cX9_ahead 75 = .ok (.iadd, 1) := by decide +kernel
theorem dX9_ahead_76 : decode cX9_ahead 76 = .ok (.invokevirtual 85, 3) := by decide +kernel
theorem dX9_ahead_79 : decode cX9_ahead 79 = .ok (.invokestatic 120, 3) := by decide +kernel
theorem dX9_ahead_82 : decode cX9_ahead 82 = .ok (.i2l, 1) := by decide +kernel
theorem dX9_ahead_83 : decode cX9_ahead 83 = .ok (.invokevirtual 153, 3) := by decide +kernel
theorem dX9_ahead_86 : decode cX9_ahead 86 = .ok (.iload_n 3, 1) := by decide +kernel
theorem dX9_ahead_87 : decode cX9_ahead 87 = .ok (.ifCond .ne 7, 3) := by decide +kernel
theorem dX9_ahead_90 : decode cX9_ahead 90 = .ok (.iconst 1, 1) := by decide +kernel
theorem dX9_ahead_91 : decode cX9_ahead 91 = .ok (.goto 4, 3) := by decide +kernel
theorem dX9_ahead_94 : decode cX9_ahead 94 = .ok (.iconst 0, 1) := by decide +kernel
theorem dX9_ahead_95 : decode cX9_ahead 95 = .ok (.invokestatic 31, 3) := by decide +kernel
theorem dX9_ahead_98 : decode cX9_ahead 98 = .ok (.ireturn, 1) := by decide +kernel
theorem dX9_would_0 : decode cX9_would 0 = .ok (.aload_n 0, 1) := by decide +kernel
theorem dX9_would_1 : decode cX9_would 1 = .ok (.iconst 0, 1) := by decide +kernel
theorem dX9_would_2 : decode cX9_would 2 = .ok (.putfield 1, 3) := by decide +kernel
theorem dX9_would_5 : decode cX9_would 5 = .ok (.iload_n 1, 1) := by decide +kernel
theorem dX9_would_6 : decode cX9_would 6 = .ok (.invokestatic 195, 3) := by decide +kernel
theorem dX9_would_9 : decode cX9_would 9 = .ok (.ifCond .ne 5, 3) := by decide +kernel
theorem dX9_would_12 : decode cX9_would 12 = .ok (.iconst (-1), 1) := by decide +kernel
theorem dX9_would_13 : decode cX9_would 13 = .ok (.ireturn, 1) := by decide +kernel
theorem dX9_would_14 : decode cX9_would 14 = .ok (.aload_n 0, 1) := by decide +kernel
theorem dX9_would_15 : decode cX9_would 15 = .ok (.invokevirtual 246, 3) := by decide +kernel
theorem dX9_would_18 : decode cX9_would 18 = .ok (.aload_n 0, 1) := by decide +kernel
theorem dX9_would_19 : decode cX9_would 19 = .ok (.iload_n 1, 1) := by decide +kernel
theorem dX9_would_20 : decode cX9_would 20 = .ok (.invokevirtual 198, 3) := by decide +kernel
theorem dX9_would_23 : decode cX9_would 23 = .ok (.istore_n 2, 1) := by decide +kernel
theorem dX9_would_24 : decode cX9_would 24 = .ok (.iload_n 2, 1) := by decide +kernel
theorem dX9_would_25 : decode cX9_would 25 = .ok (.ifCond .lt 69, 3) := by decide +kernel
theorem dX9_would_28 : decode cX9_would 28 = .ok (.aload_n 0, 1) := by decide +kernel
theorem dX9_would_29 : decode cX9_would 29 = .ok (.iconst 0, 1) := by decide +kernel
theorem dX9_would_30 : decode cX9_would 30 = .ok (.putfield 11, 3) := by decide +kernel
theorem dX9_would_33 : decode cX9_would 33 = .ok (.iconst 0, 1) := by decide +kernel
theorem dX9_would_34 : decode cX9_would 34 = .ok (.istore_n 3, 1) := by decide +kernel
theorem dX9_would_35 : decode cX9_would 35 = .ok (.iload_n 3, 1) := by decide +kernel
theorem dX9_would_36 : decode cX9_would 36 = .ok (.aload_n 0, 1) := by decide +kernel
theorem dX9_would_37 : decode cX9_would 37 = .ok (.getfield 129, 3) := by decide +kernel
theorem dX9_would_40 : decode cX9_would 40 = .ok (.if_icmp .ge 54, 3) := by decide +kernel
theorem dX9_would_43 : decode cX9_would 43 = .ok (.aload_n 0, 1) := by decide +kernel
theorem dX9_would_44 : decode cX9_would 44 = .ok (.getfield 55, 3) := by decide +kernel
theorem dX9_would_47 : decode cX9_would 47 = .ok (.iload_n 3, 1) := by decide +kernel
theorem dX9_would_48 : decode cX9_would 48 = .ok (.iaload, 1) := by decide +kernel
theorem dX9_would_49 : decode cX9_would 49 = .ok (.istore 4, 2) := by decide +kernel
theorem dX9_would_51 : decode cX9_would 51 = .ok (.aload_n 0, 1) := by decide +kernel
theorem dX9_would_52 : decode cX9_would 52 = .ok (.iload 4, 2) := by decide +kernel
theorem dX9_would_54 : decode cX9_would 54 = .ok (.i2l, 1) := by decide +kernel
theorem dX9_would_55 : decode cX9_would 55 = .ok (.invokevirtual 153, 3) := by decide +kernel
theorem dX9_would_58 : decode cX9_would 58 = .ok (.aload_n 0, 1) := by decide +kernel
theorem dX9_would_59 : decode cX9_would 59 = .ok (.aload_n 0, 1) := by decide +kernel
theorem dX9_would_60 : decode cX9_would 60 = .ok (.iload 4, 2) := by decide +kernel
theorem dX9_would_62 : decode cX9_would 62 = .ok (.invokevirtual 89, 3) := by decide +kernel
theorem dX9_would_65 : decode cX9_would 65 = .ok (.ifCond .eq 17, 3) := by decide +kernel
theorem dX9_would_68 : decode cX9_would 68 = .ok (.aload_n 0, 1) := by decide +kernel
theorem dX9_would_69 : decode cX9_would 69 = .ok (.sipush 231, 3) := by decide +kernel
theorem dX9_would_72 : decode cX9_would 72 = .ok (.iload 4, 2) := by decide +kernel
theorem dX9_would_74 : decode cX9_would 74 = .ok (.iadd, 1) := by decide +kernel
theorem dX9_would_75 : decode cX9_would 75 = .ok (.invokevirtual 85, 3) := by decide +kernel
theorem dX9_would_78 : decode cX9_would 78 = .ok (.i2l, 1) := by decide +kernel
theorem dX9_would_79 : decode cX9_would 79 = .ok (.goto 6, 3) := by decide +kernel
theorem dX9_would_82 : decode cX9_would 82 = .ok (.ldc2_w 272, 3) := by decide +kernel
theorem dX9_would_85 : decode cX9_would 85 = .ok (.invokevirtual 153, 3) := by decide +kernel
theorem dX9_would_88 : decode cX9_would 88 = .ok (.iinc 3 1, 3) := by decide +kernel
theorem dX9_would_91 : decode cX9_would 91 = .ok (.goto (-56), 3) := by decide +kernel
theorem dX9_would_94 : decode cX9_would 94 = .ok (.aload_n 0, 1) := by decide +kernel
theorem dX9_would_95 : decode cX9_would 95 = .ok (.invokevirtual 249, 3) := by decide +kernel
theorem dX9_would_98 : decode cX9_would 98 = .ok (.iload_n 2, 1) := by decide +kernel
theorem dX9_would_99 : decode cX9_would 99 = .ok (.ireturn, 1) := by decide +kernel
theorem dX9_busiest_0 : decode cX9_busiest 0 = .ok (.aload_n 0, 1) := by decide +kernel
theorem dX9_busiest_1 : decode cX9_busiest 1 = .ok (.iconst 0, 1) := by decide +kernel
theorem dX9_busiest_2 : decode cX9_busiest 2 = .ok (.putfield 1, 3) := by decide +kernel
theorem dX9_busiest_5 : decode cX9_busiest 5 = .ok (.iload_n 1, 1) := by decide +kernel
theorem dX9_busiest_6 : decode cX9_busiest 6 = .ok (.i2l, 1) := by decide +kernel
theorem dX9_busiest_7 : decode cX9_busiest 7 = .ok (.lconst 1, 1) := by decide +kernel
theorem dX9_busiest_8 : decode cX9_busiest 8 = .ok (.ldc2_w 183, 3) := by decide +kernel
theorem dX9_busiest_11 : decode cX9_busiest 11 = .ok (.invokestatic 21, 3) := by decide +kernel
theorem dX9_busiest_14 : decode cX9_busiest 14 = .ok (.ifCond .ne 5, 3) := by decide +kernel
theorem dX9_busiest_17 : decode cX9_busiest 17 = .ok (.iconst (-1), 1) := by decide +kernel
theorem dX9_busiest_18 : decode cX9_busiest 18 = .ok (.ireturn, 1) := by decide +kernel
theorem dX9_busiest_19 : decode cX9_busiest 19 = .ok (.aload_n 0, 1) := by decide +kernel
theorem dX9_busiest_20 : decode cX9_busiest 20 = .ok (.bipush 6, 2) := by decide +kernel
theorem dX9_busiest_22 : decode cX9_busiest 22 = .ok (.invokevirtual 85, 3) := by decide +kernel
theorem dX9_busiest_25 : decode cX9_busiest 25 = .ok (.iload_n 1, 1) := by decide +kernel
theorem dX9_busiest_26 : decode cX9_busiest 26 = .ok (.iadd, 1) := by decide +kernel
theorem dX9_busiest_27 : decode cX9_busiest 27 = .ok (.ldc 157, 2) := by decide +kernel
theorem dX9_busiest_29 : decode cX9_busiest 29 = .ok (.if_icmp .le 6, 3) := by decide +kernel
theorem dX9_busiest_32 : decode cX9_busiest 32 = .ok (.bipush (-4), 2) := by decide +kernel
theorem dX9_busiest_34 : decode cX9_busiest 34 = .ok (.ireturn, 1) := by decide +kernel
theorem dX9_busiest_35 : decode cX9_busiest 35 = .ok (.aload_n 0, 1) := by decide +kernel
theorem dX9_busiest_36 : decode cX9_busiest 36 = .ok (.invokevirtual 246, 3) := by decide +kernel
theorem dX9_busiest_39 : decode cX9_busiest 39 = .ok (.aload_n 0, 1) := by decide +kernel
theorem dX9_busiest_40 : decode cX9_busiest 40 = .ok (.bipush 6, 2) := by decide +kernel
theorem dX9_busiest_42 : decode cX9_busiest 42 = .ok (.invokevirtual 85, 3) := by decide +kernel
theorem dX9_busiest_45 : decode cX9_busiest 45 = .ok (.istore_n 2, 1) := by decide +kernel
theorem dX9_busiest_46 : decode cX9_busiest 46 = .ok (.iconst 0, 1) := by decide +kernel
theorem dX9_busiest_47 : decode cX9_busiest 47 = .ok (.istore_n 3, 1) := by decide +kernel
theorem dX9_busiest_48 : decode cX9_busiest 48 = .ok (.iconst 0, 1) := by decide +kernel
theorem dX9_busiest_49 : decode cX9_busiest 49 = .ok (.istore 4, 2) := by decide +kernel
theorem dX9_busiest_51 : decode cX9_busiest 51 = .ok (.iconst 0, 1) := by decide +kernel
theorem dX9_busiest_52 : decode cX9_busiest 52 = .ok (.istore 5, 2) := by decide +kernel
theorem dX9_busiest_54 : decode cX9_busiest 54 = .ok (.iload 5, 2) := by decide +kernel
theorem dX9_busiest_56 : decode cX9_busiest 56 = .ok (.iload_n 1, 1) := by decide +kernel
theorem dX9_busiest_57 : decode cX9_busiest 57 = .ok (.if_icmp .ge 67, 3) := by decide +kernel
theorem dX9_busiest_60 : decode cX9_busiest 60 = .ok (.aload_n 0, 1) := by decide +kernel
theorem dX9_busiest_61 : decode cX9_busiest 61 = .ok (.iconst 1, 1) := by decide +kernel
theorem dX9_busiest_62 : decode cX9_busiest 62 = .ok (.invokevirtual 185, 3) := by decide +kernel
theorem dX9_busiest_65 : decode cX9_busiest 65 = .ok (.istore 6, 2) := by decide +kernel
theorem dX9_busiest_67 : decode cX9_busiest 67 = .ok (.iload 6, 2) := by decide +kernel
theorem dX9_busiest_69 : decode cX9_busiest 69 = .ok (.iload_n 3, 1) := by decide +kernel
theorem dX9_busiest_70 : decode cX9_busiest 70 = .ok (.if_icmp .le 7, 3) := by decide +kernel
theorem dX9_busiest_73 : decode cX9_busiest 73 = .ok (.iconst 1, 1) := by decide +kernel
theorem dX9_busiest_74 : decode cX9_busiest 74 = .ok (.goto 18, 3) := by decide +kernel
theorem dX9_busiest_77 : decode cX9_busiest 77 = .ok (.iload 6, 2) := by decide +kernel
theorem dX9_busiest_79 : decode cX9_busiest 79 = .ok (.iload_n 3, 1) := by decide +kernel
theorem dX9_busiest_80 : decode cX9_busiest 80 = .ok (.if_icmp .ne 10, 3) := by decide +kernel
theorem dX9_busiest_83 : decode cX9_busiest 83 = .ok (.iload 4, 2) := by decide +kernel
theorem dX9_busiest_85 : decode cX9_busiest 85 = .ok (.iconst 1, 1) := by decide +kernel
theorem dX9_busiest_86 : decode cX9_busiest 86 = .ok (.iadd, 1) := by decide +kernel
theorem dX9_busiest_87 : decode cX9_busiest 87 = .ok (.goto 5, 3) := by decide +kernel
theorem dX9_busiest_90 : decode cX9_busiest 90 = .ok (.iload 4, 2) := by decide +kernel
theorem dX9_busiest_92 : decode cX9_busiest 92 = .ok (.istore 4, 2) := by decide +kernel
theorem dX9_busiest_94 : decode cX9_busiest 94 = .ok (.iload 6, 2) := by decide +kernel
theorem dX9_busiest_96 : decode cX9_busiest 96 = .ok (.iload_n 3, 1) := by decide +kernel
theorem dX9_busiest_97 : decode cX9_busiest 97 = .ok (.if_icmp .le 12, 3) := by decide +kernel
theorem dX9_busiest_100 : decode cX9_busiest 100 = .ok (.aload_n 0, 1) := by decide +kernel
theorem dX9_busiest_101 : decode cX9_busiest 101 = .ok (.bipush 6, 2) := by decide +kernel
theorem dX9_busiest_103 : decode cX9_busiest 103 = .ok (.invokevirtual 85, 3) := by decide +kernel
theorem dX9_busiest_106 : decode cX9_busiest 106 = .ok (.goto 4, 3) := by decide +kernel
theorem dX9_busiest_109 : decode cX9_busiest 109 = .ok (.iload_n 2, 1) := by decide +kernel
theorem dX9_busiest_110 : decode cX9_busiest 110 = .ok (.istore_n 2, 1) := by decide +kernel
theorem dX9_busiest_111 : decode cX9_busiest 111 = .ok (.iload_n 3, 1) := by decide +kernel
theorem dX9_busiest_112 : decode cX9_busiest 112 = .ok (.iload 6, 2) := by decide +kernel
theorem dX9_busiest_114 : decode cX9_busiest 114 = .ok (.invokestatic 150, 3) := by decide +kernel
theorem dX9_busiest_117 : decode cX9_busiest 117 = .ok (.istore_n 3, 1) := by decide +kernel
theorem dX9_busiest_118 : decode cX9_busiest 118 = .ok (.iinc 5 1, 3) := by decide +kernel
theorem dX9_busiest_121 : decode cX9_busiest 121 = .ok (.goto (-67), 3) := by decide +kernel
theorem dX9_busiest_124 : decode cX9_busiest 124 = .ok (.aload_n 0, 1) := by decide +kernel
theorem dX9_busiest_125 : decode cX9_busiest 125 = .ok (.invokevirtual 249, 3) := by decide +kernel
theorem dX9_busiest_128 : decode cX9_busiest 128 = .ok (.aload_n 0, 1) := by decide +kernel
theorem dX9_busiest_129 : decode cX9_busiest 129 = .ok (.iconst 0, 1) := by decide +kernel
theorem dX9_busiest_130 : decode cX9_busiest 130 = .ok (.putfield 11, 3) := by decide +kernel
theorem dX9_busiest_133 : decode cX9_busiest 133 = .ok (.aload_n 0, 1) := by decide +kernel
theorem dX9_busiest_134 : decode cX9_busiest 134 = .ok (.iload_n 3, 1) := by decide +kernel
theorem dX9_busiest_135 : decode cX9_busiest 135 = .ok (.i2l, 1) := by decide +kernel
theorem dX9_busiest_136 : decode cX9_busiest 136 = .ok (.invokevirtual 153, 3) := by decide +kernel
theorem dX9_busiest_139 : decode cX9_busiest 139 = .ok (.aload_n 0, 1) := by decide +kernel
theorem dX9_busiest_140 : decode cX9_busiest 140 = .ok (.iload_n 3, 1) := by decide +kernel
theorem dX9_busiest_141 : decode cX9_busiest 141 = .ok (.ifCond .le 13, 3) := by decide +kernel
theorem dX9_busiest_144 : decode cX9_busiest 144 = .ok (.iload 4, 2) := by decide +kernel
theorem dX9_busiest_146 : decode cX9_busiest 146 = .ok (.iconst 1, 1) := by decide +kernel
theorem dX9_busiest_147 : decode cX9_busiest 147 = .ok (.if_icmp .le 7, 3) := by decide +kernel
theorem dX9_busiest_150 : decode cX9_busiest 150 = .ok (.iconst 1, 1) := by decide +kernel
theorem dX9_busiest_151 : decode cX9_busiest 151 = .ok (.goto 4, 3) := by decide +kernel
theorem dX9_busiest_154 : decode cX9_busiest 154 = .ok (.iconst 0, 1) := by decide +kernel
theorem dX9_busiest_155 : decode cX9_busiest 155 = .ok (.invokestatic 31, 3) := by decide +kernel
theorem dX9_busiest_158 : decode cX9_busiest 158 = .ok (.i2l, 1) := by decide +kernel
theorem dX9_busiest_159 : decode cX9_busiest 159 = .ok (.invokevirtual 153, 3) := by decide +kernel
theorem dX9_busiest_162 : decode cX9_busiest 162 = .ok (.iload_n 2, 1) := by decide +kernel
theorem dX9_busiest_163 : decode cX9_busiest 163 = .ok (.ireturn, 1) := by decide +kernel
theorem dX9_loudest_0 : decode cX9_loudest 0 = .ok (.aload_n 0, 1) := by decide +kernel
theorem dX9_loudest_1 : decode cX9_loudest 1 = .ok (.iconst 0, 1) := by decide +kernel
theorem dX9_loudest_2 : decode cX9_loudest 2 = .ok (.putfield 1, 3) := by decide +kernel
theorem dX9_loudest_5 : decode cX9_loudest 5 = .ok (.iload_n 1, 1) := by decide +kernel
theorem dX9_loudest_6 : decode cX9_loudest 6 = .ok (.i2l, 1) := by decide +kernel
theorem dX9_loudest_7 : decode cX9_loudest 7 = .ok (.lconst 1, 1) := by decide +kernel
theorem dX9_loudest_8 : decode cX9_loudest 8 = .ok (.ldc2_w 183, 3) := by decide +kernel
theorem dX9_loudest_11 : decode cX9_loudest 11 = .ok (.invokestatic 21, 3) := by decide +kernel
theorem dX9_loudest_14 : decode cX9_loudest 14 = .ok (.ifCond .ne 5, 3) := by decide +kernel
theorem dX9_loudest_17 : decode cX9_loudest 17 = .ok (.iconst (-1), 1) := by decide +kernel
theorem dX9_loudest_18 : decode cX9_loudest 18 = .ok (.ireturn, 1) := by decide +kernel
theorem dX9_loudest_19 : decode cX9_loudest 19 = .ok (.aload_n 0, 1) := by decide +kernel
theorem dX9_loudest_20 : decode cX9_loudest 20 = .ok (.bipush 6, 2) := by decide +kernel
theorem dX9_loudest_22 : decode cX9_loudest 22 = .ok (.invokevirtual 85, 3) := by decide +kernel
theorem dX9_loudest_25 : decode cX9_loudest 25 = .ok (.iload_n 1, 1) := by decide +kernel
theorem dX9_loudest_26 : decode cX9_loudest 26 = .ok (.iadd, 1) := by decide +kernel
theorem dX9_loudest_27 : decode cX9_loudest 27 = .ok (.ldc 157, 2) := by decide +kernel
theorem dX9_loudest_29 : decode cX9_loudest 29 = .ok (.if_icmp .le 6, 3) := by decide +kernel
theorem dX9_loudest_32 : decode cX9_loudest 32 = .ok (.bipush (-4), 2) := by decide +kernel
theorem dX9_loudest_34 : decode cX9_loudest 34 = .ok (.ireturn, 1) := by decide +kernel
theorem dX9_loudest_35 : decode cX9_loudest 35 = .ok (.iconst 0, 1) := by decide +kernel
theorem dX9_loudest_36 : decode cX9_loudest 36 = .ok (.istore_n 2, 1) := by decide +kernel
theorem dX9_loudest_37 : decode cX9_loudest 37 = .ok (.iload_n 2, 1) := by decide +kernel
theorem dX9_loudest_38 : decode cX9_loudest 38 = .ok (.bipush 8, 2) := by decide +kernel
theorem dX9_loudest_40 : decode cX9_loudest 40 = .ok (.if_icmp .ge 16, 3) := by decide +kernel
theorem dX9_loudest_43 : decode cX9_loudest 43 = .ok (.aload_n 0, 1) := by decide +kernel
theorem dX9_loudest_44 : decode cX9_loudest 44 = .ok (.getfield 73, 3) := by decide +kernel
theorem dX9_loudest_47 : decode cX9_loudest 47 = .ok (.iload_n 2, 1) := by decide +kernel
theorem dX9_loudest_48 : decode cX9_loudest 48 = .ok (.iconst 0, 1) := by decide +kernel
theorem dX9_loudest_49 : decode cX9_loudest 49 = .ok (.iastore, 1) := by decide +kernel
theorem dX9_loudest_50 : decode cX9_loudest 50 = .ok (.iinc 2 1, 3) := by decide +kernel
theorem dX9_loudest_53 : decode cX9_loudest 53 = .ok (.goto (-16), 3) := by decide +kernel
theorem dX9_loudest_56 : decode cX9_loudest 56 = .ok (.aload_n 0, 1) := by decide +kernel
theorem dX9_loudest_57 : decode cX9_loudest 57 = .ok (.invokevirtual 246, 3) := by decide +kernel
theorem dX9_loudest_60 : decode cX9_loudest 60 = .ok (.iconst 0, 1) := by decide +kernel
theorem dX9_loudest_61 : decode cX9_loudest 61 = .ok (.istore_n 2, 1) := by decide +kernel
theorem dX9_loudest_62 : decode cX9_loudest 62 = .ok (.iload_n 2, 1) := by decide +kernel
theorem dX9_loudest_63 : decode cX9_loudest 63 = .ok (.iload_n 1, 1) := by decide +kernel
theorem dX9_loudest_64 : decode cX9_loudest 64 = .ok (.if_icmp .ge 54, 3) := by decide +kernel
theorem dX9_loudest_67 : decode cX9_loudest 67 = .ok (.aload_n 0, 1) := by decide +kernel
theorem dX9_loudest_68 : decode cX9_loudest 68 = .ok (.iconst 1, 1) := by decide +kernel
theorem dX9_loudest_69 : decode cX9_loudest 69 = .ok (.invokevirtual 185, 3) := by decide +kernel
theorem dX9_loudest_72 : decode cX9_loudest 72 = .ok (.istore_n 3, 1) := by decide +kernel
theorem dX9_loudest_73 : decode cX9_loudest 73 = .ok (.iconst 0, 1) := by decide +kernel
theorem dX9_loudest_74 : decode cX9_loudest 74 = .ok (.istore 4, 2) := by decide +kernel
theorem dX9_loudest_76 : decode cX9_loudest 76 = .ok (.iload 4, 2) := by decide +kernel
theorem dX9_loudest_78 : decode cX9_loudest 78 = .ok (.iload_n 3, 1) := by decide +kernel
theorem dX9_loudest_79 : decode cX9_loudest 79 = .ok (.if_icmp .ge 33, 3) := by decide +kernel
theorem dX9_loudest_82 : decode cX9_loudest 82 = .ok (.aload_n 0, 1) := by decide +kernel
theorem dX9_loudest_83 : decode cX9_loudest 83 = .ok (.getfield 73, 3) := by decide +kernel
theorem dX9_loudest_86 : decode cX9_loudest 86 = .ok (.aload_n 0, 1) := by decide +kernel
theorem dX9_loudest_87 : decode cX9_loudest 87 = .ok (.sipush 263, 3) := by decide +kernel
theorem dX9_loudest_90 : decode cX9_loudest 90 = .ok (.aload_n 0, 1) := by decide +kernel
theorem dX9_loudest_91 : decode cX9_loudest 91 = .ok (.getfield 55, 3) := by decide +kernel
theorem dX9_loudest_94 : decode cX9_loudest 94 = .ok (.iload 4, 2) := by decide +kernel
theorem dX9_loudest_96 : decode cX9_loudest 96 = .ok (.iaload, 1) := by decide +kernel
theorem dX9_loudest_97 : decode cX9_loudest 97 = .ok (.iadd, 1) := by decide +kernel
theorem dX9_loudest_98 : decode cX9_loudest 98 = .ok (.invokevirtual 85, 3) := by decide +kernel
theorem dX9_loudest_101 : decode cX9_loudest 101 = .ok (.dup2, 1) := by decide +kernel
theorem dX9_loudest_102 : decode cX9_loudest 102 = .ok (.iaload, 1) := by decide +kernel
theorem dX9_loudest_103 : decode cX9_loudest 103 = .ok (.iconst 1, 1) := by decide +kernel
theorem dX9_loudest_104 : decode cX9_loudest 104 = .ok (.iadd, 1) := by decide +kernel
theorem dX9_loudest_105 : decode cX9_loudest 105 = .ok (.iastore, 1) := by decide +kernel
theorem dX9_loudest_106 : decode cX9_loudest 106 = .ok (.iinc 4 1, 3) := by decide +kernel
theorem dX9_loudest_109 : decode cX9_loudest 109 = .ok (.goto (-33), 3) := by decide +kernel
theorem dX9_loudest_112 : decode cX9_loudest 112 = .ok (.iinc 2 1, 3) := by decide +kernel
theorem dX9_loudest_115 : decode cX9_loudest 115 = .ok (.goto (-53), 3) := by decide +kernel
theorem dX9_loudest_118 : decode cX9_loudest 118 = .ok (.aload_n 0, 1) := by decide +kernel
theorem dX9_loudest_119 : decode cX9_loudest 119 = .ok (.invokevirtual 249, 3) := by decide +kernel
theorem dX9_loudest_122 : decode cX9_loudest 122 = .ok (.iconst 0, 1) := by decide +kernel
theorem dX9_loudest_123 : decode cX9_loudest 123 = .ok (.istore_n 2, 1) := by decide +kernel
theorem dX9_loudest_124 : decode cX9_loudest 124 = .ok (.iconst 1, 1) := by decide +kernel
theorem dX9_loudest_125 : decode cX9_loudest 125 = .ok (.istore_n 3, 1) := by decide +kernel
theorem dX9_loudest_126 : decode cX9_loudest 126 = .ok (.iload_n 3, 1) := by decide +kernel
theorem dX9_loudest_127 : decode cX9_loudest 127 = .ok (.bipush 8, 2) := by decide +kernel
theorem dX9_loudest_129 : decode cX9_loudest 129 = .ok (.if_icmp .ge 30, 3) := by decide +kernel
theorem dX9_loudest_132 : decode cX9_loudest 132 = .ok (.aload_n 0, 1) := by decide +kernel
theorem dX9_loudest_133 : decode cX9_loudest 133 = .ok (.getfield 73, 3) := by decide +kernel
theorem dX9_loudest_136 : decode cX9_loudest 136 = .ok (.iload_n 3, 1) := by decide +kernel
theorem dX9_loudest_137 : decode cX9_loudest 137 = .ok (.iaload, 1) := by decide +kernel
theorem dX9_loudest_138 : decode cX9_loudest 138 = .ok (.aload_n 0, 1) := by decide +kernel
theorem dX9_loudest_139 : decode cX9_loudest 139 = .ok (.getfield 73, 3) := by decide +kernel
theorem dX9_loudest_142 : decode cX9_loudest 142 = .ok (.iload_n 2, 1) := by decide +kernel
theorem dX9_loudest_143 : decode cX9_loudest 143 = .ok (.iaload, 1) := by decide +kernel
theorem dX9_loudest_144 : decode cX9_loudest 144 = .ok (.if_icmp .le 7, 3) := by decide +kernel
theorem dX9_loudest_147 : decode cX9_loudest 147 = .ok (.iload_n 3, 1) := by decide +kernel
theorem dX9_loudest_148 : decode cX9_loudest 148 = .ok (.goto 4, 3) := by decide +kernel
theorem dX9_loudest_151 : decode cX9_loudest 151 = .ok (.iload_n 2, 1) := by decide +kernel
theorem dX9_loudest_152 : decode cX9_loudest 152 = .ok (.istore_n 2, 1) := by decide +kernel
theorem dX9_loudest_153 : decode cX9_loudest 153 = .ok (.iinc 3 1, 3) := by decide +kernel
theorem dX9_loudest_156 : decode cX9_loudest 156 = .ok (.goto (-30), 3) := by decide +kernel
theorem dX9_loudest_159 : decode cX9_loudest 159 = .ok (.aload_n 0, 1) := by decide +kernel
theorem dX9_loudest_160 : decode cX9_loudest 160 = .ok (.getfield 73, 3) := by decide +kernel
theorem dX9_loudest_163 : decode cX9_loudest 163 = .ok (.iload_n 2, 1) := by decide +kernel
theorem dX9_loudest_164 : decode cX9_loudest 164 = .ok (.iaload, 1) := by decide +kernel
theorem dX9_loudest_165 : decode cX9_loudest 165 = .ok (.ifCond .ne 6, 3) := by decide +kernel
theorem dX9_loudest_168 : decode cX9_loudest 168 = .ok (.bipush (-2), 2) := by decide +kernel
theorem dX9_loudest_170 : decode cX9_loudest 170 = .ok (.ireturn, 1) := by decide +kernel
theorem dX9_loudest_171 : decode cX9_loudest 171 = .ok (.aload_n 0, 1) := by decide +kernel
theorem dX9_loudest_172 : decode cX9_loudest 172 = .ok (.iconst 0, 1) := by decide +kernel
theorem dX9_loudest_173 : decode cX9_loudest 173 = .ok (.putfield 11, 3) := by decide +kernel
theorem dX9_loudest_176 : decode cX9_loudest 176 = .ok (.iconst 0, 1) := by decide +kernel
theorem dX9_loudest_177 : decode cX9_loudest 177 = .ok (.istore_n 3, 1) := by decide +kernel
theorem dX9_loudest_178 : decode cX9_loudest 178 = .ok (.iload_n 3, 1) := by decide +kernel
theorem dX9_loudest_179 : decode cX9_loudest 179 = .ok (.bipush 8, 2) := by decide +kernel
theorem dX9_loudest_181 : decode cX9_loudest 181 = .ok (.if_icmp .ge 20, 3) := by decide +kernel
theorem dX9_loudest_184 : decode cX9_loudest 184 = .ok (.aload_n 0, 1) := by decide +kernel
theorem dX9_loudest_185 : decode cX9_loudest 185 = .ok (.aload_n 0, 1) := by decide +kernel
theorem dX9_loudest_186 : decode cX9_loudest 186 = .ok (.getfield 73, 3) := by decide +kernel
theorem dX9_loudest_189 : decode cX9_loudest 189 = .ok (.iload_n 3, 1) := by decide +kernel
theorem dX9_loudest_190 : decode cX9_loudest 190 = .ok (.iaload, 1) := by decide +kernel
theorem dX9_loudest_191 : decode cX9_loudest 191 = .ok (.i2l, 1) := by decide +kernel
theorem dX9_loudest_192 : decode cX9_loudest 192 = .ok (.invokevirtual 153, 3) := by decide +kernel
theorem dX9_loudest_195 : decode cX9_loudest 195 = .ok (.iinc 3 1, 3) := by decide +kernel
theorem dX9_loudest_198 : decode cX9_loudest 198 = .ok (.goto (-20), 3) := by decide +kernel
theorem dX9_loudest_201 : decode cX9_loudest 201 = .ok (.iload_n 2, 1) := by decide +kernel
theorem dX9_loudest_202 : decode cX9_loudest 202 = .ok (.ireturn, 1) := by decide +kernel
theorem dX9_clashes_0 : decode cX9_clashes 0 = .ok (.aload_n 0, 1) := by decide +kernel
theorem dX9_clashes_1 : decode cX9_clashes 1 = .ok (.iconst 0, 1) := by decide +kernel
theorem dX9_clashes_2 : decode cX9_clashes 2 = .ok (.putfield 1, 3) := by decide +kernel
theorem dX9_clashes_5 : decode cX9_clashes 5 = .ok (.iload_n 1, 1) := by decide +kernel
theorem dX9_clashes_6 : decode cX9_clashes 6 = .ok (.i2l, 1) := by decide +kernel
theorem dX9_clashes_7 : decode cX9_clashes 7 = .ok (.lconst 1, 1) := by decide +kernel
theorem dX9_clashes_8 : decode cX9_clashes 8 = .ok (.ldc2_w 183, 3) := by decide +kernel
theorem dX9_clashes_11 : decode cX9_clashes 11 = .ok (.invokestatic 21, 3) := by decide +kernel
theorem dX9_clashes_14 : decode cX9_clashes 14 = .ok (.ifCond .ne 5, 3) := by decide +kernel
theorem dX9_clashes_17 : decode cX9_clashes 17 = .ok (.iconst (-1), 1) := by decide +kernel
theorem dX9_clashes_18 : decode cX9_clashes 18 = .ok (.ireturn, 1) := by decide +kernel
theorem dX9_clashes_19 : decode cX9_clashes 19 = .ok (.aload_n 0, 1) := by decide +kernel
theorem dX9_clashes_20 : decode cX9_clashes 20 = .ok (.bipush 6, 2) := by decide +kernel
theorem dX9_clashes_22 : decode cX9_clashes 22 = .ok (.invokevirtual 85, 3) := by decide +kernel
theorem dX9_clashes_25 : decode cX9_clashes 25 = .ok (.iload_n 1, 1) := by decide +kernel
theorem dX9_clashes_26 : decode cX9_clashes 26 = .ok (.iadd, 1) := by decide +kernel
theorem dX9_clashes_27 : decode cX9_clashes 27 = .ok (.ldc 157, 2) := by decide +kernel
theorem dX9_clashes_29 : decode cX9_clashes 29 = .ok (.if_icmp .le 6, 3) := by decide +kernel
theorem dX9_clashes_32 : decode cX9_clashes 32 = .ok (.bipush (-4), 2) := by decide +kernel
theorem dX9_clashes_34 : decode cX9_clashes 34 = .ok (.ireturn, 1) := by decide +kernel
theorem dX9_clashes_35 : decode cX9_clashes 35 = .ok (.aload_n 0, 1) := by decide +kernel
theorem dX9_clashes_36 : decode cX9_clashes 36 = .ok (.invokevirtual 246, 3) := by decide +kernel
theorem dX9_clashes_39 : decode cX9_clashes 39 = .ok (.iconst 0, 1) := by decide +kernel
theorem dX9_clashes_40 : decode cX9_clashes 40 = .ok (.istore_n 2, 1) := by decide +kernel
theorem dX9_clashes_41 : decode cX9_clashes 41 = .ok (.iconst (-1), 1) := by decide +kernel
theorem dX9_clashes_42 : decode cX9_clashes 42 = .ok (.istore_n 3, 1) := by decide +kernel
theorem dX9_clashes_43 : decode cX9_clashes 43 = .ok (.iconst (-1), 1) := by decide +kernel
theorem dX9_clashes_44 : decode cX9_clashes 44 = .ok (.istore 4, 2) := by decide +kernel
theorem dX9_clashes_46 : decode cX9_clashes 46 = .ok (.iconst (-1), 1) := by decide +kernel
theorem dX9_clashes_47 : decode cX9_clashes 47 = .ok (.istore 5, 2) := by decide +kernel
theorem dX9_clashes_49 : decode cX9_clashes 49 = .ok (.iconst 0, 1) := by decide +kernel
theorem dX9_clashes_50 : decode cX9_clashes 50 = .ok (.istore 6, 2) := by decide +kernel
theorem dX9_clashes_52 : decode cX9_clashes 52 = .ok (.iload 6, 2) := by decide +kernel
theorem dX9_clashes_54 : decode cX9_clashes 54 = .ok (.iload_n 1, 1) := by decide +kernel
theorem dX9_clashes_55 : decode cX9_clashes 55 = .ok (.if_icmp .ge 66, 3) := by decide +kernel
theorem dX9_clashes_58 : decode cX9_clashes 58 = .ok (.aload_n 0, 1) := by decide +kernel
theorem dX9_clashes_59 : decode cX9_clashes 59 = .ok (.iconst 1, 1) := by decide +kernel
theorem dX9_clashes_60 : decode cX9_clashes 60 = .ok (.invokevirtual 185, 3) := by decide +kernel
theorem dX9_clashes_63 : decode cX9_clashes 63 = .ok (.istore 7, 2) := by decide +kernel
theorem dX9_clashes_65 : decode cX9_clashes 65 = .ok (.iload 7, 2) := by decide +kernel
theorem dX9_clashes_67 : decode cX9_clashes 67 = .ok (.iconst 1, 1) := by decide +kernel
theorem dX9_clashes_68 : decode cX9_clashes 68 = .ok (.if_icmp .le 30, 3) := by decide +kernel
theorem dX9_clashes_71 : decode cX9_clashes 71 = .ok (.iload_n 2, 1) := by decide +kernel
theorem dX9_clashes_72 : decode cX9_clashes 72 = .ok (.ifCond .ne 26, 3) := by decide +kernel
theorem dX9_clashes_75 : decode cX9_clashes 75 = .ok (.aload_n 0, 1) := by decide +kernel
theorem dX9_clashes_76 : decode cX9_clashes 76 = .ok (.bipush 6, 2) := by decide +kernel
theorem dX9_clashes_78 : decode cX9_clashes 78 = .ok (.invokevirtual 85, 3) := by decide +kernel
theorem dX9_clashes_81 : decode cX9_clashes 81 = .ok (.istore_n 3, 1) := by decide +kernel
theorem dX9_clashes_82 : decode cX9_clashes 82 = .ok (.aload_n 0, 1) := by decide +kernel
theorem dX9_clashes_83 : decode cX9_clashes 83 = .ok (.getfield 55, 3) := by decide +kernel
theorem dX9_clashes_86 : decode cX9_clashes 86 = .ok (.iconst 0, 1) := by decide +kernel
theorem dX9_clashes_87 : decode cX9_clashes 87 = .ok (.iaload, 1) := by decide +kernel
theorem dX9_clashes_88 : decode cX9_clashes 88 = .ok (.istore 4, 2) := by decide +kernel
theorem dX9_clashes_90 : decode cX9_clashes 90 = .ok (.aload_n 0, 1) := by decide +kernel
theorem dX9_clashes_91 : decode cX9_clashes 91 = .ok (.getfield 55, 3) := by decide +kernel
theorem dX9_clashes_94 : decode cX9_clashes 94 = .ok (.iconst 1, 1) := by decide +kernel
theorem dX9_clashes_95 : decode cX9_clashes 95 = .ok (.iaload, 1) := by decide +kernel
theorem dX9_clashes_96 : decode cX9_clashes 96 = .ok (.istore 5, 2) := by decide +kernel
theorem dX9_clashes_98 : decode cX9_clashes 98 = .ok (.iload_n 2, 1) := by decide +kernel
theorem dX9_clashes_99 : decode cX9_clashes 99 = .ok (.iload 7, 2) := by decide +kernel
theorem dX9_clashes_101 : decode cX9_clashes 101 = .ok (.iconst 1, 1) := by decide +kernel
theorem dX9_clashes_102 : decode cX9_clashes 102 = .ok (.if_icmp .le 7, 3) := by decide +kernel
theorem dX9_clashes_105 : decode cX9_clashes 105 = .ok (.iconst 1, 1) := by decide +kernel
theorem dX9_clashes_106 : decode cX9_clashes 106 = .ok (.goto 4, 3) := by decide +kernel
theorem dX9_clashes_109 : decode cX9_clashes 109 = .ok (.iconst 0, 1) := by decide +kernel
theorem dX9_clashes_110 : decode cX9_clashes 110 = .ok (.invokestatic 31, 3) := by decide +kernel
theorem dX9_clashes_113 : decode cX9_clashes 113 = .ok (.iadd, 1) := by decide +kernel
theorem dX9_clashes_114 : decode cX9_clashes 114 = .ok (.istore_n 2, 1) := by decide +kernel
theorem dX9_clashes_115 : decode cX9_clashes 115 = .ok (.iinc 6 1, 3) := by decide +kernel
theorem dX9_clashes_118 : decode cX9_clashes 118 = .ok (.goto (-66), 3) := by decide +kernel
theorem dX9_clashes_121 : decode cX9_clashes 121 = .ok (.aload_n 0, 1) := by decide +kernel
theorem dX9_clashes_122 : decode cX9_clashes 122 = .ok (.invokevirtual 249, 3) := by decide +kernel
theorem dX9_clashes_125 : decode cX9_clashes 125 = .ok (.aload_n 0, 1) := by decide +kernel
theorem dX9_clashes_126 : decode cX9_clashes 126 = .ok (.iconst 0, 1) := by decide +kernel
theorem dX9_clashes_127 : decode cX9_clashes 127 = .ok (.putfield 11, 3) := by decide +kernel
theorem dX9_clashes_130 : decode cX9_clashes 130 = .ok (.aload_n 0, 1) := by decide +kernel
theorem dX9_clashes_131 : decode cX9_clashes 131 = .ok (.iload_n 3, 1) := by decide +kernel
theorem dX9_clashes_132 : decode cX9_clashes 132 = .ok (.i2l, 1) := by decide +kernel
theorem dX9_clashes_133 : decode cX9_clashes 133 = .ok (.invokevirtual 153, 3) := by decide +kernel
theorem dX9_clashes_136 : decode cX9_clashes 136 = .ok (.aload_n 0, 1) := by decide +kernel
theorem dX9_clashes_137 : decode cX9_clashes 137 = .ok (.iload 4, 2) := by decide +kernel
theorem dX9_clashes_139 : decode cX9_clashes 139 = .ok (.i2l, 1) := by decide +kernel
theorem dX9_clashes_140 : decode cX9_clashes 140 = .ok (.invokevirtual 153, 3) := by decide +kernel
theorem dX9_clashes_143 : decode cX9_clashes 143 = .ok (.aload_n 0, 1) := by decide +kernel
theorem dX9_clashes_144 : decode cX9_clashes 144 = .ok (.iload 5, 2) := by decide +kernel
theorem dX9_clashes_146 : decode cX9_clashes 146 = .ok (.i2l, 1) := by decide +kernel
theorem dX9_clashes_147 : decode cX9_clashes 147 = .ok (.invokevirtual 153, 3) := by decide +kernel
theorem dX9_clashes_150 : decode cX9_clashes 150 = .ok (.iload_n 2, 1) := by decide +kernel
theorem dX9_clashes_151 : decode cX9_clashes 151 = .ok (.ireturn, 1) := by decide +kernel
theorem dX9_till_0 : decode cX9_till 0 = .ok (.aload_n 0, 1) := by decide +kernel
theorem dX9_till_1 : decode cX9_till 1 = .ok (.iconst 0, 1) := by decide +kernel
theorem dX9_till_2 : decode cX9_till 2 = .ok (.putfield 1, 3) := by decide +kernel
theorem dX9_till_5 : decode cX9_till 5 = .ok (.iload_n 1, 1) := by decide +kernel
theorem dX9_till_6 : decode cX9_till 6 = .ok (.i2l, 1) := by decide +kernel
theorem dX9_till_7 : decode cX9_till 7 = .ok (.lconst 1, 1) := by decide +kernel
theorem dX9_till_8 : decode cX9_till 8 = .ok (.ldc2_w 183, 3) := by decide +kernel
theorem dX9_till_11 : decode cX9_till 11 = .ok (.invokestatic 21, 3) := by decide +kernel
theorem dX9_till_14 : decode cX9_till 14 = .ok (.ifCond .ne 5, 3) := by decide +kernel
theorem dX9_till_17 : decode cX9_till 17 = .ok (.iconst (-1), 1) := by decide +kernel
theorem dX9_till_18 : decode cX9_till 18 = .ok (.ireturn, 1) := by decide +kernel
theorem dX9_till_19 : decode cX9_till 19 = .ok (.aload_n 0, 1) := by decide +kernel
theorem dX9_till_20 : decode cX9_till 20 = .ok (.bipush 6, 2) := by decide +kernel
theorem dX9_till_22 : decode cX9_till 22 = .ok (.invokevirtual 85, 3) := by decide +kernel
theorem dX9_till_25 : decode cX9_till 25 = .ok (.bipush 100, 2) := by decide +kernel
theorem dX9_till_27 : decode cX9_till 27 = .ok (.iadd, 1) := by decide +kernel
theorem dX9_till_28 : decode cX9_till 28 = .ok (.ldc 157, 2) := by decide +kernel
theorem dX9_till_30 : decode cX9_till 30 = .ok (.if_icmp .le 6, 3) := by decide +kernel
theorem dX9_till_33 : decode cX9_till 33 = .ok (.bipush (-4), 2) := by decide +kernel
theorem dX9_till_35 : decode cX9_till 35 = .ok (.ireturn, 1) := by decide +kernel
theorem dX9_till_36 : decode cX9_till 36 = .ok (.aload_n 0, 1) := by decide +kernel
theorem dX9_till_37 : decode cX9_till 37 = .ok (.invokevirtual 246, 3) := by decide +kernel
theorem dX9_till_40 : decode cX9_till 40 = .ok (.aload_n 0, 1) := by decide +kernel
theorem dX9_till_41 : decode cX9_till 41 = .ok (.bipush 8, 2) := by decide +kernel
theorem dX9_till_43 : decode cX9_till 43 = .ok (.invokevirtual 85, 3) := by decide +kernel
theorem dX9_till_46 : decode cX9_till 46 = .ok (.istore_n 2, 1) := by decide +kernel
theorem dX9_till_47 : decode cX9_till 47 = .ok (.iconst 0, 1) := by decide +kernel
theorem dX9_till_48 : decode cX9_till 48 = .ok (.istore_n 3, 1) := by decide +kernel
theorem dX9_till_49 : decode cX9_till 49 = .ok (.bipush (-2), 2) := by decide +kernel
theorem dX9_till_51 : decode cX9_till 51 = .ok (.istore 4, 2) := by decide +kernel
theorem dX9_till_53 : decode cX9_till 53 = .ok (.iconst 0, 1) := by decide +kernel
theorem dX9_till_54 : decode cX9_till 54 = .ok (.istore 5, 2) := by decide +kernel
theorem dX9_till_56 : decode cX9_till 56 = .ok (.iload 5, 2) := by decide +kernel
theorem dX9_till_58 : decode cX9_till 58 = .ok (.bipush 100, 2) := by decide +kernel
theorem dX9_till_60 : decode cX9_till 60 = .ok (.if_icmp .ge 40, 3) := by decide +kernel
theorem dX9_till_63 : decode cX9_till 63 = .ok (.iload_n 3, 1) := by decide +kernel
theorem dX9_till_64 : decode cX9_till 64 = .ok (.iload_n 1, 1) := by decide +kernel
theorem dX9_till_65 : decode cX9_till 65 = .ok (.if_icmp .ge 35, 3) := by decide +kernel
theorem dX9_till_68 : decode cX9_till 68 = .ok (.iload_n 3, 1) := by decide +kernel
theorem dX9_till_69 : decode cX9_till 69 = .ok (.aload_n 0, 1) := by decide +kernel
theorem dX9_till_70 : decode cX9_till 70 = .ok (.iconst 1, 1) := by decide +kernel
theorem dX9_till_71 : decode cX9_till 71 = .ok (.invokevirtual 185, 3) := by decide +kernel
theorem dX9_till_74 : decode cX9_till 74 = .ok (.iadd, 1) := by decide +kernel
theorem dX9_till_75 : decode cX9_till 75 = .ok (.istore_n 3, 1) := by decide +kernel
theorem dX9_till_76 : decode cX9_till 76 = .ok (.iload_n 3, 1) := by decide +kernel
theorem dX9_till_77 : decode cX9_till 77 = .ok (.iload_n 1, 1) := by decide +kernel
theorem dX9_till_78 : decode cX9_till 78 = .ok (.if_icmp .lt 12, 3) := by decide +kernel
theorem dX9_till_81 : decode cX9_till 81 = .ok (.aload_n 0, 1) := by decide +kernel
theorem dX9_till_82 : decode cX9_till 82 = .ok (.bipush 6, 2) := by decide +kernel
theorem dX9_till_84 : decode cX9_till 84 = .ok (.invokevirtual 85, 3) := by decide +kernel
theorem dX9_till_87 : decode cX9_till 87 = .ok (.goto 5, 3) := by decide +kernel
theorem dX9_till_90 : decode cX9_till 90 = .ok (.bipush (-2), 2) := by decide +kernel
theorem dX9_till_92 : decode cX9_till 92 = .ok (.istore 4, 2) := by decide +kernel
theorem dX9_till_94 : decode cX9_till 94 = .ok (.iinc 5 1, 3) := by decide +kernel
theorem dX9_till_97 : decode cX9_till 97 = .ok (.goto (-41), 3) := by decide +kernel
theorem dX9_till_100 : decode cX9_till 100 = .ok (.aload_n 0, 1) := by decide +kernel
theorem dX9_till_101 : decode cX9_till 101 = .ok (.bipush 8, 2) := by decide +kernel
theorem dX9_till_103 : decode cX9_till 103 = .ok (.invokevirtual 85, 3) := by decide +kernel
theorem dX9_till_106 : decode cX9_till 106 = .ok (.iload_n 2, 1) := by decide +kernel
theorem dX9_till_107 : decode cX9_till 107 = .ok (.isub, 1) := by decide +kernel
theorem dX9_till_108 : decode cX9_till 108 = .ok (.istore_n 2, 1) := by decide +kernel
theorem dX9_till_109 : decode cX9_till 109 = .ok (.aload_n 0, 1) := by decide +kernel
theorem dX9_till_110 : decode cX9_till 110 = .ok (.invokevirtual 249, 3) := by decide +kernel
theorem dX9_till_113 : decode cX9_till 113 = .ok (.iload 4, 2) := by decide +kernel
theorem dX9_till_115 : decode cX9_till 115 = .ok (.ifCond .lt 20, 3) := by decide +kernel
theorem dX9_till_118 : decode cX9_till 118 = .ok (.aload_n 0, 1) := by decide +kernel
theorem dX9_till_119 : decode cX9_till 119 = .ok (.iconst 0, 1) := by decide +kernel
theorem dX9_till_120 : decode cX9_till 120 = .ok (.putfield 11, 3) := by decide +kernel
theorem dX9_till_123 : decode cX9_till 123 = .ok (.aload_n 0, 1) := by decide +kernel
theorem dX9_till_124 : decode cX9_till 124 = .ok (.iload_n 3, 1) := by decide +kernel
theorem dX9_till_125 : decode cX9_till 125 = .ok (.i2l, 1) := by decide +kernel
theorem dX9_till_126 : decode cX9_till 126 = .ok (.invokevirtual 153, 3) := by decide +kernel
theorem dX9_till_129 : decode cX9_till 129 = .ok (.aload_n 0, 1) := by decide +kernel
theorem dX9_till_130 : decode cX9_till 130 = .ok (.iload_n 2, 1) := by decide +kernel
theorem dX9_till_131 : decode cX9_till 131 = .ok (.i2l, 1) := by decide +kernel
theorem dX9_till_132 : decode cX9_till 132 = .ok (.invokevirtual 153, 3) := by decide +kernel
theorem dX9_till_135 : decode cX9_till 135 = .ok (.iload 4, 2) := by decide +kernel
theorem dX9_till_137 : decode cX9_till 137 = .ok (.ireturn, 1) := by decide +kernel
theorem dX9_rung_0 : decode cX9_rung 0 = .ok (.aload_n 0, 1) := by decide +kernel
theorem dX9_rung_1 : decode cX9_rung 1 = .ok (.iconst 0, 1) := by decide +kernel
theorem dX9_rung_2 : decode cX9_rung 2 = .ok (.putfield 1, 3) := by decide +kernel
theorem dX9_rung_5 : decode cX9_rung 5 = .ok (.iload_n 1, 1) := by decide +kernel
theorem dX9_rung_6 : decode cX9_rung 6 = .ok (.i2l, 1) := by decide +kernel
theorem dX9_rung_7 : decode cX9_rung 7 = .ok (.lconst 0, 1) := by decide +kernel
theorem dX9_rung_8 : decode cX9_rung 8 = .ok (.aload_n 0, 1) := by decide +kernel
theorem dX9_rung_9 : decode cX9_rung 9 = .ok (.bipush 14, 2) := by decide +kernel
theorem dX9_rung_11 : decode cX9_rung 11 = .ok (.invokevirtual 85, 3) := by decide +kernel
theorem dX9_rung_14 : decode cX9_rung 14 = .ok (.iconst 1, 1) := by decide +kernel
theorem dX9_rung_15 : decode cX9_rung 15 = .ok (.isub, 1) := by decide +kernel
theorem dX9_rung_16 : decode cX9_rung 16 = .ok (.i2l, 1) := by decide +kernel
theorem dX9_rung_17 : decode cX9_rung 17 = .ok (.invokestatic 21, 3) := by decide +kernel
theorem dX9_rung_20 : decode cX9_rung 20 = .ok (.ifCond .ne 5, 3) := by decide +kernel
theorem dX9_rung_23 : decode cX9_rung 23 = .ok (.iconst (-1), 1) := by decide +kernel
theorem dX9_rung_24 : decode cX9_rung 24 = .ok (.ireturn, 1) := by decide +kernel
theorem dX9_rung_25 : decode cX9_rung 25 = .ok (.bipush 15, 2) := by decide +kernel
theorem dX9_rung_27 : decode cX9_rung 27 = .ok (.iconst 5, 1) := by decide +kernel
theorem dX9_rung_28 : decode cX9_rung 28 = .ok (.iload_n 1, 1) := by decide +kernel
theorem dX9_rung_29 : decode cX9_rung 29 = .ok (.imul, 1) := by decide +kernel
theorem dX9_rung_30 : decode cX9_rung 30 = .ok (.iadd, 1) := by decide +kernel
theorem dX9_rung_31 : decode cX9_rung 31 = .ok (.istore_n 2, 1) := by decide +kernel
theorem dX9_rung_32 : decode cX9_rung 32 = .ok (.aload_n 0, 1) := by decide +kernel
theorem dX9_rung_33 : decode cX9_rung 33 = .ok (.iconst 0, 1) := by decide +kernel
theorem dX9_rung_34 : decode cX9_rung 34 = .ok (.putfield 11, 3) := by decide +kernel
theorem dX9_rung_37 : decode cX9_rung 37 = .ok (.iconst 1, 1) := by decide +kernel
theorem dX9_rung_38 : decode cX9_rung 38 = .ok (.istore_n 3, 1) := by decide +kernel
theorem dX9_rung_39 : decode cX9_rung 39 = .ok (.iload_n 3, 1) := by decide +kernel
theorem dX9_rung_40 : decode cX9_rung 40 = .ok (.iconst 5, 1) := by decide +kernel
theorem dX9_rung_41 : decode cX9_rung 41 = .ok (.if_icmp .ge 21, 3) := by decide +kernel
theorem dX9_rung_44 : decode cX9_rung 44 = .ok (.aload_n 0, 1) := by decide +kernel
theorem dX9_rung_45 : decode cX9_rung 45 = .ok (.aload_n 0, 1) := by decide +kernel
theorem dX9_rung_46 : decode cX9_rung 46 = .ok (.iload_n 2, 1) := by decide +kernel
theorem dX9_rung_47 : decode cX9_rung 47 = .ok (.iload_n 3, 1) := by decide +kernel
theorem dX9_rung_48 : decode cX9_rung 48 = .ok (.iadd, 1) := by decide +kernel
theorem dX9_rung_49 : decode cX9_rung 49 = .ok (.invokevirtual 85, 3) := by decide +kernel
theorem dX9_rung_52 : decode cX9_rung 52 = .ok (.i2l, 1) := by decide +kernel
theorem dX9_rung_53 : decode cX9_rung 53 = .ok (.invokevirtual 153, 3) := by decide +kernel
theorem dX9_rung_56 : decode cX9_rung 56 = .ok (.iinc 3 1, 3) := by decide +kernel
theorem dX9_rung_59 : decode cX9_rung 59 = .ok (.goto (-20), 3) := by decide +kernel
theorem dX9_rung_62 : decode cX9_rung 62 = .ok (.aload_n 0, 1) := by decide +kernel
theorem dX9_rung_63 : decode cX9_rung 63 = .ok (.iload_n 2, 1) := by decide +kernel
theorem dX9_rung_64 : decode cX9_rung 64 = .ok (.invokevirtual 85, 3) := by decide +kernel
theorem dX9_rung_67 : decode cX9_rung 67 = .ok (.ireturn, 1) := by decide +kernel
theorem dX9_told_0 : decode cX9_told 0 = .ok (.aload_n 0, 1) := by decide +kernel
theorem dX9_told_1 : decode cX9_told 1 = .ok (.iconst 0, 1) := by decide +kernel
theorem dX9_told_2 : decode cX9_told 2 = .ok (.putfield 1, 3) := by decide +kernel
theorem dX9_told_5 : decode cX9_told 5 = .ok (.iload_n 1, 1) := by decide +kernel
theorem dX9_told_6 : decode cX9_told 6 = .ok (.i2l, 1) := by decide +kernel
theorem dX9_told_7 : decode cX9_told 7 = .ok (.lconst 0, 1) := by decide +kernel
theorem dX9_told_8 : decode cX9_told 8 = .ok (.ldc2_w 274, 3) := by decide +kernel
theorem dX9_told_11 : decode cX9_told 11 = .ok (.invokestatic 21, 3) := by decide +kernel
theorem dX9_told_14 : decode cX9_told 14 = .ok (.ifCond .eq 14, 3) := by decide +kernel
theorem dX9_told_17 : decode cX9_told 17 = .ok (.aload_n 0, 1) := by decide +kernel
theorem dX9_told_18 : decode cX9_told 18 = .ok (.bipush 7, 2) := by decide +kernel
theorem dX9_told_20 : decode cX9_told 20 = .ok (.iload_n 1, 1) := by decide +kernel
theorem dX9_told_21 : decode cX9_told 21 = .ok (.iadd, 1) := by decide +kernel
theorem dX9_told_22 : decode cX9_told 22 = .ok (.invokevirtual 85, 3) := by decide +kernel
theorem dX9_told_25 : decode cX9_told 25 = .ok (.goto 4, 3) := by decide +kernel
theorem dX9_told_28 : decode cX9_told 28 = .ok (.iconst (-1), 1) := by decide +kernel
theorem dX9_told_29 : decode cX9_told 29 = .ok (.ireturn, 1) := by decide +kernel
theorem dX9_pausedMany_0 : decode cX9_pausedMany 0 = .ok (.iconst 0, 1) := by decide +kernel
theorem dX9_pausedMany_1 : decode cX9_pausedMany 1 = .ok (.istore_n 1, 1) := by decide +kernel
theorem dX9_pausedMany_2 : decode cX9_pausedMany 2 = .ok (.iconst 0, 1) := by decide +kernel
theorem dX9_pausedMany_3 : decode cX9_pausedMany 3 = .ok (.istore_n 2, 1) := by decide +kernel
theorem dX9_pausedMany_4 : decode cX9_pausedMany 4 = .ok (.iload_n 2, 1) := by decide +kernel
theorem dX9_pausedMany_5 : decode cX9_pausedMany 5 = .ok (.bipush 16, 2) := by decide +kernel
theorem dX9_pausedMany_7 : decode cX9_pausedMany 7 = .ok (.if_icmp .ge 41, 3) := by decide +kernel
theorem dX9_pausedMany_10 : decode cX9_pausedMany 10 = .ok (.iload_n 1, 1) := by decide +kernel
theorem dX9_pausedMany_11 : decode cX9_pausedMany 11 = .ok (.aload_n 0, 1) := by decide +kernel
theorem dX9_pausedMany_12 : decode cX9_pausedMany 12 = .ok (.iload_n 2, 1) := by decide +kernel
theorem dX9_pausedMany_13 : decode cX9_pausedMany 13 = .ok (.invokevirtual 89, 3) := by decide +kernel
theorem dX9_pausedMany_16 : decode cX9_pausedMany 16 = .ok (.ifCond .eq 20, 3) := by decide +kernel
theorem dX9_pausedMany_19 : decode cX9_pausedMany 19 = .ok (.aload_n 0, 1) := by decide +kernel
theorem dX9_pausedMany_20 : decode cX9_pausedMany 20 = .ok (.sipush 343, 3) := by decide +kernel
theorem dX9_pausedMany_23 : decode cX9_pausedMany 23 = .ok (.iload_n 2, 1) := by decide +kernel
theorem dX9_pausedMany_24 : decode cX9_pausedMany 24 = .ok (.iadd, 1) := by decide +kernel
theorem dX9_pausedMany_25 : decode cX9_pausedMany 25 = .ok (.invokevirtual 85, 3) := by decide +kernel
theorem dX9_pausedMany_28 : decode cX9_pausedMany 28 = .ok (.iconst 1, 1) := by decide +kernel
theorem dX9_pausedMany_29 : decode cX9_pausedMany 29 = .ok (.if_icmp .ne 7, 3) := by decide +kernel
theorem dX9_pausedMany_32 : decode cX9_pausedMany 32 = .ok (.iconst 1, 1) := by decide +kernel
theorem dX9_pausedMany_33 : decode cX9_pausedMany 33 = .ok (.goto 4, 3) := by decide +kernel
theorem dX9_pausedMany_36 : decode cX9_pausedMany 36 = .ok (.iconst 0, 1) := by decide +kernel
theorem dX9_pausedMany_37 : decode cX9_pausedMany 37 = .ok (.invokestatic 31, 3) := by decide +kernel
theorem dX9_pausedMany_40 : decode cX9_pausedMany 40 = .ok (.iadd, 1) := by decide +kernel
theorem dX9_pausedMany_41 : decode cX9_pausedMany 41 = .ok (.istore_n 1, 1) := by decide +kernel
theorem dX9_pausedMany_42 : decode cX9_pausedMany 42 = .ok (.iinc 2 1, 3) := by decide +kernel
theorem dX9_pausedMany_45 : decode cX9_pausedMany 45 = .ok (.goto (-41), 3) := by decide +kernel
theorem dX9_pausedMany_48 : decode cX9_pausedMany 48 = .ok (.iload_n 1, 1) := by decide +kernel
theorem dX9_pausedMany_49 : decode cX9_pausedMany 49 = .ok (.ireturn, 1) := by decide +kernel
theorem dX9_farMany_0 : decode cX9_farMany 0 = .ok (.iconst 0, 1) := by decide +kernel
theorem dX9_farMany_1 : decode cX9_farMany 1 = .ok (.istore_n 1, 1) := by decide +kernel
theorem dX9_farMany_2 : decode cX9_farMany 2 = .ok (.iconst 0, 1) := by decide +kernel
theorem dX9_farMany_3 : decode cX9_farMany 3 = .ok (.istore_n 2, 1) := by decide +kernel
theorem dX9_farMany_4 : decode cX9_farMany 4 = .ok (.iload_n 2, 1) := by decide +kernel
theorem dX9_farMany_5 : decode cX9_farMany 5 = .ok (.bipush 16, 2) := by decide +kernel
theorem dX9_farMany_7 : decode cX9_farMany 7 = .ok (.if_icmp .ge 41, 3) := by decide +kernel
theorem dX9_farMany_10 : decode cX9_farMany 10 = .ok (.iload_n 1, 1) := by decide +kernel
theorem dX9_farMany_11 : decode cX9_farMany 11 = .ok (.aload_n 0, 1) := by decide +kernel
theorem dX9_farMany_12 : decode cX9_farMany 12 = .ok (.iload_n 2, 1) := by decide +kernel
theorem dX9_farMany_13 : decode cX9_farMany 13 = .ok (.invokevirtual 99, 3) := by decide +kernel
theorem dX9_farMany_16 : decode cX9_farMany 16 = .ok (.ifCond .eq 20, 3) := by decide +kernel
theorem dX9_farMany_19 : decode cX9_farMany 19 = .ok (.aload_n 0, 1) := by decide +kernel
theorem dX9_farMany_20 : decode cX9_farMany 20 = .ok (.sipush 391, 3) := by decide +kernel
theorem dX9_farMany_23 : decode cX9_farMany 23 = .ok (.iload_n 2, 1) := by decide +kernel
theorem dX9_farMany_24 : decode cX9_farMany 24 = .ok (.iadd, 1) := by decide +kernel
theorem dX9_farMany_25 : decode cX9_farMany 25 = .ok (.invokevirtual 85, 3) := by decide +kernel
theorem dX9_farMany_28 : decode cX9_farMany 28 = .ok (.iconst (-1), 1) := by decide +kernel
theorem dX9_farMany_29 : decode cX9_farMany 29 = .ok (.if_icmp .ne 7, 3) := by decide +kernel
theorem dX9_farMany_32 : decode cX9_farMany 32 = .ok (.iconst 1, 1) := by decide +kernel
theorem dX9_farMany_33 : decode cX9_farMany 33 = .ok (.goto 4, 3) := by decide +kernel
theorem dX9_farMany_36 : decode cX9_farMany 36 = .ok (.iconst 0, 1) := by decide +kernel
theorem dX9_farMany_37 : decode cX9_farMany 37 = .ok (.invokestatic 31, 3) := by decide +kernel
theorem dX9_farMany_40 : decode cX9_farMany 40 = .ok (.iadd, 1) := by decide +kernel
theorem dX9_farMany_41 : decode cX9_farMany 41 = .ok (.istore_n 1, 1) := by decide +kernel
theorem dX9_farMany_42 : decode cX9_farMany 42 = .ok (.iinc 2 1, 3) := by decide +kernel
theorem dX9_farMany_45 : decode cX9_farMany 45 = .ok (.goto (-41), 3) := by decide +kernel
theorem dX9_farMany_48 : decode cX9_farMany 48 = .ok (.iload_n 1, 1) := by decide +kernel
theorem dX9_farMany_49 : decode cX9_farMany 49 = .ok (.ireturn, 1) := by decide +kernel
theorem dX9_count_0 : decode cX9_count 0 = .ok (.aload_n 0, 1) := by decide +kernel
theorem dX9_count_1 : decode cX9_count 1 = .ok (.iconst 0, 1) := by decide +kernel
theorem dX9_count_2 : decode cX9_count 2 = .ok (.putfield 1, 3) := by decide +kernel
theorem dX9_count_5 : decode cX9_count 5 = .ok (.iload_n 1, 1) := by decide +kernel
theorem dX9_count_6 : decode cX9_count 6 = .ok (.i2l, 1) := by decide +kernel
theorem dX9_count_7 : decode cX9_count 7 = .ok (.ldc2_w 241, 3) := by decide +kernel
theorem dX9_count_10 : decode cX9_count 10 = .ok (.ldc2_w 276, 3) := by decide +kernel
theorem dX9_count_13 : decode cX9_count 13 = .ok (.invokestatic 21, 3) := by decide +kernel
theorem dX9_count_16 : decode cX9_count 16 = .ok (.ifCond .eq 30, 3) := by decide +kernel
theorem dX9_count_19 : decode cX9_count 19 = .ok (.iload_n 1, 1) := by decide +kernel
theorem dX9_count_20 : decode cX9_count 20 = .ok (.bipush 10, 2) := by decide +kernel
theorem dX9_count_22 : decode cX9_count 22 = .ok (.isub, 1) := by decide +kernel
theorem dX9_count_23 : decode cX9_count 23 = .ok (.aload_n 0, 1) := by decide +kernel
theorem dX9_count_24 : decode cX9_count 24 = .ok (.iconst 0, 1) := by decide +kernel
theorem dX9_count_25 : decode cX9_count 25 = .ok (.invokevirtual 85, 3) := by decide +kernel
theorem dX9_count_28 : decode cX9_count 28 = .ok (.if_icmp .ge 16, 3) := by decide +kernel
theorem dX9_count_31 : decode cX9_count 31 = .ok (.aload_n 0, 1) := by decide +kernel
theorem dX9_count_32 : decode cX9_count 32 = .ok (.iconst 1, 1) := by decide +kernel
theorem dX9_count_33 : decode cX9_count 33 = .ok (.iload_n 1, 1) := by decide +kernel
theorem dX9_count_34 : decode cX9_count 34 = .ok (.iadd, 1) := by decide +kernel
theorem dX9_count_35 : decode cX9_count 35 = .ok (.bipush 10, 2) := by decide +kernel
theorem dX9_count_37 : decode cX9_count 37 = .ok (.isub, 1) := by decide +kernel
theorem dX9_count_38 : decode cX9_count 38 = .ok (.invokevirtual 85, 3) := by decide +kernel
theorem dX9_count_41 : decode cX9_count 41 = .ok (.goto 4, 3) := by decide +kernel
theorem dX9_count_44 : decode cX9_count 44 = .ok (.iconst 0, 1) := by decide +kernel
theorem dX9_count_45 : decode cX9_count 45 = .ok (.ireturn, 1) := by decide +kernel
theorem dX9_count_46 : decode cX9_count 46 = .ok (.iload_n 1, 1) := by decide +kernel
theorem dX9_count_47 : decode cX9_count 47 = .ok (.tableswitch 109 0 9 #[53, 60, 66, 71, 76, 81, 86, 92, 99, 104], 53) := by decide +kernel
theorem dX9_count_100 : decode cX9_count 100 = .ok (.aload_n 0, 1) := by decide +kernel
theorem dX9_count_101 : decode cX9_count 101 = .ok (.bipush 6, 2) := by decide +kernel
theorem dX9_count_103 : decode cX9_count 103 = .ok (.invokevirtual 85, 3) := by decide +kernel
theorem dX9_count_106 : decode cX9_count 106 = .ok (.ireturn, 1) := by decide +kernel
theorem dX9_count_107 : decode cX9_count 107 = .ok (.aload_n 0, 1) := by decide +kernel
theorem dX9_count_108 : decode cX9_count 108 = .ok (.iconst 0, 1) := by decide +kernel
theorem dX9_count_109 : decode cX9_count 109 = .ok (.invokevirtual 85, 3) := by decide +kernel
theorem dX9_count_112 : decode cX9_count 112 = .ok (.ireturn, 1) := by decide +kernel
theorem dX9_count_113 : decode cX9_count 113 = .ok (.aload_n 0, 1) := by decide +kernel
theorem dX9_count_114 : decode cX9_count 114 = .ok (.invokevirtual 135, 3) := by decide +kernel
theorem dX9_count_117 : decode cX9_count 117 = .ok (.ireturn, 1) := by decide +kernel
theorem dX9_count_118 : decode cX9_count 118 = .ok (.aload_n 0, 1) := by decide +kernel
theorem dX9_count_119 : decode cX9_count 119 = .ok (.invokevirtual 213, 3) := by decide +kernel
theorem dX9_count_122 : decode cX9_count 122 = .ok (.ireturn, 1) := by decide +kernel
theorem dX9_count_123 : decode cX9_count 123 = .ok (.aload_n 0, 1) := by decide +kernel
theorem dX9_count_124 : decode cX9_count 124 = .ok (.invokevirtual 278, 3) := by decide +kernel
theorem dX9_count_127 : decode cX9_count 127 = .ok (.ireturn, 1) := by decide +kernel
theorem dX9_count_128 : decode cX9_count 128 = .ok (.aload_n 0, 1) := by decide +kernel
theorem dX9_count_129 : decode cX9_count 129 = .ok (.invokevirtual 281, 3) := by decide +kernel
theorem dX9_count_132 : decode cX9_count 132 = .ok (.ireturn, 1) := by decide +kernel
theorem dX9_count_133 : decode cX9_count 133 = .ok (.aload_n 0, 1) := by decide +kernel
theorem dX9_count_134 : decode cX9_count 134 = .ok (.iconst 5, 1) := by decide +kernel
theorem dX9_count_135 : decode cX9_count 135 = .ok (.invokevirtual 85, 3) := by decide +kernel
theorem dX9_count_138 : decode cX9_count 138 = .ok (.ireturn, 1) := by decide +kernel
theorem dX9_count_139 : decode cX9_count 139 = .ok (.aload_n 0, 1) := by decide +kernel
theorem dX9_count_140 : decode cX9_count 140 = .ok (.bipush 14, 2) := by decide +kernel
theorem dX9_count_142 : decode cX9_count 142 = .ok (.invokevirtual 85, 3) := by decide +kernel
theorem dX9_count_145 : decode cX9_count 145 = .ok (.ireturn, 1) := by decide +kernel
theorem dX9_count_146 : decode cX9_count 146 = .ok (.aload_n 0, 1) := by decide +kernel
theorem dX9_count_147 : decode cX9_count 147 = .ok (.getfield 11, 3) := by decide +kernel
theorem dX9_count_150 : decode cX9_count 150 = .ok (.ireturn, 1) := by decide +kernel
theorem dX9_count_151 : decode cX9_count 151 = .ok (.aload_n 0, 1) := by decide +kernel
theorem dX9_count_152 : decode cX9_count 152 = .ok (.getfield 14, 3) := by decide +kernel
theorem dX9_count_155 : decode cX9_count 155 = .ok (.ireturn, 1) := by decide +kernel
theorem dX9_count_156 : decode cX9_count 156 = .ok (.iconst (-1), 1) := by decide +kernel
theorem dX9_count_157 : decode cX9_count 157 = .ok (.ireturn, 1) := by decide +kernel
theorem dX9_row_0 : decode cX9_row 0 = .ok (.aload_n 0, 1) := by decide +kernel
theorem dX9_row_1 : decode cX9_row 1 = .ok (.iload_n 1, 1) := by decide +kernel
theorem dX9_row_2 : decode cX9_row 2 = .ok (.i2l, 1) := by decide +kernel
theorem dX9_row_3 : decode cX9_row 3 = .ok (.lconst 0, 1) := by decide +kernel
theorem dX9_row_4 : decode cX9_row 4 = .ok (.aload_n 0, 1) := by decide +kernel
theorem dX9_row_5 : decode cX9_row 5 = .ok (.getfield 11, 3) := by decide +kernel
theorem dX9_row_8 : decode cX9_row 8 = .ok (.iconst 1, 1) := by decide +kernel
theorem dX9_row_9 : decode cX9_row 9 = .ok (.isub, 1) := by decide +kernel
theorem dX9_row_10 : decode cX9_row 10 = .ok (.i2l, 1) := by decide +kernel
theorem dX9_row_11 : decode cX9_row 11 = .ok (.invokestatic 21, 3) := by decide +kernel
theorem dX9_row_14 : decode cX9_row 14 = .ok (.ifCond .ne 7, 3) := by decide +kernel
theorem dX9_row_17 : decode cX9_row 17 = .ok (.iconst 1, 1) := by decide +kernel
theorem dX9_row_18 : decode cX9_row 18 = .ok (.goto 4, 3) := by decide +kernel
theorem dX9_row_21 : decode cX9_row 21 = .ok (.iconst 0, 1) := by decide +kernel
theorem dX9_row_22 : decode cX9_row 22 = .ok (.invokestatic 31, 3) := by decide +kernel
theorem dX9_row_25 : decode cX9_row 25 = .ok (.putfield 1, 3) := by decide +kernel
theorem dX9_row_28 : decode cX9_row 28 = .ok (.aload_n 0, 1) := by decide +kernel
theorem dX9_row_29 : decode cX9_row 29 = .ok (.getfield 1, 3) := by decide +kernel
theorem dX9_row_32 : decode cX9_row 32 = .ok (.iconst 1, 1) := by decide +kernel
theorem dX9_row_33 : decode cX9_row 33 = .ok (.if_icmp .ne 7, 3) := by decide +kernel
theorem dX9_row_36 : decode cX9_row 36 = .ok (.lconst 0, 1) := by decide +kernel
theorem dX9_row_37 : decode cX9_row 37 = .ok (.goto 9, 3) := by decide +kernel
theorem dX9_row_40 : decode cX9_row 40 = .ok (.aload_n 0, 1) := by decide +kernel
theorem dX9_row_41 : decode cX9_row 41 = .ok (.getfield 7, 3) := by decide +kernel
theorem dX9_row_44 : decode cX9_row 44 = .ok (.iload_n 1, 1) := by decide +kernel
theorem dX9_row_45 : decode cX9_row 45 = .ok (.laload, 1) := by decide +kernel
theorem dX9_row_46 : decode cX9_row 46 = .ok (.lreturn, 1) := by decide +kernel
theorem dJ9_floorMod_7cf53_0 : decode cJ9_floorMod_7cf53 0 = .ok (.iload_n 0, 1) := by decide +kernel
theorem dJ9_floorMod_7cf53_1 : decode cJ9_floorMod_7cf53 1 = .ok (.iload_n 1, 1) := by decide +kernel
theorem dJ9_floorMod_7cf53_2 : decode cJ9_floorMod_7cf53 2 = .ok (.irem, 1) := by decide +kernel
theorem dJ9_floorMod_7cf53_3 : decode cJ9_floorMod_7cf53 3 = .ok (.istore_n 2, 1) := by decide +kernel
theorem dJ9_floorMod_7cf53_4 : decode cJ9_floorMod_7cf53 4 = .ok (.iload_n 0, 1) := by decide +kernel
theorem dJ9_floorMod_7cf53_5 : decode cJ9_floorMod_7cf53 5 = .ok (.iload_n 1, 1) := by decide +kernel
theorem dJ9_floorMod_7cf53_6 : decode cJ9_floorMod_7cf53 6 = .ok (.ixor, 1) := by decide +kernel
theorem dJ9_floorMod_7cf53_7 : decode cJ9_floorMod_7cf53 7 = .ok (.ifCond .ge 11, 3) := by decide +kernel
theorem dJ9_floorMod_7cf53_10 : decode cJ9_floorMod_7cf53 10 = .ok (.iload_n 2, 1) := by decide +kernel
theorem dJ9_floorMod_7cf53_11 : decode cJ9_floorMod_7cf53 11 = .ok (.ifCond .eq 7, 3) := by decide +kernel
theorem dJ9_floorMod_7cf53_14 : decode cJ9_floorMod_7cf53 14 = .ok (.iload_n 2, 1) := by decide +kernel
theorem dJ9_floorMod_7cf53_15 : decode cJ9_floorMod_7cf53 15 = .ok (.iload_n 1, 1) := by decide +kernel
theorem dJ9_floorMod_7cf53_16 : decode cJ9_floorMod_7cf53 16 = .ok (.iadd, 1) := by decide +kernel
theorem dJ9_floorMod_7cf53_17 : decode cJ9_floorMod_7cf53 17 = .ok (.ireturn, 1) := by decide +kernel
theorem dJ9_floorMod_7cf53_18 : decode cJ9_floorMod_7cf53 18 = .ok (.iload_n 2, 1) := by decide +kernel
theorem dJ9_floorMod_7cf53_19 : decode cJ9_floorMod_7cf53 19 = .ok (.ireturn, 1) := by decide +kernel
theorem dJ9_abs_0f7a4_0 : decode cJ9_abs_0f7a4 0 = .ok (.iload_n 0, 1) := by decide +kernel
theorem dJ9_abs_0f7a4_1 : decode cJ9_abs_0f7a4 1 = .ok (.ifCond .ge 8, 3) := by decide +kernel
theorem dJ9_abs_0f7a4_4 : decode cJ9_abs_0f7a4 4 = .ok (.iload_n 0, 1) := by decide +kernel
theorem dJ9_abs_0f7a4_5 : decode cJ9_abs_0f7a4 5 = .ok (.ineg, 1) := by decide +kernel
theorem dJ9_abs_0f7a4_6 : decode cJ9_abs_0f7a4 6 = .ok (.goto 4, 3) := by decide +kernel
theorem dJ9_abs_0f7a4_9 : decode cJ9_abs_0f7a4 9 = .ok (.iload_n 0, 1) := by decide +kernel
theorem dJ9_abs_0f7a4_10 : decode cJ9_abs_0f7a4 10 = .ok (.ireturn, 1) := by decide +kernel
theorem dJ9_max_7cf53_0 : decode cJ9_max_7cf53 0 = .ok (.iload_n 0, 1) := by decide +kernel
theorem dJ9_max_7cf53_1 : decode cJ9_max_7cf53 1 = .ok (.iload_n 1, 1) := by decide +kernel
theorem dJ9_max_7cf53_2 : decode cJ9_max_7cf53 2 = .ok (.if_icmp .lt 7, 3) := by decide +kernel
theorem dJ9_max_7cf53_5 : decode cJ9_max_7cf53 5 = .ok (.iload_n 0, 1) := by decide +kernel
theorem dJ9_max_7cf53_6 : decode cJ9_max_7cf53 6 = .ok (.goto 4, 3) := by decide +kernel
theorem dJ9_max_7cf53_9 : decode cJ9_max_7cf53 9 = .ok (.iload_n 1, 1) := by decide +kernel
theorem dJ9_max_7cf53_10 : decode cJ9_max_7cf53 10 = .ok (.ireturn, 1) := by decide +kernel
theorem dJ9_min_7cf53_0 : decode cJ9_min_7cf53 0 = .ok (.iload_n 0, 1) := by decide +kernel
theorem dJ9_min_7cf53_1 : decode cJ9_min_7cf53 1 = .ok (.iload_n 1, 1) := by decide +kernel
theorem dJ9_min_7cf53_2 : decode cJ9_min_7cf53 2 = .ok (.if_icmp .gt 7, 3) := by decide +kernel
theorem dJ9_min_7cf53_5 : decode cJ9_min_7cf53 5 = .ok (.iload_n 0, 1) := by decide +kernel
theorem dJ9_min_7cf53_6 : decode cJ9_min_7cf53 6 = .ok (.goto 4, 3) := by decide +kernel
theorem dJ9_min_7cf53_9 : decode cJ9_min_7cf53 9 = .ok (.iload_n 1, 1) := by decide +kernel
theorem dJ9_min_7cf53_10 : decode cJ9_min_7cf53 10 = .ok (.ireturn, 1) := by decide +kernel
theorem dJ7_fill_53178_0 : decode cJ7_fill_53178 0 = .ok (.iconst 0, 1) := by decide +kernel
theorem dJ7_fill_53178_1 : decode cJ7_fill_53178 1 = .ok (.istore_n 2, 1) := by decide +kernel
theorem dJ7_fill_53178_2 : decode cJ7_fill_53178 2 = .ok (.aload_n 0, 1) := by decide +kernel
theorem dJ7_fill_53178_3 : decode cJ7_fill_53178 3 = .ok (.arraylength, 1) := by decide +kernel
theorem dJ7_fill_53178_4 : decode cJ7_fill_53178 4 = .ok (.istore_n 3, 1) := by decide +kernel
theorem dJ7_fill_53178_5 : decode cJ7_fill_53178 5 = .ok (.iload_n 2, 1) := by decide +kernel
theorem dJ7_fill_53178_6 : decode cJ7_fill_53178 6 = .ok (.iload_n 3, 1) := by decide +kernel
theorem dJ7_fill_53178_7 : decode cJ7_fill_53178 7 = .ok (.if_icmp .ge 13, 3) := by decide +kernel
theorem dJ7_fill_53178_10 : decode cJ7_fill_53178 10 = .ok (.aload_n 0, 1) := by decide +kernel
theorem dJ7_fill_53178_11 : decode cJ7_fill_53178 11 = .ok (.iload_n 2, 1) := by decide +kernel
theorem dJ7_fill_53178_12 : decode cJ7_fill_53178 12 = .ok (.iload_n 1, 1) := by decide +kernel
theorem dJ7_fill_53178_13 : decode cJ7_fill_53178 13 = .ok (.iastore, 1) := by decide +kernel
theorem dJ7_fill_53178_14 : decode cJ7_fill_53178 14 = .ok (.iinc 2 1, 3) := by decide +kernel
theorem dJ7_fill_53178_17 : decode cJ7_fill_53178 17 = .ok (.goto (-12), 3) := by decide +kernel
theorem dJ7_fill_53178_20 : decode cJ7_fill_53178 20 = .ok (.return_, 1) := by decide +kernel
