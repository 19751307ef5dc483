theorem dX6_copy_57 : decode cX6_copy 57 = .ok (.aload_n 1, 1) := by decide +kernel
theorem dX6_copy_58 : decode cX6_copy 58 = .ok (.getfield 47, 3) := by decide +kernel
theorem dX6_copy_61 : decode cX6_copy 61 = .ok (.putfield 47, 3) := by decide +kernel
theorem dX6_copy_64 : decode cX6_copy 64 = .ok (.aload_n 0, 1) := by decide +kernel
theorem dX6_copy_65 : decode cX6_copy 65 = .ok (.aload_n 1, 1) := by decide +kernel
theorem dX6_copy_66 : decode cX6_copy 66 = .ok (.getfield 23, 3) := by decide +kernel
theorem dX6_copy_69 : decode cX6_copy 69 = .ok (.putfield 23, 3) := by decide +kernel
theorem dX6_copy_72 : decode cX6_copy 72 = .ok (.aload_n 0, 1) := by decide +kernel
theorem dX6_copy_73 : decode cX6_copy 73 = .ok (.aload_n 1, 1) := by decide +kernel
theorem dX6_copy_74 : decode cX6_copy 74 = .ok (.getfield 26, 3) := by decide +kernel
theorem dX6_copy_77 : decode cX6_copy 77 = .ok (.putfield 26, 3) := by decide +kernel
theorem dX6_copy_80 : decode cX6_copy 80 = .ok (.aload_n 0, 1) := by decide +kernel
theorem dX6_copy_81 : decode cX6_copy 81 = .ok (.aload_n 1, 1) := by decide +kernel
theorem dX6_copy_82 : decode cX6_copy 82 = .ok (.getfield 29, 3) := by decide +kernel
theorem dX6_copy_85 : decode cX6_copy 85 = .ok (.putfield 29, 3) := by decide +kernel
theorem dX6_copy_88 : decode cX6_copy 88 = .ok (.aload_n 0, 1) := by decide +kernel
theorem dX6_copy_89 : decode cX6_copy 89 = .ok (.aload_n 1, 1) := by decide +kernel
theorem dX6_copy_90 : decode cX6_copy 90 = .ok (.getfield 32, 3) := by decide +kernel
theorem dX6_copy_93 : decode cX6_copy 93 = .ok (.putfield 32, 3) := by decide +kernel
theorem dX6_copy_96 : decode cX6_copy 96 = .ok (.aload_n 0, 1) := by decide +kernel
theorem dX6_copy_97 : decode cX6_copy 97 = .ok (.aload_n 1, 1) := by decide +kernel
theorem dX6_copy_98 : decode cX6_copy 98 = .ok (.getfield 50, 3) := by decide +kernel
theorem dX6_copy_101 : decode cX6_copy 101 = .ok (.putfield 50, 3) := by decide +kernel
theorem dX6_copy_104 : decode cX6_copy 104 = .ok (.aload_n 0, 1) := by decide +kernel
theorem dX6_copy_105 : decode cX6_copy 105 = .ok (.aload_n 1, 1) := by decide +kernel
theorem dX6_copy_106 : decode cX6_copy 106 = .ok (.getfield 53, 3) := by decide +kernel
theorem dX6_copy_109 : decode cX6_copy 109 = .ok (.putfield 53, 3) := by decide +kernel
theorem dX6_copy_112 : decode cX6_copy 112 = .ok (.return_, 1) := by decide +kernel
theorem dX6_isAhead_0 : decode cX6_isAhead 0 = .ok (.iload_n 2, 1) := by decide +kernel
theorem dX6_isAhead_1 : decode cX6_isAhead 1 = .ok (.ifCond .eq 31, 3) := by decide +kernel
theorem dX6_isAhead_4 : decode cX6_isAhead 4 = .ok (.aload_n 0, 1) := by decide +kernel
theorem dX6_isAhead_5 : decode cX6_isAhead 5 = .ok (.getfield 17, 3) := by decide +kernel
theorem dX6_isAhead_8 : decode cX6_isAhead 8 = .ok (.aload_n 1, 1) := by decide +kernel
theorem dX6_isAhead_9 : decode cX6_isAhead 9 = .ok (.getfield 17, 3) := by decide +kernel
theorem dX6_isAhead_12 : decode cX6_isAhead 12 = .ok (.if_icmp .eq 20, 3) := by decide +kernel
theorem dX6_isAhead_15 : decode cX6_isAhead 15 = .ok (.aload_n 0, 1) := by decide +kernel
theorem dX6_isAhead_16 : decode cX6_isAhead 16 = .ok (.getfield 17, 3) := by decide +kernel
theorem dX6_isAhead_19 : decode cX6_isAhead 19 = .ok (.aload_n 1, 1) := by decide +kernel
theorem dX6_isAhead_20 : decode cX6_isAhead 20 = .ok (.getfield 17, 3) := by decide +kernel
theorem dX6_isAhead_23 : decode cX6_isAhead 23 = .ok (.if_icmp .ge 7, 3) := by decide +kernel
theorem dX6_isAhead_26 : decode cX6_isAhead 26 = .ok (.iconst 1, 1) := by decide +kernel
theorem dX6_isAhead_27 : decode cX6_isAhead 27 = .ok (.goto 4, 3) := by decide +kernel
theorem dX6_isAhead_30 : decode cX6_isAhead 30 = .ok (.iconst 0, 1) := by decide +kernel
theorem dX6_isAhead_31 : decode cX6_isAhead 31 = .ok (.ireturn, 1) := by decide +kernel
theorem dX6_isAhead_32 : decode cX6_isAhead 32 = .ok (.iload_n 3, 1) := by decide +kernel
theorem dX6_isAhead_33 : decode cX6_isAhead 33 = .ok (.iconst 1, 1) := by decide +kernel
theorem dX6_isAhead_34 : decode cX6_isAhead 34 = .ok (.if_icmp .ne 31, 3) := by decide +kernel
theorem dX6_isAhead_37 : decode cX6_isAhead 37 = .ok (.aload_n 0, 1) := by decide +kernel
theorem dX6_isAhead_38 : decode cX6_isAhead 38 = .ok (.getfield 38, 3) := by decide +kernel
theorem dX6_isAhead_41 : decode cX6_isAhead 41 = .ok (.aload_n 1, 1) := by decide +kernel
theorem dX6_isAhead_42 : decode cX6_isAhead 42 = .ok (.getfield 38, 3) := by decide +kernel
theorem dX6_isAhead_45 : decode cX6_isAhead 45 = .ok (.if_icmp .eq 20, 3) := by decide +kernel
theorem dX6_isAhead_48 : decode cX6_isAhead 48 = .ok (.aload_n 0, 1) := by decide +kernel
theorem dX6_isAhead_49 : decode cX6_isAhead 49 = .ok (.getfield 38, 3) := by decide +kernel
theorem dX6_isAhead_52 : decode cX6_isAhead 52 = .ok (.aload_n 1, 1) := by decide +kernel
theorem dX6_isAhead_53 : decode cX6_isAhead 53 = .ok (.getfield 38, 3) := by decide +kernel
theorem dX6_isAhead_56 : decode cX6_isAhead 56 = .ok (.if_icmp .ge 7, 3) := by decide +kernel
theorem dX6_isAhead_59 : decode cX6_isAhead 59 = .ok (.iconst 1, 1) := by decide +kernel
theorem dX6_isAhead_60 : decode cX6_isAhead 60 = .ok (.goto 4, 3) := by decide +kernel
theorem dX6_isAhead_63 : decode cX6_isAhead 63 = .ok (.iconst 0, 1) := by decide +kernel
theorem dX6_isAhead_64 : decode cX6_isAhead 64 = .ok (.ireturn, 1) := by decide +kernel
theorem dX6_isAhead_65 : decode cX6_isAhead 65 = .ok (.iload_n 3, 1) := by decide +kernel
theorem dX6_isAhead_66 : decode cX6_isAhead 66 = .ok (.iconst 2, 1) := by decide +kernel
theorem dX6_isAhead_67 : decode cX6_isAhead 67 = .ok (.if_icmp .ne 22, 3) := by decide +kernel
theorem dX6_isAhead_70 : decode cX6_isAhead 70 = .ok (.aload_n 0, 1) := by decide +kernel
theorem dX6_isAhead_71 : decode cX6_isAhead 71 = .ok (.getfield 20, 3) := by decide +kernel
theorem dX6_isAhead_74 : decode cX6_isAhead 74 = .ok (.aload_n 1, 1) := by decide +kernel
theorem dX6_isAhead_75 : decode cX6_isAhead 75 = .ok (.getfield 20, 3) := by decide +kernel
theorem dX6_isAhead_78 : decode cX6_isAhead 78 = .ok (.if_icmp .le 7, 3) := by decide +kernel
theorem dX6_isAhead_81 : decode cX6_isAhead 81 = .ok (.iconst 1, 1) := by decide +kernel
theorem dX6_isAhead_82 : decode cX6_isAhead 82 = .ok (.goto 23, 3) := by decide +kernel
theorem dX6_isAhead_85 : decode cX6_isAhead 85 = .ok (.iconst 0, 1) := by decide +kernel
theorem dX6_isAhead_86 : decode cX6_isAhead 86 = .ok (.goto 19, 3) := by decide +kernel
theorem dX6_isAhead_89 : decode cX6_isAhead 89 = .ok (.aload_n 0, 1) := by decide +kernel
theorem dX6_isAhead_90 : decode cX6_isAhead 90 = .ok (.getfield 20, 3) := by decide +kernel
theorem dX6_isAhead_93 : decode cX6_isAhead 93 = .ok (.aload_n 1, 1) := by decide +kernel
theorem dX6_isAhead_94 : decode cX6_isAhead 94 = .ok (.getfield 20, 3) := by decide +kernel
theorem dX6_isAhead_97 : decode cX6_isAhead 97 = .ok (.if_icmp .ge 7, 3) := by decide +kernel
theorem dX6_isAhead_100 : decode cX6_isAhead 100 = .ok (.iconst 1, 1) := by decide +kernel
theorem dX6_isAhead_101 : decode cX6_isAhead 101 = .ok (.goto 4, 3) := by decide +kernel
theorem dX6_isAhead_104 : decode cX6_isAhead 104 = .ok (.iconst 0, 1) := by decide +kernel
theorem dX6_isAhead_105 : decode cX6_isAhead 105 = .ok (.ireturn, 1) := by decide +kernel
theorem dX7_init_0 : decode cX7_init 0 = .ok (.aload_n 0, 1) := by decide +kernel
theorem dX7_init_1 : decode cX7_init 1 = .ok (.invokespecial 3, 3) := by decide +kernel
theorem dX7_init_4 : decode cX7_init 4 = .ok (.aload_n 0, 1) := by decide +kernel
theorem dX7_init_5 : decode cX7_init 5 = .ok (.new 9, 3) := by decide +kernel
theorem dX7_init_8 : decode cX7_init 8 = .ok (.dup, 1) := by decide +kernel
theorem dX7_init_9 : decode cX7_init 9 = .ok (.invokespecial 11, 3) := by decide +kernel
theorem dX7_init_12 : decode cX7_init 12 = .ok (.putfield 12, 3) := by decide +kernel
theorem dX7_init_15 : decode cX7_init 15 = .ok (.aload_n 0, 1) := by decide +kernel
theorem dX7_init_16 : decode cX7_init 16 = .ok (.bipush 16, 2) := by decide +kernel
theorem dX7_init_18 : decode cX7_init 18 = .ok (.anewarray 18, 3) := by decide +kernel
theorem dX7_init_21 : decode cX7_init 21 = .ok (.putfield 20, 3) := by decide +kernel
theorem dX7_init_24 : decode cX7_init 24 = .ok (.aload_n 0, 1) := by decide +kernel
theorem dX7_init_25 : decode cX7_init 25 = .ok (.new 24, 3) := by decide +kernel
theorem dX7_init_28 : decode cX7_init 28 = .ok (.dup, 1) := by decide +kernel
theorem dX7_init_29 : decode cX7_init 29 = .ok (.invokespecial 26, 3) := by decide +kernel
theorem dX7_init_32 : decode cX7_init 32 = .ok (.putfield 27, 3) := by decide +kernel
theorem dX7_init_35 : decode cX7_init 35 = .ok (.iconst 0, 1) := by decide +kernel
theorem dX7_init_36 : decode cX7_init 36 = .ok (.istore_n 1, 1) := by decide +kernel
theorem dX7_init_37 : decode cX7_init 37 = .ok (.iload_n 1, 1) := by decide +kernel
theorem dX7_init_38 : decode cX7_init 38 = .ok (.bipush 16, 2) := by decide +kernel
theorem dX7_init_40 : decode cX7_init 40 = .ok (.if_icmp .ge 23, 3) := by decide +kernel
theorem dX7_init_43 : decode cX7_init 43 = .ok (.aload_n 0, 1) := by decide +kernel
theorem dX7_init_44 : decode cX7_init 44 = .ok (.getfield 20, 3) := by decide +kernel
theorem dX7_init_47 : decode cX7_init 47 = .ok (.iload_n 1, 1) := by decide +kernel
theorem dX7_init_48 : decode cX7_init 48 = .ok (.new 18, 3) := by decide +kernel
theorem dX7_init_51 : decode cX7_init 51 = .ok (.dup, 1) := by decide +kernel
theorem dX7_init_52 : decode cX7_init 52 = .ok (.iload_n 1, 1) := by decide +kernel
theorem dX7_init_53 : decode cX7_init 53 = .ok (.invokespecial 31, 3) := by decide +kernel
theorem dX7_init_56 : decode cX7_init 56 = .ok (.aastore, 1) := by decide +kernel
theorem dX7_init_57 : decode cX7_init 57 = .ok (.iinc 1 1, 3) := by decide +kernel
theorem dX7_init_60 : decode cX7_init 60 = .ok (.goto (-23), 3) := by decide +kernel
theorem dX7_init_63 : decode cX7_init 63 = .ok (.aload_n 0, 1) := by decide +kernel
theorem dX7_init_64 : decode cX7_init 64 = .ok (.getfield 12, 3) := by decide +kernel
theorem dX7_init_67 : decode cX7_init 67 = .ok (.iconst 4, 1) := by decide +kernel
theorem dX7_init_68 : decode cX7_init 68 = .ok (.iconst 4, 1) := by decide +kernel
theorem dX7_init_69 : decode cX7_init 69 = .ok (.iconst 4, 1) := by decide +kernel
theorem dX7_init_70 : decode cX7_init 70 = .ok (.iconst 0, 1) := by decide +kernel
theorem dX7_init_71 : decode cX7_init 71 = .ok (.invokevirtual 34, 3) := by decide +kernel
theorem dX7_init_74 : decode cX7_init 74 = .ok (.return_, 1) := by decide +kernel
theorem dX7_copy_0 : decode cX7_copy 0 = .ok (.aload_n 0, 1) := by decide +kernel
theorem dX7_copy_1 : decode cX7_copy 1 = .ok (.getfield 12, 3) := by decide +kernel
theorem dX7_copy_4 : decode cX7_copy 4 = .ok (.aload_n 1, 1) := by decide +kernel
theorem dX7_copy_5 : decode cX7_copy 5 = .ok (.getfield 12, 3) := by decide +kernel
theorem dX7_copy_8 : decode cX7_copy 8 = .ok (.invokevirtual 38, 3) := by decide +kernel
theorem dX7_copy_11 : decode cX7_copy 11 = .ok (.iconst 0, 1) := by decide +kernel
theorem dX7_copy_12 : decode cX7_copy 12 = .ok (.istore_n 2, 1) := by decide +kernel
theorem dX7_copy_13 : decode cX7_copy 13 = .ok (.iload_n 2, 1) := by decide +kernel
theorem dX7_copy_14 : decode cX7_copy 14 = .ok (.bipush 16, 2) := by decide +kernel
theorem dX7_copy_16 : decode cX7_copy 16 = .ok (.if_icmp .ge 39, 3) := by decide +kernel
theorem dX7_copy_19 : decode cX7_copy 19 = .ok (.aload_n 0, 1) := by decide +kernel
theorem dX7_copy_20 : decode cX7_copy 20 = .ok (.getfield 20, 3) := by decide +kernel
theorem dX7_copy_23 : decode cX7_copy 23 = .ok (.iload_n 2, 1) := by decide +kernel
theorem dX7_copy_24 : decode cX7_copy 24 = .ok (.aaload, 1) := by decide +kernel
theorem dX7_copy_25 : decode cX7_copy 25 = .ok (.astore_n 3, 1) := by decide +kernel
theorem dX7_copy_26 : decode cX7_copy 26 = .ok (.aload_n 1, 1) := by decide +kernel
theorem dX7_copy_27 : decode cX7_copy 27 = .ok (.getfield 20, 3) := by decide +kernel
theorem dX7_copy_30 : decode cX7_copy 30 = .ok (.iload_n 2, 1) := by decide +kernel
theorem dX7_copy_31 : decode cX7_copy 31 = .ok (.aaload, 1) := by decide +kernel
theorem dX7_copy_32 : decode cX7_copy 32 = .ok (.astore 4, 2) := by decide +kernel
theorem dX7_copy_34 : decode cX7_copy 34 = .ok (.aload_n 3, 1) := by decide +kernel
theorem dX7_copy_35 : decode cX7_copy 35 = .ok (.ifnull 14, 3) := by decide +kernel
theorem dX7_copy_38 : decode cX7_copy 38 = .ok (.aload 4, 2) := by decide +kernel
theorem dX7_copy_40 : decode cX7_copy 40 = .ok (.ifnull 9, 3) := by decide +kernel
theorem dX7_copy_43 : decode cX7_copy 43 = .ok (.aload_n 3, 1) := by decide +kernel
theorem dX7_copy_44 : decode cX7_copy 44 = .ok (.aload 4, 2) := by decide +kernel
theorem dX7_copy_46 : decode cX7_copy 46 = .ok (.invokevirtual 42, 3) := by decide +kernel
theorem dX7_copy_49 : decode cX7_copy 49 = .ok (.iinc 2 1, 3) := by decide +kernel
theorem dX7_copy_52 : decode cX7_copy 52 = .ok (.goto (-39), 3) := by decide +kernel
theorem dX7_copy_55 : decode cX7_copy 55 = .ok (.aload_n 0, 1) := by decide +kernel
theorem dX7_copy_56 : decode cX7_copy 56 = .ok (.aload_n 1, 1) := by decide +kernel
theorem dX7_copy_57 : decode cX7_copy 57 = .ok (.getfield 45, 3) := by decide +kernel
theorem dX7_copy_60 : decode cX7_copy 60 = .ok (.putfield 45, 3) := by decide +kernel
theorem dX7_copy_63 : decode cX7_copy 63 = .ok (.aload_n 0, 1) := by decide +kernel
theorem dX7_copy_64 : decode cX7_copy 64 = .ok (.aload_n 1, 1) := by decide +kernel
theorem dX7_copy_65 : decode cX7_copy 65 = .ok (.getfield 49, 3) := by decide +kernel
theorem dX7_copy_68 : decode cX7_copy 68 = .ok (.putfield 49, 3) := by decide +kernel
theorem dX7_copy_71 : decode cX7_copy 71 = .ok (.aload_n 0, 1) := by decide +kernel
theorem dX7_copy_72 : decode cX7_copy 72 = .ok (.aload_n 1, 1) := by decide +kernel
theorem dX7_copy_73 : decode cX7_copy 73 = .ok (.getfield 52, 3) := by decide +kernel
theorem dX7_copy_76 : decode cX7_copy 76 = .ok (.putfield 52, 3) := by decide +kernel
theorem dX7_copy_79 : decode cX7_copy 79 = .ok (.aload_n 0, 1) := by decide +kernel
theorem dX7_copy_80 : decode cX7_copy 80 = .ok (.aload_n 1, 1) := by decide +kernel
theorem dX7_copy_81 : decode cX7_copy 81 = .ok (.getfield 55, 3) := by decide +kernel
theorem dX7_copy_84 : decode cX7_copy 84 = .ok (.putfield 55, 3) := by decide +kernel
theorem dX7_copy_87 : decode cX7_copy 87 = .ok (.return_, 1) := by decide +kernel
theorem dX7_find_0 : decode cX7_find 0 = .ok (.iload_n 1, 1) := by decide +kernel
theorem dX7_find_1 : decode cX7_find 1 = .ok (.ifCond .lt 9, 3) := by decide +kernel
theorem dX7_find_4 : decode cX7_find 4 = .ok (.iload_n 1, 1) := by decide +kernel
theorem dX7_find_5 : decode cX7_find 5 = .ok (.bipush 16, 2) := by decide +kernel
theorem dX7_find_7 : decode cX7_find 7 = .ok (.if_icmp .lt 5, 3) := by decide +kernel
theorem dX7_find_10 : decode cX7_find 10 = .ok (.aconst_null, 1) := by decide +kernel
theorem dX7_find_11 : decode cX7_find 11 = .ok (.areturn, 1) := by decide +kernel
theorem dX7_find_12 : decode cX7_find 12 = .ok (.aload_n 0, 1) := by decide +kernel
theorem dX7_find_13 : decode cX7_find 13 = .ok (.getfield 20, 3) := by decide +kernel
theorem dX7_find_16 : decode cX7_find 16 = .ok (.iload_n 1, 1) := by decide +kernel
theorem dX7_find_17 : decode cX7_find 17 = .ok (.aaload, 1) := by decide +kernel
theorem dX7_find_18 : decode cX7_find 18 = .ok (.astore_n 2, 1) := by decide +kernel
theorem dX7_find_19 : decode cX7_find 19 = .ok (.aload_n 2, 1) := by decide +kernel
theorem dX7_find_20 : decode cX7_find 20 = .ok (.ifnull 10, 3) := by decide +kernel
theorem dX7_find_23 : decode cX7_find 23 = .ok (.aload_n 2, 1) := by decide +kernel
theorem dX7_find_24 : decode cX7_find 24 = .ok (.getfield 58, 3) := by decide +kernel
theorem dX7_find_27 : decode cX7_find 27 = .ok (.ifCond .ne 7, 3) := by decide +kernel
theorem dX7_find_30 : decode cX7_find 30 = .ok (.aconst_null, 1) := by decide +kernel
theorem dX7_find_31 : decode cX7_find 31 = .ok (.goto 4, 3) := by decide +kernel
theorem dX7_find_34 : decode cX7_find 34 = .ok (.aload_n 2, 1) := by decide +kernel
theorem dX7_find_35 : decode cX7_find 35 = .ok (.areturn, 1) := by decide +kernel
theorem dX7_findRunning_0 : decode cX7_findRunning 0 = .ok (.aload_n 0, 1) := by decide +kernel
theorem dX7_findRunning_1 : decode cX7_findRunning 1 = .ok (.iload_n 1, 1) := by decide +kernel
theorem dX7_findRunning_2 : decode cX7_findRunning 2 = .ok (.invokevirtual 62, 3) := by decide +kernel
theorem dX7_findRunning_5 : decode cX7_findRunning 5 = .ok (.astore_n 2, 1) := by decide +kernel
theorem dX7_findRunning_6 : decode cX7_findRunning 6 = .ok (.aload_n 2, 1) := by decide +kernel
theorem dX7_findRunning_7 : decode cX7_findRunning 7 = .ok (.ifnull 10, 3) := by decide +kernel
theorem dX7_findRunning_10 : decode cX7_findRunning 10 = .ok (.aload_n 2, 1) := by decide +kernel
theorem dX7_findRunning_11 : decode cX7_findRunning 11 = .ok (.getfield 66, 3) := by decide +kernel
theorem dX7_findRunning_14 : decode cX7_findRunning 14 = .ok (.ifCond .eq 7, 3) := by decide +kernel
theorem dX7_findRunning_17 : decode cX7_findRunning 17 = .ok (.aconst_null, 1) := by decide +kernel
theorem dX7_findRunning_18 : decode cX7_findRunning 18 = .ok (.goto 4, 3) := by decide +kernel
theorem dX7_findRunning_21 : decode cX7_findRunning 21 = .ok (.aload_n 2, 1) := by decide +kernel
theorem dX7_findRunning_22 : decode cX7_findRunning 22 = .ok (.areturn, 1) := by decide +kernel
theorem dX7_leastFree_0 : decode cX7_leastFree 0 = .ok (.iconst 0, 1) := by decide +kernel
theorem dX7_leastFree_1 : decode cX7_leastFree 1 = .ok (.istore_n 1, 1) := by decide +kernel
theorem dX7_leastFree_2 : decode cX7_leastFree 2 = .ok (.iload_n 1, 1) := by decide +kernel
theorem dX7_leastFree_3 : decode cX7_leastFree 3 = .ok (.bipush 16, 2) := by decide +kernel
theorem dX7_leastFree_5 : decode cX7_leastFree 5 = .ok (.if_icmp .ge 29, 3) := by decide +kernel
theorem dX7_leastFree_8 : decode cX7_leastFree 8 = .ok (.aload_n 0, 1) := by decide +kernel
theorem dX7_leastFree_9 : decode cX7_leastFree 9 = .ok (.getfield 20, 3) := by decide +kernel
theorem dX7_leastFree_12 : decode cX7_leastFree 12 = .ok (.iload_n 1, 1) := by decide +kernel
theorem dX7_leastFree_13 : decode cX7_leastFree 13 = .ok (.aaload, 1) := by decide +kernel
theorem dX7_leastFree_14 : decode cX7_leastFree 14 = .ok (.astore_n 2, 1) := by decide +kernel
theorem dX7_leastFree_15 : decode cX7_leastFree 15 = .ok (.aload_n 2, 1) := by decide +kernel
theorem dX7_leastFree_16 : decode cX7_leastFree 16 = .ok (.ifnull 12, 3) := by decide +kernel
theorem dX7_leastFree_19 : decode cX7_leastFree 19 = .ok (.aload_n 2, 1) := by decide +kernel
theorem dX7_leastFree_20 : decode cX7_leastFree 20 = .ok (.getfield 58, 3) := by decide +kernel
theorem dX7_leastFree_23 : decode cX7_leastFree 23 = .ok (.ifCond .ne 5, 3) := by decide +kernel
theorem dX7_leastFree_26 : decode cX7_leastFree 26 = .ok (.aload_n 2, 1) := by decide +kernel
theorem dX7_leastFree_27 : decode cX7_leastFree 27 = .ok (.areturn, 1) := by decide +kernel
theorem dX7_leastFree_28 : decode cX7_leastFree 28 = .ok (.iinc 1 1, 3) := by decide +kernel
theorem dX7_leastFree_31 : decode cX7_leastFree 31 = .ok (.goto (-29), 3) := by decide +kernel
theorem dX7_leastFree_34 : decode cX7_leastFree 34 = .ok (.aconst_null, 1) := by decide +kernel
theorem dX7_leastFree_35 : decode cX7_leastFree 35 = .ok (.areturn, 1) := by decide +kernel
theorem dX7_firstDue_0 : decode cX7_firstDue 0 = .ok (.aconst_null, 1) := by decide +kernel
theorem dX7_firstDue_1 : decode cX7_firstDue 1 = .ok (.astore_n 1, 1) := by decide +kernel
theorem dX7_firstDue_2 : decode cX7_firstDue 2 = .ok (.iconst 0, 1) := by decide +kernel
theorem dX7_firstDue_3 : decode cX7_firstDue 3 = .ok (.istore_n 2, 1) := by decide +kernel
theorem dX7_firstDue_4 : decode cX7_firstDue 4 = .ok (.iload_n 2, 1) := by decide +kernel
theorem dX7_firstDue_5 : decode cX7_firstDue 5 = .ok (.bipush 16, 2) := by decide +kernel
theorem dX7_firstDue_7 : decode cX7_firstDue 7 = .ok (.if_icmp .ge 36, 3) := by decide +kernel
theorem dX7_firstDue_10 : decode cX7_firstDue 10 = .ok (.aload_n 0, 1) := by decide +kernel
theorem dX7_firstDue_11 : decode cX7_firstDue 11 = .ok (.iload_n 2, 1) := by decide +kernel
theorem dX7_firstDue_12 : decode cX7_firstDue 12 = .ok (.invokevirtual 69, 3) := by decide +kernel
theorem dX7_firstDue_15 : decode cX7_firstDue 15 = .ok (.astore_n 3, 1) := by decide +kernel
theorem dX7_firstDue_16 : decode cX7_firstDue 16 = .ok (.aload_n 3, 1) := by decide +kernel
theorem dX7_firstDue_17 : decode cX7_firstDue 17 = .ok (.ifnull 20, 3) := by decide +kernel
theorem dX7_firstDue_20 : decode cX7_firstDue 20 = .ok (.aload_n 1, 1) := by decide +kernel
theorem dX7_firstDue_21 : decode cX7_firstDue 21 = .ok (.ifnull 14, 3) := by decide +kernel
theorem dX7_firstDue_24 : decode cX7_firstDue 24 = .ok (.aload_n 3, 1) := by decide +kernel
theorem dX7_firstDue_25 : decode cX7_firstDue 25 = .ok (.getfield 72, 3) := by decide +kernel
theorem dX7_firstDue_28 : decode cX7_firstDue 28 = .ok (.aload_n 1, 1) := by decide +kernel
theorem dX7_firstDue_29 : decode cX7_firstDue 29 = .ok (.getfield 72, 3) := by decide +kernel
theorem dX7_firstDue_32 : decode cX7_firstDue 32 = .ok (.if_icmp .ge 5, 3) := by decide +kernel
theorem dX7_firstDue_35 : decode cX7_firstDue 35 = .ok (.aload_n 3, 1) := by decide +kernel
theorem dX7_firstDue_36 : decode cX7_firstDue 36 = .ok (.astore_n 1, 1) := by decide +kernel
theorem dX7_firstDue_37 : decode cX7_firstDue 37 = .ok (.iinc 2 1, 3) := by decide +kernel
theorem dX7_firstDue_40 : decode cX7_firstDue 40 = .ok (.goto (-36), 3) := by decide +kernel
theorem dX7_firstDue_43 : decode cX7_firstDue 43 = .ok (.aload_n 1, 1) := by decide +kernel
theorem dX7_firstDue_44 : decode cX7_firstDue 44 = .ok (.areturn, 1) := by decide +kernel
theorem dX7_countSet_0 : decode cX7_countSet 0 = .ok (.iconst 0, 1) := by decide +kernel
theorem dX7_countSet_1 : decode cX7_countSet 1 = .ok (.istore_n 1, 1) := by decide +kernel
theorem dX7_countSet_2 : decode cX7_countSet 2 = .ok (.iconst 0, 1) := by decide +kernel
theorem dX7_countSet_3 : decode cX7_countSet 3 = .ok (.istore_n 2, 1) := by decide +kernel
theorem dX7_countSet_4 : decode cX7_countSet 4 = .ok (.iload_n 2, 1) := by decide +kernel
theorem dX7_countSet_5 : decode cX7_countSet 5 = .ok (.bipush 16, 2) := by decide +kernel
theorem dX7_countSet_7 : decode cX7_countSet 7 = .ok (.if_icmp .ge 25, 3) := by decide +kernel
theorem dX7_countSet_10 : decode cX7_countSet 10 = .ok (.iload_n 1, 1) := by decide +kernel
theorem dX7_countSet_11 : decode cX7_countSet 11 = .ok (.aload_n 0, 1) := by decide +kernel
theorem dX7_countSet_12 : decode cX7_countSet 12 = .ok (.iload_n 2, 1) := by decide +kernel
theorem dX7_countSet_13 : decode cX7_countSet 13 = .ok (.invokevirtual 62, 3) := by decide +kernel
theorem dX7_countSet_16 : decode cX7_countSet 16 = .ok (.ifnonnull 7, 3) := by decide +kernel
theorem dX7_countSet_19 : decode cX7_countSet 19 = .ok (.iconst 0, 1) := by decide +kernel
theorem dX7_countSet_20 : decode cX7_countSet 20 = .ok (.goto 4, 3) := by decide +kernel
theorem dX7_countSet_23 : decode cX7_countSet 23 = .ok (.iconst 1, 1) := by decide +kernel
theorem dX7_countSet_24 : decode cX7_countSet 24 = .ok (.iadd, 1) := by decide +kernel
theorem dX7_countSet_25 : decode cX7_countSet 25 = .ok (.istore_n 1, 1) := by decide +kernel
theorem dX7_countSet_26 : decode cX7_countSet 26 = .ok (.iinc 2 1, 3) := by decide +kernel
theorem dX7_countSet_29 : decode cX7_countSet 29 = .ok (.goto (-25), 3) := by decide +kernel
theorem dX7_countSet_32 : decode cX7_countSet 32 = .ok (.iload_n 1, 1) := by decide +kernel
theorem dX7_countSet_33 : decode cX7_countSet 33 = .ok (.ireturn, 1) := by decide +kernel
theorem dX7_countOn_0 : decode cX7_countOn 0 = .ok (.iconst 0, 1) := by decide +kernel
theorem dX7_countOn_1 : decode cX7_countOn 1 = .ok (.istore_n 2, 1) := by decide +kernel
theorem dX7_countOn_2 : decode cX7_countOn 2 = .ok (.iconst 0, 1) := by decide +kernel
theorem dX7_countOn_3 : decode cX7_countOn 3 = .ok (.istore_n 3, 1) := by decide +kernel
theorem dX7_countOn_4 : decode cX7_countOn 4 = .ok (.iload_n 3, 1) := by decide +kernel
theorem dX7_countOn_5 : decode cX7_countOn 5 = .ok (.bipush 16, 2) := by decide +kernel
theorem dX7_countOn_7 : decode cX7_countOn 7 = .ok (.if_icmp .ge 38, 3) := by decide +kernel
theorem dX7_countOn_10 : decode cX7_countOn 10 = .ok (.aload_n 0, 1) := by decide +kernel
theorem dX7_countOn_11 : decode cX7_countOn 11 = .ok (.iload_n 3, 1) := by decide +kernel
theorem dX7_countOn_12 : decode cX7_countOn 12 = .ok (.invokevirtual 62, 3) := by decide +kernel
theorem dX7_countOn_15 : decode cX7_countOn 15 = .ok (.astore 4, 2) := by decide +kernel
theorem dX7_countOn_17 : decode cX7_countOn 17 = .ok (.iload_n 2, 1) := by decide +kernel
theorem dX7_countOn_18 : decode cX7_countOn 18 = .ok (.aload 4, 2) := by decide +kernel
theorem dX7_countOn_20 : decode cX7_countOn 20 = .ok (.ifnull 16, 3) := by decide +kernel
theorem dX7_countOn_23 : decode cX7_countOn 23 = .ok (.aload 4, 2) := by decide +kernel
theorem dX7_countOn_25 : decode cX7_countOn 25 = .ok (.getfield 75, 3) := by decide +kernel
theorem dX7_countOn_28 : decode cX7_countOn 28 = .ok (.iload_n 1, 1) := by decide +kernel
theorem dX7_countOn_29 : decode cX7_countOn 29 = .ok (.if_icmp .ne 7, 3) := by decide +kernel
theorem dX7_countOn_32 : decode cX7_countOn 32 = .ok (.iconst 1, 1) := by decide +kernel
theorem dX7_countOn_33 : decode cX7_countOn 33 = .ok (.goto 4, 3) := by decide +kernel
theorem dX7_countOn_36 : decode cX7_countOn 36 = .ok (.iconst 0, 1) := by decide +kernel
theorem dX7_countOn_37 : decode cX7_countOn 37 = .ok (.iadd, 1) := by decide +kernel
theorem dX7_countOn_38 : decode cX7_countOn 38 = .ok (.istore_n 2, 1) := by decide +kernel
theorem dX7_countOn_39 : decode cX7_countOn 39 = .ok (.iinc 3 1, 3) := by decide +kernel
theorem dX7_countOn_42 : decode cX7_countOn 42 = .ok (.goto (-38), 3) := by decide +kernel
theorem dX7_countOn_45 : decode cX7_countOn 45 = .ok (.iload_n 2, 1) := by decide +kernel
theorem dX7_countOn_46 : decode cX7_countOn 46 = .ok (.ireturn, 1) := by decide +kernel
theorem dX7_countIn_0 : decode cX7_countIn 0 = .ok (.iconst 0, 1) := by decide +kernel
theorem dX7_countIn_1 : decode cX7_countIn 1 = .ok (.istore_n 3, 1) := by decide +kernel
theorem dX7_countIn_2 : decode cX7_countIn 2 = .ok (.iconst 0, 1) := by decide +kernel
theorem dX7_countIn_3 : decode cX7_countIn 3 = .ok (.istore 4, 2) := by decide +kernel
theorem dX7_countIn_5 : decode cX7_countIn 5 = .ok (.iload 4, 2) := by decide +kernel
theorem dX7_countIn_7 : decode cX7_countIn 7 = .ok (.bipush 16, 2) := by decide +kernel
theorem dX7_countIn_9 : decode cX7_countIn 9 = .ok (.if_icmp .ge 48, 3) := by decide +kernel
theorem dX7_countIn_12 : decode cX7_countIn 12 = .ok (.aload_n 0, 1) := by decide +kernel
theorem dX7_countIn_13 : decode cX7_countIn 13 = .ok (.iload 4, 2) := by decide +kernel
theorem dX7_countIn_15 : decode cX7_countIn 15 = .ok (.invokevirtual 62, 3) := by decide +kernel
theorem dX7_countIn_18 : decode cX7_countIn 18 = .ok (.astore 5, 2) := by decide +kernel
theorem dX7_countIn_20 : decode cX7_countIn 20 = .ok (.iload_n 3, 1) := by decide +kernel
theorem dX7_countIn_21 : decode cX7_countIn 21 = .ok (.aload 5, 2) := by decide +kernel
theorem dX7_countIn_23 : decode cX7_countIn 23 = .ok (.ifnull 25, 3) := by decide +kernel
theorem dX7_countIn_26 : decode cX7_countIn 26 = .ok (.aload 5, 2) := by decide +kernel
theorem dX7_countIn_28 : decode cX7_countIn 28 = .ok (.getfield 75, 3) := by decide +kernel
theorem dX7_countIn_31 : decode cX7_countIn 31 = .ok (.iload_n 1, 1) := by decide +kernel
theorem dX7_countIn_32 : decode cX7_countIn 32 = .ok (.if_icmp .ne 16, 3) := by decide +kernel
theorem dX7_countIn_35 : decode cX7_countIn 35 = .ok (.aload 5, 2) := by decide +kernel
theorem dX7_countIn_37 : decode cX7_countIn 37 = .ok (.getfield 78, 3) := by decide +kernel
theorem dX7_countIn_40 : decode cX7_countIn 40 = .ok (.iload_n 2, 1) := by decide +kernel
theorem dX7_countIn_41 : decode cX7_countIn 41 = .ok (.if_icmp .ne 7, 3) := by decide +kernel
theorem dX7_countIn_44 : decode cX7_countIn 44 = .ok (.iconst 1, 1) := by decide +kernel
theorem dX7_countIn_45 : decode cX7_countIn 45 = .ok (.goto 4, 3) := by decide +kernel
theorem dX7_countIn_48 : decode cX7_countIn 48 = .ok (.iconst 0, 1) := by decide +kernel
theorem dX7_countIn_49 : decode cX7_countIn 49 = .ok (.iadd, 1) := by decide +kernel
theorem dX7_countIn_50 : decode cX7_countIn 50 = .ok (.istore_n 3, 1) := by decide +kernel
theorem dX7_countIn_51 : decode cX7_countIn 51 = .ok (.iinc 4 1, 3) := by decide +kernel
theorem dX7_countIn_54 : decode cX7_countIn 54 = .ok (.goto (-49), 3) := by decide +kernel
theorem dX7_countIn_57 : decode cX7_countIn 57 = .ok (.iload_n 3, 1) := by decide +kernel
theorem dX7_countIn_58 : decode cX7_countIn 58 = .ok (.ireturn, 1) := by decide +kernel
theorem dX7_lay_0 : decode cX7_lay 0 = .ok (.aload_n 1, 1) := by decide +kernel
theorem dX7_lay_1 : decode cX7_lay 1 = .ok (.aload_n 0, 1) := by decide +kernel
theorem dX7_lay_2 : decode cX7_lay 2 = .ok (.getfield 12, 3) := by decide +kernel
theorem dX7_lay_5 : decode cX7_lay 5 = .ok (.aload_n 1, 1) := by decide +kernel
theorem dX7_lay_6 : decode cX7_lay 6 = .ok (.getfield 72, 3) := by decide +kernel
theorem dX7_lay_9 : decode cX7_lay 9 = .ok (.aload_n 0, 1) := by decide +kernel
theorem dX7_lay_10 : decode cX7_lay 10 = .ok (.getfield 45, 3) := by decide +kernel
theorem dX7_lay_13 : decode cX7_lay 13 = .ok (.isub, 1) := by decide +kernel
theorem dX7_lay_14 : decode cX7_lay 14 = .ok (.invokevirtual 81, 3) := by decide +kernel
theorem dX7_lay_17 : decode cX7_lay 17 = .ok (.putfield 75, 3) := by decide +kernel
theorem dX7_lay_20 : decode cX7_lay 20 = .ok (.aload_n 1, 1) := by decide +kernel
theorem dX7_lay_21 : decode cX7_lay 21 = .ok (.aload_n 1, 1) := by decide +kernel
theorem dX7_lay_22 : decode cX7_lay 22 = .ok (.getfield 75, 3) := by decide +kernel
theorem dX7_lay_25 : decode cX7_lay 25 = .ok (.iconst (-1), 1) := by decide +kernel
theorem dX7_lay_26 : decode cX7_lay 26 = .ok (.if_icmp .ne 7, 3) := by decide +kernel
theorem dX7_lay_29 : decode cX7_lay 29 = .ok (.iconst (-1), 1) := by decide +kernel
theorem dX7_lay_30 : decode cX7_lay 30 = .ok (.goto 18, 3) := by decide +kernel
theorem dX7_lay_33 : decode cX7_lay 33 = .ok (.aload_n 0, 1) := by decide +kernel
theorem dX7_lay_34 : decode cX7_lay 34 = .ok (.getfield 12, 3) := by decide +kernel
theorem dX7_lay_37 : decode cX7_lay 37 = .ok (.aload_n 1, 1) := by decide +kernel
theorem dX7_lay_38 : decode cX7_lay 38 = .ok (.getfield 75, 3) := by decide +kernel
theorem dX7_lay_41 : decode cX7_lay 41 = .ok (.aload_n 1, 1) := by decide +kernel
theorem dX7_lay_42 : decode cX7_lay 42 = .ok (.getfield 72, 3) := by decide +kernel
theorem dX7_lay_45 : decode cX7_lay 45 = .ok (.invokevirtual 85, 3) := by decide +kernel
theorem dX7_lay_48 : decode cX7_lay 48 = .ok (.putfield 78, 3) := by decide +kernel
theorem dX7_lay_51 : decode cX7_lay 51 = .ok (.return_, 1) := by decide +kernel
theorem dX7_layAll_0 : decode cX7_layAll 0 = .ok (.iconst 0, 1) := by decide +kernel
theorem dX7_layAll_1 : decode cX7_layAll 1 = .ok (.istore_n 1, 1) := by decide +kernel
theorem dX7_layAll_2 : decode cX7_layAll 2 = .ok (.iload_n 1, 1) := by decide +kernel
theorem dX7_layAll_3 : decode cX7_layAll 3 = .ok (.bipush 16, 2) := by decide +kernel
theorem dX7_layAll_5 : decode cX7_layAll 5 = .ok (.if_icmp .ge 24, 3) := by decide +kernel
theorem dX7_layAll_8 : decode cX7_layAll 8 = .ok (.aload_n 0, 1) := by decide +kernel
theorem dX7_layAll_9 : decode cX7_layAll 9 = .ok (.iload_n 1, 1) := by decide +kernel
theorem dX7_layAll_10 : decode cX7_layAll 10 = .ok (.invokevirtual 69, 3) := by decide +kernel
theorem dX7_layAll_13 : decode cX7_layAll 13 = .ok (.astore_n 2, 1) := by decide +kernel
theorem dX7_layAll_14 : decode cX7_layAll 14 = .ok (.aload_n 2, 1) := by decide +kernel
theorem dX7_layAll_15 : decode cX7_layAll 15 = .ok (.ifnull 8, 3) := by decide +kernel
theorem dX7_layAll_18 : decode cX7_layAll 18 = .ok (.aload_n 0, 1) := by decide +kernel
theorem dX7_layAll_19 : decode cX7_layAll 19 = .ok (.aload_n 2, 1) := by decide +kernel
theorem dX7_layAll_20 : decode cX7_layAll 20 = .ok (.invokevirtual 89, 3) := by decide +kernel
theorem dX7_layAll_23 : decode cX7_layAll 23 = .ok (.iinc 1 1, 3) := by decide +kernel
theorem dX7_layAll_26 : decode cX7_layAll 26 = .ok (.goto (-24), 3) := by decide +kernel
theorem dX7_layAll_29 : decode cX7_layAll 29 = .ok (.return_, 1) := by decide +kernel
theorem dX7_pause_0 : decode cX7_pause 0 = .ok (.aload_n 1, 1) := by decide +kernel
theorem dX7_pause_1 : decode cX7_pause 1 = .ok (.iconst 1, 1) := by decide +kernel
theorem dX7_pause_2 : decode cX7_pause 2 = .ok (.putfield 66, 3) := by decide +kernel
theorem dX7_pause_5 : decode cX7_pause 5 = .ok (.aload_n 1, 1) := by decide +kernel
theorem dX7_pause_6 : decode cX7_pause 6 = .ok (.aload_n 1, 1) := by decide +kernel
theorem dX7_pause_7 : decode cX7_pause 7 = .ok (.getfield 72, 3) := by decide +kernel
theorem dX7_pause_10 : decode cX7_pause 10 = .ok (.aload_n 0, 1) := by decide +kernel
theorem dX7_pause_11 : decode cX7_pause 11 = .ok (.getfield 45, 3) := by decide +kernel
theorem dX7_pause_14 : decode cX7_pause 14 = .ok (.isub, 1) := by decide +kernel
theorem dX7_pause_15 : decode cX7_pause 15 = .ok (.putfield 92, 3) := by decide +kernel
theorem dX7_pause_18 : decode cX7_pause 18 = .ok (.aload_n 1, 1) := by decide +kernel
theorem dX7_pause_19 : decode cX7_pause 19 = .ok (.bipush (-2), 2) := by decide +kernel
theorem dX7_pause_21 : decode cX7_pause 21 = .ok (.putfield 75, 3) := by decide +kernel
theorem dX7_pause_24 : decode cX7_pause 24 = .ok (.aload_n 1, 1) := by decide +kernel
theorem dX7_pause_25 : decode cX7_pause 25 = .ok (.bipush (-2), 2) := by decide +kernel
theorem dX7_pause_27 : decode cX7_pause 27 = .ok (.putfield 78, 3) := by decide +kernel
theorem dX7_pause_30 : decode cX7_pause 30 = .ok (.return_, 1) := by decide +kernel
theorem dX7_resume_0 : decode cX7_resume 0 = .ok (.aload_n 1, 1) := by decide +kernel
theorem dX7_resume_1 : decode cX7_resume 1 = .ok (.iconst 0, 1) := by decide +kernel
theorem dX7_resume_2 : decode cX7_resume 2 = .ok (.putfield 66, 3) := by decide +kernel
theorem dX7_resume_5 : decode cX7_resume 5 = .ok (.aload_n 1, 1) := by decide +kernel
theorem dX7_resume_6 : decode cX7_resume 6 = .ok (.aload_n 0, 1) := by decide +kernel
theorem dX7_resume_7 : decode cX7_resume 7 = .ok (.getfield 45, 3) := by decide +kernel
theorem dX7_resume_10 : decode cX7_resume 10 = .ok (.aload_n 1, 1) := by decide +kernel
theorem dX7_resume_11 : decode cX7_resume 11 = .ok (.getfield 92, 3) := by decide +kernel
theorem dX7_resume_14 : decode cX7_resume 14 = .ok (.iadd, 1) := by decide +kernel
theorem dX7_resume_15 : decode cX7_resume 15 = .ok (.putfield 72, 3) := by decide +kernel
theorem dX7_resume_18 : decode cX7_resume 18 = .ok (.aload_n 0, 1) := by decide +kernel
theorem dX7_resume_19 : decode cX7_resume 19 = .ok (.aload_n 1, 1) := by decide +kernel
theorem dX7_resume_20 : decode cX7_resume 20 = .ok (.invokevirtual 89, 3) := by decide +kernel
theorem dX7_resume_23 : decode cX7_resume 23 = .ok (.return_, 1) := by decide +kernel
theorem dX7_tick_0 : decode cX7_tick 0 = .ok (.aload_n 0, 1) := by decide +kernel
theorem dX7_tick_1 : decode cX7_tick 1 = .ok (.dup, 1) := by decide +kernel
theorem dX7_tick_2 : decode cX7_tick 2 = .ok (.getfield 45, 3) := by decide +kernel
theorem dX7_tick_5 : decode cX7_tick 5 = .ok (.iconst 1, 1) := by decide +kernel
theorem dX7_tick_6 : decode cX7_tick 6 = .ok (.iadd, 1) := by decide +kernel
theorem dX7_tick_7 : decode cX7_tick 7 = .ok (.putfield 45, 3) := by decide +kernel
theorem dX7_tick_10 : decode cX7_tick 10 = .ok (.aload_n 0, 1) := by decide +kernel
theorem dX7_tick_11 : decode cX7_tick 11 = .ok (.getfield 45, 3) := by decide +kernel
theorem dX7_tick_14 : decode cX7_tick 14 = .ok (.aload_n 0, 1) := by decide +kernel
theorem dX7_tick_15 : decode cX7_tick 15 = .ok (.getfield 12, 3) := by decide +kernel
theorem dX7_tick_18 : decode cX7_tick 18 = .ok (.getfield 95, 3) := by decide +kernel
theorem dX7_tick_21 : decode cX7_tick 21 = .ok (.invokestatic 98, 3) := by decide +kernel
theorem dX7_tick_24 : decode cX7_tick 24 = .ok (.ifCond .eq 7, 3) := by decide +kernel
theorem dX7_tick_27 : decode cX7_tick 27 = .ok (.aload_n 0, 1) := by decide +kernel
theorem dX7_tick_28 : decode cX7_tick 28 = .ok (.invokevirtual 102, 3) := by decide +kernel
theorem dX7_tick_31 : decode cX7_tick 31 = .ok (.aload_n 0, 1) := by decide +kernel
theorem dX7_tick_32 : decode cX7_tick 32 = .ok (.getfield 12, 3) := by decide +kernel
theorem dX7_tick_35 : decode cX7_tick 35 = .ok (.getfield 105, 3) := by decide +kernel
theorem dX7_tick_38 : decode cX7_tick 38 = .ok (.iconst 1, 1) := by decide +kernel
theorem dX7_tick_39 : decode cX7_tick 39 = .ok (.isub, 1) := by decide +kernel
theorem dX7_tick_40 : decode cX7_tick 40 = .ok (.istore_n 1, 1) := by decide +kernel
theorem dX7_tick_41 : decode cX7_tick 41 = .ok (.iload_n 1, 1) := by decide +kernel
theorem dX7_tick_42 : decode cX7_tick 42 = .ok (.ifCond .le 44, 3) := by decide +kernel
theorem dX7_tick_45 : decode cX7_tick 45 = .ok (.aload_n 0, 1) := by decide +kernel
theorem dX7_tick_46 : decode cX7_tick 46 = .ok (.getfield 45, 3) := by decide +kernel
theorem dX7_tick_49 : decode cX7_tick 49 = .ok (.aload_n 0, 1) := by decide +kernel
theorem dX7_tick_50 : decode cX7_tick 50 = .ok (.getfield 12, 3) := by decide +kernel
theorem dX7_tick_53 : decode cX7_tick 53 = .ok (.iload_n 1, 1) := by decide +kernel
theorem dX7_tick_54 : decode cX7_tick 54 = .ok (.invokevirtual 108, 3) := by decide +kernel
theorem dX7_tick_57 : decode cX7_tick 57 = .ok (.invokestatic 98, 3) := by decide +kernel
theorem dX7_tick_60 : decode cX7_tick 60 = .ok (.ifCond .eq 20, 3) := by decide +kernel
theorem dX7_tick_63 : decode cX7_tick 63 = .ok (.aload_n 0, 1) := by decide +kernel
theorem dX7_tick_64 : decode cX7_tick 64 = .ok (.iload_n 1, 1) := by decide +kernel
theorem dX7_tick_65 : decode cX7_tick 65 = .ok (.aload_n 0, 1) := by decide +kernel
theorem dX7_tick_66 : decode cX7_tick 66 = .ok (.getfield 12, 3) := by decide +kernel
theorem dX7_tick_69 : decode cX7_tick 69 = .ok (.iload_n 1, 1) := by decide +kernel
theorem dX7_tick_70 : decode cX7_tick 70 = .ok (.aload_n 0, 1) := by decide +kernel
theorem dX7_tick_71 : decode cX7_tick 71 = .ok (.getfield 45, 3) := by decide +kernel
theorem dX7_tick_74 : decode cX7_tick 74 = .ok (.invokevirtual 85, 3) := by decide +kernel
theorem dX7_tick_77 : decode cX7_tick 77 = .ok (.invokevirtual 111, 3) := by decide +kernel
theorem dX7_tick_80 : decode cX7_tick 80 = .ok (.iinc 1 (-1), 3) := by decide +kernel
theorem dX7_tick_83 : decode cX7_tick 83 = .ok (.goto (-42), 3) := by decide +kernel
theorem dX7_tick_86 : decode cX7_tick 86 = .ok (.aload_n 0, 1) := by decide +kernel
theorem dX7_tick_87 : decode cX7_tick 87 = .ok (.getfield 12, 3) := by decide +kernel
theorem dX7_tick_90 : decode cX7_tick 90 = .ok (.iconst 0, 1) := by decide +kernel
theorem dX7_tick_91 : decode cX7_tick 91 = .ok (.aload_n 0, 1) := by decide +kernel
theorem dX7_tick_92 : decode cX7_tick 92 = .ok (.getfield 45, 3) := by decide +kernel
theorem dX7_tick_95 : decode cX7_tick 95 = .ok (.invokevirtual 85, 3) := by decide +kernel
theorem dX7_tick_98 : decode cX7_tick 98 = .ok (.istore_n 1, 1) := by decide +kernel
theorem dX7_tick_99 : decode cX7_tick 99 = .ok (.aload_n 0, 1) := by decide +kernel
theorem dX7_tick_100 : decode cX7_tick 100 = .ok (.getfield 27, 3) := by decide +kernel
theorem dX7_tick_103 : decode cX7_tick 103 = .ok (.invokevirtual 115, 3) := by decide +kernel
theorem dX7_tick_106 : decode cX7_tick 106 = .ok (.iconst 0, 1) := by decide +kernel
theorem dX7_tick_107 : decode cX7_tick 107 = .ok (.istore_n 2, 1) := by decide +kernel
theorem dX7_tick_108 : decode cX7_tick 108 = .ok (.iload_n 2, 1) := by decide +kernel
theorem dX7_tick_109 : decode cX7_tick 109 = .ok (.bipush 16, 2) := by decide +kernel
theorem dX7_tick_111 : decode cX7_tick 111 = .ok (.if_icmp .ge 47, 3) := by decide +kernel
theorem dX7_tick_114 : decode cX7_tick 114 = .ok (.aload_n 0, 1) := by decide +kernel
theorem dX7_tick_115 : decode cX7_tick 115 = .ok (.iload_n 2, 1) := by decide +kernel
theorem dX7_tick_116 : decode cX7_tick 116 = .ok (.invokevirtual 62, 3) := by decide +kernel
theorem dX7_tick_119 : decode cX7_tick 119 = .ok (.astore_n 3, 1) := by decide +kernel
theorem dX7_tick_120 : decode cX7_tick 120 = .ok (.aload_n 3, 1) := by decide +kernel
theorem dX7_tick_121 : decode cX7_tick 121 = .ok (.ifnull 31, 3) := by decide +kernel
theorem dX7_tick_124 : decode cX7_tick 124 = .ok (.aload_n 3, 1) := by decide +kernel
theorem dX7_tick_125 : decode cX7_tick 125 = .ok (.getfield 75, 3) := by decide +kernel
theorem dX7_tick_128 : decode cX7_tick 128 = .ok (.ifCond .ne 24, 3) := by decide +kernel
theorem dX7_tick_131 : decode cX7_tick 131 = .ok (.aload_n 3, 1) := by decide +kernel
theorem dX7_tick_132 : decode cX7_tick 132 = .ok (.getfield 78, 3) := by decide +kernel
theorem dX7_tick_135 : decode cX7_tick 135 = .ok (.iload_n 1, 1) := by decide +kernel
theorem dX7_tick_136 : decode cX7_tick 136 = .ok (.if_icmp .ne 16, 3) := by decide +kernel
theorem dX7_tick_139 : decode cX7_tick 139 = .ok (.aload_n 0, 1) := by decide +kernel
theorem dX7_tick_140 : decode cX7_tick 140 = .ok (.getfield 27, 3) := by decide +kernel
theorem dX7_tick_143 : decode cX7_tick 143 = .ok (.aload_n 3, 1) := by decide +kernel
theorem dX7_tick_144 : decode cX7_tick 144 = .ok (.iconst 0, 1) := by decide +kernel
theorem dX7_tick_145 : decode cX7_tick 145 = .ok (.aload_n 0, 1) := by decide +kernel
theorem dX7_tick_146 : decode cX7_tick 146 = .ok (.getfield 49, 3) := by decide +kernel
theorem dX7_tick_149 : decode cX7_tick 149 = .ok (.invokevirtual 118, 3) := by decide +kernel
theorem dX7_tick_152 : decode cX7_tick 152 = .ok (.iinc 2 1, 3) := by decide +kernel
theorem dX7_tick_155 : decode cX7_tick 155 = .ok (.goto (-47), 3) := by decide +kernel
theorem dX7_tick_158 : decode cX7_tick 158 = .ok (.aload_n 0, 1) := by decide +kernel
theorem dX7_tick_159 : decode cX7_tick 159 = .ok (.invokevirtual 122, 3) := by decide +kernel
theorem dX7_tick_162 : decode cX7_tick 162 = .ok (.return_, 1) := by decide +kernel
theorem dX7_leap_0 : decode cX7_leap 0 = .ok (.aload_n 0, 1) := by decide +kernel
theorem dX7_leap_1 : decode cX7_leap 1 = .ok (.dup, 1) := by decide +kernel
theorem dX7_leap_2 : decode cX7_leap 2 = .ok (.getfield 45, 3) := by decide +kernel
theorem dX7_leap_5 : decode cX7_leap 5 = .ok (.iload_n 1, 1) := by decide +kernel
theorem dX7_leap_6 : decode cX7_leap 6 = .ok (.iadd, 1) := by decide +kernel
theorem dX7_leap_7 : decode cX7_leap 7 = .ok (.putfield 45, 3) := by decide +kernel
theorem dX7_leap_10 : decode cX7_leap 10 = .ok (.aload_n 0, 1) := by decide +kernel
theorem dX7_leap_11 : decode cX7_leap 11 = .ok (.getfield 27, 3) := by decide +kernel
theorem dX7_leap_14 : decode cX7_leap 14 = .ok (.invokevirtual 115, 3) := by decide +kernel
theorem dX7_leap_17 : decode cX7_leap 17 = .ok (.iconst 0, 1) := by decide +kernel
theorem dX7_leap_18 : decode cX7_leap 18 = .ok (.istore_n 2, 1) := by decide +kernel
theorem dX7_leap_19 : decode cX7_leap 19 = .ok (.iload_n 2, 1) := by decide +kernel
theorem dX7_leap_20 : decode cX7_leap 20 = .ok (.bipush 16, 2) := by decide +kernel
theorem dX7_leap_22 : decode cX7_leap 22 = .ok (.if_icmp .ge 67, 3) := by decide +kernel
theorem dX7_leap_25 : decode cX7_leap 25 = .ok (.aload_n 0, 1) := by decide +kernel
theorem dX7_leap_26 : decode cX7_leap 26 = .ok (.iload_n 2, 1) := by decide +kernel
theorem dX7_leap_27 : decode cX7_leap 27 = .ok (.invokevirtual 69, 3) := by decide +kernel
theorem dX7_leap_30 : decode cX7_leap 30 = .ok (.astore_n 3, 1) := by decide +kernel
theorem dX7_leap_31 : decode cX7_leap 31 = .ok (.aload_n 3, 1) := by decide +kernel
theorem dX7_leap_32 : decode cX7_leap 32 = .ok (.ifnull 23, 3) := by decide +kernel
theorem dX7_leap_35 : decode cX7_leap 35 = .ok (.aload_n 3, 1) := by decide +kernel
theorem dX7_leap_36 : decode cX7_leap 36 = .ok (.getfield 125, 3) := by decide +kernel
theorem dX7_leap_39 : decode cX7_leap 39 = .ok (.ifCond .eq 16, 3) := by decide +kernel
theorem dX7_leap_42 : decode cX7_leap 42 = .ok (.aload_n 3, 1) := by decide +kernel
theorem dX7_leap_43 : decode cX7_leap 43 = .ok (.dup, 1) := by decide +kernel
theorem dX7_leap_44 : decode cX7_leap 44 = .ok (.getfield 72, 3) := by decide +kernel
theorem dX7_leap_47 : decode cX7_leap 47 = .ok (.iload_n 1, 1) := by decide +kernel
theorem dX7_leap_48 : decode cX7_leap 48 = .ok (.iadd, 1) := by decide +kernel
theorem dX7_leap_49 : decode cX7_leap 49 = .ok (.putfield 72, 3) := by decide +kernel
theorem dX7_leap_52 : decode cX7_leap 52 = .ok (.goto 31, 3) := by decide +kernel
theorem dX7_leap_55 : decode cX7_leap 55 = .ok (.aload_n 3, 1) := by decide +kernel
theorem dX7_leap_56 : decode cX7_leap 56 = .ok (.ifnull 27, 3) := by decide +kernel
theorem dX7_leap_59 : decode cX7_leap 59 = .ok (.aload_n 3, 1) := by decide +kernel
theorem dX7_leap_60 : decode cX7_leap 60 = .ok (.getfield 72, 3) := by decide +kernel
theorem dX7_leap_63 : decode cX7_leap 63 = .ok (.aload_n 0, 1) := by decide +kernel
theorem dX7_leap_64 : decode cX7_leap 64 = .ok (.getfield 45, 3) := by decide +kernel
theorem dX7_leap_67 : decode cX7_leap 67 = .ok (.if_icmp .gt 16, 3) := by decide +kernel
theorem dX7_leap_70 : decode cX7_leap 70 = .ok (.aload_n 0, 1) := by decide +kernel
theorem dX7_leap_71 : decode cX7_leap 71 = .ok (.getfield 27, 3) := by decide +kernel
theorem dX7_leap_74 : decode cX7_leap 74 = .ok (.aload_n 3, 1) := by decide +kernel
theorem dX7_leap_75 : decode cX7_leap 75 = .ok (.iconst 1, 1) := by decide +kernel
theorem dX7_leap_76 : decode cX7_leap 76 = .ok (.aload_n 0, 1) := by decide +kernel
theorem dX7_leap_77 : decode cX7_leap 77 = .ok (.getfield 49, 3) := by decide +kernel
theorem dX7_leap_80 : decode cX7_leap 80 = .ok (.invokevirtual 118, 3) := by decide +kernel
theorem dX7_leap_83 : decode cX7_leap 83 = .ok (.iinc 2 1, 3) := by decide +kernel
theorem dX7_leap_86 : decode cX7_leap 86 = .ok (.goto (-67), 3) := by decide +kernel
theorem dX7_leap_89 : decode cX7_leap 89 = .ok (.aload_n 0, 1) := by decide +kernel
theorem dX7_leap_90 : decode cX7_leap 90 = .ok (.invokevirtual 122, 3) := by decide +kernel
theorem dX7_leap_93 : decode cX7_leap 93 = .ok (.aload_n 0, 1) := by decide +kernel
theorem dX7_leap_94 : decode cX7_leap 94 = .ok (.invokevirtual 128, 3) := by decide +kernel
theorem dX7_leap_97 : decode cX7_leap 97 = .ok (.return_, 1) := by decide +kernel
theorem dX7_bringFarOnes_0 : decode cX7_bringFarOnes 0 = .ok (.iconst 0, 1) := by decide +kernel
theorem dX7_bringFarOnes_1 : decode cX7_bringFarOnes 1 = .ok (.istore_n 1, 1) := by decide +kernel
theorem dX7_bringFarOnes_2 : decode cX7_bringFarOnes 2 = .ok (.iload_n 1, 1) := by decide +kernel
theorem dX7_bringFarOnes_3 : decode cX7_bringFarOnes 3 = .ok (.bipush 16, 2) := by decide +kernel
theorem dX7_bringFarOnes_5 : decode cX7_bringFarOnes 5 = .ok (.if_icmp .ge 61, 3) := by decide +kernel
theorem dX7_bringFarOnes_8 : decode cX7_bringFarOnes 8 = .ok (.aload_n 0, 1) := by decide +kernel
theorem dX7_bringFarOnes_9 : decode cX7_bringFarOnes 9 = .ok (.iload_n 1, 1) := by decide +kernel
theorem dX7_bringFarOnes_10 : decode cX7_bringFarOnes 10 = .ok (.invokevirtual 62, 3) := by decide +kernel
theorem dX7_bringFarOnes_13 : decode cX7_bringFarOnes 13 = .ok (.astore_n 2, 1) := by decide +kernel
theorem dX7_bringFarOnes_14 : decode cX7_bringFarOnes 14 = .ok (.aload_n 2, 1) := by decide +kernel
theorem dX7_bringFarOnes_15 : decode cX7_bringFarOnes 15 = .ok (.ifnull 45, 3) := by decide +kernel
theorem dX7_bringFarOnes_18 : decode cX7_bringFarOnes 18 = .ok (.aload_n 2, 1) := by decide +kernel
theorem dX7_bringFarOnes_19 : decode cX7_bringFarOnes 19 = .ok (.getfield 75, 3) := by decide +kernel
theorem dX7_bringFarOnes_22 : decode cX7_bringFarOnes 22 = .ok (.iconst (-1), 1) := by decide +kernel
theorem dX7_bringFarOnes_23 : decode cX7_bringFarOnes 23 = .ok (.if_icmp .ne 37, 3) := by decide +kernel
theorem dX7_bringFarOnes_26 : decode cX7_bringFarOnes 26 = .ok (.aload_n 2, 1) := by decide +kernel
theorem dX7_bringFarOnes_27 : decode cX7_bringFarOnes 27 = .ok (.getfield 72, 3) := by decide +kernel
theorem dX7_bringFarOnes_30 : decode cX7_bringFarOnes 30 = .ok (.aload_n 0, 1) := by decide +kernel
theorem dX7_bringFarOnes_31 : decode cX7_bringFarOnes 31 = .ok (.getfield 45, 3) := by decide +kernel
theorem dX7_bringFarOnes_34 : decode cX7_bringFarOnes 34 = .ok (.isub, 1) := by decide +kernel
theorem dX7_bringFarOnes_35 : decode cX7_bringFarOnes 35 = .ok (.aload_n 0, 1) := by decide +kernel
theorem dX7_bringFarOnes_36 : decode cX7_bringFarOnes 36 = .ok (.getfield 12, 3) := by decide +kernel
theorem dX7_bringFarOnes_39 : decode cX7_bringFarOnes 39 = .ok (.getfield 95, 3) := by decide +kernel
theorem dX7_bringFarOnes_42 : decode cX7_bringFarOnes 42 = .ok (.if_icmp .ge 18, 3) := by decide +kernel
theorem dX7_bringFarOnes_45 : decode cX7_bringFarOnes 45 = .ok (.aload_n 0, 1) := by decide +kernel
theorem dX7_bringFarOnes_46 : decode cX7_bringFarOnes 46 = .ok (.aload_n 2, 1) := by decide +kernel
theorem dX7_bringFarOnes_47 : decode cX7_bringFarOnes 47 = .ok (.invokevirtual 89, 3) := by decide +kernel
theorem dX7_bringFarOnes_50 : decode cX7_bringFarOnes 50 = .ok (.aload_n 0, 1) := by decide +kernel
theorem dX7_bringFarOnes_51 : decode cX7_bringFarOnes 51 = .ok (.dup, 1) := by decide +kernel
theorem dX7_bringFarOnes_52 : decode cX7_bringFarOnes 52 = .ok (.getfield 52, 3) := by decide +kernel
theorem dX7_bringFarOnes_55 : decode cX7_bringFarOnes 55 = .ok (.iconst 1, 1) := by decide +kernel
theorem dX7_bringFarOnes_56 : decode cX7_bringFarOnes 56 = .ok (.iadd, 1) := by decide +kernel
theorem dX7_bringFarOnes_57 : decode cX7_bringFarOnes 57 = .ok (.putfield 52, 3) := by decide +kernel
theorem dX7_bringFarOnes_60 : decode cX7_bringFarOnes 60 = .ok (.iinc 1 1, 3) := by decide +kernel
theorem dX7_bringFarOnes_63 : decode cX7_bringFarOnes 63 = .ok (.goto (-61), 3) := by decide +kernel
theorem dX7_bringFarOnes_66 : decode cX7_bringFarOnes 66 = .ok (.return_, 1) := by decide +kernel
theorem dX7_moveFrom_0 : decode cX7_moveFrom 0 = .ok (.iconst 0, 1) := by decide +kernel
theorem dX7_moveFrom_1 : decode cX7_moveFrom 1 = .ok (.istore_n 3, 1) := by decide +kernel
theorem dX7_moveFrom_2 : decode cX7_moveFrom 2 = .ok (.iload_n 3, 1) := by decide +kernel
theorem dX7_moveFrom_3 : decode cX7_moveFrom 3 = .ok (.bipush 16, 2) := by decide +kernel
theorem dX7_moveFrom_5 : decode cX7_moveFrom 5 = .ok (.if_icmp .ge 55, 3) := by decide +kernel
theorem dX7_moveFrom_8 : decode cX7_moveFrom 8 = .ok (.aload_n 0, 1) := by decide +kernel
theorem dX7_moveFrom_9 : decode cX7_moveFrom 9 = .ok (.iload_n 3, 1) := by decide +kernel
theorem dX7_moveFrom_10 : decode cX7_moveFrom 10 = .ok (.invokevirtual 62, 3) := by decide +kernel
theorem dX7_moveFrom_13 : decode cX7_moveFrom 13 = .ok (.astore 4, 2) := by decide +kernel
theorem dX7_moveFrom_15 : decode cX7_moveFrom 15 = .ok (.aload 4, 2) := by decide +kernel
theorem dX7_moveFrom_17 : decode cX7_moveFrom 17 = .ok (.ifnull 37, 3) := by decide +kernel
theorem dX7_moveFrom_20 : decode cX7_moveFrom 20 = .ok (.aload 4, 2) := by decide +kernel
theorem dX7_moveFrom_22 : decode cX7_moveFrom 22 = .ok (.getfield 75, 3) := by decide +kernel
theorem dX7_moveFrom_25 : decode cX7_moveFrom 25 = .ok (.iload_n 1, 1) := by decide +kernel
theorem dX7_moveFrom_26 : decode cX7_moveFrom 26 = .ok (.if_icmp .ne 28, 3) := by decide +kernel
theorem dX7_moveFrom_29 : decode cX7_moveFrom 29 = .ok (.aload 4, 2) := by decide +kernel
theorem dX7_moveFrom_31 : decode cX7_moveFrom 31 = .ok (.getfield 78, 3) := by decide +kernel
theorem dX7_moveFrom_34 : decode cX7_moveFrom 34 = .ok (.iload_n 2, 1) := by decide +kernel
theorem dX7_moveFrom_35 : decode cX7_moveFrom 35 = .ok (.if_icmp .ne 19, 3) := by decide +kernel
theorem dX7_moveFrom_38 : decode cX7_moveFrom 38 = .ok (.aload_n 0, 1) := by decide +kernel
theorem dX7_moveFrom_39 : decode cX7_moveFrom 39 = .ok (.aload 4, 2) := by decide +kernel
theorem dX7_moveFrom_41 : decode cX7_moveFrom 41 = .ok (.invokevirtual 89, 3) := by decide +kernel
theorem dX7_moveFrom_44 : decode cX7_moveFrom 44 = .ok (.aload_n 0, 1) := by decide +kernel
theorem dX7_moveFrom_45 : decode cX7_moveFrom 45 = .ok (.dup, 1) := by decide +kernel
theorem dX7_moveFrom_46 : decode cX7_moveFrom 46 = .ok (.getfield 52, 3) := by decide +kernel
theorem dX7_moveFrom_49 : decode cX7_moveFrom 49 = .ok (.iconst 1, 1) := by decide +kernel
theorem dX7_moveFrom_50 : decode cX7_moveFrom 50 = .ok (.iadd, 1) := by decide +kernel
theorem dX7_moveFrom_51 : decode cX7_moveFrom 51 = .ok (.putfield 52, 3) := by decide +kernel
theorem dX7_moveFrom_54 : decode cX7_moveFrom 54 = .ok (.iinc 3 1, 3) := by decide +kernel
theorem dX7_moveFrom_57 : decode cX7_moveFrom 57 = .ok (.goto (-55), 3) := by decide +kernel
theorem dX7_moveFrom_60 : decode cX7_moveFrom 60 = .ok (.return_, 1) := by decide +kernel
theorem dX7_ringLine_0 : decode cX7_ringLine 0 = .ok (.iconst 0, 1) := by decide +kernel
theorem dX7_ringLine_1 : decode cX7_ringLine 1 = .ok (.istore_n 1, 1) := by decide +kernel
theorem dX7_ringLine_2 : decode cX7_ringLine 2 = .ok (.iload_n 1, 1) := by decide +kernel
theorem dX7_ringLine_3 : decode cX7_ringLine 3 = .ok (.aload_n 0, 1) := by decide +kernel
theorem dX7_ringLine_4 : decode cX7_ringLine 4 = .ok (.getfield 27, 3) := by decide +kernel
theorem dX7_ringLine_7 : decode cX7_ringLine 7 = .ok (.getfield 131, 3) := by decide +kernel
theorem dX7_ringLine_10 : decode cX7_ringLine 10 = .ok (.if_icmp .ge 27, 3) := by decide +kernel
theorem dX7_ringLine_13 : decode cX7_ringLine 13 = .ok (.aload_n 0, 1) := by decide +kernel
theorem dX7_ringLine_14 : decode cX7_ringLine 14 = .ok (.getfield 27, 3) := by decide +kernel
theorem dX7_ringLine_17 : decode cX7_ringLine 17 = .ok (.iload_n 1, 1) := by decide +kernel
theorem dX7_ringLine_18 : decode cX7_ringLine 18 = .ok (.invokevirtual 134, 3) := by decide +kernel
theorem dX7_ringLine_21 : decode cX7_ringLine 21 = .ok (.astore_n 2, 1) := by decide +kernel
theorem dX7_ringLine_22 : decode cX7_ringLine 22 = .ok (.aload_n 2, 1) := by decide +kernel
theorem dX7_ringLine_23 : decode cX7_ringLine 23 = .ok (.ifnull 8, 3) := by decide +kernel
theorem dX7_ringLine_26 : decode cX7_ringLine 26 = .ok (.aload_n 0, 1) := by decide +kernel
theorem dX7_ringLine_27 : decode cX7_ringLine 27 = .ok (.aload_n 2, 1) := by decide +kernel
theorem dX7_ringLine_28 : decode cX7_ringLine 28 = .ok (.invokevirtual 137, 3) := by decide +kernel
theorem dX7_ringLine_31 : decode cX7_ringLine 31 = .ok (.iinc 1 1, 3) := by decide +kernel
theorem dX7_ringLine_34 : decode cX7_ringLine 34 = .ok (.goto (-32), 3) := by decide +kernel
theorem dX7_ringLine_37 : decode cX7_ringLine 37 = .ok (.iconst 0, 1) := by decide +kernel
theorem dX7_ringLine_38 : decode cX7_ringLine 38 = .ok (.istore_n 1, 1) := by decide +kernel
theorem dX7_ringLine_39 : decode cX7_ringLine 39 = .ok (.iload_n 1, 1) := by decide +kernel
theorem dX7_ringLine_40 : decode cX7_ringLine 40 = .ok (.aload_n 0, 1) := by decide +kernel
theorem dX7_ringLine_41 : decode cX7_ringLine 41 = .ok (.getfield 27, 3) := by decide +kernel
theorem dX7_ringLine_44 : decode cX7_ringLine 44 = .ok (.getfield 131, 3) := by decide +kernel
theorem dX7_ringLine_47 : decode cX7_ringLine 47 = .ok (.if_icmp .ge 34, 3) := by decide +kernel
theorem dX7_ringLine_50 : decode cX7_ringLine 50 = .ok (.aload_n 0, 1) := by decide +kernel
theorem dX7_ringLine_51 : decode cX7_ringLine 51 = .ok (.getfield 27, 3) := by decide +kernel
theorem dX7_ringLine_54 : decode cX7_ringLine 54 = .ok (.iload_n 1, 1) := by decide +kernel
theorem dX7_ringLine_55 : decode cX7_ringLine 55 = .ok (.invokevirtual 134, 3) := by decide +kernel
theorem dX7_ringLine_58 : decode cX7_ringLine 58 = .ok (.astore_n 2, 1) := by decide +kernel
theorem dX7_ringLine_59 : decode cX7_ringLine 59 = .ok (.aload_n 2, 1) := by decide +kernel
theorem dX7_ringLine_60 : decode cX7_ringLine 60 = .ok (.ifnull 15, 3) := by decide +kernel
theorem dX7_ringLine_63 : decode cX7_ringLine 63 = .ok (.aload_n 2, 1) := by decide +kernel
theorem dX7_ringLine_64 : decode cX7_ringLine 64 = .ok (.getfield 58, 3) := by decide +kernel
theorem dX7_ringLine_67 : decode cX7_ringLine 67 = .ok (.ifCond .eq 8, 3) := by decide +kernel
theorem dX7_ringLine_70 : decode cX7_ringLine 70 = .ok (.aload_n 0, 1) := by decide +kernel
theorem dX7_ringLine_71 : decode cX7_ringLine 71 = .ok (.aload_n 2, 1) := by decide +kernel
theorem dX7_ringLine_72 : decode cX7_ringLine 72 = .ok (.invokevirtual 89, 3) := by decide +kernel
theorem dX7_ringLine_75 : decode cX7_ringLine 75 = .ok (.iinc 1 1, 3) := by decide +kernel
theorem dX7_ringLine_78 : decode cX7_ringLine 78 = .ok (.goto (-39), 3) := by decide +kernel
theorem dX7_ringLine_81 : decode cX7_ringLine 81 = .ok (.return_, 1) := by decide +kernel
theorem dX7_ring_0 : decode cX7_ring 0 = .ok (.aload_n 1, 1) := by decide +kernel
theorem dX7_ring_1 : decode cX7_ring 1 = .ok (.dup, 1) := by decide +kernel
theorem dX7_ring_2 : decode cX7_ring 2 = .ok (.getfield 140, 3) := by decide +kernel
theorem dX7_ring_5 : decode cX7_ring 5 = .ok (.iconst 1, 1) := by decide +kernel
theorem dX7_ring_6 : decode cX7_ring 6 = .ok (.iadd, 1) := by decide +kernel
theorem dX7_ring_7 : decode cX7_ring 7 = .ok (.putfield 140, 3) := by decide +kernel
theorem dX7_ring_10 : decode cX7_ring 10 = .ok (.aload_n 1, 1) := by decide +kernel
theorem dX7_ring_11 : decode cX7_ring 11 = .ok (.aload_n 1, 1) := by decide +kernel
theorem dX7_ring_12 : decode cX7_ring 12 = .ok (.getfield 72, 3) := by decide +kernel
theorem dX7_ring_15 : decode cX7_ring 15 = .ok (.putfield 143, 3) := by decide +kernel
theorem dX7_ring_18 : decode cX7_ring 18 = .ok (.aload_n 1, 1) := by decide +kernel
theorem dX7_ring_19 : decode cX7_ring 19 = .ok (.getfield 146, 3) := by decide +kernel
theorem dX7_ring_22 : decode cX7_ring 22 = .ok (.iconst 1, 1) := by decide +kernel
theorem dX7_ring_23 : decode cX7_ring 23 = .ok (.if_icmp .eq 10, 3) := by decide +kernel
theorem dX7_ring_26 : decode cX7_ring 26 = .ok (.aload_n 1, 1) := by decide +kernel
theorem dX7_ring_27 : decode cX7_ring 27 = .ok (.getfield 149, 3) := by decide +kernel
theorem dX7_ring_30 : decode cX7_ring 30 = .ok (.ifCond .ne 9, 3) := by decide +kernel
theorem dX7_ring_33 : decode cX7_ring 33 = .ok (.aload_n 1, 1) := by decide +kernel
theorem dX7_ring_34 : decode cX7_ring 34 = .ok (.iconst 0, 1) := by decide +kernel
theorem dX7_ring_35 : decode cX7_ring 35 = .ok (.putfield 58, 3) := by decide +kernel
theorem dX7_ring_38 : decode cX7_ring 38 = .ok (.return_, 1) := by decide +kernel
theorem dX7_ring_39 : decode cX7_ring 39 = .ok (.aload_n 1, 1) := by decide +kernel
theorem dX7_ring_40 : decode cX7_ring 40 = .ok (.getfield 146, 3) := by decide +kernel
theorem dX7_ring_43 : decode cX7_ring 43 = .ok (.ifCond .le 13, 3) := by decide +kernel
theorem dX7_ring_46 : decode cX7_ring 46 = .ok (.aload_n 1, 1) := by decide +kernel
theorem dX7_ring_47 : decode cX7_ring 47 = .ok (.dup, 1) := by decide +kernel
theorem dX7_ring_48 : decode cX7_ring 48 = .ok (.getfield 146, 3) := by decide +kernel
theorem dX7_ring_51 : decode cX7_ring 51 = .ok (.iconst 1, 1) := by decide +kernel
theorem dX7_ring_52 : decode cX7_ring 52 = .ok (.isub, 1) := by decide +kernel
theorem dX7_ring_53 : decode cX7_ring 53 = .ok (.putfield 146, 3) := by decide +kernel
theorem dX7_ring_56 : decode cX7_ring 56 = .ok (.aload_n 1, 1) := by decide +kernel
theorem dX7_ring_57 : decode cX7_ring 57 = .ok (.getfield 149, 3) := by decide +kernel
theorem dX7_ring_60 : decode cX7_ring 60 = .ok (.iconst 1, 1) := by decide +kernel
theorem dX7_ring_61 : decode cX7_ring 61 = .ok (.if_icmp .ne 9, 3) := by decide +kernel
theorem dX7_ring_64 : decode cX7_ring 64 = .ok (.aload_n 0, 1) := by decide +kernel
theorem dX7_ring_65 : decode cX7_ring 65 = .ok (.aload_n 1, 1) := by decide +kernel
theorem dX7_ring_66 : decode cX7_ring 66 = .ok (.invokevirtual 152, 3) := by decide +kernel
theorem dX7_ring_69 : decode cX7_ring 69 = .ok (.return_, 1) := by decide +kernel
theorem dX7_ring_70 : decode cX7_ring 70 = .ok (.aload_n 1, 1) := by decide +kernel
theorem dX7_ring_71 : decode cX7_ring 71 = .ok (.getfield 149, 3) := by decide +kernel
theorem dX7_ring_74 : decode cX7_ring 74 = .ok (.iconst 3, 1) := by decide +kernel
theorem dX7_ring_75 : decode cX7_ring 75 = .ok (.if_icmp .ne 19, 3) := by decide +kernel
theorem dX7_ring_78 : decode cX7_ring 78 = .ok (.aload_n 1, 1) := by decide +kernel
theorem dX7_ring_79 : decode cX7_ring 79 = .ok (.iconst 2, 1) := by decide +kernel
theorem dX7_ring_80 : decode cX7_ring 80 = .ok (.aload_n 1, 1) := by decide +kernel
theorem dX7_ring_81 : decode cX7_ring 81 = .ok (.getfield 155, 3) := by decide +kernel
theorem dX7_ring_84 : decode cX7_ring 84 = .ok (.imul, 1) := by decide +kernel
theorem dX7_ring_85 : decode cX7_ring 85 = .ok (.sipush 1000, 3) := by decide +kernel
theorem dX7_ring_88 : decode cX7_ring 88 = .ok (.invokestatic 158, 3) := by decide +kernel
theorem dX7_ring_91 : decode cX7_ring 91 = .ok (.putfield 155, 3) := by decide +kernel
theorem dX7_ring_94 : decode cX7_ring 94 = .ok (.aload_n 1, 1) := by decide +kernel
theorem dX7_ring_95 : decode cX7_ring 95 = .ok (.aload_n 0, 1) := by decide +kernel
theorem dX7_ring_96 : decode cX7_ring 96 = .ok (.getfield 45, 3) := by decide +kernel
theorem dX7_ring_99 : decode cX7_ring 99 = .ok (.aload_n 1, 1) := by decide +kernel
theorem dX7_ring_100 : decode cX7_ring 100 = .ok (.getfield 155, 3) := by decide +kernel
theorem dX7_ring_103 : decode cX7_ring 103 = .ok (.iadd, 1) := by decide +kernel
theorem dX7_ring_104 : decode cX7_ring 104 = .ok (.putfield 72, 3) := by decide +kernel
theorem dX7_ring_107 : decode cX7_ring 107 = .ok (.return_, 1) := by decide +kernel
theorem dX7_catchUp_0 : decode cX7_catchUp 0 = .ok (.aload_n 1, 1) := by decide +kernel
theorem dX7_catchUp_1 : decode cX7_catchUp 1 = .ok (.getfield 155, 3) := by decide +kernel
theorem dX7_catchUp_4 : decode cX7_catchUp 4 = .ok (.iconst 1, 1) := by decide +kernel
theorem dX7_catchUp_5 : decode cX7_catchUp 5 = .ok (.if_icmp .ge 7, 3) := by decide +kernel
theorem dX7_catchUp_8 : decode cX7_catchUp 8 = .ok (.iconst 0, 1) := by decide +kernel
theorem dX7_catchUp_9 : decode cX7_catchUp 9 = .ok (.goto 17, 3) := by decide +kernel
theorem dX7_catchUp_12 : decode cX7_catchUp 12 = .ok (.aload_n 0, 1) := by decide +kernel
theorem dX7_catchUp_13 : decode cX7_catchUp 13 = .ok (.getfield 45, 3) := by decide +kernel
theorem dX7_catchUp_16 : decode cX7_catchUp 16 = .ok (.aload_n 1, 1) := by decide +kernel
theorem dX7_catchUp_17 : decode cX7_catchUp 17 = .ok (.getfield 72, 3) := by decide +kernel
theorem dX7_catchUp_20 : decode cX7_catchUp 20 = .ok (.isub, 1) := by decide +kernel
theorem dX7_catchUp_21 : decode cX7_catchUp 21 = .ok (.aload_n 1, 1) := by decide +kernel
theorem dX7_catchUp_22 : decode cX7_catchUp 22 = .ok (.getfield 155, 3) := by decide +kernel
theorem dX7_catchUp_25 : decode cX7_catchUp 25 = .ok (.idiv, 1) := by decide +kernel
theorem dX7_catchUp_26 : decode cX7_catchUp 26 = .ok (.istore_n 2, 1) := by decide +kernel
theorem dX7_catchUp_27 : decode cX7_catchUp 27 = .ok (.aload_n 1, 1) := by decide +kernel
theorem dX7_catchUp_28 : decode cX7_catchUp 28 = .ok (.dup, 1) := by decide +kernel
theorem dX7_catchUp_29 : decode cX7_catchUp 29 = .ok (.getfield 72, 3) := by decide +kernel
theorem dX7_catchUp_32 : decode cX7_catchUp 32 = .ok (.iload_n 2, 1) := by decide +kernel
theorem dX7_catchUp_33 : decode cX7_catchUp 33 = .ok (.iconst 1, 1) := by decide +kernel
theorem dX7_catchUp_34 : decode cX7_catchUp 34 = .ok (.iadd, 1) := by decide +kernel
theorem dX7_catchUp_35 : decode cX7_catchUp 35 = .ok (.aload_n 1, 1) := by decide +kernel
theorem dX7_catchUp_36 : decode cX7_catchUp 36 = .ok (.getfield 155, 3) := by decide +kernel
theorem dX7_catchUp_39 : decode cX7_catchUp 39 = .ok (.imul, 1) := by decide +kernel
theorem dX7_catchUp_40 : decode cX7_catchUp 40 = .ok (.iadd, 1) := by decide +kernel
theorem dX7_catchUp_41 : decode cX7_catchUp 41 = .ok (.putfield 72, 3) := by decide +kernel
theorem dX7_catchUp_44 : decode cX7_catchUp 44 = .ok (.aload_n 0, 1) := by decide +kernel
theorem dX7_catchUp_45 : decode cX7_catchUp 45 = .ok (.dup, 1) := by decide +kernel
theorem dX7_catchUp_46 : decode cX7_catchUp 46 = .ok (.getfield 55, 3) := by decide +kernel
theorem dX7_catchUp_49 : decode cX7_catchUp 49 = .ok (.iload_n 2, 1) := by decide +kernel
theorem dX7_catchUp_50 : decode cX7_catchUp 50 = .ok (.iadd, 1) := by decide +kernel
theorem dX7_catchUp_51 : decode cX7_catchUp 51 = .ok (.putfield 55, 3) := by decide +kernel
theorem dX7_catchUp_54 : decode cX7_catchUp 54 = .ok (.return_, 1) := by decide +kernel
theorem dX8_init_0 : decode cX8_init 0 = .ok (.aload_n 0, 1) := by decide +kernel
theorem dX8_init_1 : decode cX8_init 1 = .ok (.invokespecial 1, 3) := by decide +kernel
theorem dX8_init_4 : decode cX8_init 4 = .ok (.aload_n 0, 1) := by decide +kernel
theorem dX8_init_5 : decode cX8_init 5 = .ok (.new 7, 3) := by decide +kernel
theorem dX8_init_8 : decode cX8_init 8 = .ok (.dup, 1) := by decide +kernel
theorem dX8_init_9 : decode cX8_init 9 = .ok (.invokespecial 9, 3) := by decide +kernel
theorem dX8_init_12 : decode cX8_init 12 = .ok (.putfield 10, 3) := by decide +kernel
theorem dX8_init_15 : decode cX8_init 15 = .ok (.aload_n 0, 1) := by decide +kernel
theorem dX8_init_16 : decode cX8_init 16 = .ok (.new 7, 3) := by decide +kernel
theorem dX8_init_19 : decode cX8_init 19 = .ok (.dup, 1) := by decide +kernel
theorem dX8_init_20 : decode cX8_init 20 = .ok (.invokespecial 9, 3) := by decide +kernel
theorem dX8_init_23 : decode cX8_init 23 = .ok (.putfield 16, 3) := by decide +kernel
theorem dX8_init_26 : decode cX8_init 26 = .ok (.aload_n 0, 1) := by decide +kernel
theorem dX8_init_27 : decode cX8_init 27 = .ok (.new 19, 3) := by decide +kernel
theorem dX8_init_30 : decode cX8_init 30 = .ok (.dup, 1) := by decide +kernel
theorem dX8_init_31 : decode cX8_init 31 = .ok (.invokespecial 21, 3) := by decide +kernel
theorem dX8_init_34 : decode cX8_init 34 = .ok (.putfield 22, 3) := by decide +kernel
theorem dX8_init_37 : decode cX8_init 37 = .ok (.aload_n 0, 1) := by decide +kernel
theorem dX8_init_38 : decode cX8_init 38 = .ok (.bipush 8, 2) := by decide +kernel
theorem dX8_init_40 : decode cX8_init 40 = .ok (.newarray .int, 2) := by decide +kernel
theorem dX8_init_42 : decode cX8_init 42 = .ok (.putfield 26, 3) := by decide +kernel
theorem dX8_init_45 : decode cX8_init 45 = .ok (.aload_n 0, 1) := by decide +kernel
theorem dX8_init_46 : decode cX8_init 46 = .ok (.new 30, 3) := by decide +kernel
theorem dX8_init_49 : decode cX8_init 49 = .ok (.dup, 1) := by decide +kernel
theorem dX8_init_50 : decode cX8_init 50 = .ok (.invokespecial 32, 3) := by decide +kernel
theorem dX8_init_53 : decode cX8_init 53 = .ok (.putfield 33, 3) := by decide +kernel
theorem dX8_init_56 : decode cX8_init 56 = .ok (.aload_n 0, 1) := by decide +kernel
theorem dX8_init_57 : decode cX8_init 57 = .ok (.new 37, 3) := by decide +kernel
theorem dX8_init_60 : decode cX8_init 60 = .ok (.dup, 1) := by decide +kernel
theorem dX8_init_61 : decode cX8_init 61 = .ok (.invokespecial 39, 3) := by decide +kernel
theorem dX8_init_64 : decode cX8_init 64 = .ok (.putfield 40, 3) := by decide +kernel
theorem dX8_init_67 : decode cX8_init 67 = .ok (.aload_n 0, 1) := by decide +kernel
theorem dX8_init_68 : decode cX8_init 68 = .ok (.new 44, 3) := by decide +kernel
theorem dX8_init_71 : decode cX8_init 71 = .ok (.dup, 1) := by decide +kernel
theorem dX8_init_72 : decode cX8_init 72 = .ok (.invokespecial 46, 3) := by decide +kernel
theorem dX8_init_75 : decode cX8_init 75 = .ok (.putfield 47, 3) := by decide +kernel
theorem dX8_init_78 : decode cX8_init 78 = .ok (.aload_n 0, 1) := by decide +kernel
theorem dX8_init_79 : decode cX8_init 79 = .ok (.new 51, 3) := by decide +kernel
theorem dX8_init_82 : decode cX8_init 82 = .ok (.dup, 1) := by decide +kernel
theorem dX8_init_83 : decode cX8_init 83 = .ok (.invokespecial 53, 3) := by decide +kernel
theorem dX8_init_86 : decode cX8_init 86 = .ok (.putfield 54, 3) := by decide +kernel
theorem dX8_init_89 : decode cX8_init 89 = .ok (.return_, 1) := by decide +kernel
theorem dX8_wheels_0 : decode cX8_wheels 0 = .ok (.iload_n 1, 1) := by decide +kernel
theorem dX8_wheels_1 : decode cX8_wheels 1 = .ok (.iload_n 2, 1) := by decide +kernel
theorem dX8_wheels_2 : decode cX8_wheels 2 = .ok (.iload_n 3, 1) := by decide +kernel
theorem dX8_wheels_3 : decode cX8_wheels 3 = .ok (.iload 4, 2) := by decide +kernel
theorem dX8_wheels_5 : decode cX8_wheels 5 = .ok (.invokestatic 58, 3) := by decide +kernel
theorem dX8_wheels_8 : decode cX8_wheels 8 = .ok (.ifCond .ne 5, 3) := by decide +kernel
theorem dX8_wheels_11 : decode cX8_wheels 11 = .ok (.iconst (-1), 1) := by decide +kernel
theorem dX8_wheels_12 : decode cX8_wheels 12 = .ok (.ireturn, 1) := by decide +kernel
theorem dX8_wheels_13 : decode cX8_wheels 13 = .ok (.aload_n 0, 1) := by decide +kernel
theorem dX8_wheels_14 : decode cX8_wheels 14 = .ok (.getfield 10, 3) := by decide +kernel
theorem dX8_wheels_17 : decode cX8_wheels 17 = .ok (.getfield 62, 3) := by decide +kernel
theorem dX8_wheels_20 : decode cX8_wheels 20 = .ok (.iload_n 1, 1) := by decide +kernel
theorem dX8_wheels_21 : decode cX8_wheels 21 = .ok (.iload_n 2, 1) := by decide +kernel
theorem dX8_wheels_22 : decode cX8_wheels 22 = .ok (.iload_n 3, 1) := by decide +kernel
theorem dX8_wheels_23 : decode cX8_wheels 23 = .ok (.iload 4, 2) := by decide +kernel
theorem dX8_wheels_25 : decode cX8_wheels 25 = .ok (.invokevirtual 65, 3) := by decide +kernel
theorem dX8_wheels_28 : decode cX8_wheels 28 = .ok (.ifCond .eq 6, 3) := by decide +kernel
theorem dX8_wheels_31 : decode cX8_wheels 31 = .ok (.bipush (-2), 2) := by decide +kernel
theorem dX8_wheels_33 : decode cX8_wheels 33 = .ok (.ireturn, 1) := by decide +kernel
theorem dX8_wheels_34 : decode cX8_wheels 34 = .ok (.aload_n 0, 1) := by decide +kernel
theorem dX8_wheels_35 : decode cX8_wheels 35 = .ok (.getfield 10, 3) := by decide +kernel
theorem dX8_wheels_38 : decode cX8_wheels 38 = .ok (.getfield 62, 3) := by decide +kernel
theorem dX8_wheels_41 : decode cX8_wheels 41 = .ok (.iload_n 1, 1) := by decide +kernel
theorem dX8_wheels_42 : decode cX8_wheels 42 = .ok (.iload_n 2, 1) := by decide +kernel
theorem dX8_wheels_43 : decode cX8_wheels 43 = .ok (.iload_n 3, 1) := by decide +kernel
theorem dX8_wheels_44 : decode cX8_wheels 44 = .ok (.iload 4, 2) := by decide +kernel
theorem dX8_wheels_46 : decode cX8_wheels 46 = .ok (.invokevirtual 68, 3) := by decide +kernel
theorem dX8_wheels_49 : decode cX8_wheels 49 = .ok (.aload_n 0, 1) := by decide +kernel
theorem dX8_wheels_50 : decode cX8_wheels 50 = .ok (.getfield 10, 3) := by decide +kernel
theorem dX8_wheels_53 : decode cX8_wheels 53 = .ok (.invokevirtual 72, 3) := by decide +kernel
theorem dX8_wheels_56 : decode cX8_wheels 56 = .ok (.aload_n 0, 1) := by decide +kernel
theorem dX8_wheels_57 : decode cX8_wheels 57 = .ok (.getfield 10, 3) := by decide +kernel
theorem dX8_wheels_60 : decode cX8_wheels 60 = .ok (.getfield 62, 3) := by decide +kernel
theorem dX8_wheels_63 : decode cX8_wheels 63 = .ok (.getfield 75, 3) := by decide +kernel
theorem dX8_wheels_66 : decode cX8_wheels 66 = .ok (.ireturn, 1) := by decide +kernel
theorem dX8_order_0 : decode cX8_order 0 = .ok (.iload_n 1, 1) := by decide +kernel
theorem dX8_order_1 : decode cX8_order 1 = .ok (.iconst 0, 1) := by decide +kernel
theorem dX8_order_2 : decode cX8_order 2 = .ok (.iconst 2, 1) := by decide +kernel
theorem dX8_order_3 : decode cX8_order 3 = .ok (.invokestatic 79, 3) := by decide +kernel
theorem dX8_order_6 : decode cX8_order 6 = .ok (.ifCond .ne 5, 3) := by decide +kernel
theorem dX8_order_9 : decode cX8_order 9 = .ok (.iconst (-1), 1) := by decide +kernel
theorem dX8_order_10 : decode cX8_order 10 = .ok (.ireturn, 1) := by decide +kernel
theorem dX8_order_11 : decode cX8_order 11 = .ok (.iload_n 1, 1) := by decide +kernel
theorem dX8_order_12 : decode cX8_order 12 = .ok (.aload_n 0, 1) := by decide +kernel
theorem dX8_order_13 : decode cX8_order 13 = .ok (.getfield 10, 3) := by decide +kernel
theorem dX8_order_16 : decode cX8_order 16 = .ok (.getfield 83, 3) := by decide +kernel
theorem dX8_order_19 : decode cX8_order 19 = .ok (.if_icmp .ne 6, 3) := by decide +kernel
theorem dX8_order_22 : decode cX8_order 22 = .ok (.bipush (-2), 2) := by decide +kernel
theorem dX8_order_24 : decode cX8_order 24 = .ok (.ireturn, 1) := by decide +kernel
theorem dX8_order_25 : decode cX8_order 25 = .ok (.aload_n 0, 1) := by decide +kernel
theorem dX8_order_26 : decode cX8_order 26 = .ok (.getfield 10, 3) := by decide +kernel
theorem dX8_order_29 : decode cX8_order 29 = .ok (.getfield 83, 3) := by decide +kernel
theorem dX8_order_32 : decode cX8_order 32 = .ok (.istore_n 2, 1) := by decide +kernel
theorem dX8_order_33 : decode cX8_order 33 = .ok (.aload_n 0, 1) := by decide +kernel
theorem dX8_order_34 : decode cX8_order 34 = .ok (.getfield 10, 3) := by decide +kernel
theorem dX8_order_37 : decode cX8_order 37 = .ok (.iload_n 1, 1) := by decide +kernel
theorem dX8_order_38 : decode cX8_order 38 = .ok (.putfield 83, 3) := by decide +kernel
theorem dX8_order_41 : decode cX8_order 41 = .ok (.iload_n 2, 1) := by decide +kernel
theorem dX8_order_42 : decode cX8_order 42 = .ok (.ireturn, 1) := by decide +kernel
theorem dX8_ticks_0 : decode cX8_ticks 0 = .ok (.aload_n 0, 1) := by decide +kernel
theorem dX8_ticks_1 : decode cX8_ticks 1 = .ok (.iload_n 1, 1) := by decide +kernel
theorem dX8_ticks_2 : decode cX8_ticks 2 = .ok (.invokevirtual 86, 3) := by decide +kernel
theorem dX8_ticks_5 : decode cX8_ticks 5 = .ok (.istore_n 2, 1) := by decide +kernel
theorem dX8_ticks_6 : decode cX8_ticks 6 = .ok (.iload_n 2, 1) := by decide +kernel
theorem dX8_ticks_7 : decode cX8_ticks 7 = .ok (.ifCond .ge 5, 3) := by decide +kernel
theorem dX8_ticks_10 : decode cX8_ticks 10 = .ok (.iload_n 2, 1) := by decide +kernel
theorem dX8_ticks_11 : decode cX8_ticks 11 = .ok (.ireturn, 1) := by decide +kernel
theorem dX8_ticks_12 : decode cX8_ticks 12 = .ok (.iconst 0, 1) := by decide +kernel
theorem dX8_ticks_13 : decode cX8_ticks 13 = .ok (.istore_n 3, 1) := by decide +kernel
theorem dX8_ticks_14 : decode cX8_ticks 14 = .ok (.iconst 0, 1) := by decide +kernel
theorem dX8_ticks_15 : decode cX8_ticks 15 = .ok (.istore 4, 2) := by decide +kernel
theorem dX8_ticks_17 : decode cX8_ticks 17 = .ok (.iload 4, 2) := by decide +kernel
theorem dX8_ticks_19 : decode cX8_ticks 19 = .ok (.iload_n 1, 1) := by decide +kernel
theorem dX8_ticks_20 : decode cX8_ticks 20 = .ok (.if_icmp .ge 23, 3) := by decide +kernel
theorem dX8_ticks_23 : decode cX8_ticks 23 = .ok (.aload_n 0, 1) := by decide +kernel
theorem dX8_ticks_24 : decode cX8_ticks 24 = .ok (.getfield 10, 3) := by decide +kernel
theorem dX8_ticks_27 : decode cX8_ticks 27 = .ok (.invokevirtual 90, 3) := by decide +kernel
theorem dX8_ticks_30 : decode cX8_ticks 30 = .ok (.iload_n 3, 1) := by decide +kernel
theorem dX8_ticks_31 : decode cX8_ticks 31 = .ok (.aload_n 0, 1) := by decide +kernel
theorem dX8_ticks_32 : decode cX8_ticks 32 = .ok (.invokevirtual 93, 3) := by decide +kernel
theorem dX8_ticks_35 : decode cX8_ticks 35 = .ok (.iadd, 1) := by decide +kernel
theorem dX8_ticks_36 : decode cX8_ticks 36 = .ok (.istore_n 3, 1) := by decide +kernel
theorem dX8_ticks_37 : decode cX8_ticks 37 = .ok (.iinc 4 1, 3) := by decide +kernel
theorem dX8_ticks_40 : decode cX8_ticks 40 = .ok (.goto (-23), 3) := by decide +kernel
theorem dX8_ticks_43 : decode cX8_ticks 43 = .ok (.aload_n 0, 1) := by decide +kernel
theorem dX8_ticks_44 : decode cX8_ticks 44 = .ok (.iload_n 3, 1) := by decide +kernel
theorem dX8_ticks_45 : decode cX8_ticks 45 = .ok (.iconst 0, 1) := by decide +kernel
theorem dX8_ticks_46 : decode cX8_ticks 46 = .ok (.invokevirtual 97, 3) := by decide +kernel
theorem dX8_ticks_49 : decode cX8_ticks 49 = .ok (.iload_n 3, 1) := by decide +kernel
theorem dX8_ticks_50 : decode cX8_ticks 50 = .ok (.ireturn, 1) := by decide +kernel
theorem dX8_leaps_0 : decode cX8_leaps 0 = .ok (.aload_n 0, 1) := by decide +kernel
theorem dX8_leaps_1 : decode cX8_leaps 1 = .ok (.iload_n 1, 1) := by decide +kernel
theorem dX8_leaps_2 : decode cX8_leaps 2 = .ok (.invokevirtual 101, 3) := by decide +kernel
theorem dX8_leaps_5 : decode cX8_leaps 5 = .ok (.istore_n 2, 1) := by decide +kernel
theorem dX8_leaps_6 : decode cX8_leaps 6 = .ok (.iload_n 2, 1) := by decide +kernel
theorem dX8_leaps_7 : decode cX8_leaps 7 = .ok (.ifCond .ge 5, 3) := by decide +kernel
theorem dX8_leaps_10 : decode cX8_leaps 10 = .ok (.iload_n 2, 1) := by decide +kernel
theorem dX8_leaps_11 : decode cX8_leaps 11 = .ok (.ireturn, 1) := by decide +kernel
theorem dX8_leaps_12 : decode cX8_leaps 12 = .ok (.aload_n 0, 1) := by decide +kernel
theorem dX8_leaps_13 : decode cX8_leaps 13 = .ok (.getfield 10, 3) := by decide +kernel
theorem dX8_leaps_16 : decode cX8_leaps 16 = .ok (.iload_n 1, 1) := by decide +kernel
theorem dX8_leaps_17 : decode cX8_leaps 17 = .ok (.invokevirtual 104, 3) := by decide +kernel
theorem dX8_leaps_20 : decode cX8_leaps 20 = .ok (.iload_n 1, 1) := by decide +kernel
theorem dX8_leaps_21 : decode cX8_leaps 21 = .ok (.ifCond .le 16, 3) := by decide +kernel
theorem dX8_leaps_24 : decode cX8_leaps 24 = .ok (.aload_n 0, 1) := by decide +kernel
theorem dX8_leaps_25 : decode cX8_leaps 25 = .ok (.dup, 1) := by decide +kernel
theorem dX8_leaps_26 : decode cX8_leaps 26 = .ok (.getfield 108, 3) := by decide +kernel
theorem dX8_leaps_29 : decode cX8_leaps 29 = .ok (.iload_n 1, 1) := by decide +kernel
theorem dX8_leaps_30 : decode cX8_leaps 30 = .ok (.iadd, 1) := by decide +kernel
theorem dX8_leaps_31 : decode cX8_leaps 31 = .ok (.putfield 108, 3) := by decide +kernel
theorem dX8_leaps_34 : decode cX8_leaps 34 = .ok (.goto 13, 3) := by decide +kernel
theorem dX8_leaps_37 : decode cX8_leaps 37 = .ok (.aload_n 0, 1) := by decide +kernel
theorem dX8_leaps_38 : decode cX8_leaps 38 = .ok (.dup, 1) := by decide +kernel
theorem dX8_leaps_39 : decode cX8_leaps 39 = .ok (.getfield 111, 3) := by decide +kernel
theorem dX8_leaps_42 : decode cX8_leaps 42 = .ok (.iload_n 1, 1) := by decide +kernel
theorem dX8_leaps_43 : decode cX8_leaps 43 = .ok (.isub, 1) := by decide +kernel
theorem dX8_leaps_44 : decode cX8_leaps 44 = .ok (.putfield 111, 3) := by decide +kernel
theorem dX8_leaps_47 : decode cX8_leaps 47 = .ok (.aload_n 0, 1) := by decide +kernel
theorem dX8_leaps_48 : decode cX8_leaps 48 = .ok (.invokevirtual 93, 3) := by decide +kernel
theorem dX8_leaps_51 : decode cX8_leaps 51 = .ok (.istore_n 3, 1) := by decide +kernel
theorem dX8_leaps_52 : decode cX8_leaps 52 = .ok (.aload_n 0, 1) := by decide +kernel
theorem dX8_leaps_53 : decode cX8_leaps 53 = .ok (.iload_n 3, 1) := by decide +kernel
theorem dX8_leaps_54 : decode cX8_leaps 54 = .ok (.iconst 1, 1) := by decide +kernel
theorem dX8_leaps_55 : decode cX8_leaps 55 = .ok (.invokevirtual 97, 3) := by decide +kernel
theorem dX8_leaps_58 : decode cX8_leaps 58 = .ok (.iload_n 3, 1) := by decide +kernel
theorem dX8_leaps_59 : decode cX8_leaps 59 = .ok (.ireturn, 1) := by decide +kernel
theorem dX8_sets_0 : decode cX8_sets 0 = .ok (.iload_n 1, 1) := by decide +kernel
theorem dX8_sets_1 : decode cX8_sets 1 = .ok (.iconst 1, 1) := by decide +kernel
theorem dX8_sets_2 : decode cX8_sets 2 = .ok (.ldc 114, 2) := by decide +kernel
theorem dX8_sets_4 : decode cX8_sets 4 = .ok (.invokestatic 79, 3) := by decide +kernel
theorem dX8_sets_7 : decode cX8_sets 7 = .ok (.ifCond .eq 46, 3) := by decide +kernel
theorem dX8_sets_10 : decode cX8_sets 10 = .ok (.iload_n 2, 1) := by decide +kernel
theorem dX8_sets_11 : decode cX8_sets 11 = .ok (.invokestatic 115, 3) := by decide +kernel
theorem dX8_sets_14 : decode cX8_sets 14 = .ok (.ifCond .eq 39, 3) := by decide +kernel
theorem dX8_sets_17 : decode cX8_sets 17 = .ok (.iload_n 3, 1) := by decide +kernel
theorem dX8_sets_18 : decode cX8_sets 18 = .ok (.iconst 0, 1) := by decide +kernel
theorem dX8_sets_19 : decode cX8_sets 19 = .ok (.iconst 3, 1) := by decide +kernel
theorem dX8_sets_20 : decode cX8_sets 20 = .ok (.invokestatic 79, 3) := by decide +kernel
theorem dX8_sets_23 : decode cX8_sets 23 = .ok (.ifCond .eq 30, 3) := by decide +kernel
theorem dX8_sets_26 : decode cX8_sets 26 = .ok (.iload 4, 2) := by decide +kernel
theorem dX8_sets_28 : decode cX8_sets 28 = .ok (.iconst 1, 1) := by decide +kernel
theorem dX8_sets_29 : decode cX8_sets 29 = .ok (.sipush 1000, 3) := by decide +kernel
theorem dX8_sets_32 : decode cX8_sets 32 = .ok (.invokestatic 79, 3) := by decide +kernel
theorem dX8_sets_35 : decode cX8_sets 35 = .ok (.ifCond .eq 18, 3) := by decide +kernel
theorem dX8_sets_38 : decode cX8_sets 38 = .ok (.iload 5, 2) := by decide +kernel
theorem dX8_sets_40 : decode cX8_sets 40 = .ok (.iconst 0, 1) := by decide +kernel
theorem dX8_sets_41 : decode cX8_sets 41 = .ok (.bipush 99, 2) := by decide +kernel
theorem dX8_sets_43 : decode cX8_sets 43 = .ok (.invokestatic 79, 3) := by decide +kernel
theorem dX8_sets_46 : decode cX8_sets 46 = .ok (.ifCond .eq 7, 3) := by decide +kernel
theorem dX8_sets_49 : decode cX8_sets 49 = .ok (.iconst 1, 1) := by decide +kernel
theorem dX8_sets_50 : decode cX8_sets 50 = .ok (.goto 4, 3) := by decide +kernel
theorem dX8_sets_53 : decode cX8_sets 53 = .ok (.iconst 0, 1) := by decide +kernel
theorem dX8_sets_54 : decode cX8_sets 54 = .ok (.istore 6, 2) := by decide +kernel
theorem dX8_sets_56 : decode cX8_sets 56 = .ok (.iload 6, 2) := by decide +kernel
theorem dX8_sets_58 : decode cX8_sets 58 = .ok (.ifCond .ne 5, 3) := by decide +kernel
theorem dX8_sets_61 : decode cX8_sets 61 = .ok (.iconst (-1), 1) := by decide +kernel
theorem dX8_sets_62 : decode cX8_sets 62 = .ok (.ireturn, 1) := by decide +kernel
theorem dX8_sets_63 : decode cX8_sets 63 = .ok (.aload_n 0, 1) := by decide +kernel
theorem dX8_sets_64 : decode cX8_sets 64 = .ok (.getfield 10, 3) := by decide +kernel
theorem dX8_sets_67 : decode cX8_sets 67 = .ok (.invokevirtual 119, 3) := by decide +kernel
theorem dX8_sets_70 : decode cX8_sets 70 = .ok (.astore 7, 2) := by decide +kernel
theorem dX8_sets_72 : decode cX8_sets 72 = .ok (.aload 7, 2) := by decide +kernel
theorem dX8_sets_74 : decode cX8_sets 74 = .ok (.ifnonnull 6, 3) := by decide +kernel
theorem dX8_sets_77 : decode cX8_sets 77 = .ok (.bipush (-3), 2) := by decide +kernel
theorem dX8_sets_79 : decode cX8_sets 79 = .ok (.ireturn, 1) := by decide +kernel
theorem dX8_sets_80 : decode cX8_sets 80 = .ok (.aload 7, 2) := by decide +kernel
theorem dX8_sets_82 : decode cX8_sets 82 = .ok (.aload_n 0, 1) := by decide +kernel
theorem dX8_sets_83 : decode cX8_sets 83 = .ok (.getfield 10, 3) := by decide +kernel
theorem dX8_sets_86 : decode cX8_sets 86 = .ok (.getfield 123, 3) := by decide +kernel
theorem dX8_sets_89 : decode cX8_sets 89 = .ok (.iload_n 1, 1) := by decide +kernel
theorem dX8_sets_90 : decode cX8_sets 90 = .ok (.iadd, 1) := by decide +kernel
theorem dX8_sets_91 : decode cX8_sets 91 = .ok (.aload_n 0, 1) := by decide +kernel
theorem dX8_sets_92 : decode cX8_sets 92 = .ok (.getfield 126, 3) := by decide +kernel
theorem dX8_sets_95 : decode cX8_sets 95 = .ok (.invokevirtual 129, 3) := by decide +kernel
theorem dX8_sets_98 : decode cX8_sets 98 = .ok (.aload 7, 2) := by decide +kernel
theorem dX8_sets_100 : decode cX8_sets 100 = .ok (.iload_n 2, 1) := by decide +kernel
theorem dX8_sets_101 : decode cX8_sets 101 = .ok (.putfield 135, 3) := by decide +kernel
theorem dX8_sets_104 : decode cX8_sets 104 = .ok (.aload 7, 2) := by decide +kernel
theorem dX8_sets_106 : decode cX8_sets 106 = .ok (.iload_n 3, 1) := by decide +kernel
theorem dX8_sets_107 : decode cX8_sets 107 = .ok (.putfield 138, 3) := by decide +kernel
theorem dX8_sets_110 : decode cX8_sets 110 = .ok (.aload 7, 2) := by decide +kernel
theorem dX8_sets_112 : decode cX8_sets 112 = .ok (.iload 4, 2) := by decide +kernel
theorem dX8_sets_114 : decode cX8_sets 114 = .ok (.putfield 141, 3) := by decide +kernel
theorem dX8_sets_117 : decode cX8_sets 117 = .ok (.aload 7, 2) := by decide +kernel
theorem dX8_sets_119 : decode cX8_sets 119 = .ok (.iload 5, 2) := by decide +kernel
theorem dX8_sets_121 : decode cX8_sets 121 = .ok (.putfield 144, 3) := by decide +kernel
theorem dX8_sets_124 : decode cX8_sets 124 = .ok (.aload_n 0, 1) := by decide +kernel
theorem dX8_sets_125 : decode cX8_sets 125 = .ok (.getfield 10, 3) := by decide +kernel
theorem dX8_sets_128 : decode cX8_sets 128 = .ok (.aload 7, 2) := by decide +kernel
theorem dX8_sets_130 : decode cX8_sets 130 = .ok (.invokevirtual 147, 3) := by decide +kernel
theorem dX8_sets_133 : decode cX8_sets 133 = .ok (.aload_n 0, 1) := by decide +kernel
theorem dX8_sets_134 : decode cX8_sets 134 = .ok (.dup, 1) := by decide +kernel
theorem dX8_sets_135 : decode cX8_sets 135 = .ok (.getfield 126, 3) := by decide +kernel
theorem dX8_sets_138 : decode cX8_sets 138 = .ok (.iconst 1, 1) := by decide +kernel
theorem dX8_sets_139 : decode cX8_sets 139 = .ok (.iadd, 1) := by decide +kernel
theorem dX8_sets_140 : decode cX8_sets 140 = .ok (.putfield 126, 3) := by decide +kernel
theorem dX8_sets_143 : decode cX8_sets 143 = .ok (.aload 7, 2) := by decide +kernel
theorem dX8_sets_145 : decode cX8_sets 145 = .ok (.getfield 151, 3) := by decide +kernel
theorem dX8_sets_148 : decode cX8_sets 148 = .ok (.ireturn, 1) := by decide +kernel
theorem dX8_cancels_0 : decode cX8_cancels 0 = .ok (.aload_n 0, 1) := by decide +kernel
theorem dX8_cancels_1 : decode cX8_cancels 1 = .ok (.getfield 10, 3) := by decide +kernel
theorem dX8_cancels_4 : decode cX8_cancels 4 = .ok (.iload_n 1, 1) := by decide +kernel
theorem dX8_cancels_5 : decode cX8_cancels 5 = .ok (.invokevirtual 154, 3) := by decide +kernel
theorem dX8_cancels_8 : decode cX8_cancels 8 = .ok (.astore_n 2, 1) := by decide +kernel
theorem dX8_cancels_9 : decode cX8_cancels 9 = .ok (.aload_n 2, 1) := by decide +kernel
theorem dX8_cancels_10 : decode cX8_cancels 10 = .ok (.ifnonnull 5, 3) := by decide +kernel
theorem dX8_cancels_13 : decode cX8_cancels 13 = .ok (.iconst (-1), 1) := by decide +kernel
theorem dX8_cancels_14 : decode cX8_cancels 14 = .ok (.ireturn, 1) := by decide +kernel
theorem dX8_cancels_15 : decode cX8_cancels 15 = .ok (.aload_n 2, 1) := by decide +kernel
theorem dX8_cancels_16 : decode cX8_cancels 16 = .ok (.iconst 0, 1) := by decide +kernel
theorem dX8_cancels_17 : decode cX8_cancels 17 = .ok (.putfield 158, 3) := by decide +kernel
theorem dX8_cancels_20 : decode cX8_cancels 20 = .ok (.aload_n 0, 1) := by decide +kernel
theorem dX8_cancels_21 : decode cX8_cancels 21 = .ok (.dup, 1) := by decide +kernel
theorem dX8_cancels_22 : decode cX8_cancels 22 = .ok (.getfield 162, 3) := by decide +kernel
theorem dX8_cancels_25 : decode cX8_cancels 25 = .ok (.iconst 1, 1) := by decide +kernel
theorem dX8_cancels_26 : decode cX8_cancels 26 = .ok (.iadd, 1) := by decide +kernel
theorem dX8_cancels_27 : decode cX8_cancels 27 = .ok (.putfield 162, 3) := by decide +kernel
theorem dX8_cancels_30 : decode cX8_cancels 30 = .ok (.aload_n 0, 1) := by decide +kernel
theorem dX8_cancels_31 : decode cX8_cancels 31 = .ok (.getfield 10, 3) := by decide +kernel
theorem dX8_cancels_34 : decode cX8_cancels 34 = .ok (.invokevirtual 165, 3) := by decide +kernel
theorem dX8_cancels_37 : decode cX8_cancels 37 = .ok (.ireturn, 1) := by decide +kernel
theorem dX8_cancelsAll_0 : decode cX8_cancelsAll 0 = .ok (.iload_n 1, 1) := by decide +kernel
theorem dX8_cancelsAll_1 : decode cX8_cancelsAll 1 = .ok (.invokestatic 115, 3) := by decide +kernel
theorem dX8_cancelsAll_4 : decode cX8_cancelsAll 4 = .ok (.ifCond .ne 5, 3) := by decide +kernel
