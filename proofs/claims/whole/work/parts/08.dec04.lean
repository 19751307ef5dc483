theorem dX8_does_149 : decode cX8_does 149 = .ok (.ireturn, 1) := by decide +kernel
theorem dX9_thrown_0 : decode cX9_thrown 0 = .ok (.aload_n 0, 1) := by decide +kernel
theorem dX9_thrown_1 : decode cX9_thrown 1 = .ok (.getfield 1, 3) := by decide +kernel
theorem dX9_thrown_4 : decode cX9_thrown 4 = .ok (.ireturn, 1) := by decide +kernel
theorem dX9_in_0 : decode cX9_in 0 = .ok (.lload_n 0, 1) := by decide +kernel
theorem dX9_in_1 : decode cX9_in 1 = .ok (.lload_n 2, 1) := by decide +kernel
theorem dX9_in_2 : decode cX9_in 2 = .ok (.lcmp, 1) := by decide +kernel
theorem dX9_in_3 : decode cX9_in 3 = .ok (.ifCond .lt 14, 3) := by decide +kernel
theorem dX9_in_6 : decode cX9_in 6 = .ok (.lload_n 0, 1) := by decide +kernel
theorem dX9_in_7 : decode cX9_in 7 = .ok (.lload 4, 2) := by decide +kernel
theorem dX9_in_9 : decode cX9_in 9 = .ok (.lcmp, 1) := by decide +kernel
theorem dX9_in_10 : decode cX9_in 10 = .ok (.ifCond .gt 7, 3) := by decide +kernel
theorem dX9_in_13 : decode cX9_in 13 = .ok (.iconst 1, 1) := by decide +kernel
theorem dX9_in_14 : decode cX9_in 14 = .ok (.goto 4, 3) := by decide +kernel
theorem dX9_in_17 : decode cX9_in 17 = .ok (.iconst 0, 1) := by decide +kernel
theorem dX9_in_18 : decode cX9_in 18 = .ok (.ireturn, 1) := by decide +kernel
theorem dX9_flag_0 : decode cX9_flag 0 = .ok (.iload_n 0, 1) := by decide +kernel
theorem dX9_flag_1 : decode cX9_flag 1 = .ok (.ifCond .eq 7, 3) := by decide +kernel
theorem dX9_flag_4 : decode cX9_flag 4 = .ok (.iconst 1, 1) := by decide +kernel
theorem dX9_flag_5 : decode cX9_flag 5 = .ok (.goto 4, 3) := by decide +kernel
theorem dX9_flag_8 : decode cX9_flag 8 = .ok (.iconst 0, 1) := by decide +kernel
theorem dX9_flag_9 : decode cX9_flag 9 = .ok (.ireturn, 1) := by decide +kernel
theorem dX9_enters_0 : decode cX9_enters 0 = .ok (.aload_n 0, 1) := by decide +kernel
theorem dX9_enters_1 : decode cX9_enters 1 = .ok (.getfield 7, 3) := by decide +kernel
theorem dX9_enters_4 : decode cX9_enters 4 = .ok (.aload_n 0, 1) := by decide +kernel
theorem dX9_enters_5 : decode cX9_enters 5 = .ok (.getfield 11, 3) := by decide +kernel
theorem dX9_enters_8 : decode cX9_enters 8 = .ok (.lload_n 1, 1) := by decide +kernel
theorem dX9_enters_9 : decode cX9_enters 9 = .ok (.lastore, 1) := by decide +kernel
theorem dX9_enters_10 : decode cX9_enters 10 = .ok (.aload_n 0, 1) := by decide +kernel
theorem dX9_enters_11 : decode cX9_enters 11 = .ok (.dup, 1) := by decide +kernel
theorem dX9_enters_12 : decode cX9_enters 12 = .ok (.getfield 11, 3) := by decide +kernel
theorem dX9_enters_15 : decode cX9_enters 15 = .ok (.iconst 1, 1) := by decide +kernel
theorem dX9_enters_16 : decode cX9_enters 16 = .ok (.iadd, 1) := by decide +kernel
theorem dX9_enters_17 : decode cX9_enters 17 = .ok (.putfield 11, 3) := by decide +kernel
theorem dX9_enters_20 : decode cX9_enters 20 = .ok (.return_, 1) := by decide +kernel
theorem dX9_sign_0 : decode cX9_sign 0 = .ok (.aload_n 0, 1) := by decide +kernel
theorem dX9_sign_1 : decode cX9_sign 1 = .ok (.iconst 0, 1) := by decide +kernel
theorem dX9_sign_2 : decode cX9_sign 2 = .ok (.putfield 1, 3) := by decide +kernel
theorem dX9_sign_5 : decode cX9_sign 5 = .ok (.aload_n 0, 1) := by decide +kernel
theorem dX9_sign_6 : decode cX9_sign 6 = .ok (.getfield 14, 3) := by decide +kernel
theorem dX9_sign_9 : decode cX9_sign 9 = .ok (.bipush 96, 2) := by decide +kernel
theorem dX9_sign_11 : decode cX9_sign 11 = .ok (.if_icmp .le 5, 3) := by decide +kernel
theorem dX9_sign_14 : decode cX9_sign 14 = .ok (.iconst (-1), 1) := by decide +kernel
theorem dX9_sign_15 : decode cX9_sign 15 = .ok (.ireturn, 1) := by decide +kernel
theorem dX9_sign_16 : decode cX9_sign 16 = .ok (.iconst 0, 1) := by decide +kernel
theorem dX9_sign_17 : decode cX9_sign 17 = .ok (.istore_n 2, 1) := by decide +kernel
theorem dX9_sign_18 : decode cX9_sign 18 = .ok (.iload_n 2, 1) := by decide +kernel
theorem dX9_sign_19 : decode cX9_sign 19 = .ok (.iconst 4, 1) := by decide +kernel
theorem dX9_sign_20 : decode cX9_sign 20 = .ok (.if_icmp .ge 33, 3) := by decide +kernel
theorem dX9_sign_23 : decode cX9_sign 23 = .ok (.aload_n 0, 1) := by decide +kernel
theorem dX9_sign_24 : decode cX9_sign 24 = .ok (.getfield 17, 3) := by decide +kernel
theorem dX9_sign_27 : decode cX9_sign 27 = .ok (.aload_n 0, 1) := by decide +kernel
theorem dX9_sign_28 : decode cX9_sign 28 = .ok (.getfield 14, 3) := by decide +kernel
theorem dX9_sign_31 : decode cX9_sign 31 = .ok (.iload_n 2, 1) := by decide +kernel
theorem dX9_sign_32 : decode cX9_sign 32 = .ok (.iadd, 1) := by decide +kernel
theorem dX9_sign_33 : decode cX9_sign 33 = .ok (.iload_n 1, 1) := by decide +kernel
theorem dX9_sign_34 : decode cX9_sign 34 = .ok (.bipush 24, 2) := by decide +kernel
theorem dX9_sign_36 : decode cX9_sign 36 = .ok (.bipush 8, 2) := by decide +kernel
theorem dX9_sign_38 : decode cX9_sign 38 = .ok (.iload_n 2, 1) := by decide +kernel
theorem dX9_sign_39 : decode cX9_sign 39 = .ok (.imul, 1) := by decide +kernel
theorem dX9_sign_40 : decode cX9_sign 40 = .ok (.isub, 1) := by decide +kernel
theorem dX9_sign_41 : decode cX9_sign 41 = .ok (.ishr, 1) := by decide +kernel
theorem dX9_sign_42 : decode cX9_sign 42 = .ok (.sipush 255, 3) := by decide +kernel
theorem dX9_sign_45 : decode cX9_sign 45 = .ok (.iand, 1) := by decide +kernel
theorem dX9_sign_46 : decode cX9_sign 46 = .ok (.iastore, 1) := by decide +kernel
theorem dX9_sign_47 : decode cX9_sign 47 = .ok (.iinc 2 1, 3) := by decide +kernel
theorem dX9_sign_50 : decode cX9_sign 50 = .ok (.goto (-32), 3) := by decide +kernel
theorem dX9_sign_53 : decode cX9_sign 53 = .ok (.aload_n 0, 1) := by decide +kernel
theorem dX9_sign_54 : decode cX9_sign 54 = .ok (.dup, 1) := by decide +kernel
theorem dX9_sign_55 : decode cX9_sign 55 = .ok (.getfield 14, 3) := by decide +kernel
theorem dX9_sign_58 : decode cX9_sign 58 = .ok (.iconst 4, 1) := by decide +kernel
theorem dX9_sign_59 : decode cX9_sign 59 = .ok (.iadd, 1) := by decide +kernel
theorem dX9_sign_60 : decode cX9_sign 60 = .ok (.putfield 14, 3) := by decide +kernel
theorem dX9_sign_63 : decode cX9_sign 63 = .ok (.aload_n 0, 1) := by decide +kernel
theorem dX9_sign_64 : decode cX9_sign 64 = .ok (.getfield 14, 3) := by decide +kernel
theorem dX9_sign_67 : decode cX9_sign 67 = .ok (.ireturn, 1) := by decide +kernel
theorem dX9_end_0 : decode cX9_end 0 = .ok (.aload_n 0, 1) := by decide +kernel
theorem dX9_end_1 : decode cX9_end 1 = .ok (.iconst 0, 1) := by decide +kernel
theorem dX9_end_2 : decode cX9_end 2 = .ok (.putfield 1, 3) := by decide +kernel
theorem dX9_end_5 : decode cX9_end 5 = .ok (.iload_n 1, 1) := by decide +kernel
theorem dX9_end_6 : decode cX9_end 6 = .ok (.i2l, 1) := by decide +kernel
theorem dX9_end_7 : decode cX9_end 7 = .ok (.lconst 0, 1) := by decide +kernel
theorem dX9_end_8 : decode cX9_end 8 = .ok (.aload_n 0, 1) := by decide +kernel
theorem dX9_end_9 : decode cX9_end 9 = .ok (.getfield 14, 3) := by decide +kernel
theorem dX9_end_12 : decode cX9_end 12 = .ok (.i2l, 1) := by decide +kernel
theorem dX9_end_13 : decode cX9_end 13 = .ok (.invokestatic 21, 3) := by decide +kernel
theorem dX9_end_16 : decode cX9_end 16 = .ok (.ifCond .ne 5, 3) := by decide +kernel
theorem dX9_end_19 : decode cX9_end 19 = .ok (.iconst 0, 1) := by decide +kernel
theorem dX9_end_20 : decode cX9_end 20 = .ok (.ireturn, 1) := by decide +kernel
theorem dX9_end_21 : decode cX9_end 21 = .ok (.aload_n 0, 1) := by decide +kernel
theorem dX9_end_22 : decode cX9_end 22 = .ok (.iload_n 1, 1) := by decide +kernel
theorem dX9_end_23 : decode cX9_end 23 = .ok (.putfield 14, 3) := by decide +kernel
theorem dX9_end_26 : decode cX9_end 26 = .ok (.iconst 1, 1) := by decide +kernel
theorem dX9_end_27 : decode cX9_end 27 = .ok (.ireturn, 1) := by decide +kernel
theorem dX9_takes_0 : decode cX9_takes 0 = .ok (.aload_n 0, 1) := by decide +kernel
theorem dX9_takes_1 : decode cX9_takes 1 = .ok (.getfield 25, 3) := by decide +kernel
theorem dX9_takes_4 : decode cX9_takes 4 = .ok (.aload_n 0, 1) := by decide +kernel
theorem dX9_takes_5 : decode cX9_takes 5 = .ok (.getfield 28, 3) := by decide +kernel
theorem dX9_takes_8 : decode cX9_takes 8 = .ok (.if_icmp .ge 20, 3) := by decide +kernel
theorem dX9_takes_11 : decode cX9_takes 11 = .ok (.aload_n 0, 1) := by decide +kernel
theorem dX9_takes_12 : decode cX9_takes 12 = .ok (.getfield 17, 3) := by decide +kernel
theorem dX9_takes_15 : decode cX9_takes 15 = .ok (.aload_n 0, 1) := by decide +kernel
theorem dX9_takes_16 : decode cX9_takes 16 = .ok (.getfield 25, 3) := by decide +kernel
theorem dX9_takes_19 : decode cX9_takes 19 = .ok (.iaload, 1) := by decide +kernel
theorem dX9_takes_20 : decode cX9_takes 20 = .ok (.iload_n 1, 1) := by decide +kernel
theorem dX9_takes_21 : decode cX9_takes 21 = .ok (.if_icmp .ne 7, 3) := by decide +kernel
theorem dX9_takes_24 : decode cX9_takes 24 = .ok (.iconst 1, 1) := by decide +kernel
theorem dX9_takes_25 : decode cX9_takes 25 = .ok (.goto 4, 3) := by decide +kernel
theorem dX9_takes_28 : decode cX9_takes 28 = .ok (.iconst 0, 1) := by decide +kernel
theorem dX9_takes_29 : decode cX9_takes 29 = .ok (.istore_n 2, 1) := by decide +kernel
theorem dX9_takes_30 : decode cX9_takes 30 = .ok (.aload_n 0, 1) := by decide +kernel
theorem dX9_takes_31 : decode cX9_takes 31 = .ok (.dup, 1) := by decide +kernel
theorem dX9_takes_32 : decode cX9_takes 32 = .ok (.getfield 25, 3) := by decide +kernel
theorem dX9_takes_35 : decode cX9_takes 35 = .ok (.iload_n 2, 1) := by decide +kernel
theorem dX9_takes_36 : decode cX9_takes 36 = .ok (.invokestatic 31, 3) := by decide +kernel
theorem dX9_takes_39 : decode cX9_takes 39 = .ok (.iadd, 1) := by decide +kernel
theorem dX9_takes_40 : decode cX9_takes 40 = .ok (.putfield 25, 3) := by decide +kernel
theorem dX9_takes_43 : decode cX9_takes 43 = .ok (.iload_n 2, 1) := by decide +kernel
theorem dX9_takes_44 : decode cX9_takes 44 = .ok (.ireturn, 1) := by decide +kernel
theorem dX9_isDigit_0 : decode cX9_isDigit 0 = .ok (.aload_n 0, 1) := by decide +kernel
theorem dX9_isDigit_1 : decode cX9_isDigit 1 = .ok (.getfield 25, 3) := by decide +kernel
theorem dX9_isDigit_4 : decode cX9_isDigit 4 = .ok (.aload_n 0, 1) := by decide +kernel
theorem dX9_isDigit_5 : decode cX9_isDigit 5 = .ok (.getfield 28, 3) := by decide +kernel
theorem dX9_isDigit_8 : decode cX9_isDigit 8 = .ok (.if_icmp .ge 29, 3) := by decide +kernel
theorem dX9_isDigit_11 : decode cX9_isDigit 11 = .ok (.aload_n 0, 1) := by decide +kernel
theorem dX9_isDigit_12 : decode cX9_isDigit 12 = .ok (.getfield 17, 3) := by decide +kernel
theorem dX9_isDigit_15 : decode cX9_isDigit 15 = .ok (.aload_n 0, 1) := by decide +kernel
theorem dX9_isDigit_16 : decode cX9_isDigit 16 = .ok (.getfield 25, 3) := by decide +kernel
theorem dX9_isDigit_19 : decode cX9_isDigit 19 = .ok (.iaload, 1) := by decide +kernel
theorem dX9_isDigit_20 : decode cX9_isDigit 20 = .ok (.i2l, 1) := by decide +kernel
theorem dX9_isDigit_21 : decode cX9_isDigit 21 = .ok (.ldc2_w 35, 3) := by decide +kernel
theorem dX9_isDigit_24 : decode cX9_isDigit 24 = .ok (.ldc2_w 37, 3) := by decide +kernel
theorem dX9_isDigit_27 : decode cX9_isDigit 27 = .ok (.invokestatic 21, 3) := by decide +kernel
theorem dX9_isDigit_30 : decode cX9_isDigit 30 = .ok (.ifCond .eq 7, 3) := by decide +kernel
theorem dX9_isDigit_33 : decode cX9_isDigit 33 = .ok (.iconst 1, 1) := by decide +kernel
theorem dX9_isDigit_34 : decode cX9_isDigit 34 = .ok (.goto 4, 3) := by decide +kernel
theorem dX9_isDigit_37 : decode cX9_isDigit 37 = .ok (.iconst 0, 1) := by decide +kernel
theorem dX9_isDigit_38 : decode cX9_isDigit 38 = .ok (.ireturn, 1) := by decide +kernel
theorem dX9_number_0 : decode cX9_number 0 = .ok (.iconst 0, 1) := by decide +kernel
theorem dX9_number_1 : decode cX9_number 1 = .ok (.istore 4, 2) := by decide +kernel
theorem dX9_number_3 : decode cX9_number 3 = .ok (.iconst 0, 1) := by decide +kernel
theorem dX9_number_4 : decode cX9_number 4 = .ok (.istore 5, 2) := by decide +kernel
theorem dX9_number_6 : decode cX9_number 6 = .ok (.aload_n 0, 1) := by decide +kernel
theorem dX9_number_7 : decode cX9_number 7 = .ok (.invokevirtual 39, 3) := by decide +kernel
theorem dX9_number_10 : decode cX9_number 10 = .ok (.ifCond .eq 45, 3) := by decide +kernel
theorem dX9_number_13 : decode cX9_number 13 = .ok (.iload 5, 2) := by decide +kernel
theorem dX9_number_15 : decode cX9_number 15 = .ok (.iload_n 1, 1) := by decide +kernel
theorem dX9_number_16 : decode cX9_number 16 = .ok (.if_icmp .ge 39, 3) := by decide +kernel
theorem dX9_number_19 : decode cX9_number 19 = .ok (.bipush 10, 2) := by decide +kernel
theorem dX9_number_21 : decode cX9_number 21 = .ok (.iload 4, 2) := by decide +kernel
theorem dX9_number_23 : decode cX9_number 23 = .ok (.imul, 1) := by decide +kernel
theorem dX9_number_24 : decode cX9_number 24 = .ok (.aload_n 0, 1) := by decide +kernel
theorem dX9_number_25 : decode cX9_number 25 = .ok (.getfield 17, 3) := by decide +kernel
theorem dX9_number_28 : decode cX9_number 28 = .ok (.aload_n 0, 1) := by decide +kernel
theorem dX9_number_29 : decode cX9_number 29 = .ok (.getfield 25, 3) := by decide +kernel
theorem dX9_number_32 : decode cX9_number 32 = .ok (.iaload, 1) := by decide +kernel
theorem dX9_number_33 : decode cX9_number 33 = .ok (.iadd, 1) := by decide +kernel
theorem dX9_number_34 : decode cX9_number 34 = .ok (.bipush 48, 2) := by decide +kernel
theorem dX9_number_36 : decode cX9_number 36 = .ok (.isub, 1) := by decide +kernel
theorem dX9_number_37 : decode cX9_number 37 = .ok (.istore 4, 2) := by decide +kernel
theorem dX9_number_39 : decode cX9_number 39 = .ok (.aload_n 0, 1) := by decide +kernel
theorem dX9_number_40 : decode cX9_number 40 = .ok (.dup, 1) := by decide +kernel
theorem dX9_number_41 : decode cX9_number 41 = .ok (.getfield 25, 3) := by decide +kernel
theorem dX9_number_44 : decode cX9_number 44 = .ok (.iconst 1, 1) := by decide +kernel
theorem dX9_number_45 : decode cX9_number 45 = .ok (.iadd, 1) := by decide +kernel
theorem dX9_number_46 : decode cX9_number 46 = .ok (.putfield 25, 3) := by decide +kernel
theorem dX9_number_49 : decode cX9_number 49 = .ok (.iinc 5 1, 3) := by decide +kernel
theorem dX9_number_52 : decode cX9_number 52 = .ok (.goto (-46), 3) := by decide +kernel
theorem dX9_number_55 : decode cX9_number 55 = .ok (.iload 5, 2) := by decide +kernel
theorem dX9_number_57 : decode cX9_number 57 = .ok (.ifCond .eq 10, 3) := by decide +kernel
theorem dX9_number_60 : decode cX9_number 60 = .ok (.aload_n 0, 1) := by decide +kernel
theorem dX9_number_61 : decode cX9_number 61 = .ok (.invokevirtual 39, 3) := by decide +kernel
theorem dX9_number_64 : decode cX9_number 64 = .ok (.ifCond .eq 5, 3) := by decide +kernel
theorem dX9_number_67 : decode cX9_number 67 = .ok (.iconst (-1), 1) := by decide +kernel
theorem dX9_number_68 : decode cX9_number 68 = .ok (.ireturn, 1) := by decide +kernel
theorem dX9_number_69 : decode cX9_number 69 = .ok (.iload 4, 2) := by decide +kernel
theorem dX9_number_71 : decode cX9_number 71 = .ok (.i2l, 1) := by decide +kernel
theorem dX9_number_72 : decode cX9_number 72 = .ok (.iload_n 2, 1) := by decide +kernel
theorem dX9_number_73 : decode cX9_number 73 = .ok (.i2l, 1) := by decide +kernel
theorem dX9_number_74 : decode cX9_number 74 = .ok (.iload_n 3, 1) := by decide +kernel
theorem dX9_number_75 : decode cX9_number 75 = .ok (.i2l, 1) := by decide +kernel
theorem dX9_number_76 : decode cX9_number 76 = .ok (.invokestatic 21, 3) := by decide +kernel
theorem dX9_number_79 : decode cX9_number 79 = .ok (.ifCond .ne 15, 3) := by decide +kernel
theorem dX9_number_82 : decode cX9_number 82 = .ok (.aload_n 0, 1) := by decide +kernel
theorem dX9_number_83 : decode cX9_number 83 = .ok (.dup, 1) := by decide +kernel
theorem dX9_number_84 : decode cX9_number 84 = .ok (.getfield 25, 3) := by decide +kernel
theorem dX9_number_87 : decode cX9_number 87 = .ok (.iconst 1, 1) := by decide +kernel
theorem dX9_number_88 : decode cX9_number 88 = .ok (.isub, 1) := by decide +kernel
theorem dX9_number_89 : decode cX9_number 89 = .ok (.putfield 25, 3) := by decide +kernel
theorem dX9_number_92 : decode cX9_number 92 = .ok (.iconst (-1), 1) := by decide +kernel
theorem dX9_number_93 : decode cX9_number 93 = .ok (.ireturn, 1) := by decide +kernel
theorem dX9_number_94 : decode cX9_number 94 = .ok (.iload 4, 2) := by decide +kernel
theorem dX9_number_96 : decode cX9_number 96 = .ok (.ireturn, 1) := by decide +kernel
theorem dX9_init_0 : decode cX9_init 0 = .ok (.aload_n 0, 1) := by decide +kernel
theorem dX9_init_1 : decode cX9_init 1 = .ok (.invokespecial 43, 3) := by decide +kernel
theorem dX9_init_4 : decode cX9_init 4 = .ok (.aload_n 0, 1) := by decide +kernel
theorem dX9_init_5 : decode cX9_init 5 = .ok (.bipush 64, 2) := by decide +kernel
theorem dX9_init_7 : decode cX9_init 7 = .ok (.newarray .long, 2) := by decide +kernel
theorem dX9_init_9 : decode cX9_init 9 = .ok (.putfield 7, 3) := by decide +kernel
theorem dX9_init_12 : decode cX9_init 12 = .ok (.aload_n 0, 1) := by decide +kernel
theorem dX9_init_13 : decode cX9_init 13 = .ok (.bipush 100, 2) := by decide +kernel
theorem dX9_init_15 : decode cX9_init 15 = .ok (.newarray .int, 2) := by decide +kernel
theorem dX9_init_17 : decode cX9_init 17 = .ok (.putfield 17, 3) := by decide +kernel
theorem dX9_init_20 : decode cX9_init 20 = .ok (.aload_n 0, 1) := by decide +kernel
theorem dX9_init_21 : decode cX9_init 21 = .ok (.sipush 846, 3) := by decide +kernel
theorem dX9_init_24 : decode cX9_init 24 = .ok (.newarray .int, 2) := by decide +kernel
theorem dX9_init_26 : decode cX9_init 26 = .ok (.putfield 49, 3) := by decide +kernel
theorem dX9_init_29 : decode cX9_init 29 = .ok (.aload_n 0, 1) := by decide +kernel
theorem dX9_init_30 : decode cX9_init 30 = .ok (.bipush 16, 2) := by decide +kernel
theorem dX9_init_32 : decode cX9_init 32 = .ok (.newarray .int, 2) := by decide +kernel
theorem dX9_init_34 : decode cX9_init 34 = .ok (.putfield 52, 3) := by decide +kernel
theorem dX9_init_37 : decode cX9_init 37 = .ok (.aload_n 0, 1) := by decide +kernel
theorem dX9_init_38 : decode cX9_init 38 = .ok (.sipush 2000, 3) := by decide +kernel
theorem dX9_init_41 : decode cX9_init 41 = .ok (.newarray .int, 2) := by decide +kernel
theorem dX9_init_43 : decode cX9_init 43 = .ok (.putfield 55, 3) := by decide +kernel
theorem dX9_init_46 : decode cX9_init 46 = .ok (.aload_n 0, 1) := by decide +kernel
theorem dX9_init_47 : decode cX9_init 47 = .ok (.sipush 2000, 3) := by decide +kernel
theorem dX9_init_50 : decode cX9_init 50 = .ok (.newarray .int, 2) := by decide +kernel
theorem dX9_init_52 : decode cX9_init 52 = .ok (.putfield 58, 3) := by decide +kernel
theorem dX9_init_55 : decode cX9_init 55 = .ok (.aload_n 0, 1) := by decide +kernel
theorem dX9_init_56 : decode cX9_init 56 = .ok (.iconst 4, 1) := by decide +kernel
theorem dX9_init_57 : decode cX9_init 57 = .ok (.newarray .int, 2) := by decide +kernel
theorem dX9_init_59 : decode cX9_init 59 = .ok (.putfield 61, 3) := by decide +kernel
theorem dX9_init_62 : decode cX9_init 62 = .ok (.aload_n 0, 1) := by decide +kernel
theorem dX9_init_63 : decode cX9_init 63 = .ok (.sipush 400, 3) := by decide +kernel
theorem dX9_init_66 : decode cX9_init 66 = .ok (.newarray .int, 2) := by decide +kernel
theorem dX9_init_68 : decode cX9_init 68 = .ok (.putfield 64, 3) := by decide +kernel
theorem dX9_init_71 : decode cX9_init 71 = .ok (.aload_n 0, 1) := by decide +kernel
theorem dX9_init_72 : decode cX9_init 72 = .ok (.bipush 8, 2) := by decide +kernel
theorem dX9_init_74 : decode cX9_init 74 = .ok (.newarray .int, 2) := by decide +kernel
theorem dX9_init_76 : decode cX9_init 76 = .ok (.putfield 67, 3) := by decide +kernel
theorem dX9_init_79 : decode cX9_init 79 = .ok (.aload_n 0, 1) := by decide +kernel
theorem dX9_init_80 : decode cX9_init 80 = .ok (.bipush 8, 2) := by decide +kernel
theorem dX9_init_82 : decode cX9_init 82 = .ok (.newarray .int, 2) := by decide +kernel
theorem dX9_init_84 : decode cX9_init 84 = .ok (.putfield 70, 3) := by decide +kernel
theorem dX9_init_87 : decode cX9_init 87 = .ok (.aload_n 0, 1) := by decide +kernel
theorem dX9_init_88 : decode cX9_init 88 = .ok (.bipush 8, 2) := by decide +kernel
theorem dX9_init_90 : decode cX9_init 90 = .ok (.newarray .int, 2) := by decide +kernel
theorem dX9_init_92 : decode cX9_init 92 = .ok (.putfield 73, 3) := by decide +kernel
theorem dX9_init_95 : decode cX9_init 95 = .ok (.aload_n 0, 1) := by decide +kernel
theorem dX9_init_96 : decode cX9_init 96 = .ok (.iconst 0, 1) := by decide +kernel
theorem dX9_init_97 : decode cX9_init 97 = .ok (.iconst 3, 1) := by decide +kernel
theorem dX9_init_98 : decode cX9_init 98 = .ok (.invokevirtual 76, 3) := by decide +kernel
theorem dX9_init_101 : decode cX9_init 101 = .ok (.iconst 0, 1) := by decide +kernel
theorem dX9_init_102 : decode cX9_init 102 = .ok (.istore_n 1, 1) := by decide +kernel
theorem dX9_init_103 : decode cX9_init 103 = .ok (.iload_n 1, 1) := by decide +kernel
theorem dX9_init_104 : decode cX9_init 104 = .ok (.iconst 3, 1) := by decide +kernel
theorem dX9_init_105 : decode cX9_init 105 = .ok (.if_icmp .ge 17, 3) := by decide +kernel
theorem dX9_init_108 : decode cX9_init 108 = .ok (.aload_n 0, 1) := by decide +kernel
theorem dX9_init_109 : decode cX9_init 109 = .ok (.iconst 1, 1) := by decide +kernel
theorem dX9_init_110 : decode cX9_init 110 = .ok (.iload_n 1, 1) := by decide +kernel
theorem dX9_init_111 : decode cX9_init 111 = .ok (.iadd, 1) := by decide +kernel
theorem dX9_init_112 : decode cX9_init 112 = .ok (.iconst 4, 1) := by decide +kernel
theorem dX9_init_113 : decode cX9_init 113 = .ok (.invokevirtual 76, 3) := by decide +kernel
theorem dX9_init_116 : decode cX9_init 116 = .ok (.iinc 1 1, 3) := by decide +kernel
theorem dX9_init_119 : decode cX9_init 119 = .ok (.goto (-16), 3) := by decide +kernel
theorem dX9_init_122 : decode cX9_init 122 = .ok (.return_, 1) := by decide +kernel
theorem dX9_of_0 : decode cX9_of 0 = .ok (.aload_n 0, 1) := by decide +kernel
theorem dX9_of_1 : decode cX9_of 1 = .ok (.getfield 49, 3) := by decide +kernel
theorem dX9_of_4 : decode cX9_of 4 = .ok (.aload_n 0, 1) := by decide +kernel
theorem dX9_of_5 : decode cX9_of 5 = .ok (.getfield 80, 3) := by decide +kernel
theorem dX9_of_8 : decode cX9_of 8 = .ok (.iload_n 1, 1) := by decide +kernel
theorem dX9_of_9 : decode cX9_of 9 = .ok (.iadd, 1) := by decide +kernel
theorem dX9_of_10 : decode cX9_of 10 = .ok (.iaload, 1) := by decide +kernel
theorem dX9_of_11 : decode cX9_of 11 = .ok (.ireturn, 1) := by decide +kernel
theorem dX9_puts_0 : decode cX9_puts 0 = .ok (.aload_n 0, 1) := by decide +kernel
theorem dX9_puts_1 : decode cX9_puts 1 = .ok (.getfield 49, 3) := by decide +kernel
theorem dX9_puts_4 : decode cX9_puts 4 = .ok (.aload_n 0, 1) := by decide +kernel
theorem dX9_puts_5 : decode cX9_puts 5 = .ok (.getfield 80, 3) := by decide +kernel
theorem dX9_puts_8 : decode cX9_puts 8 = .ok (.iload_n 1, 1) := by decide +kernel
theorem dX9_puts_9 : decode cX9_puts 9 = .ok (.iadd, 1) := by decide +kernel
theorem dX9_puts_10 : decode cX9_puts 10 = .ok (.iload_n 2, 1) := by decide +kernel
theorem dX9_puts_11 : decode cX9_puts 11 = .ok (.iastore, 1) := by decide +kernel
theorem dX9_puts_12 : decode cX9_puts 12 = .ok (.return_, 1) := by decide +kernel
theorem dX9_more_0 : decode cX9_more 0 = .ok (.aload_n 0, 1) := by decide +kernel
theorem dX9_more_1 : decode cX9_more 1 = .ok (.getfield 49, 3) := by decide +kernel
theorem dX9_more_4 : decode cX9_more 4 = .ok (.aload_n 0, 1) := by decide +kernel
theorem dX9_more_5 : decode cX9_more 5 = .ok (.getfield 80, 3) := by decide +kernel
theorem dX9_more_8 : decode cX9_more 8 = .ok (.iload_n 1, 1) := by decide +kernel
theorem dX9_more_9 : decode cX9_more 9 = .ok (.iadd, 1) := by decide +kernel
theorem dX9_more_10 : decode cX9_more 10 = .ok (.dup2, 1) := by decide +kernel
theorem dX9_more_11 : decode cX9_more 11 = .ok (.iaload, 1) := by decide +kernel
theorem dX9_more_12 : decode cX9_more 12 = .ok (.iload_n 2, 1) := by decide +kernel
theorem dX9_more_13 : decode cX9_more 13 = .ok (.iadd, 1) := by decide +kernel
theorem dX9_more_14 : decode cX9_more 14 = .ok (.iastore, 1) := by decide +kernel
theorem dX9_more_15 : decode cX9_more 15 = .ok (.return_, 1) := by decide +kernel
theorem dX9_tries_0 : decode cX9_tries 0 = .ok (.iconst 0, 1) := by decide +kernel
theorem dX9_tries_1 : decode cX9_tries 1 = .ok (.istore_n 1, 1) := by decide +kernel
theorem dX9_tries_2 : decode cX9_tries 2 = .ok (.iload_n 1, 1) := by decide +kernel
theorem dX9_tries_3 : decode cX9_tries 3 = .ok (.sipush 423, 3) := by decide +kernel
theorem dX9_tries_6 : decode cX9_tries 6 = .ok (.if_icmp .ge 25, 3) := by decide +kernel
theorem dX9_tries_9 : decode cX9_tries 9 = .ok (.aload_n 0, 1) := by decide +kernel
theorem dX9_tries_10 : decode cX9_tries 10 = .ok (.getfield 49, 3) := by decide +kernel
theorem dX9_tries_13 : decode cX9_tries 13 = .ok (.sipush 423, 3) := by decide +kernel
theorem dX9_tries_16 : decode cX9_tries 16 = .ok (.iload_n 1, 1) := by decide +kernel
theorem dX9_tries_17 : decode cX9_tries 17 = .ok (.iadd, 1) := by decide +kernel
theorem dX9_tries_18 : decode cX9_tries 18 = .ok (.aload_n 0, 1) := by decide +kernel
theorem dX9_tries_19 : decode cX9_tries 19 = .ok (.getfield 49, 3) := by decide +kernel
theorem dX9_tries_22 : decode cX9_tries 22 = .ok (.iload_n 1, 1) := by decide +kernel
theorem dX9_tries_23 : decode cX9_tries 23 = .ok (.iaload, 1) := by decide +kernel
theorem dX9_tries_24 : decode cX9_tries 24 = .ok (.iastore, 1) := by decide +kernel
theorem dX9_tries_25 : decode cX9_tries 25 = .ok (.iinc 1 1, 3) := by decide +kernel
theorem dX9_tries_28 : decode cX9_tries 28 = .ok (.goto (-26), 3) := by decide +kernel
theorem dX9_tries_31 : decode cX9_tries 31 = .ok (.aload_n 0, 1) := by decide +kernel
theorem dX9_tries_32 : decode cX9_tries 32 = .ok (.sipush 423, 3) := by decide +kernel
theorem dX9_tries_35 : decode cX9_tries 35 = .ok (.putfield 80, 3) := by decide +kernel
theorem dX9_tries_38 : decode cX9_tries 38 = .ok (.return_, 1) := by decide +kernel
theorem dX9_isBack_0 : decode cX9_isBack 0 = .ok (.aload_n 0, 1) := by decide +kernel
theorem dX9_isBack_1 : decode cX9_isBack 1 = .ok (.iconst 0, 1) := by decide +kernel
theorem dX9_isBack_2 : decode cX9_isBack 2 = .ok (.putfield 80, 3) := by decide +kernel
theorem dX9_isBack_5 : decode cX9_isBack 5 = .ok (.return_, 1) := by decide +kernel
theorem dX9_isTimer_0 : decode cX9_isTimer 0 = .ok (.iload_n 1, 1) := by decide +kernel
theorem dX9_isTimer_1 : decode cX9_isTimer 1 = .ok (.i2l, 1) := by decide +kernel
theorem dX9_isTimer_2 : decode cX9_isTimer 2 = .ok (.lconst 0, 1) := by decide +kernel
theorem dX9_isTimer_3 : decode cX9_isTimer 3 = .ok (.ldc2_w 83, 3) := by decide +kernel
theorem dX9_isTimer_6 : decode cX9_isTimer 6 = .ok (.invokestatic 21, 3) := by decide +kernel
theorem dX9_isTimer_9 : decode cX9_isTimer 9 = .ok (.ifCond .eq 20, 3) := by decide +kernel
theorem dX9_isTimer_12 : decode cX9_isTimer 12 = .ok (.aload_n 0, 1) := by decide +kernel
theorem dX9_isTimer_13 : decode cX9_isTimer 13 = .ok (.sipush 215, 3) := by decide +kernel
theorem dX9_isTimer_16 : decode cX9_isTimer 16 = .ok (.iload_n 1, 1) := by decide +kernel
theorem dX9_isTimer_17 : decode cX9_isTimer 17 = .ok (.iadd, 1) := by decide +kernel
theorem dX9_isTimer_18 : decode cX9_isTimer 18 = .ok (.invokevirtual 85, 3) := by decide +kernel
theorem dX9_isTimer_21 : decode cX9_isTimer 21 = .ok (.iconst 1, 1) := by decide +kernel
theorem dX9_isTimer_22 : decode cX9_isTimer 22 = .ok (.if_icmp .ne 7, 3) := by decide +kernel
theorem dX9_isTimer_25 : decode cX9_isTimer 25 = .ok (.iconst 1, 1) := by decide +kernel
theorem dX9_isTimer_26 : decode cX9_isTimer 26 = .ok (.goto 4, 3) := by decide +kernel
theorem dX9_isTimer_29 : decode cX9_isTimer 29 = .ok (.iconst 0, 1) := by decide +kernel
theorem dX9_isTimer_30 : decode cX9_isTimer 30 = .ok (.ireturn, 1) := by decide +kernel
theorem dX9_goes_0 : decode cX9_goes 0 = .ok (.aload_n 0, 1) := by decide +kernel
theorem dX9_goes_1 : decode cX9_goes 1 = .ok (.iload_n 1, 1) := by decide +kernel
theorem dX9_goes_2 : decode cX9_goes 2 = .ok (.invokevirtual 89, 3) := by decide +kernel
theorem dX9_goes_5 : decode cX9_goes 5 = .ok (.ifCond .eq 19, 3) := by decide +kernel
theorem dX9_goes_8 : decode cX9_goes 8 = .ok (.aload_n 0, 1) := by decide +kernel
theorem dX9_goes_9 : decode cX9_goes 9 = .ok (.sipush 343, 3) := by decide +kernel
theorem dX9_goes_12 : decode cX9_goes 12 = .ok (.iload_n 1, 1) := by decide +kernel
theorem dX9_goes_13 : decode cX9_goes 13 = .ok (.iadd, 1) := by decide +kernel
theorem dX9_goes_14 : decode cX9_goes 14 = .ok (.invokevirtual 85, 3) := by decide +kernel
theorem dX9_goes_17 : decode cX9_goes 17 = .ok (.ifCond .ne 7, 3) := by decide +kernel
theorem dX9_goes_20 : decode cX9_goes 20 = .ok (.iconst 1, 1) := by decide +kernel
theorem dX9_goes_21 : decode cX9_goes 21 = .ok (.goto 4, 3) := by decide +kernel
theorem dX9_goes_24 : decode cX9_goes 24 = .ok (.iconst 0, 1) := by decide +kernel
theorem dX9_goes_25 : decode cX9_goes 25 = .ok (.ireturn, 1) := by decide +kernel
theorem dX9_span_0 : decode cX9_span 0 = .ok (.iconst 1, 1) := by decide +kernel
theorem dX9_span_1 : decode cX9_span 1 = .ok (.istore_n 2, 1) := by decide +kernel
theorem dX9_span_2 : decode cX9_span 2 = .ok (.iconst 0, 1) := by decide +kernel
theorem dX9_span_3 : decode cX9_span 3 = .ok (.istore_n 3, 1) := by decide +kernel
theorem dX9_span_4 : decode cX9_span 4 = .ok (.iload_n 3, 1) := by decide +kernel
theorem dX9_span_5 : decode cX9_span 5 = .ok (.iload_n 1, 1) := by decide +kernel
theorem dX9_span_6 : decode cX9_span 6 = .ok (.if_icmp .ge 19, 3) := by decide +kernel
theorem dX9_span_9 : decode cX9_span 9 = .ok (.iload_n 2, 1) := by decide +kernel
theorem dX9_span_10 : decode cX9_span 10 = .ok (.aload_n 0, 1) := by decide +kernel
theorem dX9_span_11 : decode cX9_span 11 = .ok (.iconst 1, 1) := by decide +kernel
theorem dX9_span_12 : decode cX9_span 12 = .ok (.iload_n 3, 1) := by decide +kernel
theorem dX9_span_13 : decode cX9_span 13 = .ok (.iadd, 1) := by decide +kernel
theorem dX9_span_14 : decode cX9_span 14 = .ok (.invokevirtual 85, 3) := by decide +kernel
theorem dX9_span_17 : decode cX9_span 17 = .ok (.imul, 1) := by decide +kernel
theorem dX9_span_18 : decode cX9_span 18 = .ok (.istore_n 2, 1) := by decide +kernel
theorem dX9_span_19 : decode cX9_span 19 = .ok (.iinc 3 1, 3) := by decide +kernel
theorem dX9_span_22 : decode cX9_span 22 = .ok (.goto (-18), 3) := by decide +kernel
theorem dX9_span_25 : decode cX9_span 25 = .ok (.iload_n 2, 1) := by decide +kernel
theorem dX9_span_26 : decode cX9_span 26 = .ok (.ireturn, 1) := by decide +kernel
theorem dX9_whole_0 : decode cX9_whole 0 = .ok (.aload_n 0, 1) := by decide +kernel
theorem dX9_whole_1 : decode cX9_whole 1 = .ok (.aload_n 0, 1) := by decide +kernel
theorem dX9_whole_2 : decode cX9_whole 2 = .ok (.iconst 0, 1) := by decide +kernel
theorem dX9_whole_3 : decode cX9_whole 3 = .ok (.invokevirtual 85, 3) := by decide +kernel
theorem dX9_whole_6 : decode cX9_whole 6 = .ok (.invokevirtual 93, 3) := by decide +kernel
theorem dX9_whole_9 : decode cX9_whole 9 = .ok (.ireturn, 1) := by decide +kernel
theorem dX9_levelFor_0 : decode cX9_levelFor 0 = .ok (.iconst 0, 1) := by decide +kernel
theorem dX9_levelFor_1 : decode cX9_levelFor 1 = .ok (.istore_n 2, 1) := by decide +kernel
theorem dX9_levelFor_2 : decode cX9_levelFor 2 = .ok (.iload_n 2, 1) := by decide +kernel
theorem dX9_levelFor_3 : decode cX9_levelFor 3 = .ok (.aload_n 0, 1) := by decide +kernel
theorem dX9_levelFor_4 : decode cX9_levelFor 4 = .ok (.iconst 0, 1) := by decide +kernel
theorem dX9_levelFor_5 : decode cX9_levelFor 5 = .ok (.invokevirtual 85, 3) := by decide +kernel
theorem dX9_levelFor_8 : decode cX9_levelFor 8 = .ok (.if_icmp .ge 22, 3) := by decide +kernel
theorem dX9_levelFor_11 : decode cX9_levelFor 11 = .ok (.aload_n 0, 1) := by decide +kernel
theorem dX9_levelFor_12 : decode cX9_levelFor 12 = .ok (.iload_n 2, 1) := by decide +kernel
theorem dX9_levelFor_13 : decode cX9_levelFor 13 = .ok (.iconst 1, 1) := by decide +kernel
theorem dX9_levelFor_14 : decode cX9_levelFor 14 = .ok (.iadd, 1) := by decide +kernel
theorem dX9_levelFor_15 : decode cX9_levelFor 15 = .ok (.invokevirtual 93, 3) := by decide +kernel
theorem dX9_levelFor_18 : decode cX9_levelFor 18 = .ok (.iload_n 1, 1) := by decide +kernel
theorem dX9_levelFor_19 : decode cX9_levelFor 19 = .ok (.if_icmp .le 5, 3) := by decide +kernel
theorem dX9_levelFor_22 : decode cX9_levelFor 22 = .ok (.iload_n 2, 1) := by decide +kernel
theorem dX9_levelFor_23 : decode cX9_levelFor 23 = .ok (.ireturn, 1) := by decide +kernel
theorem dX9_levelFor_24 : decode cX9_levelFor 24 = .ok (.iinc 2 1, 3) := by decide +kernel
theorem dX9_levelFor_27 : decode cX9_levelFor 27 = .ok (.goto (-25), 3) := by decide +kernel
theorem dX9_levelFor_30 : decode cX9_levelFor 30 = .ok (.iconst (-1), 1) := by decide +kernel
theorem dX9_levelFor_31 : decode cX9_levelFor 31 = .ok (.ireturn, 1) := by decide +kernel
theorem dX9_lays_0 : decode cX9_lays 0 = .ok (.aload_n 0, 1) := by decide +kernel
theorem dX9_lays_1 : decode cX9_lays 1 = .ok (.aload_n 0, 1) := by decide +kernel
theorem dX9_lays_2 : decode cX9_lays 2 = .ok (.sipush 231, 3) := by decide +kernel
theorem dX9_lays_5 : decode cX9_lays 5 = .ok (.iload_n 1, 1) := by decide +kernel
theorem dX9_lays_6 : decode cX9_lays 6 = .ok (.iadd, 1) := by decide +kernel
theorem dX9_lays_7 : decode cX9_lays 7 = .ok (.invokevirtual 85, 3) := by decide +kernel
theorem dX9_lays_10 : decode cX9_lays 10 = .ok (.aload_n 0, 1) := by decide +kernel
theorem dX9_lays_11 : decode cX9_lays 11 = .ok (.bipush 6, 2) := by decide +kernel
theorem dX9_lays_13 : decode cX9_lays 13 = .ok (.invokevirtual 85, 3) := by decide +kernel
theorem dX9_lays_16 : decode cX9_lays 16 = .ok (.isub, 1) := by decide +kernel
theorem dX9_lays_17 : decode cX9_lays 17 = .ok (.invokevirtual 96, 3) := by decide +kernel
theorem dX9_lays_20 : decode cX9_lays 20 = .ok (.istore_n 2, 1) := by decide +kernel
theorem dX9_lays_21 : decode cX9_lays 21 = .ok (.aload_n 0, 1) := by decide +kernel
theorem dX9_lays_22 : decode cX9_lays 22 = .ok (.sipush 391, 3) := by decide +kernel
theorem dX9_lays_25 : decode cX9_lays 25 = .ok (.iload_n 1, 1) := by decide +kernel
theorem dX9_lays_26 : decode cX9_lays 26 = .ok (.iadd, 1) := by decide +kernel
theorem dX9_lays_27 : decode cX9_lays 27 = .ok (.iload_n 2, 1) := by decide +kernel
theorem dX9_lays_28 : decode cX9_lays 28 = .ok (.invokevirtual 76, 3) := by decide +kernel
theorem dX9_lays_31 : decode cX9_lays 31 = .ok (.aload_n 0, 1) := by decide +kernel
theorem dX9_lays_32 : decode cX9_lays 32 = .ok (.sipush 407, 3) := by decide +kernel
theorem dX9_lays_35 : decode cX9_lays 35 = .ok (.iload_n 1, 1) := by decide +kernel
theorem dX9_lays_36 : decode cX9_lays 36 = .ok (.iadd, 1) := by decide +kernel
theorem dX9_lays_37 : decode cX9_lays 37 = .ok (.iload_n 2, 1) := by decide +kernel
theorem dX9_lays_38 : decode cX9_lays 38 = .ok (.ifCond .ge 7, 3) := by decide +kernel
theorem dX9_lays_41 : decode cX9_lays 41 = .ok (.iconst (-1), 1) := by decide +kernel
theorem dX9_lays_42 : decode cX9_lays 42 = .ok (.goto 26, 3) := by decide +kernel
theorem dX9_lays_45 : decode cX9_lays 45 = .ok (.aload_n 0, 1) := by decide +kernel
theorem dX9_lays_46 : decode cX9_lays 46 = .ok (.sipush 231, 3) := by decide +kernel
theorem dX9_lays_49 : decode cX9_lays 49 = .ok (.iload_n 1, 1) := by decide +kernel
theorem dX9_lays_50 : decode cX9_lays 50 = .ok (.iadd, 1) := by decide +kernel
theorem dX9_lays_51 : decode cX9_lays 51 = .ok (.invokevirtual 85, 3) := by decide +kernel
theorem dX9_lays_54 : decode cX9_lays 54 = .ok (.aload_n 0, 1) := by decide +kernel
theorem dX9_lays_55 : decode cX9_lays 55 = .ok (.iload_n 2, 1) := by decide +kernel
theorem dX9_lays_56 : decode cX9_lays 56 = .ok (.invokevirtual 93, 3) := by decide +kernel
theorem dX9_lays_59 : decode cX9_lays 59 = .ok (.idiv, 1) := by decide +kernel
theorem dX9_lays_60 : decode cX9_lays 60 = .ok (.aload_n 0, 1) := by decide +kernel
theorem dX9_lays_61 : decode cX9_lays 61 = .ok (.iconst 1, 1) := by decide +kernel
theorem dX9_lays_62 : decode cX9_lays 62 = .ok (.iload_n 2, 1) := by decide +kernel
theorem dX9_lays_63 : decode cX9_lays 63 = .ok (.iadd, 1) := by decide +kernel
theorem dX9_lays_64 : decode cX9_lays 64 = .ok (.invokevirtual 85, 3) := by decide +kernel
theorem dX9_lays_67 : decode cX9_lays 67 = .ok (.irem, 1) := by decide +kernel
theorem dX9_lays_68 : decode cX9_lays 68 = .ok (.invokevirtual 76, 3) := by decide +kernel
theorem dX9_lays_71 : decode cX9_lays 71 = .ok (.return_, 1) := by decide +kernel
theorem dX9_laysAll_0 : decode cX9_laysAll 0 = .ok (.iconst 0, 1) := by decide +kernel
theorem dX9_laysAll_1 : decode cX9_laysAll 1 = .ok (.istore_n 1, 1) := by decide +kernel
theorem dX9_laysAll_2 : decode cX9_laysAll 2 = .ok (.iload_n 1, 1) := by decide +kernel
theorem dX9_laysAll_3 : decode cX9_laysAll 3 = .ok (.bipush 16, 2) := by decide +kernel
theorem dX9_laysAll_5 : decode cX9_laysAll 5 = .ok (.if_icmp .ge 22, 3) := by decide +kernel
theorem dX9_laysAll_8 : decode cX9_laysAll 8 = .ok (.aload_n 0, 1) := by decide +kernel
theorem dX9_laysAll_9 : decode cX9_laysAll 9 = .ok (.iload_n 1, 1) := by decide +kernel
theorem dX9_laysAll_10 : decode cX9_laysAll 10 = .ok (.invokevirtual 99, 3) := by decide +kernel
theorem dX9_laysAll_13 : decode cX9_laysAll 13 = .ok (.ifCond .eq 8, 3) := by decide +kernel
theorem dX9_laysAll_16 : decode cX9_laysAll 16 = .ok (.aload_n 0, 1) := by decide +kernel
theorem dX9_laysAll_17 : decode cX9_laysAll 17 = .ok (.iload_n 1, 1) := by decide +kernel
theorem dX9_laysAll_18 : decode cX9_laysAll 18 = .ok (.invokevirtual 102, 3) := by decide +kernel
theorem dX9_laysAll_21 : decode cX9_laysAll 21 = .ok (.iinc 1 1, 3) := by decide +kernel
theorem dX9_laysAll_24 : decode cX9_laysAll 24 = .ok (.goto (-22), 3) := by decide +kernel
theorem dX9_laysAll_27 : decode cX9_laysAll 27 = .ok (.return_, 1) := by decide +kernel
theorem dX9_moves1_0 : decode cX9_moves1 0 = .ok (.aload_n 0, 1) := by decide +kernel
theorem dX9_moves1_1 : decode cX9_moves1 1 = .ok (.iload_n 1, 1) := by decide +kernel
theorem dX9_moves1_2 : decode cX9_moves1 2 = .ok (.invokevirtual 102, 3) := by decide +kernel
theorem dX9_moves1_5 : decode cX9_moves1 5 = .ok (.aload_n 0, 1) := by decide +kernel
theorem dX9_moves1_6 : decode cX9_moves1 6 = .ok (.bipush 8, 2) := by decide +kernel
theorem dX9_moves1_8 : decode cX9_moves1 8 = .ok (.iconst 1, 1) := by decide +kernel
theorem dX9_moves1_9 : decode cX9_moves1 9 = .ok (.invokevirtual 106, 3) := by decide +kernel
theorem dX9_moves1_12 : decode cX9_moves1 12 = .ok (.return_, 1) := by decide +kernel
theorem dX9_isAhead_0 : decode cX9_isAhead 0 = .ok (.aload_n 0, 1) := by decide +kernel
theorem dX9_isAhead_1 : decode cX9_isAhead 1 = .ok (.sipush 247, 3) := by decide +kernel
theorem dX9_isAhead_4 : decode cX9_isAhead 4 = .ok (.iload_n 1, 1) := by decide +kernel
theorem dX9_isAhead_5 : decode cX9_isAhead 5 = .ok (.iadd, 1) := by decide +kernel
theorem dX9_isAhead_6 : decode cX9_isAhead 6 = .ok (.invokevirtual 85, 3) := by decide +kernel
theorem dX9_isAhead_9 : decode cX9_isAhead 9 = .ok (.aload_n 0, 1) := by decide +kernel
theorem dX9_isAhead_10 : decode cX9_isAhead 10 = .ok (.sipush 247, 3) := by decide +kernel
theorem dX9_isAhead_13 : decode cX9_isAhead 13 = .ok (.iload_n 2, 1) := by decide +kernel
theorem dX9_isAhead_14 : decode cX9_isAhead 14 = .ok (.iadd, 1) := by decide +kernel
theorem dX9_isAhead_15 : decode cX9_isAhead 15 = .ok (.invokevirtual 85, 3) := by decide +kernel
theorem dX9_isAhead_18 : decode cX9_isAhead 18 = .ok (.if_icmp .ge 7, 3) := by decide +kernel
theorem dX9_isAhead_21 : decode cX9_isAhead 21 = .ok (.iconst 1, 1) := by decide +kernel
theorem dX9_isAhead_22 : decode cX9_isAhead 22 = .ok (.goto 4, 3) := by decide +kernel
theorem dX9_isAhead_25 : decode cX9_isAhead 25 = .ok (.iconst 0, 1) := by decide +kernel
theorem dX9_isAhead_26 : decode cX9_isAhead 26 = .ok (.istore_n 3, 1) := by decide +kernel
theorem dX9_isAhead_27 : decode cX9_isAhead 27 = .ok (.aload_n 0, 1) := by decide +kernel
theorem dX9_isAhead_28 : decode cX9_isAhead 28 = .ok (.iconst 5, 1) := by decide +kernel
theorem dX9_isAhead_29 : decode cX9_isAhead 29 = .ok (.invokevirtual 85, 3) := by decide +kernel
theorem dX9_isAhead_32 : decode cX9_isAhead 32 = .ok (.lookupswitch 82 #[(0, 28), (1, 30)], 28) := by decide +kernel
theorem dX9_isAhead_60 : decode cX9_isAhead 60 = .ok (.iload_n 3, 1) := by decide +kernel
theorem dX9_isAhead_61 : decode cX9_isAhead 61 = .ok (.ireturn, 1) := by decide +kernel
theorem dX9_isAhead_62 : decode cX9_isAhead 62 = .ok (.aload_n 0, 1) := by decide +kernel
theorem dX9_isAhead_63 : decode cX9_isAhead 63 = .ok (.sipush 263, 3) := by decide +kernel
theorem dX9_isAhead_66 : decode cX9_isAhead 66 = .ok (.iload_n 1, 1) := by decide +kernel
theorem dX9_isAhead_67 : decode cX9_isAhead 67 = .ok (.iadd, 1) := by decide +kernel
theorem dX9_isAhead_68 : decode cX9_isAhead 68 = .ok (.invokevirtual 85, 3) := by decide +kernel
theorem dX9_isAhead_71 : decode cX9_isAhead 71 = .ok (.aload_n 0, 1) := by decide +kernel
theorem dX9_isAhead_72 : decode cX9_isAhead 72 = .ok (.sipush 263, 3) := by decide +kernel
theorem dX9_isAhead_75 : decode cX9_isAhead 75 = .ok (.iload_n 2, 1) := by decide +kernel
theorem dX9_isAhead_76 : decode cX9_isAhead 76 = .ok (.iadd, 1) := by decide +kernel
theorem dX9_isAhead_77 : decode cX9_isAhead 77 = .ok (.invokevirtual 85, 3) := by decide +kernel
theorem dX9_isAhead_80 : decode cX9_isAhead 80 = .ok (.if_icmp .ne 7, 3) := by decide +kernel
theorem dX9_isAhead_83 : decode cX9_isAhead 83 = .ok (.iload_n 3, 1) := by decide +kernel
theorem dX9_isAhead_84 : decode cX9_isAhead 84 = .ok (.goto 29, 3) := by decide +kernel
theorem dX9_isAhead_87 : decode cX9_isAhead 87 = .ok (.aload_n 0, 1) := by decide +kernel
theorem dX9_isAhead_88 : decode cX9_isAhead 88 = .ok (.sipush 263, 3) := by decide +kernel
theorem dX9_isAhead_91 : decode cX9_isAhead 91 = .ok (.iload_n 1, 1) := by decide +kernel
theorem dX9_isAhead_92 : decode cX9_isAhead 92 = .ok (.iadd, 1) := by decide +kernel
theorem dX9_isAhead_93 : decode cX9_isAhead 93 = .ok (.invokevirtual 85, 3) := by decide +kernel
theorem dX9_isAhead_96 : decode cX9_isAhead 96 = .ok (.aload_n 0, 1) := by decide +kernel
theorem dX9_isAhead_97 : decode cX9_isAhead 97 = .ok (.sipush 263, 3) := by decide +kernel
theorem dX9_isAhead_100 : decode cX9_isAhead 100 = .ok (.iload_n 2, 1) := by decide +kernel
theorem dX9_isAhead_101 : decode cX9_isAhead 101 = .ok (.iadd, 1) := by decide +kernel
theorem dX9_isAhead_102 : decode cX9_isAhead 102 = .ok (.invokevirtual 85, 3) := by decide +kernel
theorem dX9_isAhead_105 : decode cX9_isAhead 105 = .ok (.if_icmp .ge 7, 3) := by decide +kernel
theorem dX9_isAhead_108 : decode cX9_isAhead 108 = .ok (.iconst 1, 1) := by decide +kernel
theorem dX9_isAhead_109 : decode cX9_isAhead 109 = .ok (.goto 4, 3) := by decide +kernel
theorem dX9_isAhead_112 : decode cX9_isAhead 112 = .ok (.iconst 0, 1) := by decide +kernel
theorem dX9_isAhead_113 : decode cX9_isAhead 113 = .ok (.ireturn, 1) := by decide +kernel
theorem dX9_isAhead_114 : decode cX9_isAhead 114 = .ok (.iload_n 3, 1) := by decide +kernel
theorem dX9_isAhead_115 : decode cX9_isAhead 115 = .ok (.ifCond .ne 7, 3) := by decide +kernel
theorem dX9_isAhead_118 : decode cX9_isAhead 118 = .ok (.iconst 1, 1) := by decide +kernel
theorem dX9_isAhead_119 : decode cX9_isAhead 119 = .ok (.goto 4, 3) := by decide +kernel
theorem dX9_isAhead_122 : decode cX9_isAhead 122 = .ok (.iconst 0, 1) := by decide +kernel
theorem dX9_isAhead_123 : decode cX9_isAhead 123 = .ok (.ireturn, 1) := by decide +kernel
theorem dX9_queues_0 : decode cX9_queues 0 = .ok (.aload_n 0, 1) := by decide +kernel
theorem dX9_queues_1 : decode cX9_queues 1 = .ok (.getfield 109, 3) := by decide +kernel
theorem dX9_queues_4 : decode cX9_queues 4 = .ok (.istore_n 3, 1) := by decide +kernel
theorem dX9_queues_5 : decode cX9_queues 5 = .ok (.iload_n 3, 1) := by decide +kernel
theorem dX9_queues_6 : decode cX9_queues 6 = .ok (.ifCond .le 40, 3) := by decide +kernel
theorem dX9_queues_9 : decode cX9_queues 9 = .ok (.aload_n 0, 1) := by decide +kernel
theorem dX9_queues_10 : decode cX9_queues 10 = .ok (.iload_n 1, 1) := by decide +kernel
theorem dX9_queues_11 : decode cX9_queues 11 = .ok (.aload_n 0, 1) := by decide +kernel
theorem dX9_queues_12 : decode cX9_queues 12 = .ok (.getfield 52, 3) := by decide +kernel
theorem dX9_queues_15 : decode cX9_queues 15 = .ok (.iload_n 3, 1) := by decide +kernel
theorem dX9_queues_16 : decode cX9_queues 16 = .ok (.iconst 1, 1) := by decide +kernel
theorem dX9_queues_17 : decode cX9_queues 17 = .ok (.isub, 1) := by decide +kernel
theorem dX9_queues_18 : decode cX9_queues 18 = .ok (.iaload, 1) := by decide +kernel
theorem dX9_queues_19 : decode cX9_queues 19 = .ok (.iload_n 2, 1) := by decide +kernel
theorem dX9_queues_20 : decode cX9_queues 20 = .ok (.invokevirtual 112, 3) := by decide +kernel
theorem dX9_queues_23 : decode cX9_queues 23 = .ok (.ifCond .eq 23, 3) := by decide +kernel
theorem dX9_queues_26 : decode cX9_queues 26 = .ok (.aload_n 0, 1) := by decide +kernel
theorem dX9_queues_27 : decode cX9_queues 27 = .ok (.getfield 52, 3) := by decide +kernel
theorem dX9_queues_30 : decode cX9_queues 30 = .ok (.iload_n 3, 1) := by decide +kernel
theorem dX9_queues_31 : decode cX9_queues 31 = .ok (.aload_n 0, 1) := by decide +kernel
theorem dX9_queues_32 : decode cX9_queues 32 = .ok (.getfield 52, 3) := by decide +kernel
theorem dX9_queues_35 : decode cX9_queues 35 = .ok (.iload_n 3, 1) := by decide +kernel
theorem dX9_queues_36 : decode cX9_queues 36 = .ok (.iconst 1, 1) := by decide +kernel
theorem dX9_queues_37 : decode cX9_queues 37 = .ok (.isub, 1) := by decide +kernel
theorem dX9_queues_38 : decode cX9_queues 38 = .ok (.iaload, 1) := by decide +kernel
theorem dX9_queues_39 : decode cX9_queues 39 = .ok (.iastore, 1) := by decide +kernel
theorem dX9_queues_40 : decode cX9_queues 40 = .ok (.iinc 3 (-1), 3) := by decide +kernel
theorem dX9_queues_43 : decode cX9_queues 43 = .ok (.goto (-38), 3) := by decide +kernel
theorem dX9_queues_46 : decode cX9_queues 46 = .ok (.aload_n 0, 1) := by decide +kernel
theorem dX9_queues_47 : decode cX9_queues 47 = .ok (.getfield 52, 3) := by decide +kernel
theorem dX9_queues_50 : decode cX9_queues 50 = .ok (.iload_n 3, 1) := by decide +kernel
theorem dX9_queues_51 : decode cX9_queues 51 = .ok (.iload_n 1, 1) := by decide +kernel
theorem dX9_queues_52 : decode cX9_queues 52 = .ok (.iastore, 1) := by decide +kernel
theorem dX9_queues_53 : decode cX9_queues 53 = .ok (.aload_n 0, 1) := by decide +kernel
theorem dX9_queues_54 : decode cX9_queues 54 = .ok (.dup, 1) := by decide +kernel
theorem dX9_queues_55 : decode cX9_queues 55 = .ok (.getfield 109, 3) := by decide +kernel
theorem dX9_queues_58 : decode cX9_queues 58 = .ok (.iconst 1, 1) := by decide +kernel
theorem dX9_queues_59 : decode cX9_queues 59 = .ok (.iadd, 1) := by decide +kernel
theorem dX9_queues_60 : decode cX9_queues 60 = .ok (.putfield 109, 3) := by decide +kernel
theorem dX9_queues_63 : decode cX9_queues 63 = .ok (.return_, 1) := by decide +kernel
theorem dX9_isSooner_0 : decode cX9_isSooner 0 = .ok (.iload_n 3, 1) := by decide +kernel
theorem dX9_isSooner_1 : decode cX9_isSooner 1 = .ok (.ifCond .eq 51, 3) := by decide +kernel
theorem dX9_isSooner_4 : decode cX9_isSooner 4 = .ok (.aload_n 0, 1) := by decide +kernel
theorem dX9_isSooner_5 : decode cX9_isSooner 5 = .ok (.sipush 231, 3) := by decide +kernel
theorem dX9_isSooner_8 : decode cX9_isSooner 8 = .ok (.iload_n 1, 1) := by decide +kernel
theorem dX9_isSooner_9 : decode cX9_isSooner 9 = .ok (.iadd, 1) := by decide +kernel
theorem dX9_isSooner_10 : decode cX9_isSooner 10 = .ok (.invokevirtual 85, 3) := by decide +kernel
theorem dX9_isSooner_13 : decode cX9_isSooner 13 = .ok (.aload_n 0, 1) := by decide +kernel
theorem dX9_isSooner_14 : decode cX9_isSooner 14 = .ok (.sipush 231, 3) := by decide +kernel
theorem dX9_isSooner_17 : decode cX9_isSooner 17 = .ok (.iload_n 2, 1) := by decide +kernel
theorem dX9_isSooner_18 : decode cX9_isSooner 18 = .ok (.iadd, 1) := by decide +kernel
theorem dX9_isSooner_19 : decode cX9_isSooner 19 = .ok (.invokevirtual 85, 3) := by decide +kernel
theorem dX9_isSooner_22 : decode cX9_isSooner 22 = .ok (.if_icmp .eq 30, 3) := by decide +kernel
theorem dX9_isSooner_25 : decode cX9_isSooner 25 = .ok (.aload_n 0, 1) := by decide +kernel
theorem dX9_isSooner_26 : decode cX9_isSooner 26 = .ok (.sipush 231, 3) := by decide +kernel
theorem dX9_isSooner_29 : decode cX9_isSooner 29 = .ok (.iload_n 1, 1) := by decide +kernel
theorem dX9_isSooner_30 : decode cX9_isSooner 30 = .ok (.iadd, 1) := by decide +kernel
theorem dX9_isSooner_31 : decode cX9_isSooner 31 = .ok (.invokevirtual 85, 3) := by decide +kernel
theorem dX9_isSooner_34 : decode cX9_isSooner 34 = .ok (.aload_n 0, 1) := by decide +kernel
theorem dX9_isSooner_35 : decode cX9_isSooner 35 = .ok (.sipush 231, 3) := by decide +kernel
theorem dX9_isSooner_38 : decode cX9_isSooner 38 = .ok (.iload_n 2, 1) := by decide +kernel
theorem dX9_isSooner_39 : decode cX9_isSooner 39 = .ok (.iadd, 1) := by decide +kernel
theorem dX9_isSooner_40 : decode cX9_isSooner 40 = .ok (.invokevirtual 85, 3) := by decide +kernel
theorem dX9_isSooner_43 : decode cX9_isSooner 43 = .ok (.if_icmp .ge 7, 3) := by decide +kernel
theorem dX9_isSooner_46 : decode cX9_isSooner 46 = .ok (.iconst 1, 1) := by decide +kernel
theorem dX9_isSooner_47 : decode cX9_isSooner 47 = .ok (.goto 4, 3) := by decide +kernel
theorem dX9_isSooner_50 : decode cX9_isSooner 50 = .ok (.iconst 0, 1) := by decide +kernel
theorem dX9_isSooner_51 : decode cX9_isSooner 51 = .ok (.ireturn, 1) := by decide +kernel
theorem dX9_isSooner_52 : decode cX9_isSooner 52 = .ok (.aload_n 0, 1) := by decide +kernel
theorem dX9_isSooner_53 : decode cX9_isSooner 53 = .ok (.iload_n 1, 1) := by decide +kernel
theorem dX9_isSooner_54 : decode cX9_isSooner 54 = .ok (.iload_n 2, 1) := by decide +kernel
theorem dX9_isSooner_55 : decode cX9_isSooner 55 = .ok (.invokevirtual 116, 3) := by decide +kernel
theorem dX9_isSooner_58 : decode cX9_isSooner 58 = .ok (.ireturn, 1) := by decide +kernel
theorem dX9_keepsRung_0 : decode cX9_keepsRung 0 = .ok (.aload_n 0, 1) := by decide +kernel
theorem dX9_keepsRung_1 : decode cX9_keepsRung 1 = .ok (.bipush 14, 2) := by decide +kernel
theorem dX9_keepsRung_3 : decode cX9_keepsRung 3 = .ok (.invokevirtual 85, 3) := by decide +kernel
theorem dX9_keepsRung_6 : decode cX9_keepsRung 6 = .ok (.bipush 40, 2) := by decide +kernel
theorem dX9_keepsRung_8 : decode cX9_keepsRung 8 = .ok (.if_icmp .ne 43, 3) := by decide +kernel
theorem dX9_keepsRung_11 : decode cX9_keepsRung 11 = .ok (.iconst 0, 1) := by decide +kernel
theorem dX9_keepsRung_12 : decode cX9_keepsRung 12 = .ok (.istore_n 2, 1) := by decide +kernel
theorem dX9_keepsRung_13 : decode cX9_keepsRung 13 = .ok (.iload_n 2, 1) := by decide +kernel
theorem dX9_keepsRung_14 : decode cX9_keepsRung 14 = .ok (.sipush 195, 3) := by decide +kernel
theorem dX9_keepsRung_17 : decode cX9_keepsRung 17 = .ok (.if_icmp .ge 27, 3) := by decide +kernel
theorem dX9_keepsRung_20 : decode cX9_keepsRung 20 = .ok (.aload_n 0, 1) := by decide +kernel
theorem dX9_keepsRung_21 : decode cX9_keepsRung 21 = .ok (.bipush 15, 2) := by decide +kernel
theorem dX9_keepsRung_23 : decode cX9_keepsRung 23 = .ok (.iload_n 2, 1) := by decide +kernel
theorem dX9_keepsRung_24 : decode cX9_keepsRung 24 = .ok (.iadd, 1) := by decide +kernel
theorem dX9_keepsRung_25 : decode cX9_keepsRung 25 = .ok (.aload_n 0, 1) := by decide +kernel
theorem dX9_keepsRung_26 : decode cX9_keepsRung 26 = .ok (.bipush 15, 2) := by decide +kernel
theorem dX9_keepsRung_28 : decode cX9_keepsRung 28 = .ok (.iload_n 2, 1) := by decide +kernel
theorem dX9_keepsRung_29 : decode cX9_keepsRung 29 = .ok (.iadd, 1) := by decide +kernel
theorem dX9_keepsRung_30 : decode cX9_keepsRung 30 = .ok (.iconst 5, 1) := by decide +kernel
theorem dX9_keepsRung_31 : decode cX9_keepsRung 31 = .ok (.iadd, 1) := by decide +kernel
theorem dX9_keepsRung_32 : decode cX9_keepsRung 32 = .ok (.invokevirtual 85, 3) := by decide +kernel
theorem dX9_keepsRung_35 : decode cX9_keepsRung 35 = .ok (.invokevirtual 76, 3) := by decide +kernel
theorem dX9_keepsRung_38 : decode cX9_keepsRung 38 = .ok (.iinc 2 1, 3) := by decide +kernel
theorem dX9_keepsRung_41 : decode cX9_keepsRung 41 = .ok (.goto (-28), 3) := by decide +kernel
theorem dX9_keepsRung_44 : decode cX9_keepsRung 44 = .ok (.aload_n 0, 1) := by decide +kernel
theorem dX9_keepsRung_45 : decode cX9_keepsRung 45 = .ok (.bipush 14, 2) := by decide +kernel
theorem dX9_keepsRung_47 : decode cX9_keepsRung 47 = .ok (.iconst (-1), 1) := by decide +kernel
theorem dX9_keepsRung_48 : decode cX9_keepsRung 48 = .ok (.invokevirtual 106, 3) := by decide +kernel
theorem dX9_keepsRung_51 : decode cX9_keepsRung 51 = .ok (.bipush 15, 2) := by decide +kernel
theorem dX9_keepsRung_53 : decode cX9_keepsRung 53 = .ok (.iconst 5, 1) := by decide +kernel
theorem dX9_keepsRung_54 : decode cX9_keepsRung 54 = .ok (.aload_n 0, 1) := by decide +kernel
theorem dX9_keepsRung_55 : decode cX9_keepsRung 55 = .ok (.bipush 14, 2) := by decide +kernel
theorem dX9_keepsRung_57 : decode cX9_keepsRung 57 = .ok (.invokevirtual 85, 3) := by decide +kernel
theorem dX9_keepsRung_60 : decode cX9_keepsRung 60 = .ok (.imul, 1) := by decide +kernel
theorem dX9_keepsRung_61 : decode cX9_keepsRung 61 = .ok (.iadd, 1) := by decide +kernel
theorem dX9_keepsRung_62 : decode cX9_keepsRung 62 = .ok (.istore_n 2, 1) := by decide +kernel
theorem dX9_keepsRung_63 : decode cX9_keepsRung 63 = .ok (.aload_n 0, 1) := by decide +kernel
theorem dX9_keepsRung_64 : decode cX9_keepsRung 64 = .ok (.iload_n 2, 1) := by decide +kernel
theorem dX9_keepsRung_65 : decode cX9_keepsRung 65 = .ok (.iload_n 1, 1) := by decide +kernel
theorem dX9_keepsRung_66 : decode cX9_keepsRung 66 = .ok (.invokevirtual 76, 3) := by decide +kernel
theorem dX9_keepsRung_69 : decode cX9_keepsRung 69 = .ok (.aload_n 0, 1) := by decide +kernel
theorem dX9_keepsRung_70 : decode cX9_keepsRung 70 = .ok (.iload_n 2, 1) := by decide +kernel
theorem dX9_keepsRung_71 : decode cX9_keepsRung 71 = .ok (.iconst 1, 1) := by decide +kernel
theorem dX9_keepsRung_72 : decode cX9_keepsRung 72 = .ok (.iadd, 1) := by decide +kernel
theorem dX9_keepsRung_73 : decode cX9_keepsRung 73 = .ok (.aload_n 0, 1) := by decide +kernel
theorem dX9_keepsRung_74 : decode cX9_keepsRung 74 = .ok (.bipush 6, 2) := by decide +kernel
theorem dX9_keepsRung_76 : decode cX9_keepsRung 76 = .ok (.invokevirtual 85, 3) := by decide +kernel
theorem dX9_keepsRung_79 : decode cX9_keepsRung 79 = .ok (.invokevirtual 76, 3) := by decide +kernel
theorem dX9_keepsRung_82 : decode cX9_keepsRung 82 = .ok (.aload_n 0, 1) := by decide +kernel
theorem dX9_keepsRung_83 : decode cX9_keepsRung 83 = .ok (.iload_n 2, 1) := by decide +kernel
theorem dX9_keepsRung_84 : decode cX9_keepsRung 84 = .ok (.iconst 2, 1) := by decide +kernel
theorem dX9_keepsRung_85 : decode cX9_keepsRung 85 = .ok (.iadd, 1) := by decide +kernel
theorem dX9_keepsRung_86 : decode cX9_keepsRung 86 = .ok (.aload_n 0, 1) := by decide +kernel
theorem dX9_keepsRung_87 : decode cX9_keepsRung 87 = .ok (.sipush 231, 3) := by decide +kernel
theorem dX9_keepsRung_90 : decode cX9_keepsRung 90 = .ok (.iload_n 1, 1) := by decide +kernel
theorem dX9_keepsRung_91 : decode cX9_keepsRung 91 = .ok (.iadd, 1) := by decide +kernel
theorem dX9_keepsRung_92 : decode cX9_keepsRung 92 = .ok (.invokevirtual 85, 3) := by decide +kernel
theorem dX9_keepsRung_95 : decode cX9_keepsRung 95 = .ok (.invokevirtual 76, 3) := by decide +kernel
theorem dX9_keepsRung_98 : decode cX9_keepsRung 98 = .ok (.aload_n 0, 1) := by decide +kernel
theorem dX9_keepsRung_99 : decode cX9_keepsRung 99 = .ok (.iload_n 2, 1) := by decide +kernel
theorem dX9_keepsRung_100 : decode cX9_keepsRung 100 = .ok (.iconst 3, 1) := by decide +kernel
theorem dX9_keepsRung_101 : decode cX9_keepsRung 101 = .ok (.iadd, 1) := by decide +kernel
theorem dX9_keepsRung_102 : decode cX9_keepsRung 102 = .ok (.aload_n 0, 1) := by decide +kernel
theorem dX9_keepsRung_103 : decode cX9_keepsRung 103 = .ok (.sipush 263, 3) := by decide +kernel
theorem dX9_keepsRung_106 : decode cX9_keepsRung 106 = .ok (.iload_n 1, 1) := by decide +kernel
theorem dX9_keepsRung_107 : decode cX9_keepsRung 107 = .ok (.iadd, 1) := by decide +kernel
theorem dX9_keepsRung_108 : decode cX9_keepsRung 108 = .ok (.invokevirtual 85, 3) := by decide +kernel
theorem dX9_keepsRung_111 : decode cX9_keepsRung 111 = .ok (.invokevirtual 76, 3) := by decide +kernel
theorem dX9_keepsRung_114 : decode cX9_keepsRung 114 = .ok (.aload_n 0, 1) := by decide +kernel
theorem dX9_keepsRung_115 : decode cX9_keepsRung 115 = .ok (.iload_n 2, 1) := by decide +kernel
theorem dX9_keepsRung_116 : decode cX9_keepsRung 116 = .ok (.iconst 4, 1) := by decide +kernel
theorem dX9_keepsRung_117 : decode cX9_keepsRung 117 = .ok (.iadd, 1) := by decide +kernel
theorem dX9_keepsRung_118 : decode cX9_keepsRung 118 = .ok (.aload_n 0, 1) := by decide +kernel
theorem dX9_keepsRung_119 : decode cX9_keepsRung 119 = .ok (.sipush 375, 3) := by decide +kernel
theorem dX9_keepsRung_122 : decode cX9_keepsRung 122 = .ok (.iload_n 1, 1) := by decide +kernel
theorem dX9_keepsRung_123 : decode cX9_keepsRung 123 = .ok (.iadd, 1) := by decide +kernel
theorem dX9_keepsRung_124 : decode cX9_keepsRung 124 = .ok (.invokevirtual 85, 3) := by decide +kernel
theorem dX9_keepsRung_127 : decode cX9_keepsRung 127 = .ok (.invokevirtual 76, 3) := by decide +kernel
theorem dX9_keepsRung_130 : decode cX9_keepsRung 130 = .ok (.aload_n 0, 1) := by decide +kernel
theorem dX9_keepsRung_131 : decode cX9_keepsRung 131 = .ok (.bipush 14, 2) := by decide +kernel
theorem dX9_keepsRung_133 : decode cX9_keepsRung 133 = .ok (.iconst 1, 1) := by decide +kernel
theorem dX9_keepsRung_134 : decode cX9_keepsRung 134 = .ok (.invokevirtual 106, 3) := by decide +kernel
theorem dX9_keepsRung_137 : decode cX9_keepsRung 137 = .ok (.return_, 1) := by decide +kernel
theorem dX9_comesAgain_0 : decode cX9_comesAgain 0 = .ok (.aload_n 0, 1) := by decide +kernel
theorem dX9_comesAgain_1 : decode cX9_comesAgain 1 = .ok (.sipush 279, 3) := by decide +kernel
theorem dX9_comesAgain_4 : decode cX9_comesAgain 4 = .ok (.iload_n 1, 1) := by decide +kernel
theorem dX9_comesAgain_5 : decode cX9_comesAgain 5 = .ok (.iadd, 1) := by decide +kernel
theorem dX9_comesAgain_6 : decode cX9_comesAgain 6 = .ok (.invokevirtual 85, 3) := by decide +kernel
theorem dX9_comesAgain_9 : decode cX9_comesAgain 9 = .ok (.istore_n 2, 1) := by decide +kernel
theorem dX9_comesAgain_10 : decode cX9_comesAgain 10 = .ok (.aload_n 0, 1) := by decide +kernel
theorem dX9_comesAgain_11 : decode cX9_comesAgain 11 = .ok (.sipush 311, 3) := by decide +kernel
theorem dX9_comesAgain_14 : decode cX9_comesAgain 14 = .ok (.iload_n 1, 1) := by decide +kernel
theorem dX9_comesAgain_15 : decode cX9_comesAgain 15 = .ok (.iadd, 1) := by decide +kernel
theorem dX9_comesAgain_16 : decode cX9_comesAgain 16 = .ok (.invokevirtual 85, 3) := by decide +kernel
theorem dX9_comesAgain_19 : decode cX9_comesAgain 19 = .ok (.iconst 1, 1) := by decide +kernel
theorem dX9_comesAgain_20 : decode cX9_comesAgain 20 = .ok (.if_icmp .eq 7, 3) := by decide +kernel
theorem dX9_comesAgain_23 : decode cX9_comesAgain 23 = .ok (.iload_n 2, 1) := by decide +kernel
theorem dX9_comesAgain_24 : decode cX9_comesAgain 24 = .ok (.ifCond .ne 14, 3) := by decide +kernel
theorem dX9_comesAgain_27 : decode cX9_comesAgain 27 = .ok (.aload_n 0, 1) := by decide +kernel
theorem dX9_comesAgain_28 : decode cX9_comesAgain 28 = .ok (.sipush 215, 3) := by decide +kernel
theorem dX9_comesAgain_31 : decode cX9_comesAgain 31 = .ok (.iload_n 1, 1) := by decide +kernel
theorem dX9_comesAgain_32 : decode cX9_comesAgain 32 = .ok (.iadd, 1) := by decide +kernel
theorem dX9_comesAgain_33 : decode cX9_comesAgain 33 = .ok (.iconst 0, 1) := by decide +kernel
theorem dX9_comesAgain_34 : decode cX9_comesAgain 34 = .ok (.invokevirtual 76, 3) := by decide +kernel
theorem dX9_comesAgain_37 : decode cX9_comesAgain 37 = .ok (.return_, 1) := by decide +kernel
theorem dX9_comesAgain_38 : decode cX9_comesAgain 38 = .ok (.aload_n 0, 1) := by decide +kernel
theorem dX9_comesAgain_39 : decode cX9_comesAgain 39 = .ok (.sipush 311, 3) := by decide +kernel
theorem dX9_comesAgain_42 : decode cX9_comesAgain 42 = .ok (.iload_n 1, 1) := by decide +kernel
theorem dX9_comesAgain_43 : decode cX9_comesAgain 43 = .ok (.iadd, 1) := by decide +kernel
theorem dX9_comesAgain_44 : decode cX9_comesAgain 44 = .ok (.invokevirtual 85, 3) := by decide +kernel
theorem dX9_comesAgain_47 : decode cX9_comesAgain 47 = .ok (.ifCond .le 13, 3) := by decide +kernel
theorem dX9_comesAgain_50 : decode cX9_comesAgain 50 = .ok (.aload_n 0, 1) := by decide +kernel
theorem dX9_comesAgain_51 : decode cX9_comesAgain 51 = .ok (.sipush 311, 3) := by decide +kernel
theorem dX9_comesAgain_54 : decode cX9_comesAgain 54 = .ok (.iload_n 1, 1) := by decide +kernel
theorem dX9_comesAgain_55 : decode cX9_comesAgain 55 = .ok (.iadd, 1) := by decide +kernel
theorem dX9_comesAgain_56 : decode cX9_comesAgain 56 = .ok (.iconst (-1), 1) := by decide +kernel
theorem dX9_comesAgain_57 : decode cX9_comesAgain 57 = .ok (.invokevirtual 106, 3) := by decide +kernel
theorem dX9_comesAgain_60 : decode cX9_comesAgain 60 = .ok (.iload_n 2, 1) := by decide +kernel
theorem dX9_comesAgain_61 : decode cX9_comesAgain 61 = .ok (.iconst 1, 1) := by decide +kernel
theorem dX9_comesAgain_62 : decode cX9_comesAgain 62 = .ok (.if_icmp .ne 64, 3) := by decide +kernel
theorem dX9_comesAgain_65 : decode cX9_comesAgain 65 = .ok (.aload_n 0, 1) := by decide +kernel
theorem dX9_comesAgain_66 : decode cX9_comesAgain 66 = .ok (.bipush 6, 2) := by decide +kernel
theorem dX9_comesAgain_68 : decode cX9_comesAgain 68 = .ok (.invokevirtual 85, 3) := by decide +kernel
theorem dX9_comesAgain_71 : decode cX9_comesAgain 71 = .ok (.aload_n 0, 1) := by decide +kernel
theorem dX9_comesAgain_72 : decode cX9_comesAgain 72 = .ok (.sipush 231, 3) := by decide +kernel
theorem dX9_comesAgain_75 : decode cX9_comesAgain 75 = .ok (.iload_n 1, 1) := by decide +kernel
theorem dX9_comesAgain_76 : decode cX9_comesAgain 76 = .ok (.iadd, 1) := by decide +kernel
theorem dX9_comesAgain_77 : decode cX9_comesAgain 77 = .ok (.invokevirtual 85, 3) := by decide +kernel
theorem dX9_comesAgain_80 : decode cX9_comesAgain 80 = .ok (.isub, 1) := by decide +kernel
theorem dX9_comesAgain_81 : decode cX9_comesAgain 81 = .ok (.aload_n 0, 1) := by decide +kernel
theorem dX9_comesAgain_82 : decode cX9_comesAgain 82 = .ok (.sipush 295, 3) := by decide +kernel
theorem dX9_comesAgain_85 : decode cX9_comesAgain 85 = .ok (.iload_n 1, 1) := by decide +kernel
theorem dX9_comesAgain_86 : decode cX9_comesAgain 86 = .ok (.iadd, 1) := by decide +kernel
theorem dX9_comesAgain_87 : decode cX9_comesAgain 87 = .ok (.invokevirtual 85, 3) := by decide +kernel
theorem dX9_comesAgain_90 : decode cX9_comesAgain 90 = .ok (.idiv, 1) := by decide +kernel
theorem dX9_comesAgain_91 : decode cX9_comesAgain 91 = .ok (.iconst 1, 1) := by decide +kernel
theorem dX9_comesAgain_92 : decode cX9_comesAgain 92 = .ok (.iadd, 1) := by decide +kernel
theorem dX9_comesAgain_93 : decode cX9_comesAgain 93 = .ok (.istore_n 3, 1) := by decide +kernel
theorem dX9_comesAgain_94 : decode cX9_comesAgain 94 = .ok (.aload_n 0, 1) := by decide +kernel
theorem dX9_comesAgain_95 : decode cX9_comesAgain 95 = .ok (.sipush 231, 3) := by decide +kernel
theorem dX9_comesAgain_98 : decode cX9_comesAgain 98 = .ok (.iload_n 1, 1) := by decide +kernel
theorem dX9_comesAgain_99 : decode cX9_comesAgain 99 = .ok (.iadd, 1) := by decide +kernel
theorem dX9_comesAgain_100 : decode cX9_comesAgain 100 = .ok (.iload_n 3, 1) := by decide +kernel
theorem dX9_comesAgain_101 : decode cX9_comesAgain 101 = .ok (.aload_n 0, 1) := by decide +kernel
theorem dX9_comesAgain_102 : decode cX9_comesAgain 102 = .ok (.sipush 295, 3) := by decide +kernel
theorem dX9_comesAgain_105 : decode cX9_comesAgain 105 = .ok (.iload_n 1, 1) := by decide +kernel
theorem dX9_comesAgain_106 : decode cX9_comesAgain 106 = .ok (.iadd, 1) := by decide +kernel
theorem dX9_comesAgain_107 : decode cX9_comesAgain 107 = .ok (.invokevirtual 85, 3) := by decide +kernel
theorem dX9_comesAgain_110 : decode cX9_comesAgain 110 = .ok (.imul, 1) := by decide +kernel
theorem dX9_comesAgain_111 : decode cX9_comesAgain 111 = .ok (.invokevirtual 106, 3) := by decide +kernel
theorem dX9_comesAgain_114 : decode cX9_comesAgain 114 = .ok (.aload_n 0, 1) := by decide +kernel
theorem dX9_comesAgain_115 : decode cX9_comesAgain 115 = .ok (.bipush 9, 2) := by decide +kernel
theorem dX9_comesAgain_117 : decode cX9_comesAgain 117 = .ok (.iload_n 3, 1) := by decide +kernel
theorem dX9_comesAgain_118 : decode cX9_comesAgain 118 = .ok (.iconst 1, 1) := by decide +kernel
theorem dX9_comesAgain_119 : decode cX9_comesAgain 119 = .ok (.isub, 1) := by decide +kernel
theorem dX9_comesAgain_120 : decode cX9_comesAgain 120 = .ok (.invokevirtual 106, 3) := by decide +kernel
theorem dX9_comesAgain_123 : decode cX9_comesAgain 123 = .ok (.goto 71, 3) := by decide +kernel
theorem dX9_comesAgain_126 : decode cX9_comesAgain 126 = .ok (.aload_n 0, 1) := by decide +kernel
theorem dX9_comesAgain_127 : decode cX9_comesAgain 127 = .ok (.sipush 295, 3) := by decide +kernel
theorem dX9_comesAgain_130 : decode cX9_comesAgain 130 = .ok (.iload_n 1, 1) := by decide +kernel
theorem dX9_comesAgain_131 : decode cX9_comesAgain 131 = .ok (.iadd, 1) := by decide +kernel
theorem dX9_comesAgain_132 : decode cX9_comesAgain 132 = .ok (.iload_n 2, 1) := by decide +kernel
theorem dX9_comesAgain_133 : decode cX9_comesAgain 133 = .ok (.iconst 3, 1) := by decide +kernel
theorem dX9_comesAgain_134 : decode cX9_comesAgain 134 = .ok (.if_icmp .ne 23, 3) := by decide +kernel
theorem dX9_comesAgain_137 : decode cX9_comesAgain 137 = .ok (.sipush 1000, 3) := by decide +kernel
theorem dX9_comesAgain_140 : decode cX9_comesAgain 140 = .ok (.iconst 2, 1) := by decide +kernel
theorem dX9_comesAgain_141 : decode cX9_comesAgain 141 = .ok (.aload_n 0, 1) := by decide +kernel
theorem dX9_comesAgain_142 : decode cX9_comesAgain 142 = .ok (.sipush 295, 3) := by decide +kernel
theorem dX9_comesAgain_145 : decode cX9_comesAgain 145 = .ok (.iload_n 1, 1) := by decide +kernel
theorem dX9_comesAgain_146 : decode cX9_comesAgain 146 = .ok (.iadd, 1) := by decide +kernel
theorem dX9_comesAgain_147 : decode cX9_comesAgain 147 = .ok (.invokevirtual 85, 3) := by decide +kernel
theorem dX9_comesAgain_150 : decode cX9_comesAgain 150 = .ok (.imul, 1) := by decide +kernel
theorem dX9_comesAgain_151 : decode cX9_comesAgain 151 = .ok (.invokestatic 120, 3) := by decide +kernel
theorem dX9_comesAgain_154 : decode cX9_comesAgain 154 = .ok (.goto 12, 3) := by decide +kernel
theorem dX9_comesAgain_157 : decode cX9_comesAgain 157 = .ok (.aload_n 0, 1) := by decide +kernel
theorem dX9_comesAgain_158 : decode cX9_comesAgain 158 = .ok (.sipush 295, 3) := by decide +kernel
theorem dX9_comesAgain_161 : decode cX9_comesAgain 161 = .ok (.iload_n 1, 1) := by decide +kernel
theorem dX9_comesAgain_162 : decode cX9_comesAgain 162 = .ok (.iadd, 1) := by decide +kernel
theorem dX9_comesAgain_163 : decode cX9_comesAgain 163 = .ok (.invokevirtual 85, 3) := by decide +kernel
theorem dX9_comesAgain_166 : decode cX9_comesAgain 166 = .ok (.invokevirtual 76, 3) := by decide +kernel
theorem dX9_comesAgain_169 : decode cX9_comesAgain 169 = .ok (.aload_n 0, 1) := by decide +kernel
theorem dX9_comesAgain_170 : decode cX9_comesAgain 170 = .ok (.sipush 231, 3) := by decide +kernel
theorem dX9_comesAgain_173 : decode cX9_comesAgain 173 = .ok (.iload_n 1, 1) := by decide +kernel
theorem dX9_comesAgain_174 : decode cX9_comesAgain 174 = .ok (.iadd, 1) := by decide +kernel
theorem dX9_comesAgain_175 : decode cX9_comesAgain 175 = .ok (.aload_n 0, 1) := by decide +kernel
theorem dX9_comesAgain_176 : decode cX9_comesAgain 176 = .ok (.bipush 6, 2) := by decide +kernel
theorem dX9_comesAgain_178 : decode cX9_comesAgain 178 = .ok (.invokevirtual 85, 3) := by decide +kernel
theorem dX9_comesAgain_181 : decode cX9_comesAgain 181 = .ok (.aload_n 0, 1) := by decide +kernel
theorem dX9_comesAgain_182 : decode cX9_comesAgain 182 = .ok (.sipush 295, 3) := by decide +kernel
theorem dX9_comesAgain_185 : decode cX9_comesAgain 185 = .ok (.iload_n 1, 1) := by decide +kernel
theorem dX9_comesAgain_186 : decode cX9_comesAgain 186 = .ok (.iadd, 1) := by decide +kernel
theorem dX9_comesAgain_187 : decode cX9_comesAgain 187 = .ok (.invokevirtual 85, 3) := by decide +kernel
theorem dX9_comesAgain_190 : decode cX9_comesAgain 190 = .ok (.iadd, 1) := by decide +kernel
theorem dX9_comesAgain_191 : decode cX9_comesAgain 191 = .ok (.invokevirtual 76, 3) := by decide +kernel
theorem dX9_comesAgain_194 : decode cX9_comesAgain 194 = .ok (.aload_n 0, 1) := by decide +kernel
theorem dX9_comesAgain_195 : decode cX9_comesAgain 195 = .ok (.iload_n 1, 1) := by decide +kernel
theorem dX9_comesAgain_196 : decode cX9_comesAgain 196 = .ok (.invokevirtual 102, 3) := by decide +kernel
theorem dX9_comesAgain_199 : decode cX9_comesAgain 199 = .ok (.return_, 1) := by decide +kernel
theorem dX9_ringsAll_0 : decode cX9_ringsAll 0 = .ok (.iconst 0, 1) := by decide +kernel
theorem dX9_ringsAll_1 : decode cX9_ringsAll 1 = .ok (.istore_n 2, 1) := by decide +kernel
theorem dX9_ringsAll_2 : decode cX9_ringsAll 2 = .ok (.iload_n 2, 1) := by decide +kernel
theorem dX9_ringsAll_3 : decode cX9_ringsAll 3 = .ok (.aload_n 0, 1) := by decide +kernel
theorem dX9_ringsAll_4 : decode cX9_ringsAll 4 = .ok (.getfield 109, 3) := by decide +kernel
theorem dX9_ringsAll_7 : decode cX9_ringsAll 7 = .ok (.if_icmp .ge 89, 3) := by decide +kernel
theorem dX9_ringsAll_10 : decode cX9_ringsAll 10 = .ok (.aload_n 0, 1) := by decide +kernel
theorem dX9_ringsAll_11 : decode cX9_ringsAll 11 = .ok (.getfield 52, 3) := by decide +kernel
theorem dX9_ringsAll_14 : decode cX9_ringsAll 14 = .ok (.iload_n 2, 1) := by decide +kernel
theorem dX9_ringsAll_15 : decode cX9_ringsAll 15 = .ok (.iaload, 1) := by decide +kernel
theorem dX9_ringsAll_16 : decode cX9_ringsAll 16 = .ok (.istore_n 3, 1) := by decide +kernel
theorem dX9_ringsAll_17 : decode cX9_ringsAll 17 = .ok (.aload_n 0, 1) := by decide +kernel
theorem dX9_ringsAll_18 : decode cX9_ringsAll 18 = .ok (.sipush 375, 3) := by decide +kernel
theorem dX9_ringsAll_21 : decode cX9_ringsAll 21 = .ok (.iload_n 3, 1) := by decide +kernel
theorem dX9_ringsAll_22 : decode cX9_ringsAll 22 = .ok (.iadd, 1) := by decide +kernel
theorem dX9_ringsAll_23 : decode cX9_ringsAll 23 = .ok (.iconst 1, 1) := by decide +kernel
theorem dX9_ringsAll_24 : decode cX9_ringsAll 24 = .ok (.invokevirtual 106, 3) := by decide +kernel
theorem dX9_ringsAll_27 : decode cX9_ringsAll 27 = .ok (.aload_n 0, 1) := by decide +kernel
theorem dX9_ringsAll_28 : decode cX9_ringsAll 28 = .ok (.bipush 7, 2) := by decide +kernel
theorem dX9_ringsAll_30 : decode cX9_ringsAll 30 = .ok (.iconst 1, 1) := by decide +kernel
theorem dX9_ringsAll_31 : decode cX9_ringsAll 31 = .ok (.invokevirtual 106, 3) := by decide +kernel
theorem dX9_ringsAll_34 : decode cX9_ringsAll 34 = .ok (.aload_n 0, 1) := by decide +kernel
theorem dX9_ringsAll_35 : decode cX9_ringsAll 35 = .ok (.iload_n 3, 1) := by decide +kernel
theorem dX9_ringsAll_36 : decode cX9_ringsAll 36 = .ok (.invokevirtual 126, 3) := by decide +kernel
theorem dX9_ringsAll_39 : decode cX9_ringsAll 39 = .ok (.aload_n 0, 1) := by decide +kernel
theorem dX9_ringsAll_40 : decode cX9_ringsAll 40 = .ok (.getfield 55, 3) := by decide +kernel
theorem dX9_ringsAll_43 : decode cX9_ringsAll 43 = .ok (.aload_n 0, 1) := by decide +kernel
theorem dX9_ringsAll_44 : decode cX9_ringsAll 44 = .ok (.getfield 129, 3) := by decide +kernel
theorem dX9_ringsAll_47 : decode cX9_ringsAll 47 = .ok (.iload_n 3, 1) := by decide +kernel
theorem dX9_ringsAll_48 : decode cX9_ringsAll 48 = .ok (.iastore, 1) := by decide +kernel
theorem dX9_ringsAll_49 : decode cX9_ringsAll 49 = .ok (.aload_n 0, 1) := by decide +kernel
theorem dX9_ringsAll_50 : decode cX9_ringsAll 50 = .ok (.getfield 58, 3) := by decide +kernel
theorem dX9_ringsAll_53 : decode cX9_ringsAll 53 = .ok (.aload_n 0, 1) := by decide +kernel
theorem dX9_ringsAll_54 : decode cX9_ringsAll 54 = .ok (.getfield 129, 3) := by decide +kernel
theorem dX9_ringsAll_57 : decode cX9_ringsAll 57 = .ok (.iload_n 1, 1) := by decide +kernel
theorem dX9_ringsAll_58 : decode cX9_ringsAll 58 = .ok (.ifCond .eq 15, 3) := by decide +kernel
theorem dX9_ringsAll_61 : decode cX9_ringsAll 61 = .ok (.aload_n 0, 1) := by decide +kernel
theorem dX9_ringsAll_62 : decode cX9_ringsAll 62 = .ok (.sipush 231, 3) := by decide +kernel
theorem dX9_ringsAll_65 : decode cX9_ringsAll 65 = .ok (.iload_n 3, 1) := by decide +kernel
theorem dX9_ringsAll_66 : decode cX9_ringsAll 66 = .ok (.iadd, 1) := by decide +kernel
theorem dX9_ringsAll_67 : decode cX9_ringsAll 67 = .ok (.invokevirtual 85, 3) := by decide +kernel
theorem dX9_ringsAll_70 : decode cX9_ringsAll 70 = .ok (.goto 9, 3) := by decide +kernel
theorem dX9_ringsAll_73 : decode cX9_ringsAll 73 = .ok (.aload_n 0, 1) := by decide +kernel
theorem dX9_ringsAll_74 : decode cX9_ringsAll 74 = .ok (.bipush 6, 2) := by decide +kernel
theorem dX9_ringsAll_76 : decode cX9_ringsAll 76 = .ok (.invokevirtual 85, 3) := by decide +kernel
theorem dX9_ringsAll_79 : decode cX9_ringsAll 79 = .ok (.iastore, 1) := by decide +kernel
theorem dX9_ringsAll_80 : decode cX9_ringsAll 80 = .ok (.aload_n 0, 1) := by decide +kernel
theorem dX9_ringsAll_81 : decode cX9_ringsAll 81 = .ok (.dup, 1) := by decide +kernel
theorem dX9_ringsAll_82 : decode cX9_ringsAll 82 = .ok (.getfield 129, 3) := by decide +kernel
theorem dX9_ringsAll_85 : decode cX9_ringsAll 85 = .ok (.iconst 1, 1) := by decide +kernel
theorem dX9_ringsAll_86 : decode cX9_ringsAll 86 = .ok (.iadd, 1) := by decide +kernel
theorem dX9_ringsAll_87 : decode cX9_ringsAll 87 = .ok (.putfield 129, 3) := by decide +kernel
theorem dX9_ringsAll_90 : decode cX9_ringsAll 90 = .ok (.iinc 2 1, 3) := by decide +kernel
theorem dX9_ringsAll_93 : decode cX9_ringsAll 93 = .ok (.goto (-91), 3) := by decide +kernel
theorem dX9_ringsAll_96 : decode cX9_ringsAll 96 = .ok (.iconst 0, 1) := by decide +kernel
theorem dX9_ringsAll_97 : decode cX9_ringsAll 97 = .ok (.istore_n 2, 1) := by decide +kernel
theorem dX9_ringsAll_98 : decode cX9_ringsAll 98 = .ok (.iload_n 2, 1) := by decide +kernel
theorem dX9_ringsAll_99 : decode cX9_ringsAll 99 = .ok (.aload_n 0, 1) := by decide +kernel
theorem dX9_ringsAll_100 : decode cX9_ringsAll 100 = .ok (.getfield 109, 3) := by decide +kernel
theorem dX9_ringsAll_103 : decode cX9_ringsAll 103 = .ok (.if_icmp .ge 19, 3) := by decide +kernel
theorem dX9_ringsAll_106 : decode cX9_ringsAll 106 = .ok (.aload_n 0, 1) := by decide +kernel
theorem dX9_ringsAll_107 : decode cX9_ringsAll 107 = .ok (.aload_n 0, 1) := by decide +kernel
theorem dX9_ringsAll_108 : decode cX9_ringsAll 108 = .ok (.getfield 52, 3) := by decide +kernel
theorem dX9_ringsAll_111 : decode cX9_ringsAll 111 = .ok (.iload_n 2, 1) := by decide +kernel
theorem dX9_ringsAll_112 : decode cX9_ringsAll 112 = .ok (.iaload, 1) := by decide +kernel
theorem dX9_ringsAll_113 : decode cX9_ringsAll 113 = .ok (.invokevirtual 132, 3) := by decide +kernel
theorem dX9_ringsAll_116 : decode cX9_ringsAll 116 = .ok (.iinc 2 1, 3) := by decide +kernel
theorem dX9_ringsAll_119 : decode cX9_ringsAll 119 = .ok (.goto (-21), 3) := by decide +kernel
theorem dX9_ringsAll_122 : decode cX9_ringsAll 122 = .ok (.return_, 1) := by decide +kernel
theorem dX9_tick_0 : decode cX9_tick 0 = .ok (.aload_n 0, 1) := by decide +kernel
theorem dX9_tick_1 : decode cX9_tick 1 = .ok (.bipush 6, 2) := by decide +kernel
theorem dX9_tick_3 : decode cX9_tick 3 = .ok (.iconst 1, 1) := by decide +kernel
theorem dX9_tick_4 : decode cX9_tick 4 = .ok (.invokevirtual 106, 3) := by decide +kernel
theorem dX9_tick_7 : decode cX9_tick 7 = .ok (.aload_n 0, 1) := by decide +kernel
theorem dX9_tick_8 : decode cX9_tick 8 = .ok (.bipush 6, 2) := by decide +kernel
theorem dX9_tick_10 : decode cX9_tick 10 = .ok (.invokevirtual 85, 3) := by decide +kernel
theorem dX9_tick_13 : decode cX9_tick 13 = .ok (.istore_n 1, 1) := by decide +kernel
theorem dX9_tick_14 : decode cX9_tick 14 = .ok (.iload_n 1, 1) := by decide +kernel
theorem dX9_tick_15 : decode cX9_tick 15 = .ok (.aload_n 0, 1) := by decide +kernel
theorem dX9_tick_16 : decode cX9_tick 16 = .ok (.invokevirtual 135, 3) := by decide +kernel
theorem dX9_tick_19 : decode cX9_tick 19 = .ok (.irem, 1) := by decide +kernel
theorem dX9_tick_20 : decode cX9_tick 20 = .ok (.ifCond .ne 61, 3) := by decide +kernel
theorem dX9_tick_23 : decode cX9_tick 23 = .ok (.iconst 0, 1) := by decide +kernel
theorem dX9_tick_24 : decode cX9_tick 24 = .ok (.istore_n 2, 1) := by decide +kernel
theorem dX9_tick_25 : decode cX9_tick 25 = .ok (.iload_n 2, 1) := by decide +kernel
theorem dX9_tick_26 : decode cX9_tick 26 = .ok (.bipush 16, 2) := by decide +kernel
theorem dX9_tick_28 : decode cX9_tick 28 = .ok (.if_icmp .ge 53, 3) := by decide +kernel
theorem dX9_tick_31 : decode cX9_tick 31 = .ok (.aload_n 0, 1) := by decide +kernel
theorem dX9_tick_32 : decode cX9_tick 32 = .ok (.iload_n 2, 1) := by decide +kernel
theorem dX9_tick_33 : decode cX9_tick 33 = .ok (.invokevirtual 99, 3) := by decide +kernel
theorem dX9_tick_36 : decode cX9_tick 36 = .ok (.ifCond .eq 39, 3) := by decide +kernel
theorem dX9_tick_39 : decode cX9_tick 39 = .ok (.aload_n 0, 1) := by decide +kernel
theorem dX9_tick_40 : decode cX9_tick 40 = .ok (.sipush 391, 3) := by decide +kernel
theorem dX9_tick_43 : decode cX9_tick 43 = .ok (.iload_n 2, 1) := by decide +kernel
theorem dX9_tick_44 : decode cX9_tick 44 = .ok (.iadd, 1) := by decide +kernel
theorem dX9_tick_45 : decode cX9_tick 45 = .ok (.invokevirtual 85, 3) := by decide +kernel
theorem dX9_tick_48 : decode cX9_tick 48 = .ok (.iconst (-1), 1) := by decide +kernel
theorem dX9_tick_49 : decode cX9_tick 49 = .ok (.if_icmp .ne 26, 3) := by decide +kernel
theorem dX9_tick_52 : decode cX9_tick 52 = .ok (.aload_n 0, 1) := by decide +kernel
theorem dX9_tick_53 : decode cX9_tick 53 = .ok (.sipush 231, 3) := by decide +kernel
theorem dX9_tick_56 : decode cX9_tick 56 = .ok (.iload_n 2, 1) := by decide +kernel
theorem dX9_tick_57 : decode cX9_tick 57 = .ok (.iadd, 1) := by decide +kernel
theorem dX9_tick_58 : decode cX9_tick 58 = .ok (.invokevirtual 85, 3) := by decide +kernel
theorem dX9_tick_61 : decode cX9_tick 61 = .ok (.iload_n 1, 1) := by decide +kernel
theorem dX9_tick_62 : decode cX9_tick 62 = .ok (.isub, 1) := by decide +kernel
theorem dX9_tick_63 : decode cX9_tick 63 = .ok (.aload_n 0, 1) := by decide +kernel
theorem dX9_tick_64 : decode cX9_tick 64 = .ok (.invokevirtual 135, 3) := by decide +kernel
theorem dX9_tick_67 : decode cX9_tick 67 = .ok (.if_icmp .ge 8, 3) := by decide +kernel
theorem dX9_tick_70 : decode cX9_tick 70 = .ok (.aload_n 0, 1) := by decide +kernel
theorem dX9_tick_71 : decode cX9_tick 71 = .ok (.iload_n 2, 1) := by decide +kernel
theorem dX9_tick_72 : decode cX9_tick 72 = .ok (.invokevirtual 139, 3) := by decide +kernel
theorem dX9_tick_75 : decode cX9_tick 75 = .ok (.iinc 2 1, 3) := by decide +kernel
theorem dX9_tick_78 : decode cX9_tick 78 = .ok (.goto (-53), 3) := by decide +kernel
theorem dX9_tick_81 : decode cX9_tick 81 = .ok (.aload_n 0, 1) := by decide +kernel
theorem dX9_tick_82 : decode cX9_tick 82 = .ok (.iconst 0, 1) := by decide +kernel
theorem dX9_tick_83 : decode cX9_tick 83 = .ok (.invokevirtual 85, 3) := by decide +kernel
theorem dX9_tick_86 : decode cX9_tick 86 = .ok (.iconst 1, 1) := by decide +kernel
theorem dX9_tick_87 : decode cX9_tick 87 = .ok (.isub, 1) := by decide +kernel
theorem dX9_tick_88 : decode cX9_tick 88 = .ok (.istore_n 2, 1) := by decide +kernel
theorem dX9_tick_89 : decode cX9_tick 89 = .ok (.iload_n 2, 1) := by decide +kernel
theorem dX9_tick_90 : decode cX9_tick 90 = .ok (.ifCond .le 94, 3) := by decide +kernel
theorem dX9_tick_93 : decode cX9_tick 93 = .ok (.iload_n 1, 1) := by decide +kernel
theorem dX9_tick_94 : decode cX9_tick 94 = .ok (.aload_n 0, 1) := by decide +kernel
theorem dX9_tick_95 : decode cX9_tick 95 = .ok (.iload_n 2, 1) := by decide +kernel
theorem dX9_tick_96 : decode cX9_tick 96 = .ok (.invokevirtual 93, 3) := by decide +kernel
theorem dX9_tick_99 : decode cX9_tick 99 = .ok (.irem, 1) := by decide +kernel
theorem dX9_tick_100 : decode cX9_tick 100 = .ok (.ifCond .ne 78, 3) := by decide +kernel
theorem dX9_tick_103 : decode cX9_tick 103 = .ok (.iload_n 1, 1) := by decide +kernel
theorem dX9_tick_104 : decode cX9_tick 104 = .ok (.aload_n 0, 1) := by decide +kernel
theorem dX9_tick_105 : decode cX9_tick 105 = .ok (.iload_n 2, 1) := by decide +kernel
theorem dX9_tick_106 : decode cX9_tick 106 = .ok (.invokevirtual 93, 3) := by decide +kernel
theorem dX9_tick_109 : decode cX9_tick 109 = .ok (.idiv, 1) := by decide +kernel
theorem dX9_tick_110 : decode cX9_tick 110 = .ok (.aload_n 0, 1) := by decide +kernel
theorem dX9_tick_111 : decode cX9_tick 111 = .ok (.iconst 1, 1) := by decide +kernel
theorem dX9_tick_112 : decode cX9_tick 112 = .ok (.iload_n 2, 1) := by decide +kernel
theorem dX9_tick_113 : decode cX9_tick 113 = .ok (.iadd, 1) := by decide +kernel
theorem dX9_tick_114 : decode cX9_tick 114 = .ok (.invokevirtual 85, 3) := by decide +kernel
theorem dX9_tick_117 : decode cX9_tick 117 = .ok (.irem, 1) := by decide +kernel
theorem dX9_tick_118 : decode cX9_tick 118 = .ok (.istore_n 3, 1) := by decide +kernel
theorem dX9_tick_119 : decode cX9_tick 119 = .ok (.iconst 0, 1) := by decide +kernel
theorem dX9_tick_120 : decode cX9_tick 120 = .ok (.istore 4, 2) := by decide +kernel
theorem dX9_tick_122 : decode cX9_tick 122 = .ok (.iload 4, 2) := by decide +kernel
theorem dX9_tick_124 : decode cX9_tick 124 = .ok (.bipush 16, 2) := by decide +kernel
theorem dX9_tick_126 : decode cX9_tick 126 = .ok (.if_icmp .ge 52, 3) := by decide +kernel
theorem dX9_tick_129 : decode cX9_tick 129 = .ok (.aload_n 0, 1) := by decide +kernel
theorem dX9_tick_130 : decode cX9_tick 130 = .ok (.iload 4, 2) := by decide +kernel
theorem dX9_tick_132 : decode cX9_tick 132 = .ok (.invokevirtual 99, 3) := by decide +kernel
theorem dX9_tick_135 : decode cX9_tick 135 = .ok (.ifCond .eq 37, 3) := by decide +kernel
theorem dX9_tick_138 : decode cX9_tick 138 = .ok (.aload_n 0, 1) := by decide +kernel
theorem dX9_tick_139 : decode cX9_tick 139 = .ok (.sipush 391, 3) := by decide +kernel
theorem dX9_tick_142 : decode cX9_tick 142 = .ok (.iload 4, 2) := by decide +kernel
theorem dX9_tick_144 : decode cX9_tick 144 = .ok (.iadd, 1) := by decide +kernel
theorem dX9_tick_145 : decode cX9_tick 145 = .ok (.invokevirtual 85, 3) := by decide +kernel
theorem dX9_tick_148 : decode cX9_tick 148 = .ok (.iload_n 2, 1) := by decide +kernel
theorem dX9_tick_149 : decode cX9_tick 149 = .ok (.if_icmp .ne 23, 3) := by decide +kernel
theorem dX9_tick_152 : decode cX9_tick 152 = .ok (.aload_n 0, 1) := by decide +kernel
theorem dX9_tick_153 : decode cX9_tick 153 = .ok (.sipush 407, 3) := by decide +kernel
theorem dX9_tick_156 : decode cX9_tick 156 = .ok (.iload 4, 2) := by decide +kernel
theorem dX9_tick_158 : decode cX9_tick 158 = .ok (.iadd, 1) := by decide +kernel
theorem dX9_tick_159 : decode cX9_tick 159 = .ok (.invokevirtual 85, 3) := by decide +kernel
theorem dX9_tick_162 : decode cX9_tick 162 = .ok (.iload_n 3, 1) := by decide +kernel
theorem dX9_tick_163 : decode cX9_tick 163 = .ok (.if_icmp .ne 9, 3) := by decide +kernel
theorem dX9_tick_166 : decode cX9_tick 166 = .ok (.aload_n 0, 1) := by decide +kernel
theorem dX9_tick_167 : decode cX9_tick 167 = .ok (.iload 4, 2) := by decide +kernel
theorem dX9_tick_169 : decode cX9_tick 169 = .ok (.invokevirtual 139, 3) := by decide +kernel
theorem dX9_tick_172 : decode cX9_tick 172 = .ok (.iinc 4 1, 3) := by decide +kernel
theorem dX9_tick_175 : decode cX9_tick 175 = .ok (.goto (-53), 3) := by decide +kernel
theorem dX9_tick_178 : decode cX9_tick 178 = .ok (.iinc 2 (-1), 3) := by decide +kernel
theorem dX9_tick_181 : decode cX9_tick 181 = .ok (.goto (-92), 3) := by decide +kernel
theorem dX9_tick_184 : decode cX9_tick 184 = .ok (.aload_n 0, 1) := by decide +kernel
theorem dX9_tick_185 : decode cX9_tick 185 = .ok (.iconst 0, 1) := by decide +kernel
theorem dX9_tick_186 : decode cX9_tick 186 = .ok (.putfield 109, 3) := by decide +kernel
theorem dX9_tick_189 : decode cX9_tick 189 = .ok (.iconst 0, 1) := by decide +kernel
theorem dX9_tick_190 : decode cX9_tick 190 = .ok (.istore_n 2, 1) := by decide +kernel
theorem dX9_tick_191 : decode cX9_tick 191 = .ok (.iload_n 2, 1) := by decide +kernel
theorem dX9_tick_192 : decode cX9_tick 192 = .ok (.bipush 16, 2) := by decide +kernel
theorem dX9_tick_194 : decode cX9_tick 194 = .ok (.if_icmp .ge 54, 3) := by decide +kernel
theorem dX9_tick_197 : decode cX9_tick 197 = .ok (.aload_n 0, 1) := by decide +kernel
theorem dX9_tick_198 : decode cX9_tick 198 = .ok (.iload_n 2, 1) := by decide +kernel
theorem dX9_tick_199 : decode cX9_tick 199 = .ok (.invokevirtual 99, 3) := by decide +kernel
theorem dX9_tick_202 : decode cX9_tick 202 = .ok (.ifCond .eq 40, 3) := by decide +kernel
theorem dX9_tick_205 : decode cX9_tick 205 = .ok (.aload_n 0, 1) := by decide +kernel
theorem dX9_tick_206 : decode cX9_tick 206 = .ok (.sipush 391, 3) := by decide +kernel
theorem dX9_tick_209 : decode cX9_tick 209 = .ok (.iload_n 2, 1) := by decide +kernel
theorem dX9_tick_210 : decode cX9_tick 210 = .ok (.iadd, 1) := by decide +kernel
theorem dX9_tick_211 : decode cX9_tick 211 = .ok (.invokevirtual 85, 3) := by decide +kernel
theorem dX9_tick_214 : decode cX9_tick 214 = .ok (.ifCond .ne 28, 3) := by decide +kernel
theorem dX9_tick_217 : decode cX9_tick 217 = .ok (.aload_n 0, 1) := by decide +kernel
theorem dX9_tick_218 : decode cX9_tick 218 = .ok (.sipush 407, 3) := by decide +kernel
theorem dX9_tick_221 : decode cX9_tick 221 = .ok (.iload_n 2, 1) := by decide +kernel
theorem dX9_tick_222 : decode cX9_tick 222 = .ok (.iadd, 1) := by decide +kernel
theorem dX9_tick_223 : decode cX9_tick 223 = .ok (.invokevirtual 85, 3) := by decide +kernel
theorem dX9_tick_226 : decode cX9_tick 226 = .ok (.iload_n 1, 1) := by decide +kernel
theorem dX9_tick_227 : decode cX9_tick 227 = .ok (.aload_n 0, 1) := by decide +kernel
theorem dX9_tick_228 : decode cX9_tick 228 = .ok (.iconst 1, 1) := by decide +kernel
theorem dX9_tick_229 : decode cX9_tick 229 = .ok (.invokevirtual 85, 3) := by decide +kernel
theorem dX9_tick_232 : decode cX9_tick 232 = .ok (.irem, 1) := by decide +kernel
theorem dX9_tick_233 : decode cX9_tick 233 = .ok (.if_icmp .ne 9, 3) := by decide +kernel
theorem dX9_tick_236 : decode cX9_tick 236 = .ok (.aload_n 0, 1) := by decide +kernel
theorem dX9_tick_237 : decode cX9_tick 237 = .ok (.iload_n 2, 1) := by decide +kernel
theorem dX9_tick_238 : decode cX9_tick 238 = .ok (.iconst 0, 1) := by decide +kernel
theorem dX9_tick_239 : decode cX9_tick 239 = .ok (.invokevirtual 142, 3) := by decide +kernel
theorem dX9_tick_242 : decode cX9_tick 242 = .ok (.iinc 2 1, 3) := by decide +kernel
theorem dX9_tick_245 : decode cX9_tick 245 = .ok (.goto (-54), 3) := by decide +kernel
theorem dX9_tick_248 : decode cX9_tick 248 = .ok (.aload_n 0, 1) := by decide +kernel
theorem dX9_tick_249 : decode cX9_tick 249 = .ok (.iconst 0, 1) := by decide +kernel
theorem dX9_tick_250 : decode cX9_tick 250 = .ok (.invokevirtual 146, 3) := by decide +kernel
theorem dX9_tick_253 : decode cX9_tick 253 = .ok (.return_, 1) := by decide +kernel
theorem dX9_tellsLatest_0 : decode cX9_tellsLatest 0 = .ok (.aload_n 0, 1) := by decide +kernel
theorem dX9_tellsLatest_1 : decode cX9_tellsLatest 1 = .ok (.iconst 0, 1) := by decide +kernel
theorem dX9_tellsLatest_2 : decode cX9_tellsLatest 2 = .ok (.putfield 11, 3) := by decide +kernel
theorem dX9_tellsLatest_5 : decode cX9_tellsLatest 5 = .ok (.iconst 0, 1) := by decide +kernel
theorem dX9_tellsLatest_6 : decode cX9_tellsLatest 6 = .ok (.aload_n 0, 1) := by decide +kernel
theorem dX9_tellsLatest_7 : decode cX9_tellsLatest 7 = .ok (.getfield 129, 3) := by decide +kernel
theorem dX9_tellsLatest_10 : decode cX9_tellsLatest 10 = .ok (.bipush 20, 2) := by decide +kernel
theorem dX9_tellsLatest_12 : decode cX9_tellsLatest 12 = .ok (.isub, 1) := by decide +kernel
theorem dX9_tellsLatest_13 : decode cX9_tellsLatest 13 = .ok (.invokestatic 150, 3) := by decide +kernel
theorem dX9_tellsLatest_16 : decode cX9_tellsLatest 16 = .ok (.istore_n 1, 1) := by decide +kernel
theorem dX9_tellsLatest_17 : decode cX9_tellsLatest 17 = .ok (.iload_n 1, 1) := by decide +kernel
theorem dX9_tellsLatest_18 : decode cX9_tellsLatest 18 = .ok (.aload_n 0, 1) := by decide +kernel
theorem dX9_tellsLatest_19 : decode cX9_tellsLatest 19 = .ok (.getfield 129, 3) := by decide +kernel
