theorem dX8_cancelsAll_7 : decode cX8_cancelsAll 7 = .ok (.iconst (-1), 1) := by decide +kernel
theorem dX8_cancelsAll_8 : decode cX8_cancelsAll 8 = .ok (.ireturn, 1) := by decide +kernel
theorem dX8_cancelsAll_9 : decode cX8_cancelsAll 9 = .ok (.iconst 0, 1) := by decide +kernel
theorem dX8_cancelsAll_10 : decode cX8_cancelsAll 10 = .ok (.istore_n 2, 1) := by decide +kernel
theorem dX8_cancelsAll_11 : decode cX8_cancelsAll 11 = .ok (.iconst 0, 1) := by decide +kernel
theorem dX8_cancelsAll_12 : decode cX8_cancelsAll 12 = .ok (.istore_n 3, 1) := by decide +kernel
theorem dX8_cancelsAll_13 : decode cX8_cancelsAll 13 = .ok (.iload_n 3, 1) := by decide +kernel
theorem dX8_cancelsAll_14 : decode cX8_cancelsAll 14 = .ok (.bipush 16, 2) := by decide +kernel
theorem dX8_cancelsAll_16 : decode cX8_cancelsAll 16 = .ok (.if_icmp .ge 42, 3) := by decide +kernel
theorem dX8_cancelsAll_19 : decode cX8_cancelsAll 19 = .ok (.aload_n 0, 1) := by decide +kernel
theorem dX8_cancelsAll_20 : decode cX8_cancelsAll 20 = .ok (.getfield 10, 3) := by decide +kernel
theorem dX8_cancelsAll_23 : decode cX8_cancelsAll 23 = .ok (.iload_n 3, 1) := by decide +kernel
theorem dX8_cancelsAll_24 : decode cX8_cancelsAll 24 = .ok (.invokevirtual 154, 3) := by decide +kernel
theorem dX8_cancelsAll_27 : decode cX8_cancelsAll 27 = .ok (.astore 4, 2) := by decide +kernel
theorem dX8_cancelsAll_29 : decode cX8_cancelsAll 29 = .ok (.aload 4, 2) := by decide +kernel
theorem dX8_cancelsAll_31 : decode cX8_cancelsAll 31 = .ok (.ifnull 21, 3) := by decide +kernel
theorem dX8_cancelsAll_34 : decode cX8_cancelsAll 34 = .ok (.aload 4, 2) := by decide +kernel
theorem dX8_cancelsAll_36 : decode cX8_cancelsAll 36 = .ok (.getfield 135, 3) := by decide +kernel
theorem dX8_cancelsAll_39 : decode cX8_cancelsAll 39 = .ok (.iload_n 1, 1) := by decide +kernel
theorem dX8_cancelsAll_40 : decode cX8_cancelsAll 40 = .ok (.if_icmp .ne 12, 3) := by decide +kernel
theorem dX8_cancelsAll_43 : decode cX8_cancelsAll 43 = .ok (.aload 4, 2) := by decide +kernel
theorem dX8_cancelsAll_45 : decode cX8_cancelsAll 45 = .ok (.iconst 0, 1) := by decide +kernel
theorem dX8_cancelsAll_46 : decode cX8_cancelsAll 46 = .ok (.putfield 158, 3) := by decide +kernel
theorem dX8_cancelsAll_49 : decode cX8_cancelsAll 49 = .ok (.iinc 2 1, 3) := by decide +kernel
theorem dX8_cancelsAll_52 : decode cX8_cancelsAll 52 = .ok (.iinc 3 1, 3) := by decide +kernel
theorem dX8_cancelsAll_55 : decode cX8_cancelsAll 55 = .ok (.goto (-42), 3) := by decide +kernel
theorem dX8_cancelsAll_58 : decode cX8_cancelsAll 58 = .ok (.aload_n 0, 1) := by decide +kernel
theorem dX8_cancelsAll_59 : decode cX8_cancelsAll 59 = .ok (.dup, 1) := by decide +kernel
theorem dX8_cancelsAll_60 : decode cX8_cancelsAll 60 = .ok (.getfield 162, 3) := by decide +kernel
theorem dX8_cancelsAll_63 : decode cX8_cancelsAll 63 = .ok (.iload_n 2, 1) := by decide +kernel
theorem dX8_cancelsAll_64 : decode cX8_cancelsAll 64 = .ok (.iadd, 1) := by decide +kernel
theorem dX8_cancelsAll_65 : decode cX8_cancelsAll 65 = .ok (.putfield 162, 3) := by decide +kernel
theorem dX8_cancelsAll_68 : decode cX8_cancelsAll 68 = .ok (.iload_n 2, 1) := by decide +kernel
theorem dX8_cancelsAll_69 : decode cX8_cancelsAll 69 = .ok (.ireturn, 1) := by decide +kernel
theorem dX8_steady_0 : decode cX8_steady 0 = .ok (.aload_n 0, 1) := by decide +kernel
theorem dX8_steady_1 : decode cX8_steady 1 = .ok (.getfield 10, 3) := by decide +kernel
theorem dX8_steady_4 : decode cX8_steady 4 = .ok (.iload_n 1, 1) := by decide +kernel
theorem dX8_steady_5 : decode cX8_steady 5 = .ok (.invokevirtual 154, 3) := by decide +kernel
theorem dX8_steady_8 : decode cX8_steady 8 = .ok (.astore_n 3, 1) := by decide +kernel
theorem dX8_steady_9 : decode cX8_steady 9 = .ok (.aload_n 3, 1) := by decide +kernel
theorem dX8_steady_10 : decode cX8_steady 10 = .ok (.ifnonnull 5, 3) := by decide +kernel
theorem dX8_steady_13 : decode cX8_steady 13 = .ok (.iconst (-1), 1) := by decide +kernel
theorem dX8_steady_14 : decode cX8_steady 14 = .ok (.ireturn, 1) := by decide +kernel
theorem dX8_steady_15 : decode cX8_steady 15 = .ok (.aload_n 3, 1) := by decide +kernel
theorem dX8_steady_16 : decode cX8_steady 16 = .ok (.getfield 168, 3) := by decide +kernel
theorem dX8_steady_19 : decode cX8_steady 19 = .ok (.iload_n 2, 1) := by decide +kernel
theorem dX8_steady_20 : decode cX8_steady 20 = .ok (.if_icmp .ne 6, 3) := by decide +kernel
theorem dX8_steady_23 : decode cX8_steady 23 = .ok (.bipush (-2), 2) := by decide +kernel
theorem dX8_steady_25 : decode cX8_steady 25 = .ok (.ireturn, 1) := by decide +kernel
theorem dX8_steady_26 : decode cX8_steady 26 = .ok (.aload_n 3, 1) := by decide +kernel
theorem dX8_steady_27 : decode cX8_steady 27 = .ok (.iload_n 2, 1) := by decide +kernel
theorem dX8_steady_28 : decode cX8_steady 28 = .ok (.putfield 168, 3) := by decide +kernel
theorem dX8_steady_31 : decode cX8_steady 31 = .ok (.iload_n 2, 1) := by decide +kernel
theorem dX8_steady_32 : decode cX8_steady 32 = .ok (.ifCond .eq 7, 3) := by decide +kernel
theorem dX8_steady_35 : decode cX8_steady 35 = .ok (.iconst 0, 1) := by decide +kernel
theorem dX8_steady_36 : decode cX8_steady 36 = .ok (.goto 4, 3) := by decide +kernel
theorem dX8_steady_39 : decode cX8_steady 39 = .ok (.iconst 1, 1) := by decide +kernel
theorem dX8_steady_40 : decode cX8_steady 40 = .ok (.ireturn, 1) := by decide +kernel
theorem dX8_pauses_0 : decode cX8_pauses 0 = .ok (.aload_n 0, 1) := by decide +kernel
theorem dX8_pauses_1 : decode cX8_pauses 1 = .ok (.getfield 10, 3) := by decide +kernel
theorem dX8_pauses_4 : decode cX8_pauses 4 = .ok (.iload_n 1, 1) := by decide +kernel
theorem dX8_pauses_5 : decode cX8_pauses 5 = .ok (.invokevirtual 154, 3) := by decide +kernel
theorem dX8_pauses_8 : decode cX8_pauses 8 = .ok (.astore_n 2, 1) := by decide +kernel
theorem dX8_pauses_9 : decode cX8_pauses 9 = .ok (.aload_n 2, 1) := by decide +kernel
theorem dX8_pauses_10 : decode cX8_pauses 10 = .ok (.ifnonnull 5, 3) := by decide +kernel
theorem dX8_pauses_13 : decode cX8_pauses 13 = .ok (.iconst (-1), 1) := by decide +kernel
theorem dX8_pauses_14 : decode cX8_pauses 14 = .ok (.ireturn, 1) := by decide +kernel
theorem dX8_pauses_15 : decode cX8_pauses 15 = .ok (.aload_n 2, 1) := by decide +kernel
theorem dX8_pauses_16 : decode cX8_pauses 16 = .ok (.getfield 171, 3) := by decide +kernel
theorem dX8_pauses_19 : decode cX8_pauses 19 = .ok (.ifCond .eq 6, 3) := by decide +kernel
theorem dX8_pauses_22 : decode cX8_pauses 22 = .ok (.bipush (-2), 2) := by decide +kernel
theorem dX8_pauses_24 : decode cX8_pauses 24 = .ok (.ireturn, 1) := by decide +kernel
theorem dX8_pauses_25 : decode cX8_pauses 25 = .ok (.aload_n 0, 1) := by decide +kernel
theorem dX8_pauses_26 : decode cX8_pauses 26 = .ok (.getfield 10, 3) := by decide +kernel
theorem dX8_pauses_29 : decode cX8_pauses 29 = .ok (.aload_n 2, 1) := by decide +kernel
theorem dX8_pauses_30 : decode cX8_pauses 30 = .ok (.invokevirtual 174, 3) := by decide +kernel
theorem dX8_pauses_33 : decode cX8_pauses 33 = .ok (.aload_n 2, 1) := by decide +kernel
theorem dX8_pauses_34 : decode cX8_pauses 34 = .ok (.getfield 177, 3) := by decide +kernel
theorem dX8_pauses_37 : decode cX8_pauses 37 = .ok (.ireturn, 1) := by decide +kernel
theorem dX8_resumes_0 : decode cX8_resumes 0 = .ok (.aload_n 0, 1) := by decide +kernel
theorem dX8_resumes_1 : decode cX8_resumes 1 = .ok (.getfield 10, 3) := by decide +kernel
theorem dX8_resumes_4 : decode cX8_resumes 4 = .ok (.iload_n 1, 1) := by decide +kernel
theorem dX8_resumes_5 : decode cX8_resumes 5 = .ok (.invokevirtual 154, 3) := by decide +kernel
theorem dX8_resumes_8 : decode cX8_resumes 8 = .ok (.astore_n 2, 1) := by decide +kernel
theorem dX8_resumes_9 : decode cX8_resumes 9 = .ok (.aload_n 2, 1) := by decide +kernel
theorem dX8_resumes_10 : decode cX8_resumes 10 = .ok (.ifnonnull 5, 3) := by decide +kernel
theorem dX8_resumes_13 : decode cX8_resumes 13 = .ok (.iconst (-1), 1) := by decide +kernel
theorem dX8_resumes_14 : decode cX8_resumes 14 = .ok (.ireturn, 1) := by decide +kernel
theorem dX8_resumes_15 : decode cX8_resumes 15 = .ok (.aload_n 2, 1) := by decide +kernel
theorem dX8_resumes_16 : decode cX8_resumes 16 = .ok (.getfield 171, 3) := by decide +kernel
theorem dX8_resumes_19 : decode cX8_resumes 19 = .ok (.ifCond .ne 6, 3) := by decide +kernel
theorem dX8_resumes_22 : decode cX8_resumes 22 = .ok (.bipush (-2), 2) := by decide +kernel
theorem dX8_resumes_24 : decode cX8_resumes 24 = .ok (.ireturn, 1) := by decide +kernel
theorem dX8_resumes_25 : decode cX8_resumes 25 = .ok (.aload_n 0, 1) := by decide +kernel
theorem dX8_resumes_26 : decode cX8_resumes 26 = .ok (.getfield 10, 3) := by decide +kernel
theorem dX8_resumes_29 : decode cX8_resumes 29 = .ok (.aload_n 2, 1) := by decide +kernel
theorem dX8_resumes_30 : decode cX8_resumes 30 = .ok (.invokevirtual 180, 3) := by decide +kernel
theorem dX8_resumes_33 : decode cX8_resumes 33 = .ok (.aload_n 2, 1) := by decide +kernel
theorem dX8_resumes_34 : decode cX8_resumes 34 = .ok (.getfield 183, 3) := by decide +kernel
theorem dX8_resumes_37 : decode cX8_resumes 37 = .ok (.ireturn, 1) := by decide +kernel
theorem dX8_holds_0 : decode cX8_holds 0 = .ok (.iload_n 1, 1) := by decide +kernel
theorem dX8_holds_1 : decode cX8_holds 1 = .ok (.invokestatic 115, 3) := by decide +kernel
theorem dX8_holds_4 : decode cX8_holds 4 = .ok (.ifCond .ne 5, 3) := by decide +kernel
theorem dX8_holds_7 : decode cX8_holds 7 = .ok (.iconst (-1), 1) := by decide +kernel
theorem dX8_holds_8 : decode cX8_holds 8 = .ok (.ireturn, 1) := by decide +kernel
theorem dX8_holds_9 : decode cX8_holds 9 = .ok (.iconst 0, 1) := by decide +kernel
theorem dX8_holds_10 : decode cX8_holds 10 = .ok (.istore_n 2, 1) := by decide +kernel
theorem dX8_holds_11 : decode cX8_holds 11 = .ok (.iconst 0, 1) := by decide +kernel
theorem dX8_holds_12 : decode cX8_holds 12 = .ok (.istore_n 3, 1) := by decide +kernel
theorem dX8_holds_13 : decode cX8_holds 13 = .ok (.iload_n 3, 1) := by decide +kernel
theorem dX8_holds_14 : decode cX8_holds 14 = .ok (.bipush 16, 2) := by decide +kernel
theorem dX8_holds_16 : decode cX8_holds 16 = .ok (.if_icmp .ge 45, 3) := by decide +kernel
theorem dX8_holds_19 : decode cX8_holds 19 = .ok (.aload_n 0, 1) := by decide +kernel
theorem dX8_holds_20 : decode cX8_holds 20 = .ok (.getfield 10, 3) := by decide +kernel
theorem dX8_holds_23 : decode cX8_holds 23 = .ok (.iload_n 3, 1) := by decide +kernel
theorem dX8_holds_24 : decode cX8_holds 24 = .ok (.invokevirtual 186, 3) := by decide +kernel
theorem dX8_holds_27 : decode cX8_holds 27 = .ok (.astore 4, 2) := by decide +kernel
theorem dX8_holds_29 : decode cX8_holds 29 = .ok (.aload 4, 2) := by decide +kernel
theorem dX8_holds_31 : decode cX8_holds 31 = .ok (.ifnull 24, 3) := by decide +kernel
theorem dX8_holds_34 : decode cX8_holds 34 = .ok (.aload 4, 2) := by decide +kernel
theorem dX8_holds_36 : decode cX8_holds 36 = .ok (.getfield 135, 3) := by decide +kernel
theorem dX8_holds_39 : decode cX8_holds 39 = .ok (.iload_n 1, 1) := by decide +kernel
theorem dX8_holds_40 : decode cX8_holds 40 = .ok (.if_icmp .ne 15, 3) := by decide +kernel
theorem dX8_holds_43 : decode cX8_holds 43 = .ok (.aload_n 0, 1) := by decide +kernel
theorem dX8_holds_44 : decode cX8_holds 44 = .ok (.getfield 10, 3) := by decide +kernel
theorem dX8_holds_47 : decode cX8_holds 47 = .ok (.aload 4, 2) := by decide +kernel
theorem dX8_holds_49 : decode cX8_holds 49 = .ok (.invokevirtual 174, 3) := by decide +kernel
theorem dX8_holds_52 : decode cX8_holds 52 = .ok (.iinc 2 1, 3) := by decide +kernel
theorem dX8_holds_55 : decode cX8_holds 55 = .ok (.iinc 3 1, 3) := by decide +kernel
theorem dX8_holds_58 : decode cX8_holds 58 = .ok (.goto (-45), 3) := by decide +kernel
theorem dX8_holds_61 : decode cX8_holds 61 = .ok (.iload_n 2, 1) := by decide +kernel
theorem dX8_holds_62 : decode cX8_holds 62 = .ok (.ireturn, 1) := by decide +kernel
theorem dX8_goesOn_0 : decode cX8_goesOn 0 = .ok (.iload_n 1, 1) := by decide +kernel
theorem dX8_goesOn_1 : decode cX8_goesOn 1 = .ok (.invokestatic 115, 3) := by decide +kernel
theorem dX8_goesOn_4 : decode cX8_goesOn 4 = .ok (.ifCond .ne 5, 3) := by decide +kernel
theorem dX8_goesOn_7 : decode cX8_goesOn 7 = .ok (.iconst (-1), 1) := by decide +kernel
theorem dX8_goesOn_8 : decode cX8_goesOn 8 = .ok (.ireturn, 1) := by decide +kernel
theorem dX8_goesOn_9 : decode cX8_goesOn 9 = .ok (.iconst 0, 1) := by decide +kernel
theorem dX8_goesOn_10 : decode cX8_goesOn 10 = .ok (.istore_n 2, 1) := by decide +kernel
theorem dX8_goesOn_11 : decode cX8_goesOn 11 = .ok (.iconst 0, 1) := by decide +kernel
theorem dX8_goesOn_12 : decode cX8_goesOn 12 = .ok (.istore_n 3, 1) := by decide +kernel
theorem dX8_goesOn_13 : decode cX8_goesOn 13 = .ok (.iload_n 3, 1) := by decide +kernel
theorem dX8_goesOn_14 : decode cX8_goesOn 14 = .ok (.bipush 16, 2) := by decide +kernel
theorem dX8_goesOn_16 : decode cX8_goesOn 16 = .ok (.if_icmp .ge 53, 3) := by decide +kernel
theorem dX8_goesOn_19 : decode cX8_goesOn 19 = .ok (.aload_n 0, 1) := by decide +kernel
theorem dX8_goesOn_20 : decode cX8_goesOn 20 = .ok (.getfield 10, 3) := by decide +kernel
theorem dX8_goesOn_23 : decode cX8_goesOn 23 = .ok (.iload_n 3, 1) := by decide +kernel
theorem dX8_goesOn_24 : decode cX8_goesOn 24 = .ok (.invokevirtual 154, 3) := by decide +kernel
theorem dX8_goesOn_27 : decode cX8_goesOn 27 = .ok (.astore 4, 2) := by decide +kernel
theorem dX8_goesOn_29 : decode cX8_goesOn 29 = .ok (.aload 4, 2) := by decide +kernel
theorem dX8_goesOn_31 : decode cX8_goesOn 31 = .ok (.ifnull 32, 3) := by decide +kernel
theorem dX8_goesOn_34 : decode cX8_goesOn 34 = .ok (.aload 4, 2) := by decide +kernel
theorem dX8_goesOn_36 : decode cX8_goesOn 36 = .ok (.getfield 171, 3) := by decide +kernel
theorem dX8_goesOn_39 : decode cX8_goesOn 39 = .ok (.ifCond .eq 24, 3) := by decide +kernel
theorem dX8_goesOn_42 : decode cX8_goesOn 42 = .ok (.aload 4, 2) := by decide +kernel
theorem dX8_goesOn_44 : decode cX8_goesOn 44 = .ok (.getfield 135, 3) := by decide +kernel
theorem dX8_goesOn_47 : decode cX8_goesOn 47 = .ok (.iload_n 1, 1) := by decide +kernel
theorem dX8_goesOn_48 : decode cX8_goesOn 48 = .ok (.if_icmp .ne 15, 3) := by decide +kernel
theorem dX8_goesOn_51 : decode cX8_goesOn 51 = .ok (.aload_n 0, 1) := by decide +kernel
theorem dX8_goesOn_52 : decode cX8_goesOn 52 = .ok (.getfield 10, 3) := by decide +kernel
theorem dX8_goesOn_55 : decode cX8_goesOn 55 = .ok (.aload 4, 2) := by decide +kernel
theorem dX8_goesOn_57 : decode cX8_goesOn 57 = .ok (.invokevirtual 180, 3) := by decide +kernel
theorem dX8_goesOn_60 : decode cX8_goesOn 60 = .ok (.iinc 2 1, 3) := by decide +kernel
theorem dX8_goesOn_63 : decode cX8_goesOn 63 = .ok (.iinc 3 1, 3) := by decide +kernel
theorem dX8_goesOn_66 : decode cX8_goesOn 66 = .ok (.goto (-53), 3) := by decide +kernel
theorem dX8_goesOn_69 : decode cX8_goesOn 69 = .ok (.iload_n 2, 1) := by decide +kernel
theorem dX8_goesOn_70 : decode cX8_goesOn 70 = .ok (.ireturn, 1) := by decide +kernel
theorem dX8_spreads_0 : decode cX8_spreads 0 = .ok (.iload_n 1, 1) := by decide +kernel
theorem dX8_spreads_1 : decode cX8_spreads 1 = .ok (.invokestatic 115, 3) := by decide +kernel
theorem dX8_spreads_4 : decode cX8_spreads 4 = .ok (.ifCond .eq 14, 3) := by decide +kernel
theorem dX8_spreads_7 : decode cX8_spreads 7 = .ok (.iload_n 2, 1) := by decide +kernel
theorem dX8_spreads_8 : decode cX8_spreads 8 = .ok (.iconst 0, 1) := by decide +kernel
theorem dX8_spreads_9 : decode cX8_spreads 9 = .ok (.sipush 1000, 3) := by decide +kernel
theorem dX8_spreads_12 : decode cX8_spreads 12 = .ok (.invokestatic 79, 3) := by decide +kernel
theorem dX8_spreads_15 : decode cX8_spreads 15 = .ok (.ifCond .ne 5, 3) := by decide +kernel
theorem dX8_spreads_18 : decode cX8_spreads 18 = .ok (.iconst (-1), 1) := by decide +kernel
theorem dX8_spreads_19 : decode cX8_spreads 19 = .ok (.ireturn, 1) := by decide +kernel
theorem dX8_spreads_20 : decode cX8_spreads 20 = .ok (.aload_n 0, 1) := by decide +kernel
theorem dX8_spreads_21 : decode cX8_spreads 21 = .ok (.getfield 10, 3) := by decide +kernel
theorem dX8_spreads_24 : decode cX8_spreads 24 = .ok (.getfield 189, 3) := by decide +kernel
theorem dX8_spreads_27 : decode cX8_spreads 27 = .ok (.astore_n 3, 1) := by decide +kernel
theorem dX8_spreads_28 : decode cX8_spreads 28 = .ok (.aload_n 3, 1) := by decide +kernel
theorem dX8_spreads_29 : decode cX8_spreads 29 = .ok (.invokevirtual 193, 3) := by decide +kernel
theorem dX8_spreads_32 : decode cX8_spreads 32 = .ok (.iconst 0, 1) := by decide +kernel
theorem dX8_spreads_33 : decode cX8_spreads 33 = .ok (.istore 4, 2) := by decide +kernel
theorem dX8_spreads_35 : decode cX8_spreads 35 = .ok (.iload 4, 2) := by decide +kernel
theorem dX8_spreads_37 : decode cX8_spreads 37 = .ok (.bipush 16, 2) := by decide +kernel
theorem dX8_spreads_39 : decode cX8_spreads 39 = .ok (.if_icmp .ge 48, 3) := by decide +kernel
theorem dX8_spreads_42 : decode cX8_spreads 42 = .ok (.aload_n 0, 1) := by decide +kernel
theorem dX8_spreads_43 : decode cX8_spreads 43 = .ok (.getfield 10, 3) := by decide +kernel
theorem dX8_spreads_46 : decode cX8_spreads 46 = .ok (.iload 4, 2) := by decide +kernel
theorem dX8_spreads_48 : decode cX8_spreads 48 = .ok (.invokevirtual 186, 3) := by decide +kernel
theorem dX8_spreads_51 : decode cX8_spreads 51 = .ok (.astore 5, 2) := by decide +kernel
theorem dX8_spreads_53 : decode cX8_spreads 53 = .ok (.aload 5, 2) := by decide +kernel
theorem dX8_spreads_55 : decode cX8_spreads 55 = .ok (.ifnull 26, 3) := by decide +kernel
theorem dX8_spreads_58 : decode cX8_spreads 58 = .ok (.aload 5, 2) := by decide +kernel
theorem dX8_spreads_60 : decode cX8_spreads 60 = .ok (.getfield 135, 3) := by decide +kernel
theorem dX8_spreads_63 : decode cX8_spreads 63 = .ok (.iload_n 1, 1) := by decide +kernel
theorem dX8_spreads_64 : decode cX8_spreads 64 = .ok (.if_icmp .ne 17, 3) := by decide +kernel
theorem dX8_spreads_67 : decode cX8_spreads 67 = .ok (.aload_n 3, 1) := by decide +kernel
theorem dX8_spreads_68 : decode cX8_spreads 68 = .ok (.aload 5, 2) := by decide +kernel
theorem dX8_spreads_70 : decode cX8_spreads 70 = .ok (.iconst 1, 1) := by decide +kernel
theorem dX8_spreads_71 : decode cX8_spreads 71 = .ok (.aload_n 0, 1) := by decide +kernel
theorem dX8_spreads_72 : decode cX8_spreads 72 = .ok (.getfield 10, 3) := by decide +kernel
theorem dX8_spreads_75 : decode cX8_spreads 75 = .ok (.getfield 83, 3) := by decide +kernel
theorem dX8_spreads_78 : decode cX8_spreads 78 = .ok (.invokevirtual 198, 3) := by decide +kernel
theorem dX8_spreads_81 : decode cX8_spreads 81 = .ok (.iinc 4 1, 3) := by decide +kernel
theorem dX8_spreads_84 : decode cX8_spreads 84 = .ok (.goto (-49), 3) := by decide +kernel
theorem dX8_spreads_87 : decode cX8_spreads 87 = .ok (.aload_n 3, 1) := by decide +kernel
theorem dX8_spreads_88 : decode cX8_spreads 88 = .ok (.getfield 202, 3) := by decide +kernel
theorem dX8_spreads_91 : decode cX8_spreads 91 = .ok (.iconst 2, 1) := by decide +kernel
theorem dX8_spreads_92 : decode cX8_spreads 92 = .ok (.if_icmp .ge 6, 3) := by decide +kernel
theorem dX8_spreads_95 : decode cX8_spreads 95 = .ok (.bipush (-2), 2) := by decide +kernel
theorem dX8_spreads_97 : decode cX8_spreads 97 = .ok (.ireturn, 1) := by decide +kernel
theorem dX8_spreads_98 : decode cX8_spreads 98 = .ok (.aload_n 0, 1) := by decide +kernel
theorem dX8_spreads_99 : decode cX8_spreads 99 = .ok (.aload_n 3, 1) := by decide +kernel
theorem dX8_spreads_100 : decode cX8_spreads 100 = .ok (.iload_n 2, 1) := by decide +kernel
theorem dX8_spreads_101 : decode cX8_spreads 101 = .ok (.invokevirtual 205, 3) := by decide +kernel
theorem dX8_spreads_104 : decode cX8_spreads 104 = .ok (.ireturn, 1) := by decide +kernel
theorem dX8_delays_0 : decode cX8_delays 0 = .ok (.aload_n 0, 1) := by decide +kernel
theorem dX8_delays_1 : decode cX8_delays 1 = .ok (.getfield 10, 3) := by decide +kernel
theorem dX8_delays_4 : decode cX8_delays 4 = .ok (.iload_n 1, 1) := by decide +kernel
theorem dX8_delays_5 : decode cX8_delays 5 = .ok (.invokevirtual 154, 3) := by decide +kernel
theorem dX8_delays_8 : decode cX8_delays 8 = .ok (.astore_n 3, 1) := by decide +kernel
theorem dX8_delays_9 : decode cX8_delays 9 = .ok (.aload_n 3, 1) := by decide +kernel
theorem dX8_delays_10 : decode cX8_delays 10 = .ok (.ifnull 13, 3) := by decide +kernel
theorem dX8_delays_13 : decode cX8_delays 13 = .ok (.iload_n 2, 1) := by decide +kernel
theorem dX8_delays_14 : decode cX8_delays 14 = .ok (.iconst 1, 1) := by decide +kernel
theorem dX8_delays_15 : decode cX8_delays 15 = .ok (.ldc 114, 2) := by decide +kernel
theorem dX8_delays_17 : decode cX8_delays 17 = .ok (.invokestatic 79, 3) := by decide +kernel
theorem dX8_delays_20 : decode cX8_delays 20 = .ok (.ifCond .ne 5, 3) := by decide +kernel
theorem dX8_delays_23 : decode cX8_delays 23 = .ok (.iconst (-1), 1) := by decide +kernel
theorem dX8_delays_24 : decode cX8_delays 24 = .ok (.ireturn, 1) := by decide +kernel
theorem dX8_delays_25 : decode cX8_delays 25 = .ok (.aload_n 3, 1) := by decide +kernel
theorem dX8_delays_26 : decode cX8_delays 26 = .ok (.getfield 171, 3) := by decide +kernel
theorem dX8_delays_29 : decode cX8_delays 29 = .ok (.ifCond .eq 10, 3) := by decide +kernel
theorem dX8_delays_32 : decode cX8_delays 32 = .ok (.aload_n 3, 1) := by decide +kernel
theorem dX8_delays_33 : decode cX8_delays 33 = .ok (.getfield 177, 3) := by decide +kernel
theorem dX8_delays_36 : decode cX8_delays 36 = .ok (.goto 15, 3) := by decide +kernel
theorem dX8_delays_39 : decode cX8_delays 39 = .ok (.aload_n 3, 1) := by decide +kernel
theorem dX8_delays_40 : decode cX8_delays 40 = .ok (.getfield 183, 3) := by decide +kernel
theorem dX8_delays_43 : decode cX8_delays 43 = .ok (.aload_n 0, 1) := by decide +kernel
theorem dX8_delays_44 : decode cX8_delays 44 = .ok (.getfield 10, 3) := by decide +kernel
theorem dX8_delays_47 : decode cX8_delays 47 = .ok (.getfield 123, 3) := by decide +kernel
theorem dX8_delays_50 : decode cX8_delays 50 = .ok (.isub, 1) := by decide +kernel
theorem dX8_delays_51 : decode cX8_delays 51 = .ok (.istore 4, 2) := by decide +kernel
theorem dX8_delays_53 : decode cX8_delays 53 = .ok (.iload 4, 2) := by decide +kernel
theorem dX8_delays_55 : decode cX8_delays 55 = .ok (.iload_n 2, 1) := by decide +kernel
theorem dX8_delays_56 : decode cX8_delays 56 = .ok (.if_icmp .ne 6, 3) := by decide +kernel
theorem dX8_delays_59 : decode cX8_delays 59 = .ok (.bipush (-2), 2) := by decide +kernel
theorem dX8_delays_61 : decode cX8_delays 61 = .ok (.ireturn, 1) := by decide +kernel
theorem dX8_delays_62 : decode cX8_delays 62 = .ok (.aload_n 3, 1) := by decide +kernel
theorem dX8_delays_63 : decode cX8_delays 63 = .ok (.getfield 171, 3) := by decide +kernel
theorem dX8_delays_66 : decode cX8_delays 66 = .ok (.ifCond .eq 11, 3) := by decide +kernel
theorem dX8_delays_69 : decode cX8_delays 69 = .ok (.aload_n 3, 1) := by decide +kernel
theorem dX8_delays_70 : decode cX8_delays 70 = .ok (.iload_n 2, 1) := by decide +kernel
theorem dX8_delays_71 : decode cX8_delays 71 = .ok (.putfield 177, 3) := by decide +kernel
theorem dX8_delays_74 : decode cX8_delays 74 = .ok (.goto 24, 3) := by decide +kernel
theorem dX8_delays_77 : decode cX8_delays 77 = .ok (.aload_n 3, 1) := by decide +kernel
theorem dX8_delays_78 : decode cX8_delays 78 = .ok (.aload_n 0, 1) := by decide +kernel
theorem dX8_delays_79 : decode cX8_delays 79 = .ok (.getfield 10, 3) := by decide +kernel
theorem dX8_delays_82 : decode cX8_delays 82 = .ok (.getfield 123, 3) := by decide +kernel
theorem dX8_delays_85 : decode cX8_delays 85 = .ok (.iload_n 2, 1) := by decide +kernel
theorem dX8_delays_86 : decode cX8_delays 86 = .ok (.iadd, 1) := by decide +kernel
theorem dX8_delays_87 : decode cX8_delays 87 = .ok (.putfield 183, 3) := by decide +kernel
theorem dX8_delays_90 : decode cX8_delays 90 = .ok (.aload_n 0, 1) := by decide +kernel
theorem dX8_delays_91 : decode cX8_delays 91 = .ok (.getfield 10, 3) := by decide +kernel
theorem dX8_delays_94 : decode cX8_delays 94 = .ok (.aload_n 3, 1) := by decide +kernel
theorem dX8_delays_95 : decode cX8_delays 95 = .ok (.invokevirtual 147, 3) := by decide +kernel
theorem dX8_delays_98 : decode cX8_delays 98 = .ok (.aload_n 0, 1) := by decide +kernel
theorem dX8_delays_99 : decode cX8_delays 99 = .ok (.getfield 33, 3) := by decide +kernel
theorem dX8_delays_102 : decode cX8_delays 102 = .ok (.invokevirtual 209, 3) := by decide +kernel
theorem dX8_delays_105 : decode cX8_delays 105 = .ok (.aload_n 0, 1) := by decide +kernel
theorem dX8_delays_106 : decode cX8_delays 106 = .ok (.getfield 33, 3) := by decide +kernel
theorem dX8_delays_109 : decode cX8_delays 109 = .ok (.iload_n 2, 1) := by decide +kernel
theorem dX8_delays_110 : decode cX8_delays 110 = .ok (.iload 4, 2) := by decide +kernel
theorem dX8_delays_112 : decode cX8_delays 112 = .ok (.isub, 1) := by decide +kernel
theorem dX8_delays_113 : decode cX8_delays 113 = .ok (.i2l, 1) := by decide +kernel
theorem dX8_delays_114 : decode cX8_delays 114 = .ok (.invokevirtual 210, 3) := by decide +kernel
theorem dX8_delays_117 : decode cX8_delays 117 = .ok (.iconst 0, 1) := by decide +kernel
theorem dX8_delays_118 : decode cX8_delays 118 = .ok (.ireturn, 1) := by decide +kernel
theorem dX8_run_0 : decode cX8_run 0 = .ok (.aload_n 0, 1) := by decide +kernel
theorem dX8_run_1 : decode cX8_run 1 = .ok (.getfield 54, 3) := by decide +kernel
theorem dX8_run_4 : decode cX8_run 4 = .ok (.aload_n 0, 1) := by decide +kernel
theorem dX8_run_5 : decode cX8_run 5 = .ok (.getfield 47, 3) := by decide +kernel
theorem dX8_run_8 : decode cX8_run 8 = .ok (.invokevirtual 214, 3) := by decide +kernel
theorem dX8_run_11 : decode cX8_run 11 = .ok (.istore_n 1, 1) := by decide +kernel
theorem dX8_run_12 : decode cX8_run 12 = .ok (.aload_n 0, 1) := by decide +kernel
theorem dX8_run_13 : decode cX8_run 13 = .ok (.getfield 47, 3) := by decide +kernel
theorem dX8_run_16 : decode cX8_run 16 = .ok (.iconst 0, 1) := by decide +kernel
theorem dX8_run_17 : decode cX8_run 17 = .ok (.invokevirtual 218, 3) := by decide +kernel
theorem dX8_run_20 : decode cX8_run 20 = .ok (.iload_n 1, 1) := by decide +kernel
theorem dX8_run_21 : decode cX8_run 21 = .ok (.ifCond .ne 13, 3) := by decide +kernel
theorem dX8_run_24 : decode cX8_run 24 = .ok (.iconst (-1), 1) := by decide +kernel
theorem dX8_run_25 : decode cX8_run 25 = .ok (.aload_n 0, 1) := by decide +kernel
theorem dX8_run_26 : decode cX8_run 26 = .ok (.getfield 54, 3) := by decide +kernel
theorem dX8_run_29 : decode cX8_run 29 = .ok (.getfield 221, 3) := by decide +kernel
theorem dX8_run_32 : decode cX8_run 32 = .ok (.isub, 1) := by decide +kernel
theorem dX8_run_33 : decode cX8_run 33 = .ok (.ireturn, 1) := by decide +kernel
theorem dX8_run_34 : decode cX8_run 34 = .ok (.aload_n 0, 1) := by decide +kernel
theorem dX8_run_35 : decode cX8_run 35 = .ok (.getfield 40, 3) := by decide +kernel
theorem dX8_run_38 : decode cX8_run 38 = .ok (.getfield 224, 3) := by decide +kernel
theorem dX8_run_41 : decode cX8_run 41 = .ok (.istore_n 2, 1) := by decide +kernel
theorem dX8_run_42 : decode cX8_run 42 = .ok (.iconst 0, 1) := by decide +kernel
theorem dX8_run_43 : decode cX8_run 43 = .ok (.istore_n 3, 1) := by decide +kernel
theorem dX8_run_44 : decode cX8_run 44 = .ok (.iload_n 3, 1) := by decide +kernel
theorem dX8_run_45 : decode cX8_run 45 = .ok (.aload_n 0, 1) := by decide +kernel
theorem dX8_run_46 : decode cX8_run 46 = .ok (.getfield 54, 3) := by decide +kernel
theorem dX8_run_49 : decode cX8_run 49 = .ok (.getfield 227, 3) := by decide +kernel
theorem dX8_run_52 : decode cX8_run 52 = .ok (.if_icmp .ge 17, 3) := by decide +kernel
theorem dX8_run_55 : decode cX8_run 55 = .ok (.aload_n 0, 1) := by decide +kernel
theorem dX8_run_56 : decode cX8_run 56 = .ok (.iload_n 3, 1) := by decide +kernel
theorem dX8_run_57 : decode cX8_run 57 = .ok (.invokevirtual 228, 3) := by decide +kernel
theorem dX8_run_60 : decode cX8_run 60 = .ok (.ifCond .eq 9, 3) := by decide +kernel
theorem dX8_run_63 : decode cX8_run 63 = .ok (.iinc 3 1, 3) := by decide +kernel
theorem dX8_run_66 : decode cX8_run 66 = .ok (.goto (-22), 3) := by decide +kernel
theorem dX8_run_69 : decode cX8_run 69 = .ok (.aload_n 0, 1) := by decide +kernel
theorem dX8_run_70 : decode cX8_run 70 = .ok (.getfield 33, 3) := by decide +kernel
theorem dX8_run_73 : decode cX8_run 73 = .ok (.invokevirtual 209, 3) := by decide +kernel
theorem dX8_run_76 : decode cX8_run 76 = .ok (.aload_n 0, 1) := by decide +kernel
theorem dX8_run_77 : decode cX8_run 77 = .ok (.getfield 33, 3) := by decide +kernel
theorem dX8_run_80 : decode cX8_run 80 = .ok (.iload_n 3, 1) := by decide +kernel
theorem dX8_run_81 : decode cX8_run 81 = .ok (.aload_n 0, 1) := by decide +kernel
theorem dX8_run_82 : decode cX8_run 82 = .ok (.getfield 54, 3) := by decide +kernel
theorem dX8_run_85 : decode cX8_run 85 = .ok (.getfield 227, 3) := by decide +kernel
theorem dX8_run_88 : decode cX8_run 88 = .ok (.if_icmp .ge 7, 3) := by decide +kernel
theorem dX8_run_91 : decode cX8_run 91 = .ok (.lconst 1, 1) := by decide +kernel
theorem dX8_run_92 : decode cX8_run 92 = .ok (.goto 4, 3) := by decide +kernel
theorem dX8_run_95 : decode cX8_run 95 = .ok (.lconst 0, 1) := by decide +kernel
theorem dX8_run_96 : decode cX8_run 96 = .ok (.invokevirtual 210, 3) := by decide +kernel
theorem dX8_run_99 : decode cX8_run 99 = .ok (.aload_n 0, 1) := by decide +kernel
theorem dX8_run_100 : decode cX8_run 100 = .ok (.getfield 33, 3) := by decide +kernel
theorem dX8_run_103 : decode cX8_run 103 = .ok (.aload_n 0, 1) := by decide +kernel
theorem dX8_run_104 : decode cX8_run 104 = .ok (.getfield 40, 3) := by decide +kernel
theorem dX8_run_107 : decode cX8_run 107 = .ok (.getfield 224, 3) := by decide +kernel
theorem dX8_run_110 : decode cX8_run 110 = .ok (.iload_n 2, 1) := by decide +kernel
theorem dX8_run_111 : decode cX8_run 111 = .ok (.isub, 1) := by decide +kernel
theorem dX8_run_112 : decode cX8_run 112 = .ok (.i2l, 1) := by decide +kernel
theorem dX8_run_113 : decode cX8_run 113 = .ok (.invokevirtual 210, 3) := by decide +kernel
theorem dX8_run_116 : decode cX8_run 116 = .ok (.iload_n 3, 1) := by decide +kernel
theorem dX8_run_117 : decode cX8_run 117 = .ok (.ireturn, 1) := by decide +kernel
theorem dX8_sign_0 : decode cX8_sign 0 = .ok (.aload_n 0, 1) := by decide +kernel
theorem dX8_sign_1 : decode cX8_sign 1 = .ok (.getfield 47, 3) := by decide +kernel
theorem dX8_sign_4 : decode cX8_sign 4 = .ok (.iload_n 1, 1) := by decide +kernel
theorem dX8_sign_5 : decode cX8_sign 5 = .ok (.invokevirtual 231, 3) := by decide +kernel
theorem dX8_sign_8 : decode cX8_sign 8 = .ok (.ifCond .eq 13, 3) := by decide +kernel
theorem dX8_sign_11 : decode cX8_sign 11 = .ok (.aload_n 0, 1) := by decide +kernel
theorem dX8_sign_12 : decode cX8_sign 12 = .ok (.getfield 47, 3) := by decide +kernel
theorem dX8_sign_15 : decode cX8_sign 15 = .ok (.getfield 234, 3) := by decide +kernel
theorem dX8_sign_18 : decode cX8_sign 18 = .ok (.goto 4, 3) := by decide +kernel
theorem dX8_sign_21 : decode cX8_sign 21 = .ok (.iconst (-1), 1) := by decide +kernel
theorem dX8_sign_22 : decode cX8_sign 22 = .ok (.ireturn, 1) := by decide +kernel
theorem dX8_end_0 : decode cX8_end 0 = .ok (.iload_n 1, 1) := by decide +kernel
theorem dX8_end_1 : decode cX8_end 1 = .ok (.iconst 0, 1) := by decide +kernel
theorem dX8_end_2 : decode cX8_end 2 = .ok (.aload_n 0, 1) := by decide +kernel
theorem dX8_end_3 : decode cX8_end 3 = .ok (.getfield 47, 3) := by decide +kernel
theorem dX8_end_6 : decode cX8_end 6 = .ok (.getfield 234, 3) := by decide +kernel
theorem dX8_end_9 : decode cX8_end 9 = .ok (.invokestatic 79, 3) := by decide +kernel
theorem dX8_end_12 : decode cX8_end 12 = .ok (.ifCond .ne 5, 3) := by decide +kernel
theorem dX8_end_15 : decode cX8_end 15 = .ok (.iconst 0, 1) := by decide +kernel
theorem dX8_end_16 : decode cX8_end 16 = .ok (.ireturn, 1) := by decide +kernel
theorem dX8_end_17 : decode cX8_end 17 = .ok (.aload_n 0, 1) := by decide +kernel
theorem dX8_end_18 : decode cX8_end 18 = .ok (.getfield 47, 3) := by decide +kernel
theorem dX8_end_21 : decode cX8_end 21 = .ok (.iload_n 1, 1) := by decide +kernel
theorem dX8_end_22 : decode cX8_end 22 = .ok (.invokevirtual 218, 3) := by decide +kernel
theorem dX8_end_25 : decode cX8_end 25 = .ok (.iconst 1, 1) := by decide +kernel
theorem dX8_end_26 : decode cX8_end 26 = .ok (.ireturn, 1) := by decide +kernel
theorem dX8_timer_0 : decode cX8_timer 0 = .ok (.aload_n 0, 1) := by decide +kernel
theorem dX8_timer_1 : decode cX8_timer 1 = .ok (.getfield 10, 3) := by decide +kernel
theorem dX8_timer_4 : decode cX8_timer 4 = .ok (.iload_n 1, 1) := by decide +kernel
theorem dX8_timer_5 : decode cX8_timer 5 = .ok (.invokevirtual 154, 3) := by decide +kernel
theorem dX8_timer_8 : decode cX8_timer 8 = .ok (.astore_n 3, 1) := by decide +kernel
theorem dX8_timer_9 : decode cX8_timer 9 = .ok (.aload_n 3, 1) := by decide +kernel
theorem dX8_timer_10 : decode cX8_timer 10 = .ok (.ifnull 13, 3) := by decide +kernel
theorem dX8_timer_13 : decode cX8_timer 13 = .ok (.iload_n 2, 1) := by decide +kernel
theorem dX8_timer_14 : decode cX8_timer 14 = .ok (.iconst 0, 1) := by decide +kernel
theorem dX8_timer_15 : decode cX8_timer 15 = .ok (.bipush 10, 2) := by decide +kernel
theorem dX8_timer_17 : decode cX8_timer 17 = .ok (.invokestatic 79, 3) := by decide +kernel
theorem dX8_timer_20 : decode cX8_timer 20 = .ok (.ifCond .ne 11, 3) := by decide +kernel
theorem dX8_timer_23 : decode cX8_timer 23 = .ok (.new 235, 3) := by decide +kernel
theorem dX8_timer_26 : decode cX8_timer 26 = .ok (.dup, 1) := by decide +kernel
theorem dX8_timer_27 : decode cX8_timer 27 = .ok (.invokespecial 237, 3) := by decide +kernel
theorem dX8_timer_30 : decode cX8_timer 30 = .ok (.athrow, 1) := by decide +kernel
theorem dX8_timer_31 : decode cX8_timer 31 = .ok (.iload_n 2, 1) := by decide +kernel
theorem dX8_timer_32 : decode cX8_timer 32 = .ok (.tableswitch 136 0 9 #[56, 83, 88, 93, 98, 103, 108, 113, 118, 123], 56) := by decide +kernel
theorem dX8_timer_88 : decode cX8_timer 88 = .ok (.aload_n 3, 1) := by decide +kernel
theorem dX8_timer_89 : decode cX8_timer 89 = .ok (.getfield 171, 3) := by decide +kernel
theorem dX8_timer_92 : decode cX8_timer 92 = .ok (.ifCond .eq 18, 3) := by decide +kernel
theorem dX8_timer_95 : decode cX8_timer 95 = .ok (.aload_n 0, 1) := by decide +kernel
theorem dX8_timer_96 : decode cX8_timer 96 = .ok (.getfield 10, 3) := by decide +kernel
theorem dX8_timer_99 : decode cX8_timer 99 = .ok (.getfield 123, 3) := by decide +kernel
theorem dX8_timer_102 : decode cX8_timer 102 = .ok (.aload_n 3, 1) := by decide +kernel
theorem dX8_timer_103 : decode cX8_timer 103 = .ok (.getfield 177, 3) := by decide +kernel
theorem dX8_timer_106 : decode cX8_timer 106 = .ok (.iadd, 1) := by decide +kernel
theorem dX8_timer_107 : decode cX8_timer 107 = .ok (.goto 7, 3) := by decide +kernel
theorem dX8_timer_110 : decode cX8_timer 110 = .ok (.aload_n 3, 1) := by decide +kernel
theorem dX8_timer_111 : decode cX8_timer 111 = .ok (.getfield 183, 3) := by decide +kernel
theorem dX8_timer_114 : decode cX8_timer 114 = .ok (.ireturn, 1) := by decide +kernel
theorem dX8_timer_115 : decode cX8_timer 115 = .ok (.aload_n 3, 1) := by decide +kernel
theorem dX8_timer_116 : decode cX8_timer 116 = .ok (.getfield 238, 3) := by decide +kernel
theorem dX8_timer_119 : decode cX8_timer 119 = .ok (.ireturn, 1) := by decide +kernel
theorem dX8_timer_120 : decode cX8_timer 120 = .ok (.aload_n 3, 1) := by decide +kernel
theorem dX8_timer_121 : decode cX8_timer 121 = .ok (.getfield 241, 3) := by decide +kernel
theorem dX8_timer_124 : decode cX8_timer 124 = .ok (.ireturn, 1) := by decide +kernel
theorem dX8_timer_125 : decode cX8_timer 125 = .ok (.aload_n 3, 1) := by decide +kernel
theorem dX8_timer_126 : decode cX8_timer 126 = .ok (.getfield 244, 3) := by decide +kernel
theorem dX8_timer_129 : decode cX8_timer 129 = .ok (.ireturn, 1) := by decide +kernel
theorem dX8_timer_130 : decode cX8_timer 130 = .ok (.aload_n 3, 1) := by decide +kernel
theorem dX8_timer_131 : decode cX8_timer 131 = .ok (.getfield 135, 3) := by decide +kernel
theorem dX8_timer_134 : decode cX8_timer 134 = .ok (.ireturn, 1) := by decide +kernel
theorem dX8_timer_135 : decode cX8_timer 135 = .ok (.aload_n 3, 1) := by decide +kernel
theorem dX8_timer_136 : decode cX8_timer 136 = .ok (.getfield 138, 3) := by decide +kernel
theorem dX8_timer_139 : decode cX8_timer 139 = .ok (.ireturn, 1) := by decide +kernel
theorem dX8_timer_140 : decode cX8_timer 140 = .ok (.aload_n 3, 1) := by decide +kernel
theorem dX8_timer_141 : decode cX8_timer 141 = .ok (.getfield 141, 3) := by decide +kernel
theorem dX8_timer_144 : decode cX8_timer 144 = .ok (.ireturn, 1) := by decide +kernel
theorem dX8_timer_145 : decode cX8_timer 145 = .ok (.aload_n 3, 1) := by decide +kernel
theorem dX8_timer_146 : decode cX8_timer 146 = .ok (.getfield 144, 3) := by decide +kernel
theorem dX8_timer_149 : decode cX8_timer 149 = .ok (.ireturn, 1) := by decide +kernel
theorem dX8_timer_150 : decode cX8_timer 150 = .ok (.aload_n 3, 1) := by decide +kernel
theorem dX8_timer_151 : decode cX8_timer 151 = .ok (.getfield 247, 3) := by decide +kernel
theorem dX8_timer_154 : decode cX8_timer 154 = .ok (.ireturn, 1) := by decide +kernel
theorem dX8_timer_155 : decode cX8_timer 155 = .ok (.aload_n 3, 1) := by decide +kernel
theorem dX8_timer_156 : decode cX8_timer 156 = .ok (.getfield 168, 3) := by decide +kernel
theorem dX8_timer_159 : decode cX8_timer 159 = .ok (.ifCond .eq 7, 3) := by decide +kernel
theorem dX8_timer_162 : decode cX8_timer 162 = .ok (.iconst 1, 1) := by decide +kernel
theorem dX8_timer_163 : decode cX8_timer 163 = .ok (.goto 4, 3) := by decide +kernel
theorem dX8_timer_166 : decode cX8_timer 166 = .ok (.iconst 0, 1) := by decide +kernel
theorem dX8_timer_167 : decode cX8_timer 167 = .ok (.ireturn, 1) := by decide +kernel
theorem dX8_timer_168 : decode cX8_timer 168 = .ok (.aload_n 3, 1) := by decide +kernel
theorem dX8_timer_169 : decode cX8_timer 169 = .ok (.getfield 171, 3) := by decide +kernel
theorem dX8_timer_172 : decode cX8_timer 172 = .ok (.ifCond .eq 10, 3) := by decide +kernel
theorem dX8_timer_175 : decode cX8_timer 175 = .ok (.aload_n 3, 1) := by decide +kernel
theorem dX8_timer_176 : decode cX8_timer 176 = .ok (.getfield 177, 3) := by decide +kernel
theorem dX8_timer_179 : decode cX8_timer 179 = .ok (.goto 4, 3) := by decide +kernel
theorem dX8_timer_182 : decode cX8_timer 182 = .ok (.iconst (-1), 1) := by decide +kernel
theorem dX8_timer_183 : decode cX8_timer 183 = .ok (.ireturn, 1) := by decide +kernel
theorem dX8_slot_0 : decode cX8_slot 0 = .ok (.aload_n 0, 1) := by decide +kernel
theorem dX8_slot_1 : decode cX8_slot 1 = .ok (.getfield 10, 3) := by decide +kernel
theorem dX8_slot_4 : decode cX8_slot 4 = .ok (.getfield 62, 3) := by decide +kernel
theorem dX8_slot_7 : decode cX8_slot 7 = .ok (.iload_n 1, 1) := by decide +kernel
theorem dX8_slot_8 : decode cX8_slot 8 = .ok (.invokevirtual 250, 3) := by decide +kernel
theorem dX8_slot_11 : decode cX8_slot 11 = .ok (.ifCond .eq 24, 3) := by decide +kernel
theorem dX8_slot_14 : decode cX8_slot 14 = .ok (.iload_n 2, 1) := by decide +kernel
theorem dX8_slot_15 : decode cX8_slot 15 = .ok (.iconst 0, 1) := by decide +kernel
theorem dX8_slot_16 : decode cX8_slot 16 = .ok (.aload_n 0, 1) := by decide +kernel
theorem dX8_slot_17 : decode cX8_slot 17 = .ok (.getfield 10, 3) := by decide +kernel
theorem dX8_slot_20 : decode cX8_slot 20 = .ok (.getfield 62, 3) := by decide +kernel
theorem dX8_slot_23 : decode cX8_slot 23 = .ok (.iload_n 1, 1) := by decide +kernel
theorem dX8_slot_24 : decode cX8_slot 24 = .ok (.invokevirtual 253, 3) := by decide +kernel
theorem dX8_slot_27 : decode cX8_slot 27 = .ok (.iconst 1, 1) := by decide +kernel
theorem dX8_slot_28 : decode cX8_slot 28 = .ok (.isub, 1) := by decide +kernel
theorem dX8_slot_29 : decode cX8_slot 29 = .ok (.invokestatic 79, 3) := by decide +kernel
theorem dX8_slot_32 : decode cX8_slot 32 = .ok (.ifCond .ne 5, 3) := by decide +kernel
theorem dX8_slot_35 : decode cX8_slot 35 = .ok (.iconst (-1), 1) := by decide +kernel
theorem dX8_slot_36 : decode cX8_slot 36 = .ok (.ireturn, 1) := by decide +kernel
theorem dX8_slot_37 : decode cX8_slot 37 = .ok (.aload_n 0, 1) := by decide +kernel
theorem dX8_slot_38 : decode cX8_slot 38 = .ok (.getfield 10, 3) := by decide +kernel
theorem dX8_slot_41 : decode cX8_slot 41 = .ok (.getfield 189, 3) := by decide +kernel
theorem dX8_slot_44 : decode cX8_slot 44 = .ok (.astore_n 3, 1) := by decide +kernel
theorem dX8_slot_45 : decode cX8_slot 45 = .ok (.aload_n 3, 1) := by decide +kernel
theorem dX8_slot_46 : decode cX8_slot 46 = .ok (.invokevirtual 193, 3) := by decide +kernel
theorem dX8_slot_49 : decode cX8_slot 49 = .ok (.iconst 0, 1) := by decide +kernel
theorem dX8_slot_50 : decode cX8_slot 50 = .ok (.istore 4, 2) := by decide +kernel
theorem dX8_slot_52 : decode cX8_slot 52 = .ok (.iload 4, 2) := by decide +kernel
theorem dX8_slot_54 : decode cX8_slot 54 = .ok (.bipush 16, 2) := by decide +kernel
theorem dX8_slot_56 : decode cX8_slot 56 = .ok (.if_icmp .ge 57, 3) := by decide +kernel
theorem dX8_slot_59 : decode cX8_slot 59 = .ok (.aload_n 0, 1) := by decide +kernel
theorem dX8_slot_60 : decode cX8_slot 60 = .ok (.getfield 10, 3) := by decide +kernel
theorem dX8_slot_63 : decode cX8_slot 63 = .ok (.iload 4, 2) := by decide +kernel
theorem dX8_slot_65 : decode cX8_slot 65 = .ok (.invokevirtual 154, 3) := by decide +kernel
theorem dX8_slot_68 : decode cX8_slot 68 = .ok (.astore 5, 2) := by decide +kernel
theorem dX8_slot_70 : decode cX8_slot 70 = .ok (.aload 5, 2) := by decide +kernel
theorem dX8_slot_72 : decode cX8_slot 72 = .ok (.ifnull 35, 3) := by decide +kernel
theorem dX8_slot_75 : decode cX8_slot 75 = .ok (.aload 5, 2) := by decide +kernel
theorem dX8_slot_77 : decode cX8_slot 77 = .ok (.getfield 238, 3) := by decide +kernel
theorem dX8_slot_80 : decode cX8_slot 80 = .ok (.iload_n 1, 1) := by decide +kernel
theorem dX8_slot_81 : decode cX8_slot 81 = .ok (.if_icmp .ne 26, 3) := by decide +kernel
theorem dX8_slot_84 : decode cX8_slot 84 = .ok (.aload 5, 2) := by decide +kernel
theorem dX8_slot_86 : decode cX8_slot 86 = .ok (.getfield 241, 3) := by decide +kernel
theorem dX8_slot_89 : decode cX8_slot 89 = .ok (.iload_n 2, 1) := by decide +kernel
theorem dX8_slot_90 : decode cX8_slot 90 = .ok (.if_icmp .ne 17, 3) := by decide +kernel
theorem dX8_slot_93 : decode cX8_slot 93 = .ok (.aload_n 3, 1) := by decide +kernel
theorem dX8_slot_94 : decode cX8_slot 94 = .ok (.aload 5, 2) := by decide +kernel
theorem dX8_slot_96 : decode cX8_slot 96 = .ok (.iconst 0, 1) := by decide +kernel
theorem dX8_slot_97 : decode cX8_slot 97 = .ok (.aload_n 0, 1) := by decide +kernel
theorem dX8_slot_98 : decode cX8_slot 98 = .ok (.getfield 10, 3) := by decide +kernel
theorem dX8_slot_101 : decode cX8_slot 101 = .ok (.getfield 83, 3) := by decide +kernel
theorem dX8_slot_104 : decode cX8_slot 104 = .ok (.invokevirtual 198, 3) := by decide +kernel
theorem dX8_slot_107 : decode cX8_slot 107 = .ok (.iinc 4 1, 3) := by decide +kernel
theorem dX8_slot_110 : decode cX8_slot 110 = .ok (.goto (-58), 3) := by decide +kernel
theorem dX8_slot_113 : decode cX8_slot 113 = .ok (.aload_n 0, 1) := by decide +kernel
theorem dX8_slot_114 : decode cX8_slot 114 = .ok (.aload_n 3, 1) := by decide +kernel
theorem dX8_slot_115 : decode cX8_slot 115 = .ok (.invokevirtual 256, 3) := by decide +kernel
theorem dX8_slot_118 : decode cX8_slot 118 = .ok (.aload_n 3, 1) := by decide +kernel
theorem dX8_slot_119 : decode cX8_slot 119 = .ok (.getfield 202, 3) := by decide +kernel
theorem dX8_slot_122 : decode cX8_slot 122 = .ok (.ireturn, 1) := by decide +kernel
theorem dX8_far_0 : decode cX8_far 0 = .ok (.aload_n 0, 1) := by decide +kernel
theorem dX8_far_1 : decode cX8_far 1 = .ok (.getfield 10, 3) := by decide +kernel
theorem dX8_far_4 : decode cX8_far 4 = .ok (.getfield 189, 3) := by decide +kernel
theorem dX8_far_7 : decode cX8_far 7 = .ok (.astore_n 1, 1) := by decide +kernel
theorem dX8_far_8 : decode cX8_far 8 = .ok (.aload_n 1, 1) := by decide +kernel
theorem dX8_far_9 : decode cX8_far 9 = .ok (.invokevirtual 193, 3) := by decide +kernel
theorem dX8_far_12 : decode cX8_far 12 = .ok (.iconst 0, 1) := by decide +kernel
theorem dX8_far_13 : decode cX8_far 13 = .ok (.istore_n 2, 1) := by decide +kernel
theorem dX8_far_14 : decode cX8_far 14 = .ok (.iload_n 2, 1) := by decide +kernel
theorem dX8_far_15 : decode cX8_far 15 = .ok (.bipush 16, 2) := by decide +kernel
theorem dX8_far_17 : decode cX8_far 17 = .ok (.if_icmp .ge 37, 3) := by decide +kernel
theorem dX8_far_20 : decode cX8_far 20 = .ok (.aload_n 0, 1) := by decide +kernel
theorem dX8_far_21 : decode cX8_far 21 = .ok (.getfield 10, 3) := by decide +kernel
theorem dX8_far_24 : decode cX8_far 24 = .ok (.iload_n 2, 1) := by decide +kernel
theorem dX8_far_25 : decode cX8_far 25 = .ok (.invokevirtual 154, 3) := by decide +kernel
theorem dX8_far_28 : decode cX8_far 28 = .ok (.astore_n 3, 1) := by decide +kernel
theorem dX8_far_29 : decode cX8_far 29 = .ok (.aload_n 3, 1) := by decide +kernel
theorem dX8_far_30 : decode cX8_far 30 = .ok (.ifnull 18, 3) := by decide +kernel
theorem dX8_far_33 : decode cX8_far 33 = .ok (.aload_n 3, 1) := by decide +kernel
theorem dX8_far_34 : decode cX8_far 34 = .ok (.getfield 238, 3) := by decide +kernel
theorem dX8_far_37 : decode cX8_far 37 = .ok (.iconst (-1), 1) := by decide +kernel
theorem dX8_far_38 : decode cX8_far 38 = .ok (.if_icmp .ne 10, 3) := by decide +kernel
theorem dX8_far_41 : decode cX8_far 41 = .ok (.aload_n 1, 1) := by decide +kernel
theorem dX8_far_42 : decode cX8_far 42 = .ok (.aload_n 3, 1) := by decide +kernel
theorem dX8_far_43 : decode cX8_far 43 = .ok (.iconst 1, 1) := by decide +kernel
theorem dX8_far_44 : decode cX8_far 44 = .ok (.iconst 0, 1) := by decide +kernel
theorem dX8_far_45 : decode cX8_far 45 = .ok (.invokevirtual 198, 3) := by decide +kernel
theorem dX8_far_48 : decode cX8_far 48 = .ok (.iinc 2 1, 3) := by decide +kernel
theorem dX8_far_51 : decode cX8_far 51 = .ok (.goto (-37), 3) := by decide +kernel
theorem dX8_far_54 : decode cX8_far 54 = .ok (.aload_n 0, 1) := by decide +kernel
theorem dX8_far_55 : decode cX8_far 55 = .ok (.aload_n 1, 1) := by decide +kernel
theorem dX8_far_56 : decode cX8_far 56 = .ok (.invokevirtual 256, 3) := by decide +kernel
theorem dX8_far_59 : decode cX8_far 59 = .ok (.aload_n 1, 1) := by decide +kernel
theorem dX8_far_60 : decode cX8_far 60 = .ok (.getfield 202, 3) := by decide +kernel
theorem dX8_far_63 : decode cX8_far 63 = .ok (.ireturn, 1) := by decide +kernel
theorem dX8_group_0 : decode cX8_group 0 = .ok (.iload_n 1, 1) := by decide +kernel
theorem dX8_group_1 : decode cX8_group 1 = .ok (.invokestatic 115, 3) := by decide +kernel
theorem dX8_group_4 : decode cX8_group 4 = .ok (.ifCond .ne 5, 3) := by decide +kernel
theorem dX8_group_7 : decode cX8_group 7 = .ok (.iconst (-1), 1) := by decide +kernel
theorem dX8_group_8 : decode cX8_group 8 = .ok (.ireturn, 1) := by decide +kernel
theorem dX8_group_9 : decode cX8_group 9 = .ok (.aload_n 0, 1) := by decide +kernel
theorem dX8_group_10 : decode cX8_group 10 = .ok (.getfield 33, 3) := by decide +kernel
theorem dX8_group_13 : decode cX8_group 13 = .ok (.invokevirtual 209, 3) := by decide +kernel
theorem dX8_group_16 : decode cX8_group 16 = .ok (.iconst 0, 1) := by decide +kernel
theorem dX8_group_17 : decode cX8_group 17 = .ok (.istore_n 2, 1) := by decide +kernel
theorem dX8_group_18 : decode cX8_group 18 = .ok (.iload_n 2, 1) := by decide +kernel
theorem dX8_group_19 : decode cX8_group 19 = .ok (.bipush 16, 2) := by decide +kernel
theorem dX8_group_21 : decode cX8_group 21 = .ok (.if_icmp .ge 39, 3) := by decide +kernel
theorem dX8_group_24 : decode cX8_group 24 = .ok (.aload_n 0, 1) := by decide +kernel
theorem dX8_group_25 : decode cX8_group 25 = .ok (.getfield 10, 3) := by decide +kernel
theorem dX8_group_28 : decode cX8_group 28 = .ok (.iload_n 2, 1) := by decide +kernel
theorem dX8_group_29 : decode cX8_group 29 = .ok (.invokevirtual 154, 3) := by decide +kernel
theorem dX8_group_32 : decode cX8_group 32 = .ok (.astore_n 3, 1) := by decide +kernel
theorem dX8_group_33 : decode cX8_group 33 = .ok (.aload_n 3, 1) := by decide +kernel
theorem dX8_group_34 : decode cX8_group 34 = .ok (.ifnull 20, 3) := by decide +kernel
theorem dX8_group_37 : decode cX8_group 37 = .ok (.aload_n 3, 1) := by decide +kernel
theorem dX8_group_38 : decode cX8_group 38 = .ok (.getfield 135, 3) := by decide +kernel
theorem dX8_group_41 : decode cX8_group 41 = .ok (.iload_n 1, 1) := by decide +kernel
theorem dX8_group_42 : decode cX8_group 42 = .ok (.if_icmp .ne 12, 3) := by decide +kernel
theorem dX8_group_45 : decode cX8_group 45 = .ok (.aload_n 0, 1) := by decide +kernel
theorem dX8_group_46 : decode cX8_group 46 = .ok (.getfield 33, 3) := by decide +kernel
theorem dX8_group_49 : decode cX8_group 49 = .ok (.iload_n 2, 1) := by decide +kernel
theorem dX8_group_50 : decode cX8_group 50 = .ok (.i2l, 1) := by decide +kernel
theorem dX8_group_51 : decode cX8_group 51 = .ok (.invokevirtual 210, 3) := by decide +kernel
theorem dX8_group_54 : decode cX8_group 54 = .ok (.iinc 2 1, 3) := by decide +kernel
theorem dX8_group_57 : decode cX8_group 57 = .ok (.goto (-39), 3) := by decide +kernel
theorem dX8_group_60 : decode cX8_group 60 = .ok (.aload_n 0, 1) := by decide +kernel
theorem dX8_group_61 : decode cX8_group 61 = .ok (.getfield 33, 3) := by decide +kernel
theorem dX8_group_64 : decode cX8_group 64 = .ok (.getfield 260, 3) := by decide +kernel
theorem dX8_group_67 : decode cX8_group 67 = .ok (.ireturn, 1) := by decide +kernel
theorem dX8_full_0 : decode cX8_full 0 = .ok (.aload_n 0, 1) := by decide +kernel
theorem dX8_full_1 : decode cX8_full 1 = .ok (.getfield 10, 3) := by decide +kernel
theorem dX8_full_4 : decode cX8_full 4 = .ok (.getfield 62, 3) := by decide +kernel
theorem dX8_full_7 : decode cX8_full 7 = .ok (.iload_n 1, 1) := by decide +kernel
theorem dX8_full_8 : decode cX8_full 8 = .ok (.invokevirtual 250, 3) := by decide +kernel
theorem dX8_full_11 : decode cX8_full 11 = .ok (.ifCond .ne 5, 3) := by decide +kernel
theorem dX8_full_14 : decode cX8_full 14 = .ok (.iconst (-1), 1) := by decide +kernel
theorem dX8_full_15 : decode cX8_full 15 = .ok (.ireturn, 1) := by decide +kernel
theorem dX8_full_16 : decode cX8_full 16 = .ok (.iconst 0, 1) := by decide +kernel
theorem dX8_full_17 : decode cX8_full 17 = .ok (.istore_n 2, 1) := by decide +kernel
theorem dX8_full_18 : decode cX8_full 18 = .ok (.aload_n 0, 1) := by decide +kernel
theorem dX8_full_19 : decode cX8_full 19 = .ok (.getfield 33, 3) := by decide +kernel
theorem dX8_full_22 : decode cX8_full 22 = .ok (.invokevirtual 209, 3) := by decide +kernel
theorem dX8_full_25 : decode cX8_full 25 = .ok (.iconst 0, 1) := by decide +kernel
theorem dX8_full_26 : decode cX8_full 26 = .ok (.istore_n 3, 1) := by decide +kernel
theorem dX8_full_27 : decode cX8_full 27 = .ok (.iload_n 3, 1) := by decide +kernel
theorem dX8_full_28 : decode cX8_full 28 = .ok (.aload_n 0, 1) := by decide +kernel
theorem dX8_full_29 : decode cX8_full 29 = .ok (.getfield 10, 3) := by decide +kernel
theorem dX8_full_32 : decode cX8_full 32 = .ok (.getfield 62, 3) := by decide +kernel
theorem dX8_full_35 : decode cX8_full 35 = .ok (.iload_n 1, 1) := by decide +kernel
theorem dX8_full_36 : decode cX8_full 36 = .ok (.invokevirtual 253, 3) := by decide +kernel
theorem dX8_full_39 : decode cX8_full 39 = .ok (.if_icmp .ge 39, 3) := by decide +kernel
theorem dX8_full_42 : decode cX8_full 42 = .ok (.aload_n 0, 1) := by decide +kernel
theorem dX8_full_43 : decode cX8_full 43 = .ok (.getfield 10, 3) := by decide +kernel
theorem dX8_full_46 : decode cX8_full 46 = .ok (.iload_n 1, 1) := by decide +kernel
theorem dX8_full_47 : decode cX8_full 47 = .ok (.iload_n 3, 1) := by decide +kernel
theorem dX8_full_48 : decode cX8_full 48 = .ok (.invokevirtual 261, 3) := by decide +kernel
theorem dX8_full_51 : decode cX8_full 51 = .ok (.istore 4, 2) := by decide +kernel
theorem dX8_full_53 : decode cX8_full 53 = .ok (.iload 4, 2) := by decide +kernel
theorem dX8_full_55 : decode cX8_full 55 = .ok (.ifCond .le 12, 3) := by decide +kernel
theorem dX8_full_58 : decode cX8_full 58 = .ok (.aload_n 0, 1) := by decide +kernel
theorem dX8_full_59 : decode cX8_full 59 = .ok (.getfield 33, 3) := by decide +kernel
theorem dX8_full_62 : decode cX8_full 62 = .ok (.iload_n 3, 1) := by decide +kernel
theorem dX8_full_63 : decode cX8_full 63 = .ok (.i2l, 1) := by decide +kernel
theorem dX8_full_64 : decode cX8_full 64 = .ok (.invokevirtual 210, 3) := by decide +kernel
theorem dX8_full_67 : decode cX8_full 67 = .ok (.iload_n 2, 1) := by decide +kernel
theorem dX8_full_68 : decode cX8_full 68 = .ok (.iload 4, 2) := by decide +kernel
theorem dX8_full_70 : decode cX8_full 70 = .ok (.iadd, 1) := by decide +kernel
theorem dX8_full_71 : decode cX8_full 71 = .ok (.istore_n 2, 1) := by decide +kernel
theorem dX8_full_72 : decode cX8_full 72 = .ok (.iinc 3 1, 3) := by decide +kernel
theorem dX8_full_75 : decode cX8_full 75 = .ok (.goto (-48), 3) := by decide +kernel
theorem dX8_full_78 : decode cX8_full 78 = .ok (.aload_n 0, 1) := by decide +kernel
theorem dX8_full_79 : decode cX8_full 79 = .ok (.getfield 33, 3) := by decide +kernel
theorem dX8_full_82 : decode cX8_full 82 = .ok (.getfield 260, 3) := by decide +kernel
theorem dX8_full_85 : decode cX8_full 85 = .ok (.istore_n 3, 1) := by decide +kernel
theorem dX8_full_86 : decode cX8_full 86 = .ok (.aload_n 0, 1) := by decide +kernel
theorem dX8_full_87 : decode cX8_full 87 = .ok (.getfield 33, 3) := by decide +kernel
theorem dX8_full_90 : decode cX8_full 90 = .ok (.iload_n 2, 1) := by decide +kernel
theorem dX8_full_91 : decode cX8_full 91 = .ok (.i2l, 1) := by decide +kernel
theorem dX8_full_92 : decode cX8_full 92 = .ok (.invokevirtual 210, 3) := by decide +kernel
theorem dX8_full_95 : decode cX8_full 95 = .ok (.iload_n 3, 1) := by decide +kernel
theorem dX8_full_96 : decode cX8_full 96 = .ok (.ireturn, 1) := by decide +kernel
theorem dX8_next_0 : decode cX8_next 0 = .ok (.aload_n 0, 1) := by decide +kernel
theorem dX8_next_1 : decode cX8_next 1 = .ok (.getfield 10, 3) := by decide +kernel
theorem dX8_next_4 : decode cX8_next 4 = .ok (.invokevirtual 265, 3) := by decide +kernel
theorem dX8_next_7 : decode cX8_next 7 = .ok (.astore_n 1, 1) := by decide +kernel
theorem dX8_next_8 : decode cX8_next 8 = .ok (.aload_n 1, 1) := by decide +kernel
theorem dX8_next_9 : decode cX8_next 9 = .ok (.ifnonnull 6, 3) := by decide +kernel
theorem dX8_next_12 : decode cX8_next 12 = .ok (.bipush (-2), 2) := by decide +kernel
theorem dX8_next_14 : decode cX8_next 14 = .ok (.ireturn, 1) := by decide +kernel
theorem dX8_next_15 : decode cX8_next 15 = .ok (.aload_n 0, 1) := by decide +kernel
theorem dX8_next_16 : decode cX8_next 16 = .ok (.getfield 10, 3) := by decide +kernel
theorem dX8_next_19 : decode cX8_next 19 = .ok (.getfield 189, 3) := by decide +kernel
theorem dX8_next_22 : decode cX8_next 22 = .ok (.astore_n 2, 1) := by decide +kernel
theorem dX8_next_23 : decode cX8_next 23 = .ok (.aload_n 2, 1) := by decide +kernel
theorem dX8_next_24 : decode cX8_next 24 = .ok (.invokevirtual 193, 3) := by decide +kernel
theorem dX8_next_27 : decode cX8_next 27 = .ok (.iconst 0, 1) := by decide +kernel
theorem dX8_next_28 : decode cX8_next 28 = .ok (.istore_n 3, 1) := by decide +kernel
theorem dX8_next_29 : decode cX8_next 29 = .ok (.iload_n 3, 1) := by decide +kernel
theorem dX8_next_30 : decode cX8_next 30 = .ok (.bipush 16, 2) := by decide +kernel
theorem dX8_next_32 : decode cX8_next 32 = .ok (.if_icmp .ge 50, 3) := by decide +kernel
theorem dX8_next_35 : decode cX8_next 35 = .ok (.aload_n 0, 1) := by decide +kernel
theorem dX8_next_36 : decode cX8_next 36 = .ok (.getfield 10, 3) := by decide +kernel
theorem dX8_next_39 : decode cX8_next 39 = .ok (.iload_n 3, 1) := by decide +kernel
theorem dX8_next_40 : decode cX8_next 40 = .ok (.invokevirtual 186, 3) := by decide +kernel
theorem dX8_next_43 : decode cX8_next 43 = .ok (.astore 4, 2) := by decide +kernel
theorem dX8_next_45 : decode cX8_next 45 = .ok (.aload 4, 2) := by decide +kernel
theorem dX8_next_47 : decode cX8_next 47 = .ok (.ifnull 29, 3) := by decide +kernel
theorem dX8_next_50 : decode cX8_next 50 = .ok (.aload 4, 2) := by decide +kernel
theorem dX8_next_52 : decode cX8_next 52 = .ok (.getfield 183, 3) := by decide +kernel
theorem dX8_next_55 : decode cX8_next 55 = .ok (.aload_n 1, 1) := by decide +kernel
theorem dX8_next_56 : decode cX8_next 56 = .ok (.getfield 183, 3) := by decide +kernel
theorem dX8_next_59 : decode cX8_next 59 = .ok (.if_icmp .ne 17, 3) := by decide +kernel
theorem dX8_next_62 : decode cX8_next 62 = .ok (.aload_n 2, 1) := by decide +kernel
theorem dX8_next_63 : decode cX8_next 63 = .ok (.aload 4, 2) := by decide +kernel
theorem dX8_next_65 : decode cX8_next 65 = .ok (.iconst 0, 1) := by decide +kernel
theorem dX8_next_66 : decode cX8_next 66 = .ok (.aload_n 0, 1) := by decide +kernel
theorem dX8_next_67 : decode cX8_next 67 = .ok (.getfield 10, 3) := by decide +kernel
theorem dX8_next_70 : decode cX8_next 70 = .ok (.getfield 83, 3) := by decide +kernel
theorem dX8_next_73 : decode cX8_next 73 = .ok (.invokevirtual 198, 3) := by decide +kernel
theorem dX8_next_76 : decode cX8_next 76 = .ok (.iinc 3 1, 3) := by decide +kernel
theorem dX8_next_79 : decode cX8_next 79 = .ok (.goto (-50), 3) := by decide +kernel
theorem dX8_next_82 : decode cX8_next 82 = .ok (.aload_n 0, 1) := by decide +kernel
theorem dX8_next_83 : decode cX8_next 83 = .ok (.aload_n 2, 1) := by decide +kernel
theorem dX8_next_84 : decode cX8_next 84 = .ok (.invokevirtual 256, 3) := by decide +kernel
theorem dX8_next_87 : decode cX8_next 87 = .ok (.aload_n 1, 1) := by decide +kernel
theorem dX8_next_88 : decode cX8_next 88 = .ok (.getfield 183, 3) := by decide +kernel
theorem dX8_next_91 : decode cX8_next 91 = .ok (.ireturn, 1) := by decide +kernel
theorem dX8_rings_0 : decode cX8_rings 0 = .ok (.aload_n 0, 1) := by decide +kernel
theorem dX8_rings_1 : decode cX8_rings 1 = .ok (.iload_n 1, 1) := by decide +kernel
theorem dX8_rings_2 : decode cX8_rings 2 = .ok (.invokevirtual 86, 3) := by decide +kernel
theorem dX8_rings_5 : decode cX8_rings 5 = .ok (.istore_n 2, 1) := by decide +kernel
theorem dX8_rings_6 : decode cX8_rings 6 = .ok (.iload_n 2, 1) := by decide +kernel
theorem dX8_rings_7 : decode cX8_rings 7 = .ok (.ifCond .ge 5, 3) := by decide +kernel
theorem dX8_rings_10 : decode cX8_rings 10 = .ok (.iload_n 2, 1) := by decide +kernel
theorem dX8_rings_11 : decode cX8_rings 11 = .ok (.ireturn, 1) := by decide +kernel
theorem dX8_rings_12 : decode cX8_rings 12 = .ok (.aload_n 0, 1) := by decide +kernel
theorem dX8_rings_13 : decode cX8_rings 13 = .ok (.getfield 16, 3) := by decide +kernel
theorem dX8_rings_16 : decode cX8_rings 16 = .ok (.aload_n 0, 1) := by decide +kernel
theorem dX8_rings_17 : decode cX8_rings 17 = .ok (.getfield 10, 3) := by decide +kernel
theorem dX8_rings_20 : decode cX8_rings 20 = .ok (.invokevirtual 268, 3) := by decide +kernel
theorem dX8_rings_23 : decode cX8_rings 23 = .ok (.aload_n 0, 1) := by decide +kernel
theorem dX8_rings_24 : decode cX8_rings 24 = .ok (.getfield 33, 3) := by decide +kernel
theorem dX8_rings_27 : decode cX8_rings 27 = .ok (.invokevirtual 209, 3) := by decide +kernel
theorem dX8_rings_30 : decode cX8_rings 30 = .ok (.iconst 0, 1) := by decide +kernel
theorem dX8_rings_31 : decode cX8_rings 31 = .ok (.istore_n 3, 1) := by decide +kernel
theorem dX8_rings_32 : decode cX8_rings 32 = .ok (.iconst 0, 1) := by decide +kernel
theorem dX8_rings_33 : decode cX8_rings 33 = .ok (.istore 4, 2) := by decide +kernel
theorem dX8_rings_35 : decode cX8_rings 35 = .ok (.iload 4, 2) := by decide +kernel
theorem dX8_rings_37 : decode cX8_rings 37 = .ok (.iload_n 1, 1) := by decide +kernel
theorem dX8_rings_38 : decode cX8_rings 38 = .ok (.if_icmp .ge 37, 3) := by decide +kernel
theorem dX8_rings_41 : decode cX8_rings 41 = .ok (.aload_n 0, 1) := by decide +kernel
theorem dX8_rings_42 : decode cX8_rings 42 = .ok (.getfield 16, 3) := by decide +kernel
theorem dX8_rings_45 : decode cX8_rings 45 = .ok (.invokevirtual 90, 3) := by decide +kernel
theorem dX8_rings_48 : decode cX8_rings 48 = .ok (.aload_n 0, 1) := by decide +kernel
theorem dX8_rings_49 : decode cX8_rings 49 = .ok (.bipush 20, 2) := by decide +kernel
theorem dX8_rings_51 : decode cX8_rings 51 = .ok (.iload_n 3, 1) := by decide +kernel
theorem dX8_rings_52 : decode cX8_rings 52 = .ok (.isub, 1) := by decide +kernel
theorem dX8_rings_53 : decode cX8_rings 53 = .ok (.invokevirtual 272, 3) := by decide +kernel
theorem dX8_rings_56 : decode cX8_rings 56 = .ok (.iload_n 3, 1) := by decide +kernel
theorem dX8_rings_57 : decode cX8_rings 57 = .ok (.aload_n 0, 1) := by decide +kernel
theorem dX8_rings_58 : decode cX8_rings 58 = .ok (.getfield 16, 3) := by decide +kernel
theorem dX8_rings_61 : decode cX8_rings 61 = .ok (.getfield 189, 3) := by decide +kernel
theorem dX8_rings_64 : decode cX8_rings 64 = .ok (.getfield 202, 3) := by decide +kernel
theorem dX8_rings_67 : decode cX8_rings 67 = .ok (.iadd, 1) := by decide +kernel
theorem dX8_rings_68 : decode cX8_rings 68 = .ok (.istore_n 3, 1) := by decide +kernel
theorem dX8_rings_69 : decode cX8_rings 69 = .ok (.iinc 4 1, 3) := by decide +kernel
theorem dX8_rings_72 : decode cX8_rings 72 = .ok (.goto (-37), 3) := by decide +kernel
theorem dX8_rings_75 : decode cX8_rings 75 = .ok (.iload_n 3, 1) := by decide +kernel
theorem dX8_rings_76 : decode cX8_rings 76 = .ok (.ireturn, 1) := by decide +kernel
theorem dX8_quiet_0 : decode cX8_quiet 0 = .ok (.aload_n 0, 1) := by decide +kernel
theorem dX8_quiet_1 : decode cX8_quiet 1 = .ok (.iload_n 1, 1) := by decide +kernel
theorem dX8_quiet_2 : decode cX8_quiet 2 = .ok (.invokevirtual 86, 3) := by decide +kernel
theorem dX8_quiet_5 : decode cX8_quiet 5 = .ok (.istore_n 2, 1) := by decide +kernel
theorem dX8_quiet_6 : decode cX8_quiet 6 = .ok (.iload_n 2, 1) := by decide +kernel
theorem dX8_quiet_7 : decode cX8_quiet 7 = .ok (.ifCond .ge 5, 3) := by decide +kernel
theorem dX8_quiet_10 : decode cX8_quiet 10 = .ok (.iload_n 2, 1) := by decide +kernel
theorem dX8_quiet_11 : decode cX8_quiet 11 = .ok (.ireturn, 1) := by decide +kernel
theorem dX8_quiet_12 : decode cX8_quiet 12 = .ok (.aload_n 0, 1) := by decide +kernel
theorem dX8_quiet_13 : decode cX8_quiet 13 = .ok (.getfield 16, 3) := by decide +kernel
theorem dX8_quiet_16 : decode cX8_quiet 16 = .ok (.aload_n 0, 1) := by decide +kernel
theorem dX8_quiet_17 : decode cX8_quiet 17 = .ok (.getfield 10, 3) := by decide +kernel
theorem dX8_quiet_20 : decode cX8_quiet 20 = .ok (.invokevirtual 268, 3) := by decide +kernel
theorem dX8_quiet_23 : decode cX8_quiet 23 = .ok (.iconst 0, 1) := by decide +kernel
theorem dX8_quiet_24 : decode cX8_quiet 24 = .ok (.istore_n 3, 1) := by decide +kernel
theorem dX8_quiet_25 : decode cX8_quiet 25 = .ok (.iconst 0, 1) := by decide +kernel
theorem dX8_quiet_26 : decode cX8_quiet 26 = .ok (.istore 4, 2) := by decide +kernel
theorem dX8_quiet_28 : decode cX8_quiet 28 = .ok (.iconst 0, 1) := by decide +kernel
theorem dX8_quiet_29 : decode cX8_quiet 29 = .ok (.istore 5, 2) := by decide +kernel
theorem dX8_quiet_31 : decode cX8_quiet 31 = .ok (.iconst 0, 1) := by decide +kernel
theorem dX8_quiet_32 : decode cX8_quiet 32 = .ok (.istore 6, 2) := by decide +kernel
theorem dX8_quiet_34 : decode cX8_quiet 34 = .ok (.iload 6, 2) := by decide +kernel
theorem dX8_quiet_36 : decode cX8_quiet 36 = .ok (.iload_n 1, 1) := by decide +kernel
theorem dX8_quiet_37 : decode cX8_quiet 37 = .ok (.if_icmp .ge 62, 3) := by decide +kernel
theorem dX8_quiet_40 : decode cX8_quiet 40 = .ok (.aload_n 0, 1) := by decide +kernel
theorem dX8_quiet_41 : decode cX8_quiet 41 = .ok (.getfield 16, 3) := by decide +kernel
theorem dX8_quiet_44 : decode cX8_quiet 44 = .ok (.invokevirtual 90, 3) := by decide +kernel
theorem dX8_quiet_47 : decode cX8_quiet 47 = .ok (.aload_n 0, 1) := by decide +kernel
theorem dX8_quiet_48 : decode cX8_quiet 48 = .ok (.getfield 16, 3) := by decide +kernel
theorem dX8_quiet_51 : decode cX8_quiet 51 = .ok (.getfield 189, 3) := by decide +kernel
theorem dX8_quiet_54 : decode cX8_quiet 54 = .ok (.getfield 202, 3) := by decide +kernel
theorem dX8_quiet_57 : decode cX8_quiet 57 = .ok (.ifCond .ne 10, 3) := by decide +kernel
theorem dX8_quiet_60 : decode cX8_quiet 60 = .ok (.iload 5, 2) := by decide +kernel
theorem dX8_quiet_62 : decode cX8_quiet 62 = .ok (.iconst 1, 1) := by decide +kernel
theorem dX8_quiet_63 : decode cX8_quiet 63 = .ok (.iadd, 1) := by decide +kernel
theorem dX8_quiet_64 : decode cX8_quiet 64 = .ok (.goto 4, 3) := by decide +kernel
theorem dX8_quiet_67 : decode cX8_quiet 67 = .ok (.iconst 0, 1) := by decide +kernel
theorem dX8_quiet_68 : decode cX8_quiet 68 = .ok (.istore 5, 2) := by decide +kernel
theorem dX8_quiet_70 : decode cX8_quiet 70 = .ok (.iload 5, 2) := by decide +kernel
theorem dX8_quiet_72 : decode cX8_quiet 72 = .ok (.iload_n 3, 1) := by decide +kernel
theorem dX8_quiet_73 : decode cX8_quiet 73 = .ok (.if_icmp .le 20, 3) := by decide +kernel
theorem dX8_quiet_76 : decode cX8_quiet 76 = .ok (.iload 5, 2) := by decide +kernel
theorem dX8_quiet_78 : decode cX8_quiet 78 = .ok (.istore_n 3, 1) := by decide +kernel
theorem dX8_quiet_79 : decode cX8_quiet 79 = .ok (.aload_n 0, 1) := by decide +kernel
theorem dX8_quiet_80 : decode cX8_quiet 80 = .ok (.getfield 16, 3) := by decide +kernel
theorem dX8_quiet_83 : decode cX8_quiet 83 = .ok (.getfield 123, 3) := by decide +kernel
theorem dX8_quiet_86 : decode cX8_quiet 86 = .ok (.iload 5, 2) := by decide +kernel
theorem dX8_quiet_88 : decode cX8_quiet 88 = .ok (.isub, 1) := by decide +kernel
theorem dX8_quiet_89 : decode cX8_quiet 89 = .ok (.iconst 1, 1) := by decide +kernel
theorem dX8_quiet_90 : decode cX8_quiet 90 = .ok (.iadd, 1) := by decide +kernel
theorem dX8_quiet_91 : decode cX8_quiet 91 = .ok (.istore 4, 2) := by decide +kernel
theorem dX8_quiet_93 : decode cX8_quiet 93 = .ok (.iinc 6 1, 3) := by decide +kernel
theorem dX8_quiet_96 : decode cX8_quiet 96 = .ok (.goto (-62), 3) := by decide +kernel
theorem dX8_quiet_99 : decode cX8_quiet 99 = .ok (.aload_n 0, 1) := by decide +kernel
theorem dX8_quiet_100 : decode cX8_quiet 100 = .ok (.getfield 33, 3) := by decide +kernel
theorem dX8_quiet_103 : decode cX8_quiet 103 = .ok (.invokevirtual 209, 3) := by decide +kernel
theorem dX8_quiet_106 : decode cX8_quiet 106 = .ok (.aload_n 0, 1) := by decide +kernel
theorem dX8_quiet_107 : decode cX8_quiet 107 = .ok (.getfield 33, 3) := by decide +kernel
theorem dX8_quiet_110 : decode cX8_quiet 110 = .ok (.iload 4, 2) := by decide +kernel
theorem dX8_quiet_112 : decode cX8_quiet 112 = .ok (.i2l, 1) := by decide +kernel
theorem dX8_quiet_113 : decode cX8_quiet 113 = .ok (.invokevirtual 210, 3) := by decide +kernel
theorem dX8_quiet_116 : decode cX8_quiet 116 = .ok (.iload_n 3, 1) := by decide +kernel
theorem dX8_quiet_117 : decode cX8_quiet 117 = .ok (.ireturn, 1) := by decide +kernel
theorem dX8_moves_0 : decode cX8_moves 0 = .ok (.aload_n 0, 1) := by decide +kernel
theorem dX8_moves_1 : decode cX8_moves 1 = .ok (.getfield 10, 3) := by decide +kernel
theorem dX8_moves_4 : decode cX8_moves 4 = .ok (.iload_n 1, 1) := by decide +kernel
theorem dX8_moves_5 : decode cX8_moves 5 = .ok (.invokevirtual 154, 3) := by decide +kernel
theorem dX8_moves_8 : decode cX8_moves 8 = .ok (.astore_n 2, 1) := by decide +kernel
theorem dX8_moves_9 : decode cX8_moves 9 = .ok (.aload_n 2, 1) := by decide +kernel
theorem dX8_moves_10 : decode cX8_moves 10 = .ok (.ifnonnull 5, 3) := by decide +kernel
theorem dX8_moves_13 : decode cX8_moves 13 = .ok (.iconst (-1), 1) := by decide +kernel
theorem dX8_moves_14 : decode cX8_moves 14 = .ok (.ireturn, 1) := by decide +kernel
theorem dX8_moves_15 : decode cX8_moves 15 = .ok (.aload_n 2, 1) := by decide +kernel
theorem dX8_moves_16 : decode cX8_moves 16 = .ok (.getfield 171, 3) := by decide +kernel
theorem dX8_moves_19 : decode cX8_moves 19 = .ok (.ifCond .eq 8, 3) := by decide +kernel
theorem dX8_moves_22 : decode cX8_moves 22 = .ok (.bipush (-2), 2) := by decide +kernel
theorem dX8_moves_24 : decode cX8_moves 24 = .ok (.goto 21, 3) := by decide +kernel
theorem dX8_moves_27 : decode cX8_moves 27 = .ok (.aload_n 0, 1) := by decide +kernel
theorem dX8_moves_28 : decode cX8_moves 28 = .ok (.getfield 10, 3) := by decide +kernel
theorem dX8_moves_31 : decode cX8_moves 31 = .ok (.getfield 62, 3) := by decide +kernel
theorem dX8_moves_34 : decode cX8_moves 34 = .ok (.aload_n 2, 1) := by decide +kernel
theorem dX8_moves_35 : decode cX8_moves 35 = .ok (.getfield 238, 3) := by decide +kernel
theorem dX8_moves_38 : decode cX8_moves 38 = .ok (.aload_n 2, 1) := by decide +kernel
theorem dX8_moves_39 : decode cX8_moves 39 = .ok (.getfield 183, 3) := by decide +kernel
theorem dX8_moves_42 : decode cX8_moves 42 = .ok (.invokevirtual 275, 3) := by decide +kernel
theorem dX8_moves_45 : decode cX8_moves 45 = .ok (.ireturn, 1) := by decide +kernel
theorem dX8_cost_0 : decode cX8_cost 0 = .ok (.iload_n 1, 1) := by decide +kernel
theorem dX8_cost_1 : decode cX8_cost 1 = .ok (.iload_n 2, 1) := by decide +kernel
theorem dX8_cost_2 : decode cX8_cost 2 = .ok (.iload_n 3, 1) := by decide +kernel
theorem dX8_cost_3 : decode cX8_cost 3 = .ok (.iload 4, 2) := by decide +kernel
theorem dX8_cost_5 : decode cX8_cost 5 = .ok (.invokestatic 58, 3) := by decide +kernel
theorem dX8_cost_8 : decode cX8_cost 8 = .ok (.ifCond .ne 5, 3) := by decide +kernel
theorem dX8_cost_11 : decode cX8_cost 11 = .ok (.iconst (-1), 1) := by decide +kernel
theorem dX8_cost_12 : decode cX8_cost 12 = .ok (.ireturn, 1) := by decide +kernel
theorem dX8_cost_13 : decode cX8_cost 13 = .ok (.aload_n 0, 1) := by decide +kernel
theorem dX8_cost_14 : decode cX8_cost 14 = .ok (.getfield 22, 3) := by decide +kernel
theorem dX8_cost_17 : decode cX8_cost 17 = .ok (.iload_n 1, 1) := by decide +kernel
theorem dX8_cost_18 : decode cX8_cost 18 = .ok (.iload_n 2, 1) := by decide +kernel
theorem dX8_cost_19 : decode cX8_cost 19 = .ok (.iload_n 3, 1) := by decide +kernel
theorem dX8_cost_20 : decode cX8_cost 20 = .ok (.iload 4, 2) := by decide +kernel
theorem dX8_cost_22 : decode cX8_cost 22 = .ok (.invokevirtual 68, 3) := by decide +kernel
theorem dX8_cost_25 : decode cX8_cost 25 = .ok (.iconst 0, 1) := by decide +kernel
theorem dX8_cost_26 : decode cX8_cost 26 = .ok (.istore 5, 2) := by decide +kernel
theorem dX8_cost_28 : decode cX8_cost 28 = .ok (.iconst 0, 1) := by decide +kernel
theorem dX8_cost_29 : decode cX8_cost 29 = .ok (.istore 6, 2) := by decide +kernel
theorem dX8_cost_31 : decode cX8_cost 31 = .ok (.iconst 0, 1) := by decide +kernel
theorem dX8_cost_32 : decode cX8_cost 32 = .ok (.istore 7, 2) := by decide +kernel
theorem dX8_cost_34 : decode cX8_cost 34 = .ok (.iload 7, 2) := by decide +kernel
theorem dX8_cost_36 : decode cX8_cost 36 = .ok (.bipush 16, 2) := by decide +kernel
theorem dX8_cost_38 : decode cX8_cost 38 = .ok (.if_icmp .ge 84, 3) := by decide +kernel
theorem dX8_cost_41 : decode cX8_cost 41 = .ok (.aload_n 0, 1) := by decide +kernel
theorem dX8_cost_42 : decode cX8_cost 42 = .ok (.getfield 10, 3) := by decide +kernel
theorem dX8_cost_45 : decode cX8_cost 45 = .ok (.iload 7, 2) := by decide +kernel
theorem dX8_cost_47 : decode cX8_cost 47 = .ok (.invokevirtual 186, 3) := by decide +kernel
theorem dX8_cost_50 : decode cX8_cost 50 = .ok (.astore 8, 2) := by decide +kernel
theorem dX8_cost_52 : decode cX8_cost 52 = .ok (.aload 8, 2) := by decide +kernel
theorem dX8_cost_54 : decode cX8_cost 54 = .ok (.ifnull 62, 3) := by decide +kernel
theorem dX8_cost_57 : decode cX8_cost 57 = .ok (.aload_n 0, 1) := by decide +kernel
theorem dX8_cost_58 : decode cX8_cost 58 = .ok (.getfield 22, 3) := by decide +kernel
theorem dX8_cost_61 : decode cX8_cost 61 = .ok (.aload 8, 2) := by decide +kernel
theorem dX8_cost_63 : decode cX8_cost 63 = .ok (.getfield 183, 3) := by decide +kernel
theorem dX8_cost_66 : decode cX8_cost 66 = .ok (.aload_n 0, 1) := by decide +kernel
theorem dX8_cost_67 : decode cX8_cost 67 = .ok (.getfield 10, 3) := by decide +kernel
theorem dX8_cost_70 : decode cX8_cost 70 = .ok (.getfield 123, 3) := by decide +kernel
theorem dX8_cost_73 : decode cX8_cost 73 = .ok (.isub, 1) := by decide +kernel
theorem dX8_cost_74 : decode cX8_cost 74 = .ok (.invokevirtual 278, 3) := by decide +kernel
theorem dX8_cost_77 : decode cX8_cost 77 = .ok (.istore 9, 2) := by decide +kernel
theorem dX8_cost_79 : decode cX8_cost 79 = .ok (.iload 5, 2) := by decide +kernel
theorem dX8_cost_81 : decode cX8_cost 81 = .ok (.iload 9, 2) := by decide +kernel
theorem dX8_cost_83 : decode cX8_cost 83 = .ok (.iconst (-1), 1) := by decide +kernel
theorem dX8_cost_84 : decode cX8_cost 84 = .ok (.if_icmp .ne 7, 3) := by decide +kernel
theorem dX8_cost_87 : decode cX8_cost 87 = .ok (.iconst 1, 1) := by decide +kernel
theorem dX8_cost_88 : decode cX8_cost 88 = .ok (.goto 4, 3) := by decide +kernel
theorem dX8_cost_91 : decode cX8_cost 91 = .ok (.iconst 0, 1) := by decide +kernel
theorem dX8_cost_92 : decode cX8_cost 92 = .ok (.iadd, 1) := by decide +kernel
theorem dX8_cost_93 : decode cX8_cost 93 = .ok (.istore 5, 2) := by decide +kernel
theorem dX8_cost_95 : decode cX8_cost 95 = .ok (.iload 6, 2) := by decide +kernel
theorem dX8_cost_97 : decode cX8_cost 97 = .ok (.aload_n 0, 1) := by decide +kernel
theorem dX8_cost_98 : decode cX8_cost 98 = .ok (.getfield 22, 3) := by decide +kernel
theorem dX8_cost_101 : decode cX8_cost 101 = .ok (.iload 9, 2) := by decide +kernel
theorem dX8_cost_103 : decode cX8_cost 103 = .ok (.aload 8, 2) := by decide +kernel
theorem dX8_cost_105 : decode cX8_cost 105 = .ok (.getfield 183, 3) := by decide +kernel
theorem dX8_cost_108 : decode cX8_cost 108 = .ok (.invokevirtual 275, 3) := by decide +kernel
theorem dX8_cost_111 : decode cX8_cost 111 = .ok (.invokestatic 281, 3) := by decide +kernel
theorem dX8_cost_114 : decode cX8_cost 114 = .ok (.istore 6, 2) := by decide +kernel
theorem dX8_cost_116 : decode cX8_cost 116 = .ok (.iinc 7 1, 3) := by decide +kernel
theorem dX8_cost_119 : decode cX8_cost 119 = .ok (.goto (-85), 3) := by decide +kernel
theorem dX8_cost_122 : decode cX8_cost 122 = .ok (.aload_n 0, 1) := by decide +kernel
theorem dX8_cost_123 : decode cX8_cost 123 = .ok (.getfield 33, 3) := by decide +kernel
theorem dX8_cost_126 : decode cX8_cost 126 = .ok (.invokevirtual 209, 3) := by decide +kernel
theorem dX8_cost_129 : decode cX8_cost 129 = .ok (.aload_n 0, 1) := by decide +kernel
theorem dX8_cost_130 : decode cX8_cost 130 = .ok (.getfield 33, 3) := by decide +kernel
theorem dX8_cost_133 : decode cX8_cost 133 = .ok (.iload 5, 2) := by decide +kernel
theorem dX8_cost_135 : decode cX8_cost 135 = .ok (.i2l, 1) := by decide +kernel
theorem dX8_cost_136 : decode cX8_cost 136 = .ok (.invokevirtual 210, 3) := by decide +kernel
theorem dX8_cost_139 : decode cX8_cost 139 = .ok (.aload_n 0, 1) := by decide +kernel
theorem dX8_cost_140 : decode cX8_cost 140 = .ok (.getfield 33, 3) := by decide +kernel
theorem dX8_cost_143 : decode cX8_cost 143 = .ok (.iload 6, 2) := by decide +kernel
theorem dX8_cost_145 : decode cX8_cost 145 = .ok (.i2l, 1) := by decide +kernel
theorem dX8_cost_146 : decode cX8_cost 146 = .ok (.invokevirtual 210, 3) := by decide +kernel
theorem dX8_cost_149 : decode cX8_cost 149 = .ok (.aload_n 0, 1) := by decide +kernel
theorem dX8_cost_150 : decode cX8_cost 150 = .ok (.aload_n 0, 1) := by decide +kernel
theorem dX8_cost_151 : decode cX8_cost 151 = .ok (.getfield 22, 3) := by decide +kernel
theorem dX8_cost_154 : decode cX8_cost 154 = .ok (.invokevirtual 286, 3) := by decide +kernel
theorem dX8_cost_157 : decode cX8_cost 157 = .ok (.ireturn, 1) := by decide +kernel
theorem dX8_best_0 : decode cX8_best 0 = .ok (.iload_n 1, 1) := by decide +kernel
theorem dX8_best_1 : decode cX8_best 1 = .ok (.iconst 1, 1) := by decide +kernel
theorem dX8_best_2 : decode cX8_best 2 = .ok (.iconst 4, 1) := by decide +kernel
theorem dX8_best_3 : decode cX8_best 3 = .ok (.invokestatic 79, 3) := by decide +kernel
theorem dX8_best_6 : decode cX8_best 6 = .ok (.ifCond .ne 5, 3) := by decide +kernel
theorem dX8_best_9 : decode cX8_best 9 = .ok (.iconst (-1), 1) := by decide +kernel
theorem dX8_best_10 : decode cX8_best 10 = .ok (.ireturn, 1) := by decide +kernel
theorem dX8_best_11 : decode cX8_best 11 = .ok (.iconst 0, 1) := by decide +kernel
theorem dX8_best_12 : decode cX8_best 12 = .ok (.istore_n 2, 1) := by decide +kernel
theorem dX8_best_13 : decode cX8_best 13 = .ok (.iconst 0, 1) := by decide +kernel
theorem dX8_best_14 : decode cX8_best 14 = .ok (.istore_n 3, 1) := by decide +kernel
theorem dX8_best_15 : decode cX8_best 15 = .ok (.iconst 2, 1) := by decide +kernel
theorem dX8_best_16 : decode cX8_best 16 = .ok (.istore 4, 2) := by decide +kernel
theorem dX8_best_18 : decode cX8_best 18 = .ok (.iload 4, 2) := by decide +kernel
theorem dX8_best_20 : decode cX8_best 20 = .ok (.bipush 16, 2) := by decide +kernel
theorem dX8_best_22 : decode cX8_best 22 = .ok (.if_icmp .gt 82, 3) := by decide +kernel
theorem dX8_best_25 : decode cX8_best 25 = .ok (.aload_n 0, 1) := by decide +kernel
theorem dX8_best_26 : decode cX8_best 26 = .ok (.getfield 22, 3) := by decide +kernel
theorem dX8_best_29 : decode cX8_best 29 = .ok (.iload 4, 2) := by decide +kernel
theorem dX8_best_31 : decode cX8_best 31 = .ok (.iload_n 1, 1) := by decide +kernel
theorem dX8_best_32 : decode cX8_best 32 = .ok (.iconst 1, 1) := by decide +kernel
theorem dX8_best_33 : decode cX8_best 33 = .ok (.if_icmp .le 8, 3) := by decide +kernel
theorem dX8_best_36 : decode cX8_best 36 = .ok (.iload 4, 2) := by decide +kernel
theorem dX8_best_38 : decode cX8_best 38 = .ok (.goto 4, 3) := by decide +kernel
theorem dX8_best_41 : decode cX8_best 41 = .ok (.iconst 0, 1) := by decide +kernel
theorem dX8_best_42 : decode cX8_best 42 = .ok (.iload_n 1, 1) := by decide +kernel
theorem dX8_best_43 : decode cX8_best 43 = .ok (.iconst 2, 1) := by decide +kernel
theorem dX8_best_44 : decode cX8_best 44 = .ok (.if_icmp .le 8, 3) := by decide +kernel
theorem dX8_best_47 : decode cX8_best 47 = .ok (.iload 4, 2) := by decide +kernel
theorem dX8_best_49 : decode cX8_best 49 = .ok (.goto 4, 3) := by decide +kernel
theorem dX8_best_52 : decode cX8_best 52 = .ok (.iconst 0, 1) := by decide +kernel
theorem dX8_best_53 : decode cX8_best 53 = .ok (.iload_n 1, 1) := by decide +kernel
theorem dX8_best_54 : decode cX8_best 54 = .ok (.iconst 3, 1) := by decide +kernel
theorem dX8_best_55 : decode cX8_best 55 = .ok (.if_icmp .le 8, 3) := by decide +kernel
theorem dX8_best_58 : decode cX8_best 58 = .ok (.iload 4, 2) := by decide +kernel
theorem dX8_best_60 : decode cX8_best 60 = .ok (.goto 4, 3) := by decide +kernel
theorem dX8_best_63 : decode cX8_best 63 = .ok (.iconst 0, 1) := by decide +kernel
theorem dX8_best_64 : decode cX8_best 64 = .ok (.invokevirtual 68, 3) := by decide +kernel
theorem dX8_best_67 : decode cX8_best 67 = .ok (.aload_n 0, 1) := by decide +kernel
theorem dX8_best_68 : decode cX8_best 68 = .ok (.aload_n 0, 1) := by decide +kernel
theorem dX8_best_69 : decode cX8_best 69 = .ok (.getfield 22, 3) := by decide +kernel
theorem dX8_best_72 : decode cX8_best 72 = .ok (.invokevirtual 286, 3) := by decide +kernel
theorem dX8_best_75 : decode cX8_best 75 = .ok (.iload_n 1, 1) := by decide +kernel
theorem dX8_best_76 : decode cX8_best 76 = .ok (.iload 4, 2) := by decide +kernel
theorem dX8_best_78 : decode cX8_best 78 = .ok (.imul, 1) := by decide +kernel
theorem dX8_best_79 : decode cX8_best 79 = .ok (.iadd, 1) := by decide +kernel
theorem dX8_best_80 : decode cX8_best 80 = .ok (.istore 5, 2) := by decide +kernel
theorem dX8_best_82 : decode cX8_best 82 = .ok (.iload_n 2, 1) := by decide +kernel
theorem dX8_best_83 : decode cX8_best 83 = .ok (.ifCond .eq 9, 3) := by decide +kernel
theorem dX8_best_86 : decode cX8_best 86 = .ok (.iload 5, 2) := by decide +kernel
theorem dX8_best_88 : decode cX8_best 88 = .ok (.iload_n 3, 1) := by decide +kernel
theorem dX8_best_89 : decode cX8_best 89 = .ok (.if_icmp .ge 9, 3) := by decide +kernel
theorem dX8_best_92 : decode cX8_best 92 = .ok (.iload 4, 2) := by decide +kernel
theorem dX8_best_94 : decode cX8_best 94 = .ok (.istore_n 2, 1) := by decide +kernel
theorem dX8_best_95 : decode cX8_best 95 = .ok (.iload 5, 2) := by decide +kernel
theorem dX8_best_97 : decode cX8_best 97 = .ok (.istore_n 3, 1) := by decide +kernel
theorem dX8_best_98 : decode cX8_best 98 = .ok (.iinc 4 1, 3) := by decide +kernel
theorem dX8_best_101 : decode cX8_best 101 = .ok (.goto (-83), 3) := by decide +kernel
theorem dX8_best_104 : decode cX8_best 104 = .ok (.aload_n 0, 1) := by decide +kernel
theorem dX8_best_105 : decode cX8_best 105 = .ok (.getfield 33, 3) := by decide +kernel
theorem dX8_best_108 : decode cX8_best 108 = .ok (.invokevirtual 209, 3) := by decide +kernel
theorem dX8_best_111 : decode cX8_best 111 = .ok (.aload_n 0, 1) := by decide +kernel
theorem dX8_best_112 : decode cX8_best 112 = .ok (.getfield 33, 3) := by decide +kernel
theorem dX8_best_115 : decode cX8_best 115 = .ok (.iload_n 3, 1) := by decide +kernel
theorem dX8_best_116 : decode cX8_best 116 = .ok (.i2l, 1) := by decide +kernel
theorem dX8_best_117 : decode cX8_best 117 = .ok (.invokevirtual 210, 3) := by decide +kernel
theorem dX8_best_120 : decode cX8_best 120 = .ok (.iload_n 2, 1) := by decide +kernel
theorem dX8_best_121 : decode cX8_best 121 = .ok (.ireturn, 1) := by decide +kernel
theorem dX8_ahead_0 : decode cX8_ahead 0 = .ok (.aload_n 0, 1) := by decide +kernel
theorem dX8_ahead_1 : decode cX8_ahead 1 = .ok (.getfield 10, 3) := by decide +kernel
theorem dX8_ahead_4 : decode cX8_ahead 4 = .ok (.iload_n 1, 1) := by decide +kernel
theorem dX8_ahead_5 : decode cX8_ahead 5 = .ok (.invokevirtual 154, 3) := by decide +kernel
theorem dX8_ahead_8 : decode cX8_ahead 8 = .ok (.astore_n 3, 1) := by decide +kernel
theorem dX8_ahead_9 : decode cX8_ahead 9 = .ok (.aload_n 0, 1) := by decide +kernel
theorem dX8_ahead_10 : decode cX8_ahead 10 = .ok (.getfield 10, 3) := by decide +kernel
theorem dX8_ahead_13 : decode cX8_ahead 13 = .ok (.iload_n 2, 1) := by decide +kernel
theorem dX8_ahead_14 : decode cX8_ahead 14 = .ok (.invokevirtual 154, 3) := by decide +kernel
theorem dX8_ahead_17 : decode cX8_ahead 17 = .ok (.astore 4, 2) := by decide +kernel
theorem dX8_ahead_19 : decode cX8_ahead 19 = .ok (.aload_n 3, 1) := by decide +kernel
theorem dX8_ahead_20 : decode cX8_ahead 20 = .ok (.ifnull 13, 3) := by decide +kernel
theorem dX8_ahead_23 : decode cX8_ahead 23 = .ok (.aload 4, 2) := by decide +kernel
theorem dX8_ahead_25 : decode cX8_ahead 25 = .ok (.ifnull 8, 3) := by decide +kernel
theorem dX8_ahead_28 : decode cX8_ahead 28 = .ok (.iload_n 1, 1) := by decide +kernel
theorem dX8_ahead_29 : decode cX8_ahead 29 = .ok (.iload_n 2, 1) := by decide +kernel
theorem dX8_ahead_30 : decode cX8_ahead 30 = .ok (.if_icmp .ne 5, 3) := by decide +kernel
theorem dX8_ahead_33 : decode cX8_ahead 33 = .ok (.iconst (-1), 1) := by decide +kernel
theorem dX8_ahead_34 : decode cX8_ahead 34 = .ok (.ireturn, 1) := by decide +kernel
theorem dX8_ahead_35 : decode cX8_ahead 35 = .ok (.aload_n 3, 1) := by decide +kernel
theorem dX8_ahead_36 : decode cX8_ahead 36 = .ok (.getfield 171, 3) := by decide +kernel
theorem dX8_ahead_39 : decode cX8_ahead 39 = .ok (.ifCond .ne 11, 3) := by decide +kernel
theorem dX8_ahead_42 : decode cX8_ahead 42 = .ok (.aload 4, 2) := by decide +kernel
theorem dX8_ahead_44 : decode cX8_ahead 44 = .ok (.getfield 171, 3) := by decide +kernel
theorem dX8_ahead_47 : decode cX8_ahead 47 = .ok (.ifCond .eq 6, 3) := by decide +kernel
theorem dX8_ahead_50 : decode cX8_ahead 50 = .ok (.bipush (-2), 2) := by decide +kernel
theorem dX8_ahead_52 : decode cX8_ahead 52 = .ok (.ireturn, 1) := by decide +kernel
theorem dX8_ahead_53 : decode cX8_ahead 53 = .ok (.aload_n 3, 1) := by decide +kernel
theorem dX8_ahead_54 : decode cX8_ahead 54 = .ok (.aload 4, 2) := by decide +kernel
theorem dX8_ahead_56 : decode cX8_ahead 56 = .ok (.iconst 1, 1) := by decide +kernel
theorem dX8_ahead_57 : decode cX8_ahead 57 = .ok (.aload_n 0, 1) := by decide +kernel
theorem dX8_ahead_58 : decode cX8_ahead 58 = .ok (.getfield 10, 3) := by decide +kernel
theorem dX8_ahead_61 : decode cX8_ahead 61 = .ok (.getfield 83, 3) := by decide +kernel
theorem dX8_ahead_64 : decode cX8_ahead 64 = .ok (.invokevirtual 290, 3) := by decide +kernel
theorem dX8_ahead_67 : decode cX8_ahead 67 = .ok (.istore 5, 2) := by decide +kernel
theorem dX8_ahead_69 : decode cX8_ahead 69 = .ok (.aload_n 0, 1) := by decide +kernel
theorem dX8_ahead_70 : decode cX8_ahead 70 = .ok (.getfield 33, 3) := by decide +kernel
theorem dX8_ahead_73 : decode cX8_ahead 73 = .ok (.invokevirtual 209, 3) := by decide +kernel
theorem dX8_ahead_76 : decode cX8_ahead 76 = .ok (.aload_n 0, 1) := by decide +kernel
theorem dX8_ahead_77 : decode cX8_ahead 77 = .ok (.getfield 33, 3) := by decide +kernel
theorem dX8_ahead_80 : decode cX8_ahead 80 = .ok (.iload 5, 2) := by decide +kernel
theorem dX8_ahead_82 : decode cX8_ahead 82 = .ok (.ifCond .eq 11, 3) := by decide +kernel
theorem dX8_ahead_85 : decode cX8_ahead 85 = .ok (.aload_n 3, 1) := by decide +kernel
theorem dX8_ahead_86 : decode cX8_ahead 86 = .ok (.getfield 183, 3) := by decide +kernel
theorem dX8_ahead_89 : decode cX8_ahead 89 = .ok (.i2l, 1) := by decide +kernel
theorem dX8_ahead_90 : decode cX8_ahead 90 = .ok (.goto 9, 3) := by decide +kernel
theorem dX8_ahead_93 : decode cX8_ahead 93 = .ok (.aload 4, 2) := by decide +kernel
theorem dX8_ahead_95 : decode cX8_ahead 95 = .ok (.getfield 183, 3) := by decide +kernel
theorem dX8_ahead_98 : decode cX8_ahead 98 = .ok (.i2l, 1) := by decide +kernel
theorem dX8_ahead_99 : decode cX8_ahead 99 = .ok (.invokevirtual 210, 3) := by decide +kernel
theorem dX8_ahead_102 : decode cX8_ahead 102 = .ok (.iload 5, 2) := by decide +kernel
theorem dX8_ahead_104 : decode cX8_ahead 104 = .ok (.ifCond .eq 7, 3) := by decide +kernel
theorem dX8_ahead_107 : decode cX8_ahead 107 = .ok (.iconst 0, 1) := by decide +kernel
theorem dX8_ahead_108 : decode cX8_ahead 108 = .ok (.goto 4, 3) := by decide +kernel
theorem dX8_ahead_111 : decode cX8_ahead 111 = .ok (.iconst 1, 1) := by decide +kernel
theorem dX8_ahead_112 : decode cX8_ahead 112 = .ok (.ireturn, 1) := by decide +kernel
theorem dX8_way_0 : decode cX8_way 0 = .ok (.aload_n 0, 1) := by decide +kernel
theorem dX8_way_1 : decode cX8_way 1 = .ok (.getfield 10, 3) := by decide +kernel
theorem dX8_way_4 : decode cX8_way 4 = .ok (.iload_n 1, 1) := by decide +kernel
theorem dX8_way_5 : decode cX8_way 5 = .ok (.invokevirtual 154, 3) := by decide +kernel
