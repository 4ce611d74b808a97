theorem d_TX_solidBehind_0 : decode b_TX_solidBehind 0 = .ok (.iload_n 2, 1) := by decide +kernel
theorem d_TX_solidBehind_1 : decode b_TX_solidBehind 1 = .ok (.istore_n 3, 1) := by decide +kernel
theorem d_TX_solidBehind_2 : decode b_TX_solidBehind 2 = .ok (.iload_n 3, 1) := by decide +kernel
theorem d_TX_solidBehind_3 : decode b_TX_solidBehind 3 = .ok (.iload_n 1, 1) := by decide +kernel
theorem d_TX_solidBehind_4 : decode b_TX_solidBehind 4 = .ok (.if_icmp .le 16, 3) := by decide +kernel
theorem d_TX_solidBehind_7 : decode b_TX_solidBehind 7 = .ok (.aload_n 0, 1) := by decide +kernel
theorem d_TX_solidBehind_8 : decode b_TX_solidBehind 8 = .ok (.iload_n 3, 1) := by decide +kernel
theorem d_TX_solidBehind_9 : decode b_TX_solidBehind 9 = .ok (.iconst 1, 1) := by decide +kernel
theorem d_TX_solidBehind_10 : decode b_TX_solidBehind 10 = .ok (.isub, 1) := by decide +kernel
theorem d_TX_solidBehind_11 : decode b_TX_solidBehind 11 = .ok (.invokevirtual 42, 3) := by decide +kernel
theorem d_TX_solidBehind_14 : decode b_TX_solidBehind 14 = .ok (.ifCond .eq 6, 3) := by decide +kernel
theorem d_TX_solidBehind_17 : decode b_TX_solidBehind 17 = .ok (.iinc 3 (-1), 3) := by decide +kernel
theorem d_TX_solidBehind_20 : decode b_TX_solidBehind 20 = .ok (.iload_n 3, 1) := by decide +kernel
theorem d_TX_solidBehind_21 : decode b_TX_solidBehind 21 = .ok (.iload_n 1, 1) := by decide +kernel
theorem d_TX_solidBehind_22 : decode b_TX_solidBehind 22 = .ok (.if_icmp .le 21, 3) := by decide +kernel
theorem d_TX_solidBehind_25 : decode b_TX_solidBehind 25 = .ok (.aload_n 0, 1) := by decide +kernel
theorem d_TX_solidBehind_26 : decode b_TX_solidBehind 26 = .ok (.getfield 17, 3) := by decide +kernel
theorem d_TX_solidBehind_29 : decode b_TX_solidBehind 29 = .ok (.iload_n 3, 1) := by decide +kernel
theorem d_TX_solidBehind_30 : decode b_TX_solidBehind 30 = .ok (.iconst 1, 1) := by decide +kernel
theorem d_TX_solidBehind_31 : decode b_TX_solidBehind 31 = .ok (.isub, 1) := by decide +kernel
theorem d_TX_solidBehind_32 : decode b_TX_solidBehind 32 = .ok (.iaload, 1) := by decide +kernel
theorem d_TX_solidBehind_33 : decode b_TX_solidBehind 33 = .ok (.iconst 1, 1) := by decide +kernel
theorem d_TX_solidBehind_34 : decode b_TX_solidBehind 34 = .ok (.if_icmp .ne 9, 3) := by decide +kernel
theorem d_TX_solidBehind_37 : decode b_TX_solidBehind 37 = .ok (.iinc 3 (-1), 3) := by decide +kernel
theorem d_TX_solidBehind_40 : decode b_TX_solidBehind 40 = .ok (.goto (-20), 3) := by decide +kernel
theorem d_TX_solidBehind_43 : decode b_TX_solidBehind 43 = .ok (.iload_n 3, 1) := by decide +kernel
theorem d_TX_solidBehind_44 : decode b_TX_solidBehind 44 = .ok (.ireturn, 1) := by decide +kernel
theorem d_TX_endsLine_0 : decode b_TX_endsLine 0 = .ok (.aload_n 0, 1) := by decide +kernel
theorem d_TX_endsLine_1 : decode b_TX_endsLine 1 = .ok (.getfield 17, 3) := by decide +kernel
theorem d_TX_endsLine_4 : decode b_TX_endsLine 4 = .ok (.iload_n 1, 1) := by decide +kernel
theorem d_TX_endsLine_5 : decode b_TX_endsLine 5 = .ok (.iaload, 1) := by decide +kernel
theorem d_TX_endsLine_6 : decode b_TX_endsLine 6 = .ok (.iconst 5, 1) := by decide +kernel
theorem d_TX_endsLine_7 : decode b_TX_endsLine 7 = .ok (.if_icmp .eq 14, 3) := by decide +kernel
theorem d_TX_endsLine_10 : decode b_TX_endsLine 10 = .ok (.aload_n 0, 1) := by decide +kernel
theorem d_TX_endsLine_11 : decode b_TX_endsLine 11 = .ok (.getfield 17, 3) := by decide +kernel
theorem d_TX_endsLine_14 : decode b_TX_endsLine 14 = .ok (.iload_n 1, 1) := by decide +kernel
theorem d_TX_endsLine_15 : decode b_TX_endsLine 15 = .ok (.iaload, 1) := by decide +kernel
theorem d_TX_endsLine_16 : decode b_TX_endsLine 16 = .ok (.bipush 6, 2) := by decide +kernel
theorem d_TX_endsLine_18 : decode b_TX_endsLine 18 = .ok (.if_icmp .ne 7, 3) := by decide +kernel
theorem d_TX_endsLine_21 : decode b_TX_endsLine 21 = .ok (.iconst 1, 1) := by decide +kernel
theorem d_TX_endsLine_22 : decode b_TX_endsLine 22 = .ok (.goto 4, 3) := by decide +kernel
theorem d_TX_endsLine_25 : decode b_TX_endsLine 25 = .ok (.iconst 0, 1) := by decide +kernel
theorem d_TX_endsLine_26 : decode b_TX_endsLine 26 = .ok (.ireturn, 1) := by decide +kernel
theorem d_TX_widthWithin_0 : decode b_TX_widthWithin 0 = .ok (.aload_n 0, 1) := by decide +kernel
theorem d_TX_widthWithin_1 : decode b_TX_widthWithin 1 = .ok (.iload_n 1, 1) := by decide +kernel
theorem d_TX_widthWithin_2 : decode b_TX_widthWithin 2 = .ok (.invokevirtual 42, 3) := by decide +kernel
theorem d_TX_widthWithin_5 : decode b_TX_widthWithin 5 = .ok (.ifCond .ne 17, 3) := by decide +kernel
theorem d_TX_widthWithin_8 : decode b_TX_widthWithin 8 = .ok (.aload_n 0, 1) := by decide +kernel
theorem d_TX_widthWithin_9 : decode b_TX_widthWithin 9 = .ok (.getfield 17, 3) := by decide +kernel
theorem d_TX_widthWithin_12 : decode b_TX_widthWithin 12 = .ok (.iload_n 1, 1) := by decide +kernel
theorem d_TX_widthWithin_13 : decode b_TX_widthWithin 13 = .ok (.iaload, 1) := by decide +kernel
theorem d_TX_widthWithin_14 : decode b_TX_widthWithin 14 = .ok (.iconst 4, 1) := by decide +kernel
theorem d_TX_widthWithin_15 : decode b_TX_widthWithin 15 = .ok (.if_icmp .ne 9, 3) := by decide +kernel
theorem d_TX_widthWithin_18 : decode b_TX_widthWithin 18 = .ok (.iload_n 2, 1) := by decide +kernel
theorem d_TX_widthWithin_19 : decode b_TX_widthWithin 19 = .ok (.ifCond .ne 5, 3) := by decide +kernel
theorem d_TX_widthWithin_22 : decode b_TX_widthWithin 22 = .ok (.iconst 0, 1) := by decide +kernel
theorem d_TX_widthWithin_23 : decode b_TX_widthWithin 23 = .ok (.ireturn, 1) := by decide +kernel
theorem d_TX_widthWithin_24 : decode b_TX_widthWithin 24 = .ok (.aload_n 0, 1) := by decide +kernel
theorem d_TX_widthWithin_25 : decode b_TX_widthWithin 25 = .ok (.getfield 21, 3) := by decide +kernel
theorem d_TX_widthWithin_28 : decode b_TX_widthWithin 28 = .ok (.iload_n 1, 1) := by decide +kernel
theorem d_TX_widthWithin_29 : decode b_TX_widthWithin 29 = .ok (.iaload, 1) := by decide +kernel
theorem d_TX_widthWithin_30 : decode b_TX_widthWithin 30 = .ok (.ireturn, 1) := by decide +kernel
theorem d_PA_tabWidth_0 : decode b_PA_tabWidth 0 = .ok (.aload_n 0, 1) := by decide +kernel
theorem d_PA_tabWidth_1 : decode b_PA_tabWidth 1 = .ok (.iload_n 1, 1) := by decide +kernel
theorem d_PA_tabWidth_2 : decode b_PA_tabWidth 2 = .ok (.invokevirtual 37, 3) := by decide +kernel
theorem d_PA_tabWidth_5 : decode b_PA_tabWidth 5 = .ok (.istore 4, 2) := by decide +kernel
theorem d_PA_tabWidth_7 : decode b_PA_tabWidth 7 = .ok (.iload 4, 2) := by decide +kernel
theorem d_PA_tabWidth_9 : decode b_PA_tabWidth 9 = .ok (.aload_n 0, 1) := by decide +kernel
theorem d_PA_tabWidth_10 : decode b_PA_tabWidth 10 = .ok (.getfield 27, 3) := by decide +kernel
theorem d_PA_tabWidth_13 : decode b_PA_tabWidth 13 = .ok (.if_icmp .ge 13, 3) := by decide +kernel
theorem d_PA_tabWidth_16 : decode b_PA_tabWidth 16 = .ok (.aload_n 0, 1) := by decide +kernel
theorem d_PA_tabWidth_17 : decode b_PA_tabWidth 17 = .ok (.getfield 15, 3) := by decide +kernel
theorem d_PA_tabWidth_20 : decode b_PA_tabWidth 20 = .ok (.iload 4, 2) := by decide +kernel
theorem d_PA_tabWidth_22 : decode b_PA_tabWidth 22 = .ok (.iaload, 1) := by decide +kernel
theorem d_PA_tabWidth_23 : decode b_PA_tabWidth 23 = .ok (.goto 15, 3) := by decide +kernel
theorem d_PA_tabWidth_26 : decode b_PA_tabWidth 26 = .ok (.iload_n 1, 1) := by decide +kernel
theorem d_PA_tabWidth_27 : decode b_PA_tabWidth 27 = .ok (.aload_n 0, 1) := by decide +kernel
theorem d_PA_tabWidth_28 : decode b_PA_tabWidth 28 = .ok (.invokevirtual 41, 3) := by decide +kernel
theorem d_PA_tabWidth_31 : decode b_PA_tabWidth 31 = .ok (.invokestatic 45, 3) := by decide +kernel
theorem d_PA_tabWidth_34 : decode b_PA_tabWidth 34 = .ok (.iload_n 3, 1) := by decide +kernel
theorem d_PA_tabWidth_35 : decode b_PA_tabWidth 35 = .ok (.invokestatic 51, 3) := by decide +kernel
theorem d_PA_tabWidth_38 : decode b_PA_tabWidth 38 = .ok (.istore 5, 2) := by decide +kernel
theorem d_PA_tabWidth_40 : decode b_PA_tabWidth 40 = .ok (.iload 4, 2) := by decide +kernel
theorem d_PA_tabWidth_42 : decode b_PA_tabWidth 42 = .ok (.aload_n 0, 1) := by decide +kernel
theorem d_PA_tabWidth_43 : decode b_PA_tabWidth 43 = .ok (.getfield 27, 3) := by decide +kernel
theorem d_PA_tabWidth_46 : decode b_PA_tabWidth 46 = .ok (.if_icmp .ge 13, 3) := by decide +kernel
theorem d_PA_tabWidth_49 : decode b_PA_tabWidth 49 = .ok (.aload_n 0, 1) := by decide +kernel
theorem d_PA_tabWidth_50 : decode b_PA_tabWidth 50 = .ok (.getfield 18, 3) := by decide +kernel
theorem d_PA_tabWidth_53 : decode b_PA_tabWidth 53 = .ok (.iload 4, 2) := by decide +kernel
theorem d_PA_tabWidth_55 : decode b_PA_tabWidth 55 = .ok (.iaload, 1) := by decide +kernel
theorem d_PA_tabWidth_56 : decode b_PA_tabWidth 56 = .ok (.goto 4, 3) := by decide +kernel
theorem d_PA_tabWidth_59 : decode b_PA_tabWidth 59 = .ok (.iconst 0, 1) := by decide +kernel
theorem d_PA_tabWidth_60 : decode b_PA_tabWidth 60 = .ok (.istore 6, 2) := by decide +kernel
theorem d_PA_tabWidth_62 : decode b_PA_tabWidth 62 = .ok (.iload 5, 2) := by decide +kernel
theorem d_PA_tabWidth_64 : decode b_PA_tabWidth 64 = .ok (.iload_n 1, 1) := by decide +kernel
theorem d_PA_tabWidth_65 : decode b_PA_tabWidth 65 = .ok (.isub, 1) := by decide +kernel
theorem d_PA_tabWidth_66 : decode b_PA_tabWidth 66 = .ok (.istore 7, 2) := by decide +kernel
theorem d_PA_tabWidth_68 : decode b_PA_tabWidth 68 = .ok (.iload 6, 2) := by decide +kernel
theorem d_PA_tabWidth_70 : decode b_PA_tabWidth 70 = .ok (.iconst 1, 1) := by decide +kernel
theorem d_PA_tabWidth_71 : decode b_PA_tabWidth 71 = .ok (.if_icmp .ne 12, 3) := by decide +kernel
theorem d_PA_tabWidth_74 : decode b_PA_tabWidth 74 = .ok (.iload 7, 2) := by decide +kernel
theorem d_PA_tabWidth_76 : decode b_PA_tabWidth 76 = .ok (.iload_n 2, 1) := by decide +kernel
theorem d_PA_tabWidth_77 : decode b_PA_tabWidth 77 = .ok (.isub, 1) := by decide +kernel
theorem d_PA_tabWidth_78 : decode b_PA_tabWidth 78 = .ok (.istore 7, 2) := by decide +kernel
theorem d_PA_tabWidth_80 : decode b_PA_tabWidth 80 = .ok (.goto 17, 3) := by decide +kernel
theorem d_PA_tabWidth_83 : decode b_PA_tabWidth 83 = .ok (.iload 6, 2) := by decide +kernel
theorem d_PA_tabWidth_85 : decode b_PA_tabWidth 85 = .ok (.iconst 2, 1) := by decide +kernel
theorem d_PA_tabWidth_86 : decode b_PA_tabWidth 86 = .ok (.if_icmp .ne 11, 3) := by decide +kernel
theorem d_PA_tabWidth_89 : decode b_PA_tabWidth 89 = .ok (.iload 7, 2) := by decide +kernel
theorem d_PA_tabWidth_91 : decode b_PA_tabWidth 91 = .ok (.iload_n 2, 1) := by decide +kernel
theorem d_PA_tabWidth_92 : decode b_PA_tabWidth 92 = .ok (.iconst 2, 1) := by decide +kernel
theorem d_PA_tabWidth_93 : decode b_PA_tabWidth 93 = .ok (.idiv, 1) := by decide +kernel
theorem d_PA_tabWidth_94 : decode b_PA_tabWidth 94 = .ok (.isub, 1) := by decide +kernel
theorem d_PA_tabWidth_95 : decode b_PA_tabWidth 95 = .ok (.istore 7, 2) := by decide +kernel
theorem d_PA_tabWidth_97 : decode b_PA_tabWidth 97 = .ok (.iconst 0, 1) := by decide +kernel
theorem d_PA_tabWidth_98 : decode b_PA_tabWidth 98 = .ok (.iload 7, 2) := by decide +kernel
theorem d_PA_tabWidth_100 : decode b_PA_tabWidth 100 = .ok (.invokestatic 45, 3) := by decide +kernel
theorem d_PA_tabWidth_103 : decode b_PA_tabWidth 103 = .ok (.ireturn, 1) := by decide +kernel
theorem d_PA_ownStopAbove_0 : decode b_PA_ownStopAbove 0 = .ok (.iconst 0, 1) := by decide +kernel
theorem d_PA_ownStopAbove_1 : decode b_PA_ownStopAbove 1 = .ok (.istore_n 2, 1) := by decide +kernel
theorem d_PA_ownStopAbove_2 : decode b_PA_ownStopAbove 2 = .ok (.iload_n 2, 1) := by decide +kernel
theorem d_PA_ownStopAbove_3 : decode b_PA_ownStopAbove 3 = .ok (.aload_n 0, 1) := by decide +kernel
theorem d_PA_ownStopAbove_4 : decode b_PA_ownStopAbove 4 = .ok (.getfield 27, 3) := by decide +kernel
theorem d_PA_ownStopAbove_7 : decode b_PA_ownStopAbove 7 = .ok (.if_icmp .ge 19, 3) := by decide +kernel
theorem d_PA_ownStopAbove_10 : decode b_PA_ownStopAbove 10 = .ok (.aload_n 0, 1) := by decide +kernel
theorem d_PA_ownStopAbove_11 : decode b_PA_ownStopAbove 11 = .ok (.getfield 15, 3) := by decide +kernel
theorem d_PA_ownStopAbove_14 : decode b_PA_ownStopAbove 14 = .ok (.iload_n 2, 1) := by decide +kernel
theorem d_PA_ownStopAbove_15 : decode b_PA_ownStopAbove 15 = .ok (.iaload, 1) := by decide +kernel
theorem d_PA_ownStopAbove_16 : decode b_PA_ownStopAbove 16 = .ok (.iload_n 1, 1) := by decide +kernel
theorem d_PA_ownStopAbove_17 : decode b_PA_ownStopAbove 17 = .ok (.if_icmp .gt 9, 3) := by decide +kernel
theorem d_PA_ownStopAbove_20 : decode b_PA_ownStopAbove 20 = .ok (.iinc 2 1, 3) := by decide +kernel
theorem d_PA_ownStopAbove_23 : decode b_PA_ownStopAbove 23 = .ok (.goto (-21), 3) := by decide +kernel
theorem d_PA_ownStopAbove_26 : decode b_PA_ownStopAbove 26 = .ok (.iload_n 2, 1) := by decide +kernel
theorem d_PA_ownStopAbove_27 : decode b_PA_ownStopAbove 27 = .ok (.ireturn, 1) := by decide +kernel
theorem d_PA_lastStop_0 : decode b_PA_lastStop 0 = .ok (.aload_n 0, 1) := by decide +kernel
theorem d_PA_lastStop_1 : decode b_PA_lastStop 1 = .ok (.getfield 27, 3) := by decide +kernel
theorem d_PA_lastStop_4 : decode b_PA_lastStop 4 = .ok (.ifCond .le 17, 3) := by decide +kernel
theorem d_PA_lastStop_7 : decode b_PA_lastStop 7 = .ok (.aload_n 0, 1) := by decide +kernel
theorem d_PA_lastStop_8 : decode b_PA_lastStop 8 = .ok (.getfield 15, 3) := by decide +kernel
theorem d_PA_lastStop_11 : decode b_PA_lastStop 11 = .ok (.aload_n 0, 1) := by decide +kernel
theorem d_PA_lastStop_12 : decode b_PA_lastStop 12 = .ok (.getfield 27, 3) := by decide +kernel
theorem d_PA_lastStop_15 : decode b_PA_lastStop 15 = .ok (.iconst 1, 1) := by decide +kernel
theorem d_PA_lastStop_16 : decode b_PA_lastStop 16 = .ok (.isub, 1) := by decide +kernel
theorem d_PA_lastStop_17 : decode b_PA_lastStop 17 = .ok (.iaload, 1) := by decide +kernel
theorem d_PA_lastStop_18 : decode b_PA_lastStop 18 = .ok (.goto 4, 3) := by decide +kernel
theorem d_PA_lastStop_21 : decode b_PA_lastStop 21 = .ok (.iconst 0, 1) := by decide +kernel
theorem d_PA_lastStop_22 : decode b_PA_lastStop 22 = .ok (.ireturn, 1) := by decide +kernel
theorem d_PA_stepAbove_0 : decode b_PA_stepAbove 0 = .ok (.iload_n 1, 1) := by decide +kernel
theorem d_PA_stepAbove_1 : decode b_PA_stepAbove 1 = .ok (.ifCond .le 13, 3) := by decide +kernel
theorem d_PA_stepAbove_4 : decode b_PA_stepAbove 4 = .ok (.iload_n 0, 1) := by decide +kernel
theorem d_PA_stepAbove_5 : decode b_PA_stepAbove 5 = .ok (.iload_n 1, 1) := by decide +kernel
theorem d_PA_stepAbove_6 : decode b_PA_stepAbove 6 = .ok (.idiv, 1) := by decide +kernel
theorem d_PA_stepAbove_7 : decode b_PA_stepAbove 7 = .ok (.iconst 1, 1) := by decide +kernel
theorem d_PA_stepAbove_8 : decode b_PA_stepAbove 8 = .ok (.iadd, 1) := by decide +kernel
theorem d_PA_stepAbove_9 : decode b_PA_stepAbove 9 = .ok (.iload_n 1, 1) := by decide +kernel
theorem d_PA_stepAbove_10 : decode b_PA_stepAbove 10 = .ok (.imul, 1) := by decide +kernel
theorem d_PA_stepAbove_11 : decode b_PA_stepAbove 11 = .ok (.goto 4, 3) := by decide +kernel
theorem d_PA_stepAbove_14 : decode b_PA_stepAbove 14 = .ok (.iload_n 0, 1) := by decide +kernel
theorem d_PA_stepAbove_15 : decode b_PA_stepAbove 15 = .ok (.ireturn, 1) := by decide +kernel
theorem d_TX_isBreakBehind_0 : decode b_TX_isBreakBehind 0 = .ok (.iload_n 1, 1) := by decide +kernel
theorem d_TX_isBreakBehind_1 : decode b_TX_isBreakBehind 1 = .ok (.iconst 1, 1) := by decide +kernel
theorem d_TX_isBreakBehind_2 : decode b_TX_isBreakBehind 2 = .ok (.iadd, 1) := by decide +kernel
theorem d_TX_isBreakBehind_3 : decode b_TX_isBreakBehind 3 = .ok (.aload_n 2, 1) := by decide +kernel
theorem d_TX_isBreakBehind_4 : decode b_TX_isBreakBehind 4 = .ok (.getfield 39, 3) := by decide +kernel
theorem d_TX_isBreakBehind_7 : decode b_TX_isBreakBehind 7 = .ok (.if_icmp .ge 15, 3) := by decide +kernel
theorem d_TX_isBreakBehind_10 : decode b_TX_isBreakBehind 10 = .ok (.aload_n 0, 1) := by decide +kernel
theorem d_TX_isBreakBehind_11 : decode b_TX_isBreakBehind 11 = .ok (.getfield 17, 3) := by decide +kernel
theorem d_TX_isBreakBehind_14 : decode b_TX_isBreakBehind 14 = .ok (.iload_n 1, 1) := by decide +kernel
theorem d_TX_isBreakBehind_15 : decode b_TX_isBreakBehind 15 = .ok (.iconst 1, 1) := by decide +kernel
theorem d_TX_isBreakBehind_16 : decode b_TX_isBreakBehind 16 = .ok (.iadd, 1) := by decide +kernel
theorem d_TX_isBreakBehind_17 : decode b_TX_isBreakBehind 17 = .ok (.iaload, 1) := by decide +kernel
theorem d_TX_isBreakBehind_18 : decode b_TX_isBreakBehind 18 = .ok (.iconst 2, 1) := by decide +kernel
theorem d_TX_isBreakBehind_19 : decode b_TX_isBreakBehind 19 = .ok (.if_icmp .ne 5, 3) := by decide +kernel
theorem d_TX_isBreakBehind_22 : decode b_TX_isBreakBehind 22 = .ok (.iconst 1, 1) := by decide +kernel
theorem d_TX_isBreakBehind_23 : decode b_TX_isBreakBehind 23 = .ok (.ireturn, 1) := by decide +kernel
theorem d_TX_isBreakBehind_24 : decode b_TX_isBreakBehind 24 = .ok (.aload_n 0, 1) := by decide +kernel
theorem d_TX_isBreakBehind_25 : decode b_TX_isBreakBehind 25 = .ok (.getfield 17, 3) := by decide +kernel
theorem d_TX_isBreakBehind_28 : decode b_TX_isBreakBehind 28 = .ok (.iload_n 1, 1) := by decide +kernel
theorem d_TX_isBreakBehind_29 : decode b_TX_isBreakBehind 29 = .ok (.iaload, 1) := by decide +kernel
theorem d_TX_isBreakBehind_30 : decode b_TX_isBreakBehind 30 = .ok (.iconst 1, 1) := by decide +kernel
theorem d_TX_isBreakBehind_31 : decode b_TX_isBreakBehind 31 = .ok (.if_icmp .eq 31, 3) := by decide +kernel
theorem d_TX_isBreakBehind_34 : decode b_TX_isBreakBehind 34 = .ok (.aload_n 0, 1) := by decide +kernel
theorem d_TX_isBreakBehind_35 : decode b_TX_isBreakBehind 35 = .ok (.getfield 17, 3) := by decide +kernel
theorem d_TX_isBreakBehind_38 : decode b_TX_isBreakBehind 38 = .ok (.iload_n 1, 1) := by decide +kernel
theorem d_TX_isBreakBehind_39 : decode b_TX_isBreakBehind 39 = .ok (.iaload, 1) := by decide +kernel
theorem d_TX_isBreakBehind_40 : decode b_TX_isBreakBehind 40 = .ok (.iconst 3, 1) := by decide +kernel
theorem d_TX_isBreakBehind_41 : decode b_TX_isBreakBehind 41 = .ok (.if_icmp .eq 21, 3) := by decide +kernel
theorem d_TX_isBreakBehind_44 : decode b_TX_isBreakBehind 44 = .ok (.aload_n 0, 1) := by decide +kernel
theorem d_TX_isBreakBehind_45 : decode b_TX_isBreakBehind 45 = .ok (.getfield 17, 3) := by decide +kernel
theorem d_TX_isBreakBehind_48 : decode b_TX_isBreakBehind 48 = .ok (.iload_n 1, 1) := by decide +kernel
theorem d_TX_isBreakBehind_49 : decode b_TX_isBreakBehind 49 = .ok (.iaload, 1) := by decide +kernel
theorem d_TX_isBreakBehind_50 : decode b_TX_isBreakBehind 50 = .ok (.iconst 4, 1) := by decide +kernel
theorem d_TX_isBreakBehind_51 : decode b_TX_isBreakBehind 51 = .ok (.if_icmp .eq 11, 3) := by decide +kernel
theorem d_TX_isBreakBehind_54 : decode b_TX_isBreakBehind 54 = .ok (.aload_n 0, 1) := by decide +kernel
theorem d_TX_isBreakBehind_55 : decode b_TX_isBreakBehind 55 = .ok (.iload_n 1, 1) := by decide +kernel
theorem d_TX_isBreakBehind_56 : decode b_TX_isBreakBehind 56 = .ok (.invokevirtual 42, 3) := by decide +kernel
theorem d_TX_isBreakBehind_59 : decode b_TX_isBreakBehind 59 = .ok (.ifCond .eq 7, 3) := by decide +kernel
theorem d_TX_isBreakBehind_62 : decode b_TX_isBreakBehind 62 = .ok (.iconst 1, 1) := by decide +kernel
theorem d_TX_isBreakBehind_63 : decode b_TX_isBreakBehind 63 = .ok (.goto 4, 3) := by decide +kernel
theorem d_TX_isBreakBehind_66 : decode b_TX_isBreakBehind 66 = .ok (.iconst 0, 1) := by decide +kernel
theorem d_TX_isBreakBehind_67 : decode b_TX_isBreakBehind 67 = .ok (.ireturn, 1) := by decide +kernel
