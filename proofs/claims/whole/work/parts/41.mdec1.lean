theorem d_MO_in_0 : decode b_MO_in 0 = .ok (.iload_n 0, 1) := by decide +kernel
theorem d_MO_in_1 : decode b_MO_in 1 = .ok (.iload_n 1, 1) := by decide +kernel
theorem d_MO_in_2 : decode b_MO_in 2 = .ok (.if_icmp .lt 12, 3) := by decide +kernel
theorem d_MO_in_5 : decode b_MO_in 5 = .ok (.iload_n 0, 1) := by decide +kernel
theorem d_MO_in_6 : decode b_MO_in 6 = .ok (.iload_n 2, 1) := by decide +kernel
theorem d_MO_in_7 : decode b_MO_in 7 = .ok (.if_icmp .gt 7, 3) := by decide +kernel
theorem d_MO_in_10 : decode b_MO_in 10 = .ok (.iconst 1, 1) := by decide +kernel
theorem d_MO_in_11 : decode b_MO_in 11 = .ok (.goto 4, 3) := by decide +kernel
theorem d_MO_in_14 : decode b_MO_in 14 = .ok (.iconst 0, 1) := by decide +kernel
theorem d_MO_in_15 : decode b_MO_in 15 = .ok (.ireturn, 1) := by decide +kernel
theorem d_MO_broken_0 : decode b_MO_broken 0 = .ok (.iconst (-1), 1) := by decide +kernel
theorem d_MO_broken_1 : decode b_MO_broken 1 = .ok (.istore_n 3, 1) := by decide +kernel
theorem d_MO_broken_2 : decode b_MO_broken 2 = .ok (.iconst (-1), 1) := by decide +kernel
theorem d_MO_broken_3 : decode b_MO_broken 3 = .ok (.istore 4, 2) := by decide +kernel
theorem d_MO_broken_5 : decode b_MO_broken 5 = .ok (.iconst 1, 1) := by decide +kernel
theorem d_MO_broken_6 : decode b_MO_broken 6 = .ok (.istore 5, 2) := by decide +kernel
theorem d_MO_broken_8 : decode b_MO_broken 8 = .ok (.iload_n 2, 1) := by decide +kernel
theorem d_MO_broken_9 : decode b_MO_broken 9 = .ok (.iconst 1, 1) := by decide +kernel
theorem d_MO_broken_10 : decode b_MO_broken 10 = .ok (.iadd, 1) := by decide +kernel
theorem d_MO_broken_11 : decode b_MO_broken 11 = .ok (.istore 6, 2) := by decide +kernel
theorem d_MO_broken_13 : decode b_MO_broken 13 = .ok (.iload 6, 2) := by decide +kernel
theorem d_MO_broken_15 : decode b_MO_broken 15 = .ok (.aload_n 0, 1) := by decide +kernel
theorem d_MO_broken_16 : decode b_MO_broken 16 = .ok (.getfield 19, 3) := by decide +kernel
theorem d_MO_broken_19 : decode b_MO_broken 19 = .ok (.iload_n 1, 1) := by decide +kernel
theorem d_MO_broken_20 : decode b_MO_broken 20 = .ok (.iconst 1, 1) := by decide +kernel
theorem d_MO_broken_21 : decode b_MO_broken 21 = .ok (.iadd, 1) := by decide +kernel
theorem d_MO_broken_22 : decode b_MO_broken 22 = .ok (.iaload, 1) := by decide +kernel
theorem d_MO_broken_23 : decode b_MO_broken 23 = .ok (.if_icmp .gt 76, 3) := by decide +kernel
theorem d_MO_broken_26 : decode b_MO_broken 26 = .ok (.iload 5, 2) := by decide +kernel
theorem d_MO_broken_28 : decode b_MO_broken 28 = .ok (.ifCond .eq 71, 3) := by decide +kernel
theorem d_MO_broken_31 : decode b_MO_broken 31 = .ok (.aload_n 0, 1) := by decide +kernel
theorem d_MO_broken_32 : decode b_MO_broken 32 = .ok (.iload 6, 2) := by decide +kernel
theorem d_MO_broken_34 : decode b_MO_broken 34 = .ok (.iconst 1, 1) := by decide +kernel
theorem d_MO_broken_35 : decode b_MO_broken 35 = .ok (.isub, 1) := by decide +kernel
theorem d_MO_broken_36 : decode b_MO_broken 36 = .ok (.invokevirtual 120, 3) := by decide +kernel
theorem d_MO_broken_39 : decode b_MO_broken 39 = .ok (.ifCond .ne 7, 3) := by decide +kernel
theorem d_MO_broken_42 : decode b_MO_broken 42 = .ok (.iconst 1, 1) := by decide +kernel
theorem d_MO_broken_43 : decode b_MO_broken 43 = .ok (.goto 4, 3) := by decide +kernel
theorem d_MO_broken_46 : decode b_MO_broken 46 = .ok (.iconst 0, 1) := by decide +kernel
theorem d_MO_broken_47 : decode b_MO_broken 47 = .ok (.istore 5, 2) := by decide +kernel
theorem d_MO_broken_49 : decode b_MO_broken 49 = .ok (.aload_n 0, 1) := by decide +kernel
theorem d_MO_broken_50 : decode b_MO_broken 50 = .ok (.iload_n 1, 1) := by decide +kernel
theorem d_MO_broken_51 : decode b_MO_broken 51 = .ok (.iload 6, 2) := by decide +kernel
theorem d_MO_broken_53 : decode b_MO_broken 53 = .ok (.invokevirtual 140, 3) := by decide +kernel
theorem d_MO_broken_56 : decode b_MO_broken 56 = .ok (.ifCond .ne 6, 3) := by decide +kernel
theorem d_MO_broken_59 : decode b_MO_broken 59 = .ok (.goto 34, 3) := by decide +kernel
theorem d_MO_broken_62 : decode b_MO_broken 62 = .ok (.iload_n 3, 1) := by decide +kernel
theorem d_MO_broken_63 : decode b_MO_broken 63 = .ok (.ifCond .ge 8, 3) := by decide +kernel
theorem d_MO_broken_66 : decode b_MO_broken 66 = .ok (.iload 6, 2) := by decide +kernel
theorem d_MO_broken_68 : decode b_MO_broken 68 = .ok (.goto 4, 3) := by decide +kernel
theorem d_MO_broken_71 : decode b_MO_broken 71 = .ok (.iload_n 3, 1) := by decide +kernel
theorem d_MO_broken_72 : decode b_MO_broken 72 = .ok (.istore_n 3, 1) := by decide +kernel
theorem d_MO_broken_73 : decode b_MO_broken 73 = .ok (.aload_n 0, 1) := by decide +kernel
theorem d_MO_broken_74 : decode b_MO_broken 74 = .ok (.iload_n 1, 1) := by decide +kernel
theorem d_MO_broken_75 : decode b_MO_broken 75 = .ok (.iload_n 2, 1) := by decide +kernel
theorem d_MO_broken_76 : decode b_MO_broken 76 = .ok (.iload 6, 2) := by decide +kernel
theorem d_MO_broken_78 : decode b_MO_broken 78 = .ok (.invokevirtual 144, 3) := by decide +kernel
theorem d_MO_broken_81 : decode b_MO_broken 81 = .ok (.aload_n 0, 1) := by decide +kernel
theorem d_MO_broken_82 : decode b_MO_broken 82 = .ok (.iload_n 1, 1) := by decide +kernel
theorem d_MO_broken_83 : decode b_MO_broken 83 = .ok (.invokevirtual 148, 3) := by decide +kernel
theorem d_MO_broken_86 : decode b_MO_broken 86 = .ok (.if_icmp .gt 7, 3) := by decide +kernel
theorem d_MO_broken_89 : decode b_MO_broken 89 = .ok (.iload 6, 2) := by decide +kernel
theorem d_MO_broken_91 : decode b_MO_broken 91 = .ok (.istore 4, 2) := by decide +kernel
theorem d_MO_broken_93 : decode b_MO_broken 93 = .ok (.iinc 6 1, 3) := by decide +kernel
theorem d_MO_broken_96 : decode b_MO_broken 96 = .ok (.goto (-83), 3) := by decide +kernel
theorem d_MO_broken_99 : decode b_MO_broken 99 = .ok (.iload 4, 2) := by decide +kernel
theorem d_MO_broken_101 : decode b_MO_broken 101 = .ok (.ifCond .ge 7, 3) := by decide +kernel
theorem d_MO_broken_104 : decode b_MO_broken 104 = .ok (.iload_n 3, 1) := by decide +kernel
theorem d_MO_broken_105 : decode b_MO_broken 105 = .ok (.goto 5, 3) := by decide +kernel
theorem d_MO_broken_108 : decode b_MO_broken 108 = .ok (.iload 4, 2) := by decide +kernel
theorem d_MO_broken_110 : decode b_MO_broken 110 = .ok (.ireturn, 1) := by decide +kernel
theorem d_MO_isEnd_0 : decode b_MO_isEnd 0 = .ok (.aload_n 0, 1) := by decide +kernel
theorem d_MO_isEnd_1 : decode b_MO_isEnd 1 = .ok (.getfield 35, 3) := by decide +kernel
theorem d_MO_isEnd_4 : decode b_MO_isEnd 4 = .ok (.iload_n 1, 1) := by decide +kernel
theorem d_MO_isEnd_5 : decode b_MO_isEnd 5 = .ok (.iaload, 1) := by decide +kernel
theorem d_MO_isEnd_6 : decode b_MO_isEnd 6 = .ok (.iconst 5, 1) := by decide +kernel
theorem d_MO_isEnd_7 : decode b_MO_isEnd 7 = .ok (.if_icmp .eq 14, 3) := by decide +kernel
theorem d_MO_isEnd_10 : decode b_MO_isEnd 10 = .ok (.aload_n 0, 1) := by decide +kernel
theorem d_MO_isEnd_11 : decode b_MO_isEnd 11 = .ok (.getfield 35, 3) := by decide +kernel
theorem d_MO_isEnd_14 : decode b_MO_isEnd 14 = .ok (.iload_n 1, 1) := by decide +kernel
theorem d_MO_isEnd_15 : decode b_MO_isEnd 15 = .ok (.iaload, 1) := by decide +kernel
theorem d_MO_isEnd_16 : decode b_MO_isEnd 16 = .ok (.bipush 6, 2) := by decide +kernel
theorem d_MO_isEnd_18 : decode b_MO_isEnd 18 = .ok (.if_icmp .ne 7, 3) := by decide +kernel
theorem d_MO_isEnd_21 : decode b_MO_isEnd 21 = .ok (.iconst 1, 1) := by decide +kernel
theorem d_MO_isEnd_22 : decode b_MO_isEnd 22 = .ok (.goto 4, 3) := by decide +kernel
theorem d_MO_isEnd_25 : decode b_MO_isEnd 25 = .ok (.iconst 0, 1) := by decide +kernel
theorem d_MO_isEnd_26 : decode b_MO_isEnd 26 = .ok (.ireturn, 1) := by decide +kernel
theorem d_MO_breaks_0 : decode b_MO_breaks 0 = .ok (.aload_n 0, 1) := by decide +kernel
theorem d_MO_breaks_1 : decode b_MO_breaks 1 = .ok (.getfield 35, 3) := by decide +kernel
theorem d_MO_breaks_4 : decode b_MO_breaks 4 = .ok (.iload_n 2, 1) := by decide +kernel
theorem d_MO_breaks_5 : decode b_MO_breaks 5 = .ok (.iconst 1, 1) := by decide +kernel
theorem d_MO_breaks_6 : decode b_MO_breaks 6 = .ok (.isub, 1) := by decide +kernel
theorem d_MO_breaks_7 : decode b_MO_breaks 7 = .ok (.iaload, 1) := by decide +kernel
theorem d_MO_breaks_8 : decode b_MO_breaks 8 = .ok (.istore_n 3, 1) := by decide +kernel
theorem d_MO_breaks_9 : decode b_MO_breaks 9 = .ok (.iload_n 2, 1) := by decide +kernel
theorem d_MO_breaks_10 : decode b_MO_breaks 10 = .ok (.aload_n 0, 1) := by decide +kernel
theorem d_MO_breaks_11 : decode b_MO_breaks 11 = .ok (.getfield 19, 3) := by decide +kernel
theorem d_MO_breaks_14 : decode b_MO_breaks 14 = .ok (.iload_n 1, 1) := by decide +kernel
theorem d_MO_breaks_15 : decode b_MO_breaks 15 = .ok (.iconst 1, 1) := by decide +kernel
theorem d_MO_breaks_16 : decode b_MO_breaks 16 = .ok (.iadd, 1) := by decide +kernel
theorem d_MO_breaks_17 : decode b_MO_breaks 17 = .ok (.iaload, 1) := by decide +kernel
theorem d_MO_breaks_18 : decode b_MO_breaks 18 = .ok (.if_icmp .eq 38, 3) := by decide +kernel
theorem d_MO_breaks_21 : decode b_MO_breaks 21 = .ok (.iload_n 3, 1) := by decide +kernel
theorem d_MO_breaks_22 : decode b_MO_breaks 22 = .ok (.iconst 1, 1) := by decide +kernel
theorem d_MO_breaks_23 : decode b_MO_breaks 23 = .ok (.if_icmp .eq 33, 3) := by decide +kernel
theorem d_MO_breaks_26 : decode b_MO_breaks 26 = .ok (.iload_n 3, 1) := by decide +kernel
theorem d_MO_breaks_27 : decode b_MO_breaks 27 = .ok (.iconst 3, 1) := by decide +kernel
theorem d_MO_breaks_28 : decode b_MO_breaks 28 = .ok (.if_icmp .eq 28, 3) := by decide +kernel
theorem d_MO_breaks_31 : decode b_MO_breaks 31 = .ok (.iload_n 3, 1) := by decide +kernel
theorem d_MO_breaks_32 : decode b_MO_breaks 32 = .ok (.iconst 4, 1) := by decide +kernel
theorem d_MO_breaks_33 : decode b_MO_breaks 33 = .ok (.if_icmp .eq 23, 3) := by decide +kernel
theorem d_MO_breaks_36 : decode b_MO_breaks 36 = .ok (.aload_n 0, 1) := by decide +kernel
theorem d_MO_breaks_37 : decode b_MO_breaks 37 = .ok (.iload_n 2, 1) := by decide +kernel
theorem d_MO_breaks_38 : decode b_MO_breaks 38 = .ok (.iconst 1, 1) := by decide +kernel
theorem d_MO_breaks_39 : decode b_MO_breaks 39 = .ok (.isub, 1) := by decide +kernel
theorem d_MO_breaks_40 : decode b_MO_breaks 40 = .ok (.invokevirtual 120, 3) := by decide +kernel
theorem d_MO_breaks_43 : decode b_MO_breaks 43 = .ok (.ifCond .ne 13, 3) := by decide +kernel
theorem d_MO_breaks_46 : decode b_MO_breaks 46 = .ok (.aload_n 0, 1) := by decide +kernel
theorem d_MO_breaks_47 : decode b_MO_breaks 47 = .ok (.getfield 35, 3) := by decide +kernel
theorem d_MO_breaks_50 : decode b_MO_breaks 50 = .ok (.iload_n 2, 1) := by decide +kernel
theorem d_MO_breaks_51 : decode b_MO_breaks 51 = .ok (.iaload, 1) := by decide +kernel
theorem d_MO_breaks_52 : decode b_MO_breaks 52 = .ok (.iconst 2, 1) := by decide +kernel
theorem d_MO_breaks_53 : decode b_MO_breaks 53 = .ok (.if_icmp .ne 7, 3) := by decide +kernel
theorem d_MO_breaks_56 : decode b_MO_breaks 56 = .ok (.iconst 1, 1) := by decide +kernel
theorem d_MO_breaks_57 : decode b_MO_breaks 57 = .ok (.goto 4, 3) := by decide +kernel
theorem d_MO_breaks_60 : decode b_MO_breaks 60 = .ok (.iconst 0, 1) := by decide +kernel
theorem d_MO_breaks_61 : decode b_MO_breaks 61 = .ok (.ireturn, 1) := by decide +kernel
theorem d_MO_measure_0 : decode b_MO_measure 0 = .ok (.aload_n 0, 1) := by decide +kernel
theorem d_MO_measure_1 : decode b_MO_measure 1 = .ok (.iload_n 2, 1) := by decide +kernel
theorem d_MO_measure_2 : decode b_MO_measure 2 = .ok (.iload_n 3, 1) := by decide +kernel
theorem d_MO_measure_3 : decode b_MO_measure 3 = .ok (.invokevirtual 130, 3) := by decide +kernel
theorem d_MO_measure_6 : decode b_MO_measure 6 = .ok (.istore 4, 2) := by decide +kernel
theorem d_MO_measure_8 : decode b_MO_measure 8 = .ok (.aload_n 0, 1) := by decide +kernel
theorem d_MO_measure_9 : decode b_MO_measure 9 = .ok (.iload_n 1, 1) := by decide +kernel
theorem d_MO_measure_10 : decode b_MO_measure 10 = .ok (.iload_n 2, 1) := by decide +kernel
theorem d_MO_measure_11 : decode b_MO_measure 11 = .ok (.invokevirtual 133, 3) := by decide +kernel
theorem d_MO_measure_14 : decode b_MO_measure 14 = .ok (.istore 5, 2) := by decide +kernel
theorem d_MO_measure_16 : decode b_MO_measure 16 = .ok (.iload 5, 2) := by decide +kernel
theorem d_MO_measure_18 : decode b_MO_measure 18 = .ok (.istore 6, 2) := by decide +kernel
theorem d_MO_measure_20 : decode b_MO_measure 20 = .ok (.iload_n 2, 1) := by decide +kernel
theorem d_MO_measure_21 : decode b_MO_measure 21 = .ok (.istore 7, 2) := by decide +kernel
theorem d_MO_measure_23 : decode b_MO_measure 23 = .ok (.iload 7, 2) := by decide +kernel
theorem d_MO_measure_25 : decode b_MO_measure 25 = .ok (.iload_n 3, 1) := by decide +kernel
theorem d_MO_measure_26 : decode b_MO_measure 26 = .ok (.if_icmp .ge 90, 3) := by decide +kernel
theorem d_MO_measure_29 : decode b_MO_measure 29 = .ok (.aload_n 0, 1) := by decide +kernel
theorem d_MO_measure_30 : decode b_MO_measure 30 = .ok (.getfield 44, 3) := by decide +kernel
theorem d_MO_measure_33 : decode b_MO_measure 33 = .ok (.iload 7, 2) := by decide +kernel
theorem d_MO_measure_35 : decode b_MO_measure 35 = .ok (.iload 5, 2) := by decide +kernel
theorem d_MO_measure_37 : decode b_MO_measure 37 = .ok (.iastore, 1) := by decide +kernel
theorem d_MO_measure_38 : decode b_MO_measure 38 = .ok (.aload_n 0, 1) := by decide +kernel
theorem d_MO_measure_39 : decode b_MO_measure 39 = .ok (.getfield 47, 3) := by decide +kernel
theorem d_MO_measure_42 : decode b_MO_measure 42 = .ok (.iload 7, 2) := by decide +kernel
theorem d_MO_measure_44 : decode b_MO_measure 44 = .ok (.aload_n 0, 1) := by decide +kernel
theorem d_MO_measure_45 : decode b_MO_measure 45 = .ok (.getfield 35, 3) := by decide +kernel
theorem d_MO_measure_48 : decode b_MO_measure 48 = .ok (.iload 7, 2) := by decide +kernel
theorem d_MO_measure_50 : decode b_MO_measure 50 = .ok (.iaload, 1) := by decide +kernel
theorem d_MO_measure_51 : decode b_MO_measure 51 = .ok (.iconst 2, 1) := by decide +kernel
theorem d_MO_measure_52 : decode b_MO_measure 52 = .ok (.if_icmp .ne 18, 3) := by decide +kernel
theorem d_MO_measure_55 : decode b_MO_measure 55 = .ok (.aload_n 0, 1) := by decide +kernel
theorem d_MO_measure_56 : decode b_MO_measure 56 = .ok (.iload_n 1, 1) := by decide +kernel
theorem d_MO_measure_57 : decode b_MO_measure 57 = .ok (.iload 7, 2) := by decide +kernel
theorem d_MO_measure_59 : decode b_MO_measure 59 = .ok (.iload_n 3, 1) := by decide +kernel
theorem d_MO_measure_60 : decode b_MO_measure 60 = .ok (.iload 4, 2) := by decide +kernel
theorem d_MO_measure_62 : decode b_MO_measure 62 = .ok (.iload 5, 2) := by decide +kernel
theorem d_MO_measure_64 : decode b_MO_measure 64 = .ok (.invokevirtual 136, 3) := by decide +kernel
theorem d_MO_measure_67 : decode b_MO_measure 67 = .ok (.goto 10, 3) := by decide +kernel
theorem d_MO_measure_70 : decode b_MO_measure 70 = .ok (.aload_n 0, 1) := by decide +kernel
theorem d_MO_measure_71 : decode b_MO_measure 71 = .ok (.iload 7, 2) := by decide +kernel
theorem d_MO_measure_73 : decode b_MO_measure 73 = .ok (.iload_n 3, 1) := by decide +kernel
theorem d_MO_measure_74 : decode b_MO_measure 74 = .ok (.invokevirtual 127, 3) := by decide +kernel
theorem d_MO_measure_77 : decode b_MO_measure 77 = .ok (.iastore, 1) := by decide +kernel
theorem d_MO_measure_78 : decode b_MO_measure 78 = .ok (.iload 5, 2) := by decide +kernel
theorem d_MO_measure_80 : decode b_MO_measure 80 = .ok (.aload_n 0, 1) := by decide +kernel
theorem d_MO_measure_81 : decode b_MO_measure 81 = .ok (.getfield 47, 3) := by decide +kernel
theorem d_MO_measure_84 : decode b_MO_measure 84 = .ok (.iload 7, 2) := by decide +kernel
theorem d_MO_measure_86 : decode b_MO_measure 86 = .ok (.iaload, 1) := by decide +kernel
theorem d_MO_measure_87 : decode b_MO_measure 87 = .ok (.iadd, 1) := by decide +kernel
theorem d_MO_measure_88 : decode b_MO_measure 88 = .ok (.istore 5, 2) := by decide +kernel
theorem d_MO_measure_90 : decode b_MO_measure 90 = .ok (.iload 7, 2) := by decide +kernel
theorem d_MO_measure_92 : decode b_MO_measure 92 = .ok (.iload 4, 2) := by decide +kernel
theorem d_MO_measure_94 : decode b_MO_measure 94 = .ok (.if_icmp .ge 16, 3) := by decide +kernel
theorem d_MO_measure_97 : decode b_MO_measure 97 = .ok (.aload_n 0, 1) := by decide +kernel
theorem d_MO_measure_98 : decode b_MO_measure 98 = .ok (.iload 7, 2) := by decide +kernel
theorem d_MO_measure_100 : decode b_MO_measure 100 = .ok (.invokevirtual 120, 3) := by decide +kernel
theorem d_MO_measure_103 : decode b_MO_measure 103 = .ok (.ifCond .ne 7, 3) := by decide +kernel
theorem d_MO_measure_106 : decode b_MO_measure 106 = .ok (.iload 5, 2) := by decide +kernel
theorem d_MO_measure_108 : decode b_MO_measure 108 = .ok (.istore 6, 2) := by decide +kernel
theorem d_MO_measure_110 : decode b_MO_measure 110 = .ok (.iinc 7 1, 3) := by decide +kernel
theorem d_MO_measure_113 : decode b_MO_measure 113 = .ok (.goto (-90), 3) := by decide +kernel
theorem d_MO_measure_116 : decode b_MO_measure 116 = .ok (.iload 6, 2) := by decide +kernel
theorem d_MO_measure_118 : decode b_MO_measure 118 = .ok (.ireturn, 1) := by decide +kernel
theorem d_MO_trailing_0 : decode b_MO_trailing 0 = .ok (.iload_n 2, 1) := by decide +kernel
theorem d_MO_trailing_1 : decode b_MO_trailing 1 = .ok (.iload_n 1, 1) := by decide +kernel
theorem d_MO_trailing_2 : decode b_MO_trailing 2 = .ok (.if_icmp .le 19, 3) := by decide +kernel
theorem d_MO_trailing_5 : decode b_MO_trailing 5 = .ok (.aload_n 0, 1) := by decide +kernel
theorem d_MO_trailing_6 : decode b_MO_trailing 6 = .ok (.iload_n 2, 1) := by decide +kernel
theorem d_MO_trailing_7 : decode b_MO_trailing 7 = .ok (.iconst 1, 1) := by decide +kernel
theorem d_MO_trailing_8 : decode b_MO_trailing 8 = .ok (.isub, 1) := by decide +kernel
theorem d_MO_trailing_9 : decode b_MO_trailing 9 = .ok (.invokevirtual 120, 3) := by decide +kernel
theorem d_MO_trailing_12 : decode b_MO_trailing 12 = .ok (.ifCond .eq 9, 3) := by decide +kernel
theorem d_MO_trailing_15 : decode b_MO_trailing 15 = .ok (.iload_n 2, 1) := by decide +kernel
theorem d_MO_trailing_16 : decode b_MO_trailing 16 = .ok (.iconst 1, 1) := by decide +kernel
theorem d_MO_trailing_17 : decode b_MO_trailing 17 = .ok (.isub, 1) := by decide +kernel
theorem d_MO_trailing_18 : decode b_MO_trailing 18 = .ok (.goto 4, 3) := by decide +kernel
theorem d_MO_trailing_21 : decode b_MO_trailing 21 = .ok (.iload_n 2, 1) := by decide +kernel
theorem d_MO_trailing_22 : decode b_MO_trailing 22 = .ok (.istore_n 3, 1) := by decide +kernel
theorem d_MO_trailing_23 : decode b_MO_trailing 23 = .ok (.iload_n 3, 1) := by decide +kernel
theorem d_MO_trailing_24 : decode b_MO_trailing 24 = .ok (.iload_n 1, 1) := by decide +kernel
theorem d_MO_trailing_25 : decode b_MO_trailing 25 = .ok (.if_icmp .le 21, 3) := by decide +kernel
theorem d_MO_trailing_28 : decode b_MO_trailing 28 = .ok (.aload_n 0, 1) := by decide +kernel
theorem d_MO_trailing_29 : decode b_MO_trailing 29 = .ok (.getfield 35, 3) := by decide +kernel
theorem d_MO_trailing_32 : decode b_MO_trailing 32 = .ok (.iload_n 3, 1) := by decide +kernel
theorem d_MO_trailing_33 : decode b_MO_trailing 33 = .ok (.iconst 1, 1) := by decide +kernel
theorem d_MO_trailing_34 : decode b_MO_trailing 34 = .ok (.isub, 1) := by decide +kernel
theorem d_MO_trailing_35 : decode b_MO_trailing 35 = .ok (.iaload, 1) := by decide +kernel
theorem d_MO_trailing_36 : decode b_MO_trailing 36 = .ok (.iconst 1, 1) := by decide +kernel
theorem d_MO_trailing_37 : decode b_MO_trailing 37 = .ok (.if_icmp .ne 9, 3) := by decide +kernel
theorem d_MO_trailing_40 : decode b_MO_trailing 40 = .ok (.iinc 3 (-1), 3) := by decide +kernel
theorem d_MO_trailing_43 : decode b_MO_trailing 43 = .ok (.goto (-20), 3) := by decide +kernel
theorem d_MO_trailing_46 : decode b_MO_trailing 46 = .ok (.iload_n 3, 1) := by decide +kernel
theorem d_MO_trailing_47 : decode b_MO_trailing 47 = .ok (.ireturn, 1) := by decide +kernel
theorem d_MO_beginning_0 : decode b_MO_beginning 0 = .ok (.aload_n 0, 1) := by decide +kernel
theorem d_MO_beginning_1 : decode b_MO_beginning 1 = .ok (.getfield 23, 3) := by decide +kernel
theorem d_MO_beginning_4 : decode b_MO_beginning 4 = .ok (.bipush 11, 2) := by decide +kernel
theorem d_MO_beginning_6 : decode b_MO_beginning 6 = .ok (.iload_n 1, 1) := by decide +kernel
theorem d_MO_beginning_7 : decode b_MO_beginning 7 = .ok (.imul, 1) := by decide +kernel
theorem d_MO_beginning_8 : decode b_MO_beginning 8 = .ok (.iaload, 1) := by decide +kernel
theorem d_MO_beginning_9 : decode b_MO_beginning 9 = .ok (.iload_n 2, 1) := by decide +kernel
theorem d_MO_beginning_10 : decode b_MO_beginning 10 = .ok (.aload_n 0, 1) := by decide +kernel
theorem d_MO_beginning_11 : decode b_MO_beginning 11 = .ok (.getfield 19, 3) := by decide +kernel
theorem d_MO_beginning_14 : decode b_MO_beginning 14 = .ok (.iload_n 1, 1) := by decide +kernel
theorem d_MO_beginning_15 : decode b_MO_beginning 15 = .ok (.iaload, 1) := by decide +kernel
theorem d_MO_beginning_16 : decode b_MO_beginning 16 = .ok (.if_icmp .ne 17, 3) := by decide +kernel
theorem d_MO_beginning_19 : decode b_MO_beginning 19 = .ok (.aload_n 0, 1) := by decide +kernel
theorem d_MO_beginning_20 : decode b_MO_beginning 20 = .ok (.getfield 23, 3) := by decide +kernel
theorem d_MO_beginning_23 : decode b_MO_beginning 23 = .ok (.bipush 11, 2) := by decide +kernel
theorem d_MO_beginning_25 : decode b_MO_beginning 25 = .ok (.iload_n 1, 1) := by decide +kernel
theorem d_MO_beginning_26 : decode b_MO_beginning 26 = .ok (.imul, 1) := by decide +kernel
theorem d_MO_beginning_27 : decode b_MO_beginning 27 = .ok (.iconst 2, 1) := by decide +kernel
theorem d_MO_beginning_28 : decode b_MO_beginning 28 = .ok (.iadd, 1) := by decide +kernel
theorem d_MO_beginning_29 : decode b_MO_beginning 29 = .ok (.iaload, 1) := by decide +kernel
theorem d_MO_beginning_30 : decode b_MO_beginning 30 = .ok (.goto 4, 3) := by decide +kernel
theorem d_MO_beginning_33 : decode b_MO_beginning 33 = .ok (.iconst 0, 1) := by decide +kernel
theorem d_MO_beginning_34 : decode b_MO_beginning 34 = .ok (.iadd, 1) := by decide +kernel
theorem d_MO_beginning_35 : decode b_MO_beginning 35 = .ok (.istore_n 3, 1) := by decide +kernel
theorem d_MO_beginning_36 : decode b_MO_beginning 36 = .ok (.iload_n 3, 1) := by decide +kernel
theorem d_MO_beginning_37 : decode b_MO_beginning 37 = .ok (.ifCond .ge 7, 3) := by decide +kernel
theorem d_MO_beginning_40 : decode b_MO_beginning 40 = .ok (.iconst 0, 1) := by decide +kernel
theorem d_MO_beginning_41 : decode b_MO_beginning 41 = .ok (.goto 4, 3) := by decide +kernel
theorem d_MO_beginning_44 : decode b_MO_beginning 44 = .ok (.iload_n 3, 1) := by decide +kernel
theorem d_MO_beginning_45 : decode b_MO_beginning 45 = .ok (.ireturn, 1) := by decide +kernel
theorem d_MO_tab_0 : decode b_MO_tab 0 = .ok (.aload_n 0, 1) := by decide +kernel
theorem d_MO_tab_1 : decode b_MO_tab 1 = .ok (.iload_n 1, 1) := by decide +kernel
theorem d_MO_tab_2 : decode b_MO_tab 2 = .ok (.iload 5, 2) := by decide +kernel
theorem d_MO_tab_4 : decode b_MO_tab 4 = .ok (.invokevirtual 123, 3) := by decide +kernel
theorem d_MO_tab_7 : decode b_MO_tab 7 = .ok (.istore 6, 2) := by decide +kernel
theorem d_MO_tab_9 : decode b_MO_tab 9 = .ok (.aload_n 0, 1) := by decide +kernel
theorem d_MO_tab_10 : decode b_MO_tab 10 = .ok (.getfield 26, 3) := by decide +kernel
theorem d_MO_tab_13 : decode b_MO_tab 13 = .ok (.iload_n 1, 1) := by decide +kernel
theorem d_MO_tab_14 : decode b_MO_tab 14 = .ok (.iaload, 1) := by decide +kernel
theorem d_MO_tab_15 : decode b_MO_tab 15 = .ok (.ifCond .ne 7, 3) := by decide +kernel
theorem d_MO_tab_18 : decode b_MO_tab 18 = .ok (.iconst 0, 1) := by decide +kernel
theorem d_MO_tab_19 : decode b_MO_tab 19 = .ok (.goto 21, 3) := by decide +kernel
theorem d_MO_tab_22 : decode b_MO_tab 22 = .ok (.aload_n 0, 1) := by decide +kernel
theorem d_MO_tab_23 : decode b_MO_tab 23 = .ok (.getfield 29, 3) := by decide +kernel
theorem d_MO_tab_26 : decode b_MO_tab 26 = .ok (.bipush 8, 2) := by decide +kernel
theorem d_MO_tab_28 : decode b_MO_tab 28 = .ok (.iload_n 1, 1) := by decide +kernel
theorem d_MO_tab_29 : decode b_MO_tab 29 = .ok (.imul, 1) := by decide +kernel
theorem d_MO_tab_30 : decode b_MO_tab 30 = .ok (.aload_n 0, 1) := by decide +kernel
theorem d_MO_tab_31 : decode b_MO_tab 31 = .ok (.getfield 26, 3) := by decide +kernel
theorem d_MO_tab_34 : decode b_MO_tab 34 = .ok (.iload_n 1, 1) := by decide +kernel
theorem d_MO_tab_35 : decode b_MO_tab 35 = .ok (.iaload, 1) := by decide +kernel
theorem d_MO_tab_36 : decode b_MO_tab 36 = .ok (.iadd, 1) := by decide +kernel
theorem d_MO_tab_37 : decode b_MO_tab 37 = .ok (.iconst 1, 1) := by decide +kernel
theorem d_MO_tab_38 : decode b_MO_tab 38 = .ok (.isub, 1) := by decide +kernel
theorem d_MO_tab_39 : decode b_MO_tab 39 = .ok (.iaload, 1) := by decide +kernel
theorem d_MO_tab_40 : decode b_MO_tab 40 = .ok (.istore 7, 2) := by decide +kernel
theorem d_MO_tab_42 : decode b_MO_tab 42 = .ok (.iload 5, 2) := by decide +kernel
theorem d_MO_tab_44 : decode b_MO_tab 44 = .ok (.iload 7, 2) := by decide +kernel
theorem d_MO_tab_46 : decode b_MO_tab 46 = .ok (.if_icmp .le 8, 3) := by decide +kernel
theorem d_MO_tab_49 : decode b_MO_tab 49 = .ok (.iload 5, 2) := by decide +kernel
theorem d_MO_tab_51 : decode b_MO_tab 51 = .ok (.goto 5, 3) := by decide +kernel
theorem d_MO_tab_54 : decode b_MO_tab 54 = .ok (.iload 7, 2) := by decide +kernel
theorem d_MO_tab_56 : decode b_MO_tab 56 = .ok (.istore 8, 2) := by decide +kernel
theorem d_MO_tab_58 : decode b_MO_tab 58 = .ok (.iload 6, 2) := by decide +kernel
theorem d_MO_tab_60 : decode b_MO_tab 60 = .ok (.ifCond .lt 13, 3) := by decide +kernel
theorem d_MO_tab_63 : decode b_MO_tab 63 = .ok (.aload_n 0, 1) := by decide +kernel
theorem d_MO_tab_64 : decode b_MO_tab 64 = .ok (.getfield 29, 3) := by decide +kernel
theorem d_MO_tab_67 : decode b_MO_tab 67 = .ok (.iload 6, 2) := by decide +kernel
theorem d_MO_tab_69 : decode b_MO_tab 69 = .ok (.iaload, 1) := by decide +kernel
theorem d_MO_tab_70 : decode b_MO_tab 70 = .ok (.goto 17, 3) := by decide +kernel
theorem d_MO_tab_73 : decode b_MO_tab 73 = .ok (.iload 8, 2) := by decide +kernel
theorem d_MO_tab_75 : decode b_MO_tab 75 = .ok (.aload_n 0, 1) := by decide +kernel
theorem d_MO_tab_76 : decode b_MO_tab 76 = .ok (.getfield 16, 3) := by decide +kernel
theorem d_MO_tab_79 : decode b_MO_tab 79 = .ok (.idiv, 1) := by decide +kernel
theorem d_MO_tab_80 : decode b_MO_tab 80 = .ok (.iconst 1, 1) := by decide +kernel
theorem d_MO_tab_81 : decode b_MO_tab 81 = .ok (.iadd, 1) := by decide +kernel
theorem d_MO_tab_82 : decode b_MO_tab 82 = .ok (.aload_n 0, 1) := by decide +kernel
theorem d_MO_tab_83 : decode b_MO_tab 83 = .ok (.getfield 16, 3) := by decide +kernel
theorem d_MO_tab_86 : decode b_MO_tab 86 = .ok (.imul, 1) := by decide +kernel
theorem d_MO_tab_87 : decode b_MO_tab 87 = .ok (.istore 9, 2) := by decide +kernel
theorem d_MO_tab_89 : decode b_MO_tab 89 = .ok (.iconst 0, 1) := by decide +kernel
theorem d_MO_tab_90 : decode b_MO_tab 90 = .ok (.istore 10, 2) := by decide +kernel
theorem d_MO_tab_92 : decode b_MO_tab 92 = .ok (.iload_n 2, 1) := by decide +kernel
theorem d_MO_tab_93 : decode b_MO_tab 93 = .ok (.iconst 1, 1) := by decide +kernel
theorem d_MO_tab_94 : decode b_MO_tab 94 = .ok (.iadd, 1) := by decide +kernel
theorem d_MO_tab_95 : decode b_MO_tab 95 = .ok (.istore 11, 2) := by decide +kernel
theorem d_MO_tab_97 : decode b_MO_tab 97 = .ok (.iload 11, 2) := by decide +kernel
theorem d_MO_tab_99 : decode b_MO_tab 99 = .ok (.iload 4, 2) := by decide +kernel
theorem d_MO_tab_101 : decode b_MO_tab 101 = .ok (.if_icmp .ge 32, 3) := by decide +kernel
theorem d_MO_tab_104 : decode b_MO_tab 104 = .ok (.aload_n 0, 1) := by decide +kernel
theorem d_MO_tab_105 : decode b_MO_tab 105 = .ok (.getfield 35, 3) := by decide +kernel
theorem d_MO_tab_108 : decode b_MO_tab 108 = .ok (.iload 11, 2) := by decide +kernel
theorem d_MO_tab_110 : decode b_MO_tab 110 = .ok (.iaload, 1) := by decide +kernel
theorem d_MO_tab_111 : decode b_MO_tab 111 = .ok (.iconst 2, 1) := by decide +kernel
theorem d_MO_tab_112 : decode b_MO_tab 112 = .ok (.if_icmp .eq 21, 3) := by decide +kernel
theorem d_MO_tab_115 : decode b_MO_tab 115 = .ok (.iload 10, 2) := by decide +kernel
theorem d_MO_tab_117 : decode b_MO_tab 117 = .ok (.aload_n 0, 1) := by decide +kernel
theorem d_MO_tab_118 : decode b_MO_tab 118 = .ok (.iload 11, 2) := by decide +kernel
theorem d_MO_tab_120 : decode b_MO_tab 120 = .ok (.iload_n 3, 1) := by decide +kernel
theorem d_MO_tab_121 : decode b_MO_tab 121 = .ok (.invokevirtual 127, 3) := by decide +kernel
theorem d_MO_tab_124 : decode b_MO_tab 124 = .ok (.iadd, 1) := by decide +kernel
theorem d_MO_tab_125 : decode b_MO_tab 125 = .ok (.istore 10, 2) := by decide +kernel
theorem d_MO_tab_127 : decode b_MO_tab 127 = .ok (.iinc 11 1, 3) := by decide +kernel
theorem d_MO_tab_130 : decode b_MO_tab 130 = .ok (.goto (-33), 3) := by decide +kernel
theorem d_MO_tab_133 : decode b_MO_tab 133 = .ok (.iload 9, 2) := by decide +kernel
theorem d_MO_tab_135 : decode b_MO_tab 135 = .ok (.iload 5, 2) := by decide +kernel
theorem d_MO_tab_137 : decode b_MO_tab 137 = .ok (.isub, 1) := by decide +kernel
theorem d_MO_tab_138 : decode b_MO_tab 138 = .ok (.istore 11, 2) := by decide +kernel
theorem d_MO_tab_140 : decode b_MO_tab 140 = .ok (.iload 6, 2) := by decide +kernel
theorem d_MO_tab_142 : decode b_MO_tab 142 = .ok (.ifCond .lt 21, 3) := by decide +kernel
theorem d_MO_tab_145 : decode b_MO_tab 145 = .ok (.aload_n 0, 1) := by decide +kernel
theorem d_MO_tab_146 : decode b_MO_tab 146 = .ok (.getfield 32, 3) := by decide +kernel
theorem d_MO_tab_149 : decode b_MO_tab 149 = .ok (.iload 6, 2) := by decide +kernel
theorem d_MO_tab_151 : decode b_MO_tab 151 = .ok (.iaload, 1) := by decide +kernel
theorem d_MO_tab_152 : decode b_MO_tab 152 = .ok (.iconst 1, 1) := by decide +kernel
theorem d_MO_tab_153 : decode b_MO_tab 153 = .ok (.if_icmp .ne 10, 3) := by decide +kernel
theorem d_MO_tab_156 : decode b_MO_tab 156 = .ok (.iload 11, 2) := by decide +kernel
theorem d_MO_tab_158 : decode b_MO_tab 158 = .ok (.iload 10, 2) := by decide +kernel
theorem d_MO_tab_160 : decode b_MO_tab 160 = .ok (.isub, 1) := by decide +kernel
theorem d_MO_tab_161 : decode b_MO_tab 161 = .ok (.istore 11, 2) := by decide +kernel
theorem d_MO_tab_163 : decode b_MO_tab 163 = .ok (.iload 6, 2) := by decide +kernel
theorem d_MO_tab_165 : decode b_MO_tab 165 = .ok (.ifCond .lt 23, 3) := by decide +kernel
theorem d_MO_tab_168 : decode b_MO_tab 168 = .ok (.aload_n 0, 1) := by decide +kernel
theorem d_MO_tab_169 : decode b_MO_tab 169 = .ok (.getfield 32, 3) := by decide +kernel
theorem d_MO_tab_172 : decode b_MO_tab 172 = .ok (.iload 6, 2) := by decide +kernel
theorem d_MO_tab_174 : decode b_MO_tab 174 = .ok (.iaload, 1) := by decide +kernel
theorem d_MO_tab_175 : decode b_MO_tab 175 = .ok (.iconst 2, 1) := by decide +kernel
theorem d_MO_tab_176 : decode b_MO_tab 176 = .ok (.if_icmp .ne 12, 3) := by decide +kernel
theorem d_MO_tab_179 : decode b_MO_tab 179 = .ok (.iload 11, 2) := by decide +kernel
theorem d_MO_tab_181 : decode b_MO_tab 181 = .ok (.iload 10, 2) := by decide +kernel
theorem d_MO_tab_183 : decode b_MO_tab 183 = .ok (.iconst 2, 1) := by decide +kernel
theorem d_MO_tab_184 : decode b_MO_tab 184 = .ok (.idiv, 1) := by decide +kernel
theorem d_MO_tab_185 : decode b_MO_tab 185 = .ok (.isub, 1) := by decide +kernel
theorem d_MO_tab_186 : decode b_MO_tab 186 = .ok (.istore 11, 2) := by decide +kernel
theorem d_MO_tab_188 : decode b_MO_tab 188 = .ok (.iload 11, 2) := by decide +kernel
theorem d_MO_tab_190 : decode b_MO_tab 190 = .ok (.ifCond .ge 7, 3) := by decide +kernel
theorem d_MO_tab_193 : decode b_MO_tab 193 = .ok (.iconst 0, 1) := by decide +kernel
theorem d_MO_tab_194 : decode b_MO_tab 194 = .ok (.goto 5, 3) := by decide +kernel
theorem d_MO_tab_197 : decode b_MO_tab 197 = .ok (.iload 11, 2) := by decide +kernel
theorem d_MO_tab_199 : decode b_MO_tab 199 = .ok (.ireturn, 1) := by decide +kernel
theorem d_MO_stopAbove_0 : decode b_MO_stopAbove 0 = .ok (.iconst 0, 1) := by decide +kernel
theorem d_MO_stopAbove_1 : decode b_MO_stopAbove 1 = .ok (.istore_n 3, 1) := by decide +kernel
theorem d_MO_stopAbove_2 : decode b_MO_stopAbove 2 = .ok (.iload_n 3, 1) := by decide +kernel
theorem d_MO_stopAbove_3 : decode b_MO_stopAbove 3 = .ok (.aload_n 0, 1) := by decide +kernel
theorem d_MO_stopAbove_4 : decode b_MO_stopAbove 4 = .ok (.getfield 26, 3) := by decide +kernel
theorem d_MO_stopAbove_7 : decode b_MO_stopAbove 7 = .ok (.iload_n 1, 1) := by decide +kernel
theorem d_MO_stopAbove_8 : decode b_MO_stopAbove 8 = .ok (.iaload, 1) := by decide +kernel
theorem d_MO_stopAbove_9 : decode b_MO_stopAbove 9 = .ok (.if_icmp .ge 31, 3) := by decide +kernel
theorem d_MO_stopAbove_12 : decode b_MO_stopAbove 12 = .ok (.aload_n 0, 1) := by decide +kernel
theorem d_MO_stopAbove_13 : decode b_MO_stopAbove 13 = .ok (.getfield 29, 3) := by decide +kernel
theorem d_MO_stopAbove_16 : decode b_MO_stopAbove 16 = .ok (.bipush 8, 2) := by decide +kernel
theorem d_MO_stopAbove_18 : decode b_MO_stopAbove 18 = .ok (.iload_n 1, 1) := by decide +kernel
theorem d_MO_stopAbove_19 : decode b_MO_stopAbove 19 = .ok (.imul, 1) := by decide +kernel
theorem d_MO_stopAbove_20 : decode b_MO_stopAbove 20 = .ok (.iload_n 3, 1) := by decide +kernel
theorem d_MO_stopAbove_21 : decode b_MO_stopAbove 21 = .ok (.iadd, 1) := by decide +kernel
theorem d_MO_stopAbove_22 : decode b_MO_stopAbove 22 = .ok (.iaload, 1) := by decide +kernel
theorem d_MO_stopAbove_23 : decode b_MO_stopAbove 23 = .ok (.iload_n 2, 1) := by decide +kernel
theorem d_MO_stopAbove_24 : decode b_MO_stopAbove 24 = .ok (.if_icmp .le 10, 3) := by decide +kernel
theorem d_MO_stopAbove_27 : decode b_MO_stopAbove 27 = .ok (.bipush 8, 2) := by decide +kernel
theorem d_MO_stopAbove_29 : decode b_MO_stopAbove 29 = .ok (.iload_n 1, 1) := by decide +kernel
theorem d_MO_stopAbove_30 : decode b_MO_stopAbove 30 = .ok (.imul, 1) := by decide +kernel
theorem d_MO_stopAbove_31 : decode b_MO_stopAbove 31 = .ok (.iload_n 3, 1) := by decide +kernel
theorem d_MO_stopAbove_32 : decode b_MO_stopAbove 32 = .ok (.iadd, 1) := by decide +kernel
theorem d_MO_stopAbove_33 : decode b_MO_stopAbove 33 = .ok (.ireturn, 1) := by decide +kernel
theorem d_MO_stopAbove_34 : decode b_MO_stopAbove 34 = .ok (.iinc 3 1, 3) := by decide +kernel
theorem d_MO_stopAbove_37 : decode b_MO_stopAbove 37 = .ok (.goto (-35), 3) := by decide +kernel
theorem d_MO_stopAbove_40 : decode b_MO_stopAbove 40 = .ok (.iconst (-1), 1) := by decide +kernel
theorem d_MO_stopAbove_41 : decode b_MO_stopAbove 41 = .ok (.ireturn, 1) := by decide +kernel
theorem d_MO_plain_0 : decode b_MO_plain 0 = .ok (.aload_n 0, 1) := by decide +kernel
theorem d_MO_plain_1 : decode b_MO_plain 1 = .ok (.iload_n 1, 1) := by decide +kernel
theorem d_MO_plain_2 : decode b_MO_plain 2 = .ok (.invokevirtual 120, 3) := by decide +kernel
theorem d_MO_plain_5 : decode b_MO_plain 5 = .ok (.ifCond .ne 20, 3) := by decide +kernel
theorem d_MO_plain_8 : decode b_MO_plain 8 = .ok (.aload_n 0, 1) := by decide +kernel
theorem d_MO_plain_9 : decode b_MO_plain 9 = .ok (.getfield 35, 3) := by decide +kernel
theorem d_MO_plain_12 : decode b_MO_plain 12 = .ok (.iload_n 1, 1) := by decide +kernel
theorem d_MO_plain_13 : decode b_MO_plain 13 = .ok (.iaload, 1) := by decide +kernel
theorem d_MO_plain_14 : decode b_MO_plain 14 = .ok (.iconst 4, 1) := by decide +kernel
theorem d_MO_plain_15 : decode b_MO_plain 15 = .ok (.if_icmp .ne 14, 3) := by decide +kernel
theorem d_MO_plain_18 : decode b_MO_plain 18 = .ok (.iload_n 1, 1) := by decide +kernel
theorem d_MO_plain_19 : decode b_MO_plain 19 = .ok (.iload_n 2, 1) := by decide +kernel
theorem d_MO_plain_20 : decode b_MO_plain 20 = .ok (.iconst 1, 1) := by decide +kernel
theorem d_MO_plain_21 : decode b_MO_plain 21 = .ok (.isub, 1) := by decide +kernel
theorem d_MO_plain_22 : decode b_MO_plain 22 = .ok (.if_icmp .eq 7, 3) := by decide +kernel
theorem d_MO_plain_25 : decode b_MO_plain 25 = .ok (.iconst 0, 1) := by decide +kernel
theorem d_MO_plain_26 : decode b_MO_plain 26 = .ok (.goto 9, 3) := by decide +kernel
theorem d_MO_plain_29 : decode b_MO_plain 29 = .ok (.aload_n 0, 1) := by decide +kernel
theorem d_MO_plain_30 : decode b_MO_plain 30 = .ok (.getfield 38, 3) := by decide +kernel
theorem d_MO_plain_33 : decode b_MO_plain 33 = .ok (.iload_n 1, 1) := by decide +kernel
theorem d_MO_plain_34 : decode b_MO_plain 34 = .ok (.iaload, 1) := by decide +kernel
theorem d_MO_plain_35 : decode b_MO_plain 35 = .ok (.ireturn, 1) := by decide +kernel
theorem d_MO_room_0 : decode b_MO_room 0 = .ok (.aload_n 0, 1) := by decide +kernel
theorem d_MO_room_1 : decode b_MO_room 1 = .ok (.getfield 7, 3) := by decide +kernel
theorem d_MO_room_4 : decode b_MO_room 4 = .ok (.aload_n 0, 1) := by decide +kernel
theorem d_MO_room_5 : decode b_MO_room 5 = .ok (.getfield 23, 3) := by decide +kernel
theorem d_MO_room_8 : decode b_MO_room 8 = .ok (.bipush 11, 2) := by decide +kernel
theorem d_MO_room_10 : decode b_MO_room 10 = .ok (.iload_n 1, 1) := by decide +kernel
theorem d_MO_room_11 : decode b_MO_room 11 = .ok (.imul, 1) := by decide +kernel
theorem d_MO_room_12 : decode b_MO_room 12 = .ok (.iconst 1, 1) := by decide +kernel
theorem d_MO_room_13 : decode b_MO_room 13 = .ok (.iadd, 1) := by decide +kernel
theorem d_MO_room_14 : decode b_MO_room 14 = .ok (.iaload, 1) := by decide +kernel
theorem d_MO_room_15 : decode b_MO_room 15 = .ok (.isub, 1) := by decide +kernel
theorem d_MO_room_16 : decode b_MO_room 16 = .ok (.ireturn, 1) := by decide +kernel
