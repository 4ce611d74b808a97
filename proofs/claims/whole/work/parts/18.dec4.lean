theorem d_LN_lineBehind_0 : decode b_LN_lineBehind 0 = .ok (.aload_n 0, 1) := by decide +kernel
theorem d_LN_lineBehind_1 : decode b_LN_lineBehind 1 = .ok (.getfield 23, 3) := by decide +kernel
theorem d_LN_lineBehind_4 : decode b_LN_lineBehind 4 = .ok (.getfield 79, 3) := by decide +kernel
theorem d_LN_lineBehind_7 : decode b_LN_lineBehind 7 = .ok (.aload_n 1, 1) := by decide +kernel
theorem d_LN_lineBehind_8 : decode b_LN_lineBehind 8 = .ok (.getfield 53, 3) := by decide +kernel
theorem d_LN_lineBehind_11 : decode b_LN_lineBehind 11 = .ok (.iconst 1, 1) := by decide +kernel
theorem d_LN_lineBehind_12 : decode b_LN_lineBehind 12 = .ok (.iaload, 1) := by decide +kernel
theorem d_LN_lineBehind_13 : decode b_LN_lineBehind 13 = .ok (.isub, 1) := by decide +kernel
theorem d_LN_lineBehind_14 : decode b_LN_lineBehind 14 = .ok (.istore 4, 2) := by decide +kernel
theorem d_LN_lineBehind_16 : decode b_LN_lineBehind 16 = .ok (.iload_n 2, 1) := by decide +kernel
theorem d_LN_lineBehind_17 : decode b_LN_lineBehind 17 = .ok (.istore 5, 2) := by decide +kernel
theorem d_LN_lineBehind_19 : decode b_LN_lineBehind 19 = .ok (.aload_n 0, 1) := by decide +kernel
theorem d_LN_lineBehind_20 : decode b_LN_lineBehind 20 = .ok (.getfield 32, 3) := by decide +kernel
theorem d_LN_lineBehind_23 : decode b_LN_lineBehind 23 = .ok (.aload_n 1, 1) := by decide +kernel
theorem d_LN_lineBehind_24 : decode b_LN_lineBehind 24 = .ok (.iload_n 3, 1) := by decide +kernel
theorem d_LN_lineBehind_25 : decode b_LN_lineBehind 25 = .ok (.invokevirtual 84, 3) := by decide +kernel
theorem d_LN_lineBehind_28 : decode b_LN_lineBehind 28 = .ok (.iload_n 2, 1) := by decide +kernel
theorem d_LN_lineBehind_29 : decode b_LN_lineBehind 29 = .ok (.istore 6, 2) := by decide +kernel
theorem d_LN_lineBehind_31 : decode b_LN_lineBehind 31 = .ok (.iload 6, 2) := by decide +kernel
theorem d_LN_lineBehind_33 : decode b_LN_lineBehind 33 = .ok (.aload_n 1, 1) := by decide +kernel
theorem d_LN_lineBehind_34 : decode b_LN_lineBehind 34 = .ok (.getfield 68, 3) := by decide +kernel
theorem d_LN_lineBehind_37 : decode b_LN_lineBehind 37 = .ok (.if_icmp .ge 102, 3) := by decide +kernel
theorem d_LN_lineBehind_40 : decode b_LN_lineBehind 40 = .ok (.aload_n 0, 1) := by decide +kernel
theorem d_LN_lineBehind_41 : decode b_LN_lineBehind 41 = .ok (.getfield 32, 3) := by decide +kernel
theorem d_LN_lineBehind_44 : decode b_LN_lineBehind 44 = .ok (.iload 6, 2) := by decide +kernel
theorem d_LN_lineBehind_46 : decode b_LN_lineBehind 46 = .ok (.invokevirtual 88, 3) := by decide +kernel
theorem d_LN_lineBehind_49 : decode b_LN_lineBehind 49 = .ok (.aload_n 0, 1) := by decide +kernel
theorem d_LN_lineBehind_50 : decode b_LN_lineBehind 50 = .ok (.getfield 19, 3) := by decide +kernel
theorem d_LN_lineBehind_53 : decode b_LN_lineBehind 53 = .ok (.iload 6, 2) := by decide +kernel
theorem d_LN_lineBehind_55 : decode b_LN_lineBehind 55 = .ok (.aload_n 1, 1) := by decide +kernel
theorem d_LN_lineBehind_56 : decode b_LN_lineBehind 56 = .ok (.invokevirtual 91, 3) := by decide +kernel
theorem d_LN_lineBehind_59 : decode b_LN_lineBehind 59 = .ok (.ifCond .eq 29, 3) := by decide +kernel
theorem d_LN_lineBehind_62 : decode b_LN_lineBehind 62 = .ok (.iload 5, 2) := by decide +kernel
theorem d_LN_lineBehind_64 : decode b_LN_lineBehind 64 = .ok (.iload_n 2, 1) := by decide +kernel
theorem d_LN_lineBehind_65 : decode b_LN_lineBehind 65 = .ok (.if_icmp .eq 17, 3) := by decide +kernel
theorem d_LN_lineBehind_68 : decode b_LN_lineBehind 68 = .ok (.aload_n 0, 1) := by decide +kernel
theorem d_LN_lineBehind_69 : decode b_LN_lineBehind 69 = .ok (.getfield 32, 3) := by decide +kernel
theorem d_LN_lineBehind_72 : decode b_LN_lineBehind 72 = .ok (.iload 6, 2) := by decide +kernel
theorem d_LN_lineBehind_74 : decode b_LN_lineBehind 74 = .ok (.invokevirtual 95, 3) := by decide +kernel
theorem d_LN_lineBehind_77 : decode b_LN_lineBehind 77 = .ok (.iload 4, 2) := by decide +kernel
theorem d_LN_lineBehind_79 : decode b_LN_lineBehind 79 = .ok (.if_icmp .gt 9, 3) := by decide +kernel
theorem d_LN_lineBehind_82 : decode b_LN_lineBehind 82 = .ok (.iload 6, 2) := by decide +kernel
theorem d_LN_lineBehind_84 : decode b_LN_lineBehind 84 = .ok (.iconst 1, 1) := by decide +kernel
theorem d_LN_lineBehind_85 : decode b_LN_lineBehind 85 = .ok (.iadd, 1) := by decide +kernel
theorem d_LN_lineBehind_86 : decode b_LN_lineBehind 86 = .ok (.istore 5, 2) := by decide +kernel
theorem d_LN_lineBehind_88 : decode b_LN_lineBehind 88 = .ok (.iload 5, 2) := by decide +kernel
theorem d_LN_lineBehind_90 : decode b_LN_lineBehind 90 = .ok (.iload_n 2, 1) := by decide +kernel
theorem d_LN_lineBehind_91 : decode b_LN_lineBehind 91 = .ok (.if_icmp .le 19, 3) := by decide +kernel
theorem d_LN_lineBehind_94 : decode b_LN_lineBehind 94 = .ok (.aload_n 0, 1) := by decide +kernel
theorem d_LN_lineBehind_95 : decode b_LN_lineBehind 95 = .ok (.getfield 32, 3) := by decide +kernel
theorem d_LN_lineBehind_98 : decode b_LN_lineBehind 98 = .ok (.invokevirtual 99, 3) := by decide +kernel
theorem d_LN_lineBehind_101 : decode b_LN_lineBehind 101 = .ok (.iload 4, 2) := by decide +kernel
theorem d_LN_lineBehind_103 : decode b_LN_lineBehind 103 = .ok (.if_icmp .le 7, 3) := by decide +kernel
theorem d_LN_lineBehind_106 : decode b_LN_lineBehind 106 = .ok (.iconst 1, 1) := by decide +kernel
theorem d_LN_lineBehind_107 : decode b_LN_lineBehind 107 = .ok (.goto 4, 3) := by decide +kernel
theorem d_LN_lineBehind_110 : decode b_LN_lineBehind 110 = .ok (.iconst 0, 1) := by decide +kernel
theorem d_LN_lineBehind_111 : decode b_LN_lineBehind 111 = .ok (.istore 7, 2) := by decide +kernel
theorem d_LN_lineBehind_113 : decode b_LN_lineBehind 113 = .ok (.iload 7, 2) := by decide +kernel
theorem d_LN_lineBehind_115 : decode b_LN_lineBehind 115 = .ok (.ifCond .ne 24, 3) := by decide +kernel
theorem d_LN_lineBehind_118 : decode b_LN_lineBehind 118 = .ok (.aload_n 0, 1) := by decide +kernel
theorem d_LN_lineBehind_119 : decode b_LN_lineBehind 119 = .ok (.getfield 19, 3) := by decide +kernel
theorem d_LN_lineBehind_122 : decode b_LN_lineBehind 122 = .ok (.iload 6, 2) := by decide +kernel
theorem d_LN_lineBehind_124 : decode b_LN_lineBehind 124 = .ok (.invokevirtual 103, 3) := by decide +kernel
theorem d_LN_lineBehind_127 : decode b_LN_lineBehind 127 = .ok (.ifCond .eq 6, 3) := by decide +kernel
theorem d_LN_lineBehind_130 : decode b_LN_lineBehind 130 = .ok (.goto 9, 3) := by decide +kernel
theorem d_LN_lineBehind_133 : decode b_LN_lineBehind 133 = .ok (.iinc 6 1, 3) := by decide +kernel
theorem d_LN_lineBehind_136 : decode b_LN_lineBehind 136 = .ok (.goto (-105), 3) := by decide +kernel
theorem d_LN_lineBehind_139 : decode b_LN_lineBehind 139 = .ok (.iload 5, 2) := by decide +kernel
theorem d_LN_lineBehind_141 : decode b_LN_lineBehind 141 = .ok (.ireturn, 1) := by decide +kernel
theorem d_RU_begin_0 : decode b_RU_begin 0 = .ok (.aload_n 0, 1) := by decide +kernel
theorem d_RU_begin_1 : decode b_RU_begin 1 = .ok (.aload_n 1, 1) := by decide +kernel
theorem d_RU_begin_2 : decode b_RU_begin 2 = .ok (.putfield 19, 3) := by decide +kernel
theorem d_RU_begin_5 : decode b_RU_begin 5 = .ok (.aload_n 0, 1) := by decide +kernel
theorem d_RU_begin_6 : decode b_RU_begin 6 = .ok (.iconst 0, 1) := by decide +kernel
theorem d_RU_begin_7 : decode b_RU_begin 7 = .ok (.putfield 23, 3) := by decide +kernel
theorem d_RU_begin_10 : decode b_RU_begin 10 = .ok (.aload_n 0, 1) := by decide +kernel
theorem d_RU_begin_11 : decode b_RU_begin 11 = .ok (.iload_n 2, 1) := by decide +kernel
theorem d_RU_begin_12 : decode b_RU_begin 12 = .ok (.invokevirtual 27, 3) := by decide +kernel
theorem d_RU_begin_15 : decode b_RU_begin 15 = .ok (.return_, 1) := by decide +kernel
theorem d_RU_beginStretch_0 : decode b_RU_beginStretch 0 = .ok (.aload_n 0, 1) := by decide +kernel
theorem d_RU_beginStretch_1 : decode b_RU_beginStretch 1 = .ok (.iload_n 1, 1) := by decide +kernel
theorem d_RU_beginStretch_2 : decode b_RU_beginStretch 2 = .ok (.putfield 59, 3) := by decide +kernel
theorem d_RU_beginStretch_5 : decode b_RU_beginStretch 5 = .ok (.aload_n 0, 1) := by decide +kernel
theorem d_RU_beginStretch_6 : decode b_RU_beginStretch 6 = .ok (.iconst 0, 1) := by decide +kernel
theorem d_RU_beginStretch_7 : decode b_RU_beginStretch 7 = .ok (.putfield 37, 3) := by decide +kernel
theorem d_RU_beginStretch_10 : decode b_RU_beginStretch 10 = .ok (.aload_n 0, 1) := by decide +kernel
theorem d_RU_beginStretch_11 : decode b_RU_beginStretch 11 = .ok (.iconst 0, 1) := by decide +kernel
theorem d_RU_beginStretch_12 : decode b_RU_beginStretch 12 = .ok (.putfield 53, 3) := by decide +kernel
theorem d_RU_beginStretch_15 : decode b_RU_beginStretch 15 = .ok (.return_, 1) := by decide +kernel
theorem d_RU_add_0 : decode b_RU_add 0 = .ok (.aload_n 0, 1) := by decide +kernel
theorem d_RU_add_1 : decode b_RU_add 1 = .ok (.getfield 9, 3) := by decide +kernel
theorem d_RU_add_4 : decode b_RU_add 4 = .ok (.getfield 31, 3) := by decide +kernel
theorem d_RU_add_7 : decode b_RU_add 7 = .ok (.iload_n 1, 1) := by decide +kernel
theorem d_RU_add_8 : decode b_RU_add 8 = .ok (.iaload, 1) := by decide +kernel
theorem d_RU_add_9 : decode b_RU_add 9 = .ok (.iconst 2, 1) := by decide +kernel
theorem d_RU_add_10 : decode b_RU_add 10 = .ok (.if_icmp .ne 21, 3) := by decide +kernel
theorem d_RU_add_13 : decode b_RU_add 13 = .ok (.aload_n 0, 1) := by decide +kernel
theorem d_RU_add_14 : decode b_RU_add 14 = .ok (.aload_n 0, 1) := by decide +kernel
theorem d_RU_add_15 : decode b_RU_add 15 = .ok (.aload_n 0, 1) := by decide +kernel
theorem d_RU_add_16 : decode b_RU_add 16 = .ok (.getfield 37, 3) := by decide +kernel
theorem d_RU_add_19 : decode b_RU_add 19 = .ok (.invokevirtual 41, 3) := by decide +kernel
theorem d_RU_add_22 : decode b_RU_add 22 = .ok (.invokevirtual 27, 3) := by decide +kernel
theorem d_RU_add_25 : decode b_RU_add 25 = .ok (.aload_n 0, 1) := by decide +kernel
theorem d_RU_add_26 : decode b_RU_add 26 = .ok (.iconst 1, 1) := by decide +kernel
theorem d_RU_add_27 : decode b_RU_add 27 = .ok (.putfield 23, 3) := by decide +kernel
theorem d_RU_add_30 : decode b_RU_add 30 = .ok (.return_, 1) := by decide +kernel
theorem d_RU_add_31 : decode b_RU_add 31 = .ok (.aload_n 0, 1) := by decide +kernel
theorem d_RU_add_32 : decode b_RU_add 32 = .ok (.dup, 1) := by decide +kernel
theorem d_RU_add_33 : decode b_RU_add 33 = .ok (.getfield 37, 3) := by decide +kernel
theorem d_RU_add_36 : decode b_RU_add 36 = .ok (.aload_n 0, 1) := by decide +kernel
theorem d_RU_add_37 : decode b_RU_add 37 = .ok (.getfield 9, 3) := by decide +kernel
theorem d_RU_add_40 : decode b_RU_add 40 = .ok (.iload_n 1, 1) := by decide +kernel
theorem d_RU_add_41 : decode b_RU_add 41 = .ok (.iconst 0, 1) := by decide +kernel
theorem d_RU_add_42 : decode b_RU_add 42 = .ok (.invokevirtual 45, 3) := by decide +kernel
theorem d_RU_add_45 : decode b_RU_add 45 = .ok (.iadd, 1) := by decide +kernel
theorem d_RU_add_46 : decode b_RU_add 46 = .ok (.putfield 37, 3) := by decide +kernel
theorem d_RU_add_49 : decode b_RU_add 49 = .ok (.aload_n 0, 1) := by decide +kernel
theorem d_RU_add_50 : decode b_RU_add 50 = .ok (.getfield 9, 3) := by decide +kernel
theorem d_RU_add_53 : decode b_RU_add 53 = .ok (.getfield 31, 3) := by decide +kernel
theorem d_RU_add_56 : decode b_RU_add 56 = .ok (.iload_n 1, 1) := by decide +kernel
theorem d_RU_add_57 : decode b_RU_add 57 = .ok (.iaload, 1) := by decide +kernel
theorem d_RU_add_58 : decode b_RU_add 58 = .ok (.iconst 1, 1) := by decide +kernel
theorem d_RU_add_59 : decode b_RU_add 59 = .ok (.if_icmp .eq 22, 3) := by decide +kernel
theorem d_RU_add_62 : decode b_RU_add 62 = .ok (.aload_n 0, 1) := by decide +kernel
theorem d_RU_add_63 : decode b_RU_add 63 = .ok (.getfield 9, 3) := by decide +kernel
theorem d_RU_add_66 : decode b_RU_add 66 = .ok (.iload_n 1, 1) := by decide +kernel
theorem d_RU_add_67 : decode b_RU_add 67 = .ok (.invokevirtual 49, 3) := by decide +kernel
theorem d_RU_add_70 : decode b_RU_add 70 = .ok (.ifCond .ne 11, 3) := by decide +kernel
theorem d_RU_add_73 : decode b_RU_add 73 = .ok (.aload_n 0, 1) := by decide +kernel
theorem d_RU_add_74 : decode b_RU_add 74 = .ok (.aload_n 0, 1) := by decide +kernel
theorem d_RU_add_75 : decode b_RU_add 75 = .ok (.getfield 37, 3) := by decide +kernel
theorem d_RU_add_78 : decode b_RU_add 78 = .ok (.putfield 53, 3) := by decide +kernel
theorem d_RU_add_81 : decode b_RU_add 81 = .ok (.return_, 1) := by decide +kernel
