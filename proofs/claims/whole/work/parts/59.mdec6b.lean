theorem d_MO_where_65 : decode b_MO_where 65 = .ok (.ifCond .ne 12, 3) := by decide +kernel
theorem d_MO_where_68 : decode b_MO_where 68 = .ok (.aload_n 0, 1) := by decide +kernel
theorem d_MO_where_69 : decode b_MO_where 69 = .ok (.getfield 80, 3) := by decide +kernel
theorem d_MO_where_72 : decode b_MO_where 72 = .ok (.iload_n 1, 1) := by decide +kernel
theorem d_MO_where_73 : decode b_MO_where 73 = .ok (.iaload, 1) := by decide +kernel
theorem d_MO_where_74 : decode b_MO_where 74 = .ok (.goto 23, 3) := by decide +kernel
theorem d_MO_where_77 : decode b_MO_where 77 = .ok (.iload_n 2, 1) := by decide +kernel
theorem d_MO_where_78 : decode b_MO_where 78 = .ok (.iconst 1, 1) := by decide +kernel
theorem d_MO_where_79 : decode b_MO_where 79 = .ok (.if_icmp .ne 12, 3) := by decide +kernel
theorem d_MO_where_82 : decode b_MO_where 82 = .ok (.aload_n 0, 1) := by decide +kernel
theorem d_MO_where_83 : decode b_MO_where 83 = .ok (.getfield 83, 3) := by decide +kernel
theorem d_MO_where_86 : decode b_MO_where 86 = .ok (.iload_n 1, 1) := by decide +kernel
theorem d_MO_where_87 : decode b_MO_where 87 = .ok (.iaload, 1) := by decide +kernel
theorem d_MO_where_88 : decode b_MO_where 88 = .ok (.goto 9, 3) := by decide +kernel
theorem d_MO_where_91 : decode b_MO_where 91 = .ok (.aload_n 0, 1) := by decide +kernel
theorem d_MO_where_92 : decode b_MO_where 92 = .ok (.getfield 86, 3) := by decide +kernel
theorem d_MO_where_95 : decode b_MO_where 95 = .ok (.iload_n 1, 1) := by decide +kernel
theorem d_MO_where_96 : decode b_MO_where 96 = .ok (.iaload, 1) := by decide +kernel
theorem d_MO_where_97 : decode b_MO_where 97 = .ok (.ireturn, 1) := by decide +kernel
theorem d_MO_page_0 : decode b_MO_page 0 = .ok (.aload_n 0, 1) := by decide +kernel
theorem d_MO_page_1 : decode b_MO_page 1 = .ok (.aload_n 0, 1) := by decide +kernel
theorem d_MO_page_2 : decode b_MO_page 2 = .ok (.iload_n 1, 1) := by decide +kernel
theorem d_MO_page_3 : decode b_MO_page 3 = .ok (.invokevirtual 179, 3) := by decide +kernel
theorem d_MO_page_6 : decode b_MO_page 6 = .ok (.ifCond .ne 7, 3) := by decide +kernel
theorem d_MO_page_9 : decode b_MO_page 9 = .ok (.iconst 1, 1) := by decide +kernel
theorem d_MO_page_10 : decode b_MO_page 10 = .ok (.goto 17, 3) := by decide +kernel
theorem d_MO_page_13 : decode b_MO_page 13 = .ok (.iload_n 2, 1) := by decide +kernel
theorem d_MO_page_14 : decode b_MO_page 14 = .ok (.iconst 0, 1) := by decide +kernel
theorem d_MO_page_15 : decode b_MO_page 15 = .ok (.iconst 2, 1) := by decide +kernel
theorem d_MO_page_16 : decode b_MO_page 16 = .ok (.invokestatic 102, 3) := by decide +kernel
theorem d_MO_page_19 : decode b_MO_page 19 = .ok (.ifCond .ne 7, 3) := by decide +kernel
theorem d_MO_page_22 : decode b_MO_page 22 = .ok (.iconst 2, 1) := by decide +kernel
theorem d_MO_page_23 : decode b_MO_page 23 = .ok (.goto 4, 3) := by decide +kernel
theorem d_MO_page_26 : decode b_MO_page 26 = .ok (.iconst 0, 1) := by decide +kernel
theorem d_MO_page_27 : decode b_MO_page 27 = .ok (.putfield 92, 3) := by decide +kernel
theorem d_MO_page_30 : decode b_MO_page 30 = .ok (.aload_n 0, 1) := by decide +kernel
theorem d_MO_page_31 : decode b_MO_page 31 = .ok (.getfield 92, 3) := by decide +kernel
theorem d_MO_page_34 : decode b_MO_page 34 = .ok (.ifCond .le 5, 3) := by decide +kernel
theorem d_MO_page_37 : decode b_MO_page 37 = .ok (.iconst 0, 1) := by decide +kernel
theorem d_MO_page_38 : decode b_MO_page 38 = .ok (.ireturn, 1) := by decide +kernel
theorem d_MO_page_39 : decode b_MO_page 39 = .ok (.aload_n 0, 1) := by decide +kernel
theorem d_MO_page_40 : decode b_MO_page 40 = .ok (.getfield 89, 3) := by decide +kernel
theorem d_MO_page_43 : decode b_MO_page 43 = .ok (.iload_n 1, 1) := by decide +kernel
theorem d_MO_page_44 : decode b_MO_page 44 = .ok (.iconst 1, 1) := by decide +kernel
theorem d_MO_page_45 : decode b_MO_page 45 = .ok (.iadd, 1) := by decide +kernel
theorem d_MO_page_46 : decode b_MO_page 46 = .ok (.iaload, 1) := by decide +kernel
theorem d_MO_page_47 : decode b_MO_page 47 = .ok (.iconst 1, 1) := by decide +kernel
theorem d_MO_page_48 : decode b_MO_page 48 = .ok (.isub, 1) := by decide +kernel
theorem d_MO_page_49 : decode b_MO_page 49 = .ok (.istore_n 3, 1) := by decide +kernel
theorem d_MO_page_50 : decode b_MO_page 50 = .ok (.iload_n 2, 1) := by decide +kernel
theorem d_MO_page_51 : decode b_MO_page 51 = .ok (.ifCond .ne 12, 3) := by decide +kernel
theorem d_MO_page_54 : decode b_MO_page 54 = .ok (.aload_n 0, 1) := by decide +kernel
theorem d_MO_page_55 : decode b_MO_page 55 = .ok (.getfield 89, 3) := by decide +kernel
theorem d_MO_page_58 : decode b_MO_page 58 = .ok (.iload_n 1, 1) := by decide +kernel
theorem d_MO_page_59 : decode b_MO_page 59 = .ok (.iaload, 1) := by decide +kernel
theorem d_MO_page_60 : decode b_MO_page 60 = .ok (.goto 34, 3) := by decide +kernel
theorem d_MO_page_63 : decode b_MO_page 63 = .ok (.iload_n 2, 1) := by decide +kernel
theorem d_MO_page_64 : decode b_MO_page 64 = .ok (.iconst 1, 1) := by decide +kernel
theorem d_MO_page_65 : decode b_MO_page 65 = .ok (.if_icmp .ne 16, 3) := by decide +kernel
theorem d_MO_page_68 : decode b_MO_page 68 = .ok (.iload_n 3, 1) := by decide +kernel
theorem d_MO_page_69 : decode b_MO_page 69 = .ok (.iconst 1, 1) := by decide +kernel
theorem d_MO_page_70 : decode b_MO_page 70 = .ok (.iadd, 1) := by decide +kernel
theorem d_MO_page_71 : decode b_MO_page 71 = .ok (.aload_n 0, 1) := by decide +kernel
theorem d_MO_page_72 : decode b_MO_page 72 = .ok (.getfield 89, 3) := by decide +kernel
theorem d_MO_page_75 : decode b_MO_page 75 = .ok (.iload_n 1, 1) := by decide +kernel
theorem d_MO_page_76 : decode b_MO_page 76 = .ok (.iaload, 1) := by decide +kernel
theorem d_MO_page_77 : decode b_MO_page 77 = .ok (.isub, 1) := by decide +kernel
theorem d_MO_page_78 : decode b_MO_page 78 = .ok (.goto 16, 3) := by decide +kernel
theorem d_MO_page_81 : decode b_MO_page 81 = .ok (.aload_n 0, 1) := by decide +kernel
theorem d_MO_page_82 : decode b_MO_page 82 = .ok (.getfield 71, 3) := by decide +kernel
theorem d_MO_page_85 : decode b_MO_page 85 = .ok (.iload_n 3, 1) := by decide +kernel
theorem d_MO_page_86 : decode b_MO_page 86 = .ok (.iaload, 1) := by decide +kernel
theorem d_MO_page_87 : decode b_MO_page 87 = .ok (.aload_n 0, 1) := by decide +kernel
theorem d_MO_page_88 : decode b_MO_page 88 = .ok (.getfield 65, 3) := by decide +kernel
theorem d_MO_page_91 : decode b_MO_page 91 = .ok (.iload_n 3, 1) := by decide +kernel
theorem d_MO_page_92 : decode b_MO_page 92 = .ok (.iaload, 1) := by decide +kernel
theorem d_MO_page_93 : decode b_MO_page 93 = .ok (.iadd, 1) := by decide +kernel
theorem d_MO_page_94 : decode b_MO_page 94 = .ok (.ireturn, 1) := by decide +kernel
theorem d_MO_hit_0 : decode b_MO_hit 0 = .ok (.aload_n 0, 1) := by decide +kernel
theorem d_MO_hit_1 : decode b_MO_hit 1 = .ok (.aload_n 0, 1) := by decide +kernel
theorem d_MO_hit_2 : decode b_MO_hit 2 = .ok (.iload_n 1, 1) := by decide +kernel
theorem d_MO_hit_3 : decode b_MO_hit 3 = .ok (.invokevirtual 179, 3) := by decide +kernel
theorem d_MO_hit_6 : decode b_MO_hit 6 = .ok (.ifCond .eq 7, 3) := by decide +kernel
theorem d_MO_hit_9 : decode b_MO_hit 9 = .ok (.iconst 0, 1) := by decide +kernel
theorem d_MO_hit_10 : decode b_MO_hit 10 = .ok (.goto 4, 3) := by decide +kernel
theorem d_MO_hit_13 : decode b_MO_hit 13 = .ok (.iconst 1, 1) := by decide +kernel
theorem d_MO_hit_14 : decode b_MO_hit 14 = .ok (.putfield 92, 3) := by decide +kernel
theorem d_MO_hit_17 : decode b_MO_hit 17 = .ok (.aload_n 0, 1) := by decide +kernel
theorem d_MO_hit_18 : decode b_MO_hit 18 = .ok (.getfield 92, 3) := by decide +kernel
theorem d_MO_hit_21 : decode b_MO_hit 21 = .ok (.ifCond .le 5, 3) := by decide +kernel
theorem d_MO_hit_24 : decode b_MO_hit 24 = .ok (.iconst 0, 1) := by decide +kernel
theorem d_MO_hit_25 : decode b_MO_hit 25 = .ok (.ireturn, 1) := by decide +kernel
theorem d_MO_hit_26 : decode b_MO_hit 26 = .ok (.aload_n 0, 1) := by decide +kernel
theorem d_MO_hit_27 : decode b_MO_hit 27 = .ok (.getfield 89, 3) := by decide +kernel
theorem d_MO_hit_30 : decode b_MO_hit 30 = .ok (.iload_n 1, 1) := by decide +kernel
theorem d_MO_hit_31 : decode b_MO_hit 31 = .ok (.iaload, 1) := by decide +kernel
theorem d_MO_hit_32 : decode b_MO_hit 32 = .ok (.istore 4, 2) := by decide +kernel
theorem d_MO_hit_34 : decode b_MO_hit 34 = .ok (.iload 4, 2) := by decide +kernel
theorem d_MO_hit_36 : decode b_MO_hit 36 = .ok (.iconst 1, 1) := by decide +kernel
theorem d_MO_hit_37 : decode b_MO_hit 37 = .ok (.iadd, 1) := by decide +kernel
theorem d_MO_hit_38 : decode b_MO_hit 38 = .ok (.aload_n 0, 1) := by decide +kernel
theorem d_MO_hit_39 : decode b_MO_hit 39 = .ok (.getfield 89, 3) := by decide +kernel
theorem d_MO_hit_42 : decode b_MO_hit 42 = .ok (.iload_n 1, 1) := by decide +kernel
theorem d_MO_hit_43 : decode b_MO_hit 43 = .ok (.iconst 1, 1) := by decide +kernel
theorem d_MO_hit_44 : decode b_MO_hit 44 = .ok (.iadd, 1) := by decide +kernel
theorem d_MO_hit_45 : decode b_MO_hit 45 = .ok (.iaload, 1) := by decide +kernel
theorem d_MO_hit_46 : decode b_MO_hit 46 = .ok (.if_icmp .ge 22, 3) := by decide +kernel
theorem d_MO_hit_49 : decode b_MO_hit 49 = .ok (.aload_n 0, 1) := by decide +kernel
theorem d_MO_hit_50 : decode b_MO_hit 50 = .ok (.getfield 71, 3) := by decide +kernel
theorem d_MO_hit_53 : decode b_MO_hit 53 = .ok (.iload 4, 2) := by decide +kernel
theorem d_MO_hit_55 : decode b_MO_hit 55 = .ok (.iconst 1, 1) := by decide +kernel
theorem d_MO_hit_56 : decode b_MO_hit 56 = .ok (.iadd, 1) := by decide +kernel
theorem d_MO_hit_57 : decode b_MO_hit 57 = .ok (.iaload, 1) := by decide +kernel
theorem d_MO_hit_58 : decode b_MO_hit 58 = .ok (.iload_n 3, 1) := by decide +kernel
theorem d_MO_hit_59 : decode b_MO_hit 59 = .ok (.if_icmp .gt 9, 3) := by decide +kernel
theorem d_MO_hit_62 : decode b_MO_hit 62 = .ok (.iinc 4 1, 3) := by decide +kernel
theorem d_MO_hit_65 : decode b_MO_hit 65 = .ok (.goto (-31), 3) := by decide +kernel
theorem d_MO_hit_68 : decode b_MO_hit 68 = .ok (.aload_n 0, 1) := by decide +kernel
theorem d_MO_hit_69 : decode b_MO_hit 69 = .ok (.getfield 53, 3) := by decide +kernel
theorem d_MO_hit_72 : decode b_MO_hit 72 = .ok (.iload 4, 2) := by decide +kernel
theorem d_MO_hit_74 : decode b_MO_hit 74 = .ok (.iaload, 1) := by decide +kernel
theorem d_MO_hit_75 : decode b_MO_hit 75 = .ok (.istore 5, 2) := by decide +kernel
theorem d_MO_hit_77 : decode b_MO_hit 77 = .ok (.iload 5, 2) := by decide +kernel
theorem d_MO_hit_79 : decode b_MO_hit 79 = .ok (.aload_n 0, 1) := by decide +kernel
theorem d_MO_hit_80 : decode b_MO_hit 80 = .ok (.getfield 56, 3) := by decide +kernel
theorem d_MO_hit_83 : decode b_MO_hit 83 = .ok (.iload 4, 2) := by decide +kernel
theorem d_MO_hit_85 : decode b_MO_hit 85 = .ok (.iaload, 1) := by decide +kernel
theorem d_MO_hit_86 : decode b_MO_hit 86 = .ok (.iadd, 1) := by decide +kernel
theorem d_MO_hit_87 : decode b_MO_hit 87 = .ok (.istore 6, 2) := by decide +kernel
theorem d_MO_hit_89 : decode b_MO_hit 89 = .ok (.iload 5, 2) := by decide +kernel
theorem d_MO_hit_91 : decode b_MO_hit 91 = .ok (.iload 6, 2) := by decide +kernel
theorem d_MO_hit_93 : decode b_MO_hit 93 = .ok (.if_icmp .ge 39, 3) := by decide +kernel
theorem d_MO_hit_96 : decode b_MO_hit 96 = .ok (.aload_n 0, 1) := by decide +kernel
theorem d_MO_hit_97 : decode b_MO_hit 97 = .ok (.iload 5, 2) := by decide +kernel
theorem d_MO_hit_99 : decode b_MO_hit 99 = .ok (.invokevirtual 120, 3) := by decide +kernel
theorem d_MO_hit_102 : decode b_MO_hit 102 = .ok (.ifCond .ne 30, 3) := by decide +kernel
theorem d_MO_hit_105 : decode b_MO_hit 105 = .ok (.aload_n 0, 1) := by decide +kernel
theorem d_MO_hit_106 : decode b_MO_hit 106 = .ok (.getfield 83, 3) := by decide +kernel
theorem d_MO_hit_109 : decode b_MO_hit 109 = .ok (.iload 5, 2) := by decide +kernel
theorem d_MO_hit_111 : decode b_MO_hit 111 = .ok (.iaload, 1) := by decide +kernel
theorem d_MO_hit_112 : decode b_MO_hit 112 = .ok (.aload_n 0, 1) := by decide +kernel
theorem d_MO_hit_113 : decode b_MO_hit 113 = .ok (.getfield 86, 3) := by decide +kernel
theorem d_MO_hit_116 : decode b_MO_hit 116 = .ok (.iload 5, 2) := by decide +kernel
theorem d_MO_hit_118 : decode b_MO_hit 118 = .ok (.iaload, 1) := by decide +kernel
theorem d_MO_hit_119 : decode b_MO_hit 119 = .ok (.iconst 2, 1) := by decide +kernel
theorem d_MO_hit_120 : decode b_MO_hit 120 = .ok (.idiv, 1) := by decide +kernel
theorem d_MO_hit_121 : decode b_MO_hit 121 = .ok (.iadd, 1) := by decide +kernel
theorem d_MO_hit_122 : decode b_MO_hit 122 = .ok (.iload_n 2, 1) := by decide +kernel
theorem d_MO_hit_123 : decode b_MO_hit 123 = .ok (.if_icmp .gt 9, 3) := by decide +kernel
theorem d_MO_hit_126 : decode b_MO_hit 126 = .ok (.iinc 5 1, 3) := by decide +kernel
theorem d_MO_hit_129 : decode b_MO_hit 129 = .ok (.goto (-40), 3) := by decide +kernel
theorem d_MO_hit_132 : decode b_MO_hit 132 = .ok (.iload 5, 2) := by decide +kernel
theorem d_MO_hit_134 : decode b_MO_hit 134 = .ok (.ireturn, 1) := by decide +kernel
