theorem d_MO_shape_60 : decode b_MO_shape 60 = .ok (.iload_n 1, 1) := by decide +kernel
theorem d_MO_shape_61 : decode b_MO_shape 61 = .ok (.imul, 1) := by decide +kernel
theorem d_MO_shape_62 : decode b_MO_shape 62 = .ok (.iload_n 2, 1) := by decide +kernel
theorem d_MO_shape_63 : decode b_MO_shape 63 = .ok (.iadd, 1) := by decide +kernel
theorem d_MO_shape_64 : decode b_MO_shape 64 = .ok (.iload_n 3, 1) := by decide +kernel
theorem d_MO_shape_65 : decode b_MO_shape 65 = .ok (.iastore, 1) := by decide +kernel
theorem d_MO_shape_66 : decode b_MO_shape 66 = .ok (.aload_n 0, 1) := by decide +kernel
theorem d_MO_shape_67 : decode b_MO_shape 67 = .ok (.iconst 0, 1) := by decide +kernel
theorem d_MO_shape_68 : decode b_MO_shape 68 = .ok (.putfield 98, 3) := by decide +kernel
theorem d_MO_shape_71 : decode b_MO_shape 71 = .ok (.return_, 1) := by decide +kernel
theorem d_MO_isParagraph_0 : decode b_MO_isParagraph 0 = .ok (.iload_n 1, 1) := by decide +kernel
theorem d_MO_isParagraph_1 : decode b_MO_isParagraph 1 = .ok (.iconst 0, 1) := by decide +kernel
theorem d_MO_isParagraph_2 : decode b_MO_isParagraph 2 = .ok (.aload_n 0, 1) := by decide +kernel
theorem d_MO_isParagraph_3 : decode b_MO_isParagraph 3 = .ok (.getfield 95, 3) := by decide +kernel
theorem d_MO_isParagraph_6 : decode b_MO_isParagraph 6 = .ok (.iconst 1, 1) := by decide +kernel
theorem d_MO_isParagraph_7 : decode b_MO_isParagraph 7 = .ok (.isub, 1) := by decide +kernel
theorem d_MO_isParagraph_8 : decode b_MO_isParagraph 8 = .ok (.invokestatic 102, 3) := by decide +kernel
theorem d_MO_isParagraph_11 : decode b_MO_isParagraph 11 = .ok (.ireturn, 1) := by decide +kernel
theorem d_MO_least_0 : decode b_MO_least 0 = .ok (.iload_n 0, 1) := by decide +kernel
theorem d_MO_least_1 : decode b_MO_least 1 = .ok (.iconst 2, 1) := by decide +kernel
theorem d_MO_least_2 : decode b_MO_least 2 = .ok (.if_icmp .ne 9, 3) := by decide +kernel
theorem d_MO_least_5 : decode b_MO_least 5 = .ok (.sipush (-5000), 3) := by decide +kernel
theorem d_MO_least_8 : decode b_MO_least 8 = .ok (.goto 14, 3) := by decide +kernel
theorem d_MO_least_11 : decode b_MO_least 11 = .ok (.iload_n 0, 1) := by decide +kernel
theorem d_MO_least_12 : decode b_MO_least 12 = .ok (.bipush 10, 2) := by decide +kernel
theorem d_MO_least_14 : decode b_MO_least 14 = .ok (.if_icmp .ne 7, 3) := by decide +kernel
theorem d_MO_least_17 : decode b_MO_least 17 = .ok (.iconst 1, 1) := by decide +kernel
theorem d_MO_least_18 : decode b_MO_least 18 = .ok (.goto 4, 3) := by decide +kernel
theorem d_MO_least_21 : decode b_MO_least 21 = .ok (.iconst 0, 1) := by decide +kernel
theorem d_MO_least_22 : decode b_MO_least 22 = .ok (.ireturn, 1) := by decide +kernel
theorem d_MO_most_0 : decode b_MO_most 0 = .ok (.iload_n 0, 1) := by decide +kernel
theorem d_MO_most_1 : decode b_MO_most 1 = .ok (.iconst 5, 1) := by decide +kernel
theorem d_MO_most_2 : decode b_MO_most 2 = .ok (.if_icmp .ge 9, 3) := by decide +kernel
theorem d_MO_most_5 : decode b_MO_most 5 = .ok (.sipush 5000, 3) := by decide +kernel
theorem d_MO_most_8 : decode b_MO_most 8 = .ok (.goto 25, 3) := by decide +kernel
theorem d_MO_most_11 : decode b_MO_most 11 = .ok (.iload_n 0, 1) := by decide +kernel
theorem d_MO_most_12 : decode b_MO_most 12 = .ok (.iconst 5, 1) := by decide +kernel
theorem d_MO_most_13 : decode b_MO_most 13 = .ok (.if_icmp .ne 7, 3) := by decide +kernel
theorem d_MO_most_16 : decode b_MO_most 16 = .ok (.iconst 3, 1) := by decide +kernel
theorem d_MO_most_17 : decode b_MO_most 17 = .ok (.goto 16, 3) := by decide +kernel
theorem d_MO_most_20 : decode b_MO_most 20 = .ok (.iload_n 0, 1) := by decide +kernel
theorem d_MO_most_21 : decode b_MO_most 21 = .ok (.bipush 10, 2) := by decide +kernel
theorem d_MO_most_23 : decode b_MO_most 23 = .ok (.if_icmp .ge 7, 3) := by decide +kernel
theorem d_MO_most_26 : decode b_MO_most 26 = .ok (.iconst 1, 1) := by decide +kernel
theorem d_MO_most_27 : decode b_MO_most 27 = .ok (.goto 6, 3) := by decide +kernel
theorem d_MO_most_30 : decode b_MO_most 30 = .ok (.sipush 2000, 3) := by decide +kernel
theorem d_MO_most_33 : decode b_MO_most 33 = .ok (.ireturn, 1) := by decide +kernel
theorem d_MO_stop_0 : decode b_MO_stop 0 = .ok (.aload_n 0, 1) := by decide +kernel
theorem d_MO_stop_1 : decode b_MO_stop 1 = .ok (.iload_n 1, 1) := by decide +kernel
theorem d_MO_stop_2 : decode b_MO_stop 2 = .ok (.invokevirtual 106, 3) := by decide +kernel
theorem d_MO_stop_5 : decode b_MO_stop 5 = .ok (.ifCond .ne 9, 3) := by decide +kernel
theorem d_MO_stop_8 : decode b_MO_stop 8 = .ok (.aload_n 0, 1) := by decide +kernel
theorem d_MO_stop_9 : decode b_MO_stop 9 = .ok (.iconst 1, 1) := by decide +kernel
theorem d_MO_stop_10 : decode b_MO_stop 10 = .ok (.invokevirtual 117, 3) := by decide +kernel
theorem d_MO_stop_13 : decode b_MO_stop 13 = .ok (.ireturn, 1) := by decide +kernel
theorem d_MO_stop_14 : decode b_MO_stop 14 = .ok (.aload_n 0, 1) := by decide +kernel
theorem d_MO_stop_15 : decode b_MO_stop 15 = .ok (.getfield 26, 3) := by decide +kernel
theorem d_MO_stop_18 : decode b_MO_stop 18 = .ok (.iload_n 1, 1) := by decide +kernel
theorem d_MO_stop_19 : decode b_MO_stop 19 = .ok (.iaload, 1) := by decide +kernel
theorem d_MO_stop_20 : decode b_MO_stop 20 = .ok (.istore 4, 2) := by decide +kernel
theorem d_MO_stop_22 : decode b_MO_stop 22 = .ok (.aload_n 0, 1) := by decide +kernel
theorem d_MO_stop_23 : decode b_MO_stop 23 = .ok (.iload_n 2, 1) := by decide +kernel
theorem d_MO_stop_24 : decode b_MO_stop 24 = .ok (.iconst 1, 1) := by decide +kernel
theorem d_MO_stop_25 : decode b_MO_stop 25 = .ok (.sipush 30000, 3) := by decide +kernel
theorem d_MO_stop_28 : decode b_MO_stop 28 = .ok (.invokestatic 102, 3) := by decide +kernel
theorem d_MO_stop_31 : decode b_MO_stop 31 = .ok (.ifCond .eq 35, 3) := by decide +kernel
theorem d_MO_stop_34 : decode b_MO_stop 34 = .ok (.iload_n 3, 1) := by decide +kernel
theorem d_MO_stop_35 : decode b_MO_stop 35 = .ok (.iconst 0, 1) := by decide +kernel
theorem d_MO_stop_36 : decode b_MO_stop 36 = .ok (.iconst 2, 1) := by decide +kernel
theorem d_MO_stop_37 : decode b_MO_stop 37 = .ok (.invokestatic 102, 3) := by decide +kernel
theorem d_MO_stop_40 : decode b_MO_stop 40 = .ok (.ifCond .eq 26, 3) := by decide +kernel
theorem d_MO_stop_43 : decode b_MO_stop 43 = .ok (.iload 4, 2) := by decide +kernel
theorem d_MO_stop_45 : decode b_MO_stop 45 = .ok (.ifCond .le 25, 3) := by decide +kernel
theorem d_MO_stop_48 : decode b_MO_stop 48 = .ok (.iload_n 2, 1) := by decide +kernel
theorem d_MO_stop_49 : decode b_MO_stop 49 = .ok (.aload_n 0, 1) := by decide +kernel
theorem d_MO_stop_50 : decode b_MO_stop 50 = .ok (.getfield 29, 3) := by decide +kernel
theorem d_MO_stop_53 : decode b_MO_stop 53 = .ok (.bipush 8, 2) := by decide +kernel
theorem d_MO_stop_55 : decode b_MO_stop 55 = .ok (.iload_n 1, 1) := by decide +kernel
theorem d_MO_stop_56 : decode b_MO_stop 56 = .ok (.imul, 1) := by decide +kernel
theorem d_MO_stop_57 : decode b_MO_stop 57 = .ok (.iload 4, 2) := by decide +kernel
theorem d_MO_stop_59 : decode b_MO_stop 59 = .ok (.iadd, 1) := by decide +kernel
theorem d_MO_stop_60 : decode b_MO_stop 60 = .ok (.iconst 1, 1) := by decide +kernel
theorem d_MO_stop_61 : decode b_MO_stop 61 = .ok (.isub, 1) := by decide +kernel
theorem d_MO_stop_62 : decode b_MO_stop 62 = .ok (.iaload, 1) := by decide +kernel
theorem d_MO_stop_63 : decode b_MO_stop 63 = .ok (.if_icmp .gt 7, 3) := by decide +kernel
theorem d_MO_stop_66 : decode b_MO_stop 66 = .ok (.iconst 2, 1) := by decide +kernel
theorem d_MO_stop_67 : decode b_MO_stop 67 = .ok (.goto 15, 3) := by decide +kernel
theorem d_MO_stop_70 : decode b_MO_stop 70 = .ok (.iload 4, 2) := by decide +kernel
theorem d_MO_stop_72 : decode b_MO_stop 72 = .ok (.bipush 8, 2) := by decide +kernel
theorem d_MO_stop_74 : decode b_MO_stop 74 = .ok (.if_icmp .ne 7, 3) := by decide +kernel
theorem d_MO_stop_77 : decode b_MO_stop 77 = .ok (.iconst 3, 1) := by decide +kernel
theorem d_MO_stop_78 : decode b_MO_stop 78 = .ok (.goto 4, 3) := by decide +kernel
theorem d_MO_stop_81 : decode b_MO_stop 81 = .ok (.iconst 0, 1) := by decide +kernel
theorem d_MO_stop_82 : decode b_MO_stop 82 = .ok (.putfield 92, 3) := by decide +kernel
theorem d_MO_stop_85 : decode b_MO_stop 85 = .ok (.aload_n 0, 1) := by decide +kernel
theorem d_MO_stop_86 : decode b_MO_stop 86 = .ok (.getfield 92, 3) := by decide +kernel
theorem d_MO_stop_89 : decode b_MO_stop 89 = .ok (.ifCond .le 5, 3) := by decide +kernel
theorem d_MO_stop_92 : decode b_MO_stop 92 = .ok (.iconst 0, 1) := by decide +kernel
theorem d_MO_stop_93 : decode b_MO_stop 93 = .ok (.ireturn, 1) := by decide +kernel
theorem d_MO_stop_94 : decode b_MO_stop 94 = .ok (.aload_n 0, 1) := by decide +kernel
theorem d_MO_stop_95 : decode b_MO_stop 95 = .ok (.getfield 29, 3) := by decide +kernel
theorem d_MO_stop_98 : decode b_MO_stop 98 = .ok (.bipush 8, 2) := by decide +kernel
theorem d_MO_stop_100 : decode b_MO_stop 100 = .ok (.iload_n 1, 1) := by decide +kernel
theorem d_MO_stop_101 : decode b_MO_stop 101 = .ok (.imul, 1) := by decide +kernel
theorem d_MO_stop_102 : decode b_MO_stop 102 = .ok (.iload 4, 2) := by decide +kernel
theorem d_MO_stop_104 : decode b_MO_stop 104 = .ok (.iadd, 1) := by decide +kernel
theorem d_MO_stop_105 : decode b_MO_stop 105 = .ok (.iload_n 2, 1) := by decide +kernel
theorem d_MO_stop_106 : decode b_MO_stop 106 = .ok (.iastore, 1) := by decide +kernel
theorem d_MO_stop_107 : decode b_MO_stop 107 = .ok (.aload_n 0, 1) := by decide +kernel
theorem d_MO_stop_108 : decode b_MO_stop 108 = .ok (.getfield 32, 3) := by decide +kernel
theorem d_MO_stop_111 : decode b_MO_stop 111 = .ok (.bipush 8, 2) := by decide +kernel
theorem d_MO_stop_113 : decode b_MO_stop 113 = .ok (.iload_n 1, 1) := by decide +kernel
theorem d_MO_stop_114 : decode b_MO_stop 114 = .ok (.imul, 1) := by decide +kernel
theorem d_MO_stop_115 : decode b_MO_stop 115 = .ok (.iload 4, 2) := by decide +kernel
theorem d_MO_stop_117 : decode b_MO_stop 117 = .ok (.iadd, 1) := by decide +kernel
theorem d_MO_stop_118 : decode b_MO_stop 118 = .ok (.iload_n 3, 1) := by decide +kernel
theorem d_MO_stop_119 : decode b_MO_stop 119 = .ok (.iastore, 1) := by decide +kernel
theorem d_MO_stop_120 : decode b_MO_stop 120 = .ok (.aload_n 0, 1) := by decide +kernel
theorem d_MO_stop_121 : decode b_MO_stop 121 = .ok (.getfield 26, 3) := by decide +kernel
theorem d_MO_stop_124 : decode b_MO_stop 124 = .ok (.iload_n 1, 1) := by decide +kernel
theorem d_MO_stop_125 : decode b_MO_stop 125 = .ok (.dup2, 1) := by decide +kernel
theorem d_MO_stop_126 : decode b_MO_stop 126 = .ok (.iaload, 1) := by decide +kernel
theorem d_MO_stop_127 : decode b_MO_stop 127 = .ok (.iconst 1, 1) := by decide +kernel
theorem d_MO_stop_128 : decode b_MO_stop 128 = .ok (.iadd, 1) := by decide +kernel
theorem d_MO_stop_129 : decode b_MO_stop 129 = .ok (.iastore, 1) := by decide +kernel
theorem d_MO_stop_130 : decode b_MO_stop 130 = .ok (.aload_n 0, 1) := by decide +kernel
theorem d_MO_stop_131 : decode b_MO_stop 131 = .ok (.iconst 0, 1) := by decide +kernel
theorem d_MO_stop_132 : decode b_MO_stop 132 = .ok (.putfield 98, 3) := by decide +kernel
theorem d_MO_stop_135 : decode b_MO_stop 135 = .ok (.iload 4, 2) := by decide +kernel
theorem d_MO_stop_137 : decode b_MO_stop 137 = .ok (.iconst 1, 1) := by decide +kernel
theorem d_MO_stop_138 : decode b_MO_stop 138 = .ok (.iadd, 1) := by decide +kernel
theorem d_MO_stop_139 : decode b_MO_stop 139 = .ok (.ireturn, 1) := by decide +kernel
theorem d_MO_raise_0 : decode b_MO_raise 0 = .ok (.aload_n 0, 1) := by decide +kernel
theorem d_MO_raise_1 : decode b_MO_raise 1 = .ok (.iload_n 1, 1) := by decide +kernel
theorem d_MO_raise_2 : decode b_MO_raise 2 = .ok (.putfield 92, 3) := by decide +kernel
theorem d_MO_raise_5 : decode b_MO_raise 5 = .ok (.iconst 0, 1) := by decide +kernel
theorem d_MO_raise_6 : decode b_MO_raise 6 = .ok (.ireturn, 1) := by decide +kernel
theorem d_MO_sheet_0 : decode b_MO_sheet 0 = .ok (.aload_n 0, 1) := by decide +kernel
theorem d_MO_sheet_1 : decode b_MO_sheet 1 = .ok (.iload_n 1, 1) := by decide +kernel
theorem d_MO_sheet_2 : decode b_MO_sheet 2 = .ok (.iconst 1, 1) := by decide +kernel
theorem d_MO_sheet_3 : decode b_MO_sheet 3 = .ok (.sipush 30000, 3) := by decide +kernel
theorem d_MO_sheet_6 : decode b_MO_sheet 6 = .ok (.invokestatic 102, 3) := by decide +kernel
theorem d_MO_sheet_9 : decode b_MO_sheet 9 = .ok (.ifCond .eq 29, 3) := by decide +kernel
theorem d_MO_sheet_12 : decode b_MO_sheet 12 = .ok (.iload_n 2, 1) := by decide +kernel
theorem d_MO_sheet_13 : decode b_MO_sheet 13 = .ok (.iconst 1, 1) := by decide +kernel
theorem d_MO_sheet_14 : decode b_MO_sheet 14 = .ok (.sipush 30000, 3) := by decide +kernel
theorem d_MO_sheet_17 : decode b_MO_sheet 17 = .ok (.invokestatic 102, 3) := by decide +kernel
theorem d_MO_sheet_20 : decode b_MO_sheet 20 = .ok (.ifCond .eq 18, 3) := by decide +kernel
theorem d_MO_sheet_23 : decode b_MO_sheet 23 = .ok (.iload_n 3, 1) := by decide +kernel
theorem d_MO_sheet_24 : decode b_MO_sheet 24 = .ok (.iconst 1, 1) := by decide +kernel
theorem d_MO_sheet_25 : decode b_MO_sheet 25 = .ok (.sipush 30000, 3) := by decide +kernel
theorem d_MO_sheet_28 : decode b_MO_sheet 28 = .ok (.invokestatic 102, 3) := by decide +kernel
theorem d_MO_sheet_31 : decode b_MO_sheet 31 = .ok (.ifCond .eq 7, 3) := by decide +kernel
theorem d_MO_sheet_34 : decode b_MO_sheet 34 = .ok (.iconst 0, 1) := by decide +kernel
theorem d_MO_sheet_35 : decode b_MO_sheet 35 = .ok (.goto 4, 3) := by decide +kernel
theorem d_MO_sheet_38 : decode b_MO_sheet 38 = .ok (.iconst 1, 1) := by decide +kernel
theorem d_MO_sheet_39 : decode b_MO_sheet 39 = .ok (.putfield 92, 3) := by decide +kernel
theorem d_MO_sheet_42 : decode b_MO_sheet 42 = .ok (.aload_n 0, 1) := by decide +kernel
theorem d_MO_sheet_43 : decode b_MO_sheet 43 = .ok (.getfield 92, 3) := by decide +kernel
theorem d_MO_sheet_46 : decode b_MO_sheet 46 = .ok (.ifCond .le 4, 3) := by decide +kernel
theorem d_MO_sheet_49 : decode b_MO_sheet 49 = .ok (.return_, 1) := by decide +kernel
theorem d_MO_sheet_50 : decode b_MO_sheet 50 = .ok (.aload_n 0, 1) := by decide +kernel
theorem d_MO_sheet_51 : decode b_MO_sheet 51 = .ok (.iload_n 1, 1) := by decide +kernel
theorem d_MO_sheet_52 : decode b_MO_sheet 52 = .ok (.putfield 7, 3) := by decide +kernel
theorem d_MO_sheet_55 : decode b_MO_sheet 55 = .ok (.aload_n 0, 1) := by decide +kernel
theorem d_MO_sheet_56 : decode b_MO_sheet 56 = .ok (.iload_n 2, 1) := by decide +kernel
theorem d_MO_sheet_57 : decode b_MO_sheet 57 = .ok (.putfield 13, 3) := by decide +kernel
theorem d_MO_sheet_60 : decode b_MO_sheet 60 = .ok (.aload_n 0, 1) := by decide +kernel
theorem d_MO_sheet_61 : decode b_MO_sheet 61 = .ok (.iload_n 3, 1) := by decide +kernel
theorem d_MO_sheet_62 : decode b_MO_sheet 62 = .ok (.putfield 16, 3) := by decide +kernel
theorem d_MO_sheet_65 : decode b_MO_sheet 65 = .ok (.aload_n 0, 1) := by decide +kernel
theorem d_MO_sheet_66 : decode b_MO_sheet 66 = .ok (.iconst 0, 1) := by decide +kernel
theorem d_MO_sheet_67 : decode b_MO_sheet 67 = .ok (.putfield 98, 3) := by decide +kernel
theorem d_MO_sheet_70 : decode b_MO_sheet 70 = .ok (.return_, 1) := by decide +kernel
theorem d_MO_isPage_0 : decode b_MO_isPage 0 = .ok (.aload_n 0, 1) := by decide +kernel
theorem d_MO_isPage_1 : decode b_MO_isPage 1 = .ok (.getfield 98, 3) := by decide +kernel
theorem d_MO_isPage_4 : decode b_MO_isPage 4 = .ok (.ifCond .eq 21, 3) := by decide +kernel
theorem d_MO_isPage_7 : decode b_MO_isPage 7 = .ok (.iload_n 1, 1) := by decide +kernel
theorem d_MO_isPage_8 : decode b_MO_isPage 8 = .ok (.iconst 0, 1) := by decide +kernel
theorem d_MO_isPage_9 : decode b_MO_isPage 9 = .ok (.aload_n 0, 1) := by decide +kernel
theorem d_MO_isPage_10 : decode b_MO_isPage 10 = .ok (.getfield 166, 3) := by decide +kernel
theorem d_MO_isPage_13 : decode b_MO_isPage 13 = .ok (.iconst 1, 1) := by decide +kernel
theorem d_MO_isPage_14 : decode b_MO_isPage 14 = .ok (.isub, 1) := by decide +kernel
theorem d_MO_isPage_15 : decode b_MO_isPage 15 = .ok (.invokestatic 102, 3) := by decide +kernel
theorem d_MO_isPage_18 : decode b_MO_isPage 18 = .ok (.ifCond .eq 7, 3) := by decide +kernel
theorem d_MO_isPage_21 : decode b_MO_isPage 21 = .ok (.iconst 1, 1) := by decide +kernel
theorem d_MO_isPage_22 : decode b_MO_isPage 22 = .ok (.goto 4, 3) := by decide +kernel
theorem d_MO_isPage_25 : decode b_MO_isPage 25 = .ok (.iconst 0, 1) := by decide +kernel
theorem d_MO_isPage_26 : decode b_MO_isPage 26 = .ok (.ireturn, 1) := by decide +kernel
