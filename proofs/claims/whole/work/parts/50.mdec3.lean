theorem d_MO_filled_0 : decode b_MO_filled 0 = .ok (.iconst 1, 1) := by decide +kernel
theorem d_MO_filled_1 : decode b_MO_filled 1 = .ok (.istore_n 2, 1) := by decide +kernel
theorem d_MO_filled_2 : decode b_MO_filled 2 = .ok (.aload_n 0, 1) := by decide +kernel
theorem d_MO_filled_3 : decode b_MO_filled 3 = .ok (.getfield 65, 3) := by decide +kernel
theorem d_MO_filled_6 : decode b_MO_filled 6 = .ok (.iload_n 1, 1) := by decide +kernel
theorem d_MO_filled_7 : decode b_MO_filled 7 = .ok (.iaload, 1) := by decide +kernel
theorem d_MO_filled_8 : decode b_MO_filled 8 = .ok (.istore_n 3, 1) := by decide +kernel
theorem d_MO_filled_9 : decode b_MO_filled 9 = .ok (.iconst 1, 1) := by decide +kernel
theorem d_MO_filled_10 : decode b_MO_filled 10 = .ok (.istore 4, 2) := by decide +kernel
theorem d_MO_filled_12 : decode b_MO_filled 12 = .ok (.iload 4, 2) := by decide +kernel
theorem d_MO_filled_14 : decode b_MO_filled 14 = .ok (.ifCond .eq 68, 3) := by decide +kernel
theorem d_MO_filled_17 : decode b_MO_filled 17 = .ok (.iload_n 1, 1) := by decide +kernel
theorem d_MO_filled_18 : decode b_MO_filled 18 = .ok (.iload_n 2, 1) := by decide +kernel
theorem d_MO_filled_19 : decode b_MO_filled 19 = .ok (.iadd, 1) := by decide +kernel
theorem d_MO_filled_20 : decode b_MO_filled 20 = .ok (.aload_n 0, 1) := by decide +kernel
theorem d_MO_filled_21 : decode b_MO_filled 21 = .ok (.getfield 151, 3) := by decide +kernel
theorem d_MO_filled_24 : decode b_MO_filled 24 = .ok (.if_icmp .ge 58, 3) := by decide +kernel
theorem d_MO_filled_27 : decode b_MO_filled 27 = .ok (.iload_n 3, 1) := by decide +kernel
theorem d_MO_filled_28 : decode b_MO_filled 28 = .ok (.aload_n 0, 1) := by decide +kernel
theorem d_MO_filled_29 : decode b_MO_filled 29 = .ok (.iload_n 1, 1) := by decide +kernel
theorem d_MO_filled_30 : decode b_MO_filled 30 = .ok (.iload_n 2, 1) := by decide +kernel
theorem d_MO_filled_31 : decode b_MO_filled 31 = .ok (.iadd, 1) := by decide +kernel
theorem d_MO_filled_32 : decode b_MO_filled 32 = .ok (.invokevirtual 157, 3) := by decide +kernel
theorem d_MO_filled_35 : decode b_MO_filled 35 = .ok (.iadd, 1) := by decide +kernel
theorem d_MO_filled_36 : decode b_MO_filled 36 = .ok (.aload_n 0, 1) := by decide +kernel
theorem d_MO_filled_37 : decode b_MO_filled 37 = .ok (.getfield 65, 3) := by decide +kernel
theorem d_MO_filled_40 : decode b_MO_filled 40 = .ok (.iload_n 1, 1) := by decide +kernel
theorem d_MO_filled_41 : decode b_MO_filled 41 = .ok (.iload_n 2, 1) := by decide +kernel
theorem d_MO_filled_42 : decode b_MO_filled 42 = .ok (.iadd, 1) := by decide +kernel
theorem d_MO_filled_43 : decode b_MO_filled 43 = .ok (.iaload, 1) := by decide +kernel
theorem d_MO_filled_44 : decode b_MO_filled 44 = .ok (.iadd, 1) := by decide +kernel
theorem d_MO_filled_45 : decode b_MO_filled 45 = .ok (.istore 5, 2) := by decide +kernel
theorem d_MO_filled_47 : decode b_MO_filled 47 = .ok (.iload 5, 2) := by decide +kernel
theorem d_MO_filled_49 : decode b_MO_filled 49 = .ok (.aload_n 0, 1) := by decide +kernel
theorem d_MO_filled_50 : decode b_MO_filled 50 = .ok (.getfield 13, 3) := by decide +kernel
theorem d_MO_filled_53 : decode b_MO_filled 53 = .ok (.if_icmp .gt 7, 3) := by decide +kernel
theorem d_MO_filled_56 : decode b_MO_filled 56 = .ok (.iconst 1, 1) := by decide +kernel
theorem d_MO_filled_57 : decode b_MO_filled 57 = .ok (.goto 4, 3) := by decide +kernel
theorem d_MO_filled_60 : decode b_MO_filled 60 = .ok (.iconst 0, 1) := by decide +kernel
theorem d_MO_filled_61 : decode b_MO_filled 61 = .ok (.istore 4, 2) := by decide +kernel
theorem d_MO_filled_63 : decode b_MO_filled 63 = .ok (.iload 5, 2) := by decide +kernel
theorem d_MO_filled_65 : decode b_MO_filled 65 = .ok (.istore_n 3, 1) := by decide +kernel
theorem d_MO_filled_66 : decode b_MO_filled 66 = .ok (.iload_n 2, 1) := by decide +kernel
theorem d_MO_filled_67 : decode b_MO_filled 67 = .ok (.iload 4, 2) := by decide +kernel
theorem d_MO_filled_69 : decode b_MO_filled 69 = .ok (.ifCond .eq 7, 3) := by decide +kernel
theorem d_MO_filled_72 : decode b_MO_filled 72 = .ok (.iconst 1, 1) := by decide +kernel
theorem d_MO_filled_73 : decode b_MO_filled 73 = .ok (.goto 4, 3) := by decide +kernel
theorem d_MO_filled_76 : decode b_MO_filled 76 = .ok (.iconst 0, 1) := by decide +kernel
theorem d_MO_filled_77 : decode b_MO_filled 77 = .ok (.iadd, 1) := by decide +kernel
theorem d_MO_filled_78 : decode b_MO_filled 78 = .ok (.istore_n 2, 1) := by decide +kernel
theorem d_MO_filled_79 : decode b_MO_filled 79 = .ok (.goto (-67), 3) := by decide +kernel
theorem d_MO_filled_82 : decode b_MO_filled 82 = .ok (.iconst 1, 1) := by decide +kernel
theorem d_MO_filled_83 : decode b_MO_filled 83 = .ok (.istore 5, 2) := by decide +kernel
theorem d_MO_filled_85 : decode b_MO_filled 85 = .ok (.iload 5, 2) := by decide +kernel
theorem d_MO_filled_87 : decode b_MO_filled 87 = .ok (.iload_n 2, 1) := by decide +kernel
theorem d_MO_filled_88 : decode b_MO_filled 88 = .ok (.if_icmp .gt 25, 3) := by decide +kernel
theorem d_MO_filled_91 : decode b_MO_filled 91 = .ok (.aload_n 0, 1) := by decide +kernel
theorem d_MO_filled_92 : decode b_MO_filled 92 = .ok (.iload_n 1, 1) := by decide +kernel
theorem d_MO_filled_93 : decode b_MO_filled 93 = .ok (.iload 5, 2) := by decide +kernel
theorem d_MO_filled_95 : decode b_MO_filled 95 = .ok (.iadd, 1) := by decide +kernel
theorem d_MO_filled_96 : decode b_MO_filled 96 = .ok (.iconst 1, 1) := by decide +kernel
theorem d_MO_filled_97 : decode b_MO_filled 97 = .ok (.isub, 1) := by decide +kernel
theorem d_MO_filled_98 : decode b_MO_filled 98 = .ok (.invokevirtual 160, 3) := by decide +kernel
theorem d_MO_filled_101 : decode b_MO_filled 101 = .ok (.ifCond .eq 6, 3) := by decide +kernel
theorem d_MO_filled_104 : decode b_MO_filled 104 = .ok (.iload 5, 2) := by decide +kernel
theorem d_MO_filled_106 : decode b_MO_filled 106 = .ok (.ireturn, 1) := by decide +kernel
theorem d_MO_filled_107 : decode b_MO_filled 107 = .ok (.iinc 5 1, 3) := by decide +kernel
theorem d_MO_filled_110 : decode b_MO_filled 110 = .ok (.goto (-25), 3) := by decide +kernel
theorem d_MO_filled_113 : decode b_MO_filled 113 = .ok (.iload_n 1, 1) := by decide +kernel
theorem d_MO_filled_114 : decode b_MO_filled 114 = .ok (.iload_n 2, 1) := by decide +kernel
theorem d_MO_filled_115 : decode b_MO_filled 115 = .ok (.iadd, 1) := by decide +kernel
theorem d_MO_filled_116 : decode b_MO_filled 116 = .ok (.aload_n 0, 1) := by decide +kernel
theorem d_MO_filled_117 : decode b_MO_filled 117 = .ok (.getfield 151, 3) := by decide +kernel
theorem d_MO_filled_120 : decode b_MO_filled 120 = .ok (.if_icmp .ne 5, 3) := by decide +kernel
theorem d_MO_filled_123 : decode b_MO_filled 123 = .ok (.iload_n 2, 1) := by decide +kernel
theorem d_MO_filled_124 : decode b_MO_filled 124 = .ok (.ireturn, 1) := by decide +kernel
theorem d_MO_filled_125 : decode b_MO_filled 125 = .ok (.iload_n 2, 1) := by decide +kernel
theorem d_MO_filled_126 : decode b_MO_filled 126 = .ok (.istore 5, 2) := by decide +kernel
theorem d_MO_filled_128 : decode b_MO_filled 128 = .ok (.iload 5, 2) := by decide +kernel
theorem d_MO_filled_130 : decode b_MO_filled 130 = .ok (.ifCond .le 25, 3) := by decide +kernel
theorem d_MO_filled_133 : decode b_MO_filled 133 = .ok (.aload_n 0, 1) := by decide +kernel
theorem d_MO_filled_134 : decode b_MO_filled 134 = .ok (.iload_n 1, 1) := by decide +kernel
theorem d_MO_filled_135 : decode b_MO_filled 135 = .ok (.iload 5, 2) := by decide +kernel
theorem d_MO_filled_137 : decode b_MO_filled 137 = .ok (.iadd, 1) := by decide +kernel
theorem d_MO_filled_138 : decode b_MO_filled 138 = .ok (.iconst 1, 1) := by decide +kernel
theorem d_MO_filled_139 : decode b_MO_filled 139 = .ok (.isub, 1) := by decide +kernel
theorem d_MO_filled_140 : decode b_MO_filled 140 = .ok (.invokevirtual 163, 3) := by decide +kernel
theorem d_MO_filled_143 : decode b_MO_filled 143 = .ok (.ifCond .eq 6, 3) := by decide +kernel
theorem d_MO_filled_146 : decode b_MO_filled 146 = .ok (.iload 5, 2) := by decide +kernel
theorem d_MO_filled_148 : decode b_MO_filled 148 = .ok (.ireturn, 1) := by decide +kernel
theorem d_MO_filled_149 : decode b_MO_filled 149 = .ok (.iinc 5 (-1), 3) := by decide +kernel
theorem d_MO_filled_152 : decode b_MO_filled 152 = .ok (.goto (-24), 3) := by decide +kernel
theorem d_MO_filled_155 : decode b_MO_filled 155 = .ok (.iload_n 2, 1) := by decide +kernel
theorem d_MO_filled_156 : decode b_MO_filled 156 = .ok (.ireturn, 1) := by decide +kernel
theorem d_MO_between_0 : decode b_MO_between 0 = .ok (.aload_n 0, 1) := by decide +kernel
theorem d_MO_between_1 : decode b_MO_between 1 = .ok (.iload_n 1, 1) := by decide +kernel
theorem d_MO_between_2 : decode b_MO_between 2 = .ok (.invokevirtual 154, 3) := by decide +kernel
theorem d_MO_between_5 : decode b_MO_between 5 = .ok (.ifCond .eq 41, 3) := by decide +kernel
theorem d_MO_between_8 : decode b_MO_between 8 = .ok (.aload_n 0, 1) := by decide +kernel
theorem d_MO_between_9 : decode b_MO_between 9 = .ok (.getfield 23, 3) := by decide +kernel
theorem d_MO_between_12 : decode b_MO_between 12 = .ok (.bipush 11, 2) := by decide +kernel
theorem d_MO_between_14 : decode b_MO_between 14 = .ok (.aload_n 0, 1) := by decide +kernel
theorem d_MO_between_15 : decode b_MO_between 15 = .ok (.getfield 50, 3) := by decide +kernel
theorem d_MO_between_18 : decode b_MO_between 18 = .ok (.iload_n 1, 1) := by decide +kernel
theorem d_MO_between_19 : decode b_MO_between 19 = .ok (.iconst 1, 1) := by decide +kernel
theorem d_MO_between_20 : decode b_MO_between 20 = .ok (.isub, 1) := by decide +kernel
theorem d_MO_between_21 : decode b_MO_between 21 = .ok (.iaload, 1) := by decide +kernel
theorem d_MO_between_22 : decode b_MO_between 22 = .ok (.imul, 1) := by decide +kernel
theorem d_MO_between_23 : decode b_MO_between 23 = .ok (.iconst 4, 1) := by decide +kernel
theorem d_MO_between_24 : decode b_MO_between 24 = .ok (.iadd, 1) := by decide +kernel
theorem d_MO_between_25 : decode b_MO_between 25 = .ok (.iaload, 1) := by decide +kernel
theorem d_MO_between_26 : decode b_MO_between 26 = .ok (.aload_n 0, 1) := by decide +kernel
theorem d_MO_between_27 : decode b_MO_between 27 = .ok (.getfield 23, 3) := by decide +kernel
theorem d_MO_between_30 : decode b_MO_between 30 = .ok (.bipush 11, 2) := by decide +kernel
theorem d_MO_between_32 : decode b_MO_between 32 = .ok (.aload_n 0, 1) := by decide +kernel
theorem d_MO_between_33 : decode b_MO_between 33 = .ok (.getfield 50, 3) := by decide +kernel
theorem d_MO_between_36 : decode b_MO_between 36 = .ok (.iload_n 1, 1) := by decide +kernel
theorem d_MO_between_37 : decode b_MO_between 37 = .ok (.iaload, 1) := by decide +kernel
theorem d_MO_between_38 : decode b_MO_between 38 = .ok (.imul, 1) := by decide +kernel
theorem d_MO_between_39 : decode b_MO_between 39 = .ok (.iconst 3, 1) := by decide +kernel
theorem d_MO_between_40 : decode b_MO_between 40 = .ok (.iadd, 1) := by decide +kernel
theorem d_MO_between_41 : decode b_MO_between 41 = .ok (.iaload, 1) := by decide +kernel
theorem d_MO_between_42 : decode b_MO_between 42 = .ok (.iadd, 1) := by decide +kernel
theorem d_MO_between_43 : decode b_MO_between 43 = .ok (.goto 4, 3) := by decide +kernel
theorem d_MO_between_46 : decode b_MO_between 46 = .ok (.iconst 0, 1) := by decide +kernel
theorem d_MO_between_47 : decode b_MO_between 47 = .ok (.ireturn, 1) := by decide +kernel
theorem d_MO_isFirst_0 : decode b_MO_isFirst 0 = .ok (.iload_n 1, 1) := by decide +kernel
theorem d_MO_isFirst_1 : decode b_MO_isFirst 1 = .ok (.ifCond .eq 20, 3) := by decide +kernel
theorem d_MO_isFirst_4 : decode b_MO_isFirst 4 = .ok (.aload_n 0, 1) := by decide +kernel
theorem d_MO_isFirst_5 : decode b_MO_isFirst 5 = .ok (.getfield 50, 3) := by decide +kernel
theorem d_MO_isFirst_8 : decode b_MO_isFirst 8 = .ok (.iload_n 1, 1) := by decide +kernel
theorem d_MO_isFirst_9 : decode b_MO_isFirst 9 = .ok (.iaload, 1) := by decide +kernel
theorem d_MO_isFirst_10 : decode b_MO_isFirst 10 = .ok (.aload_n 0, 1) := by decide +kernel
theorem d_MO_isFirst_11 : decode b_MO_isFirst 11 = .ok (.getfield 50, 3) := by decide +kernel
theorem d_MO_isFirst_14 : decode b_MO_isFirst 14 = .ok (.iload_n 1, 1) := by decide +kernel
theorem d_MO_isFirst_15 : decode b_MO_isFirst 15 = .ok (.iconst 1, 1) := by decide +kernel
theorem d_MO_isFirst_16 : decode b_MO_isFirst 16 = .ok (.isub, 1) := by decide +kernel
theorem d_MO_isFirst_17 : decode b_MO_isFirst 17 = .ok (.iaload, 1) := by decide +kernel
theorem d_MO_isFirst_18 : decode b_MO_isFirst 18 = .ok (.if_icmp .eq 7, 3) := by decide +kernel
theorem d_MO_isFirst_21 : decode b_MO_isFirst 21 = .ok (.iconst 1, 1) := by decide +kernel
theorem d_MO_isFirst_22 : decode b_MO_isFirst 22 = .ok (.goto 4, 3) := by decide +kernel
theorem d_MO_isFirst_25 : decode b_MO_isFirst 25 = .ok (.iconst 0, 1) := by decide +kernel
theorem d_MO_isFirst_26 : decode b_MO_isFirst 26 = .ok (.ireturn, 1) := by decide +kernel
theorem d_MO_mustEnd_0 : decode b_MO_mustEnd 0 = .ok (.aload_n 0, 1) := by decide +kernel
theorem d_MO_mustEnd_1 : decode b_MO_mustEnd 1 = .ok (.getfield 56, 3) := by decide +kernel
theorem d_MO_mustEnd_4 : decode b_MO_mustEnd 4 = .ok (.iload_n 1, 1) := by decide +kernel
theorem d_MO_mustEnd_5 : decode b_MO_mustEnd 5 = .ok (.iaload, 1) := by decide +kernel
theorem d_MO_mustEnd_6 : decode b_MO_mustEnd 6 = .ok (.ifCond .le 32, 3) := by decide +kernel
theorem d_MO_mustEnd_9 : decode b_MO_mustEnd 9 = .ok (.aload_n 0, 1) := by decide +kernel
theorem d_MO_mustEnd_10 : decode b_MO_mustEnd 10 = .ok (.getfield 35, 3) := by decide +kernel
theorem d_MO_mustEnd_13 : decode b_MO_mustEnd 13 = .ok (.aload_n 0, 1) := by decide +kernel
theorem d_MO_mustEnd_14 : decode b_MO_mustEnd 14 = .ok (.getfield 53, 3) := by decide +kernel
theorem d_MO_mustEnd_17 : decode b_MO_mustEnd 17 = .ok (.iload_n 1, 1) := by decide +kernel
theorem d_MO_mustEnd_18 : decode b_MO_mustEnd 18 = .ok (.iaload, 1) := by decide +kernel
theorem d_MO_mustEnd_19 : decode b_MO_mustEnd 19 = .ok (.aload_n 0, 1) := by decide +kernel
theorem d_MO_mustEnd_20 : decode b_MO_mustEnd 20 = .ok (.getfield 56, 3) := by decide +kernel
theorem d_MO_mustEnd_23 : decode b_MO_mustEnd 23 = .ok (.iload_n 1, 1) := by decide +kernel
theorem d_MO_mustEnd_24 : decode b_MO_mustEnd 24 = .ok (.iaload, 1) := by decide +kernel
theorem d_MO_mustEnd_25 : decode b_MO_mustEnd 25 = .ok (.iadd, 1) := by decide +kernel
theorem d_MO_mustEnd_26 : decode b_MO_mustEnd 26 = .ok (.iconst 1, 1) := by decide +kernel
theorem d_MO_mustEnd_27 : decode b_MO_mustEnd 27 = .ok (.isub, 1) := by decide +kernel
theorem d_MO_mustEnd_28 : decode b_MO_mustEnd 28 = .ok (.iaload, 1) := by decide +kernel
theorem d_MO_mustEnd_29 : decode b_MO_mustEnd 29 = .ok (.bipush 6, 2) := by decide +kernel
theorem d_MO_mustEnd_31 : decode b_MO_mustEnd 31 = .ok (.if_icmp .ne 7, 3) := by decide +kernel
theorem d_MO_mustEnd_34 : decode b_MO_mustEnd 34 = .ok (.iconst 1, 1) := by decide +kernel
theorem d_MO_mustEnd_35 : decode b_MO_mustEnd 35 = .ok (.goto 4, 3) := by decide +kernel
theorem d_MO_mustEnd_38 : decode b_MO_mustEnd 38 = .ok (.iconst 0, 1) := by decide +kernel
theorem d_MO_mustEnd_39 : decode b_MO_mustEnd 39 = .ok (.istore_n 2, 1) := by decide +kernel
theorem d_MO_mustEnd_40 : decode b_MO_mustEnd 40 = .ok (.iload_n 2, 1) := by decide +kernel
theorem d_MO_mustEnd_41 : decode b_MO_mustEnd 41 = .ok (.ifCond .ne 46, 3) := by decide +kernel
theorem d_MO_mustEnd_44 : decode b_MO_mustEnd 44 = .ok (.iload_n 1, 1) := by decide +kernel
theorem d_MO_mustEnd_45 : decode b_MO_mustEnd 45 = .ok (.iconst 1, 1) := by decide +kernel
theorem d_MO_mustEnd_46 : decode b_MO_mustEnd 46 = .ok (.iadd, 1) := by decide +kernel
theorem d_MO_mustEnd_47 : decode b_MO_mustEnd 47 = .ok (.aload_n 0, 1) := by decide +kernel
theorem d_MO_mustEnd_48 : decode b_MO_mustEnd 48 = .ok (.getfield 151, 3) := by decide +kernel
theorem d_MO_mustEnd_51 : decode b_MO_mustEnd 51 = .ok (.if_icmp .ge 40, 3) := by decide +kernel
theorem d_MO_mustEnd_54 : decode b_MO_mustEnd 54 = .ok (.aload_n 0, 1) := by decide +kernel
theorem d_MO_mustEnd_55 : decode b_MO_mustEnd 55 = .ok (.iload_n 1, 1) := by decide +kernel
theorem d_MO_mustEnd_56 : decode b_MO_mustEnd 56 = .ok (.iconst 1, 1) := by decide +kernel
theorem d_MO_mustEnd_57 : decode b_MO_mustEnd 57 = .ok (.iadd, 1) := by decide +kernel
theorem d_MO_mustEnd_58 : decode b_MO_mustEnd 58 = .ok (.invokevirtual 154, 3) := by decide +kernel
theorem d_MO_mustEnd_61 : decode b_MO_mustEnd 61 = .ok (.ifCond .eq 30, 3) := by decide +kernel
theorem d_MO_mustEnd_64 : decode b_MO_mustEnd 64 = .ok (.aload_n 0, 1) := by decide +kernel
theorem d_MO_mustEnd_65 : decode b_MO_mustEnd 65 = .ok (.getfield 23, 3) := by decide +kernel
theorem d_MO_mustEnd_68 : decode b_MO_mustEnd 68 = .ok (.bipush 11, 2) := by decide +kernel
theorem d_MO_mustEnd_70 : decode b_MO_mustEnd 70 = .ok (.aload_n 0, 1) := by decide +kernel
theorem d_MO_mustEnd_71 : decode b_MO_mustEnd 71 = .ok (.getfield 50, 3) := by decide +kernel
theorem d_MO_mustEnd_74 : decode b_MO_mustEnd 74 = .ok (.iload_n 1, 1) := by decide +kernel
theorem d_MO_mustEnd_75 : decode b_MO_mustEnd 75 = .ok (.iconst 1, 1) := by decide +kernel
theorem d_MO_mustEnd_76 : decode b_MO_mustEnd 76 = .ok (.iadd, 1) := by decide +kernel
theorem d_MO_mustEnd_77 : decode b_MO_mustEnd 77 = .ok (.iaload, 1) := by decide +kernel
theorem d_MO_mustEnd_78 : decode b_MO_mustEnd 78 = .ok (.imul, 1) := by decide +kernel
theorem d_MO_mustEnd_79 : decode b_MO_mustEnd 79 = .ok (.bipush 9, 2) := by decide +kernel
theorem d_MO_mustEnd_81 : decode b_MO_mustEnd 81 = .ok (.iadd, 1) := by decide +kernel
theorem d_MO_mustEnd_82 : decode b_MO_mustEnd 82 = .ok (.iaload, 1) := by decide +kernel
theorem d_MO_mustEnd_83 : decode b_MO_mustEnd 83 = .ok (.iconst 1, 1) := by decide +kernel
theorem d_MO_mustEnd_84 : decode b_MO_mustEnd 84 = .ok (.if_icmp .ne 7, 3) := by decide +kernel
theorem d_MO_mustEnd_87 : decode b_MO_mustEnd 87 = .ok (.iconst 1, 1) := by decide +kernel
theorem d_MO_mustEnd_88 : decode b_MO_mustEnd 88 = .ok (.goto 4, 3) := by decide +kernel
theorem d_MO_mustEnd_91 : decode b_MO_mustEnd 91 = .ok (.iconst 0, 1) := by decide +kernel
theorem d_MO_mustEnd_92 : decode b_MO_mustEnd 92 = .ok (.ireturn, 1) := by decide +kernel
theorem d_MO_mayEnd_0 : decode b_MO_mayEnd 0 = .ok (.aload_n 0, 1) := by decide +kernel
theorem d_MO_mayEnd_1 : decode b_MO_mayEnd 1 = .ok (.getfield 50, 3) := by decide +kernel
theorem d_MO_mayEnd_4 : decode b_MO_mayEnd 4 = .ok (.iload_n 1, 1) := by decide +kernel
theorem d_MO_mayEnd_5 : decode b_MO_mayEnd 5 = .ok (.iaload, 1) := by decide +kernel
theorem d_MO_mayEnd_6 : decode b_MO_mayEnd 6 = .ok (.istore_n 2, 1) := by decide +kernel
theorem d_MO_mayEnd_7 : decode b_MO_mayEnd 7 = .ok (.aload_n 0, 1) := by decide +kernel
theorem d_MO_mayEnd_8 : decode b_MO_mayEnd 8 = .ok (.iload_n 1, 1) := by decide +kernel
theorem d_MO_mayEnd_9 : decode b_MO_mayEnd 9 = .ok (.iconst 1, 1) := by decide +kernel
theorem d_MO_mayEnd_10 : decode b_MO_mayEnd 10 = .ok (.iadd, 1) := by decide +kernel
theorem d_MO_mayEnd_11 : decode b_MO_mayEnd 11 = .ok (.invokevirtual 154, 3) := by decide +kernel
theorem d_MO_mayEnd_14 : decode b_MO_mayEnd 14 = .ok (.ifCond .eq 24, 3) := by decide +kernel
theorem d_MO_mayEnd_17 : decode b_MO_mayEnd 17 = .ok (.aload_n 0, 1) := by decide +kernel
theorem d_MO_mayEnd_18 : decode b_MO_mayEnd 18 = .ok (.getfield 23, 3) := by decide +kernel
theorem d_MO_mayEnd_21 : decode b_MO_mayEnd 21 = .ok (.bipush 11, 2) := by decide +kernel
theorem d_MO_mayEnd_23 : decode b_MO_mayEnd 23 = .ok (.iload_n 2, 1) := by decide +kernel
theorem d_MO_mayEnd_24 : decode b_MO_mayEnd 24 = .ok (.imul, 1) := by decide +kernel
theorem d_MO_mayEnd_25 : decode b_MO_mayEnd 25 = .ok (.bipush 6, 2) := by decide +kernel
theorem d_MO_mayEnd_27 : decode b_MO_mayEnd 27 = .ok (.iadd, 1) := by decide +kernel
theorem d_MO_mayEnd_28 : decode b_MO_mayEnd 28 = .ok (.iaload, 1) := by decide +kernel
theorem d_MO_mayEnd_29 : decode b_MO_mayEnd 29 = .ok (.ifCond .ne 7, 3) := by decide +kernel
theorem d_MO_mayEnd_32 : decode b_MO_mayEnd 32 = .ok (.iconst 1, 1) := by decide +kernel
theorem d_MO_mayEnd_33 : decode b_MO_mayEnd 33 = .ok (.goto 4, 3) := by decide +kernel
theorem d_MO_mayEnd_36 : decode b_MO_mayEnd 36 = .ok (.iconst 0, 1) := by decide +kernel
theorem d_MO_mayEnd_37 : decode b_MO_mayEnd 37 = .ok (.ireturn, 1) := by decide +kernel
theorem d_MO_mayEnd_38 : decode b_MO_mayEnd 38 = .ok (.iload_n 1, 1) := by decide +kernel
theorem d_MO_mayEnd_39 : decode b_MO_mayEnd 39 = .ok (.iconst 2, 1) := by decide +kernel
theorem d_MO_mayEnd_40 : decode b_MO_mayEnd 40 = .ok (.iadd, 1) := by decide +kernel
theorem d_MO_mayEnd_41 : decode b_MO_mayEnd 41 = .ok (.aload_n 0, 1) := by decide +kernel
theorem d_MO_mayEnd_42 : decode b_MO_mayEnd 42 = .ok (.getfield 151, 3) := by decide +kernel
theorem d_MO_mayEnd_45 : decode b_MO_mayEnd 45 = .ok (.if_icmp .eq 13, 3) := by decide +kernel
theorem d_MO_mayEnd_48 : decode b_MO_mayEnd 48 = .ok (.aload_n 0, 1) := by decide +kernel
theorem d_MO_mayEnd_49 : decode b_MO_mayEnd 49 = .ok (.iload_n 1, 1) := by decide +kernel
theorem d_MO_mayEnd_50 : decode b_MO_mayEnd 50 = .ok (.iconst 2, 1) := by decide +kernel
theorem d_MO_mayEnd_51 : decode b_MO_mayEnd 51 = .ok (.iadd, 1) := by decide +kernel
theorem d_MO_mayEnd_52 : decode b_MO_mayEnd 52 = .ok (.invokevirtual 154, 3) := by decide +kernel
theorem d_MO_mayEnd_55 : decode b_MO_mayEnd 55 = .ok (.ifCond .eq 7, 3) := by decide +kernel
theorem d_MO_mayEnd_58 : decode b_MO_mayEnd 58 = .ok (.iconst 1, 1) := by decide +kernel
theorem d_MO_mayEnd_59 : decode b_MO_mayEnd 59 = .ok (.goto 4, 3) := by decide +kernel
theorem d_MO_mayEnd_62 : decode b_MO_mayEnd 62 = .ok (.iconst 0, 1) := by decide +kernel
theorem d_MO_mayEnd_63 : decode b_MO_mayEnd 63 = .ok (.istore_n 3, 1) := by decide +kernel
theorem d_MO_mayEnd_64 : decode b_MO_mayEnd 64 = .ok (.aload_n 0, 1) := by decide +kernel
theorem d_MO_mayEnd_65 : decode b_MO_mayEnd 65 = .ok (.getfield 23, 3) := by decide +kernel
theorem d_MO_mayEnd_68 : decode b_MO_mayEnd 68 = .ok (.bipush 11, 2) := by decide +kernel
theorem d_MO_mayEnd_70 : decode b_MO_mayEnd 70 = .ok (.iload_n 2, 1) := by decide +kernel
theorem d_MO_mayEnd_71 : decode b_MO_mayEnd 71 = .ok (.imul, 1) := by decide +kernel
theorem d_MO_mayEnd_72 : decode b_MO_mayEnd 72 = .ok (.bipush 7, 2) := by decide +kernel
theorem d_MO_mayEnd_74 : decode b_MO_mayEnd 74 = .ok (.iadd, 1) := by decide +kernel
theorem d_MO_mayEnd_75 : decode b_MO_mayEnd 75 = .ok (.iaload, 1) := by decide +kernel
theorem d_MO_mayEnd_76 : decode b_MO_mayEnd 76 = .ok (.ifCond .ne 34, 3) := by decide +kernel
theorem d_MO_mayEnd_79 : decode b_MO_mayEnd 79 = .ok (.aload_n 0, 1) := by decide +kernel
theorem d_MO_mayEnd_80 : decode b_MO_mayEnd 80 = .ok (.getfield 23, 3) := by decide +kernel
theorem d_MO_mayEnd_83 : decode b_MO_mayEnd 83 = .ok (.bipush 11, 2) := by decide +kernel
theorem d_MO_mayEnd_85 : decode b_MO_mayEnd 85 = .ok (.iload_n 2, 1) := by decide +kernel
theorem d_MO_mayEnd_86 : decode b_MO_mayEnd 86 = .ok (.imul, 1) := by decide +kernel
theorem d_MO_mayEnd_87 : decode b_MO_mayEnd 87 = .ok (.bipush 8, 2) := by decide +kernel
theorem d_MO_mayEnd_89 : decode b_MO_mayEnd 89 = .ok (.iadd, 1) := by decide +kernel
theorem d_MO_mayEnd_90 : decode b_MO_mayEnd 90 = .ok (.iaload, 1) := by decide +kernel
theorem d_MO_mayEnd_91 : decode b_MO_mayEnd 91 = .ok (.ifCond .eq 15, 3) := by decide +kernel
theorem d_MO_mayEnd_94 : decode b_MO_mayEnd 94 = .ok (.aload_n 0, 1) := by decide +kernel
theorem d_MO_mayEnd_95 : decode b_MO_mayEnd 95 = .ok (.iload_n 1, 1) := by decide +kernel
theorem d_MO_mayEnd_96 : decode b_MO_mayEnd 96 = .ok (.invokevirtual 154, 3) := by decide +kernel
theorem d_MO_mayEnd_99 : decode b_MO_mayEnd 99 = .ok (.ifCond .ne 11, 3) := by decide +kernel
theorem d_MO_mayEnd_102 : decode b_MO_mayEnd 102 = .ok (.iload_n 3, 1) := by decide +kernel
theorem d_MO_mayEnd_103 : decode b_MO_mayEnd 103 = .ok (.ifCond .ne 7, 3) := by decide +kernel
theorem d_MO_mayEnd_106 : decode b_MO_mayEnd 106 = .ok (.iconst 1, 1) := by decide +kernel
theorem d_MO_mayEnd_107 : decode b_MO_mayEnd 107 = .ok (.goto 4, 3) := by decide +kernel
theorem d_MO_mayEnd_110 : decode b_MO_mayEnd 110 = .ok (.iconst 0, 1) := by decide +kernel
theorem d_MO_mayEnd_111 : decode b_MO_mayEnd 111 = .ok (.ireturn, 1) := by decide +kernel
