theorem d_LN_layAll_0 : decode b_LN_layAll 0 = .ok (.aload_n 0, 1) := by decide +kernel
theorem d_LN_layAll_1 : decode b_LN_layAll 1 = .ok (.iconst 0, 1) := by decide +kernel
theorem d_LN_layAll_2 : decode b_LN_layAll 2 = .ok (.putfield 36, 3) := by decide +kernel
theorem d_LN_layAll_5 : decode b_LN_layAll 5 = .ok (.iconst 0, 1) := by decide +kernel
theorem d_LN_layAll_6 : decode b_LN_layAll 6 = .ok (.istore_n 1, 1) := by decide +kernel
theorem d_LN_layAll_7 : decode b_LN_layAll 7 = .ok (.iload_n 1, 1) := by decide +kernel
theorem d_LN_layAll_8 : decode b_LN_layAll 8 = .ok (.aload_n 0, 1) := by decide +kernel
theorem d_LN_layAll_9 : decode b_LN_layAll 9 = .ok (.getfield 19, 3) := by decide +kernel
theorem d_LN_layAll_12 : decode b_LN_layAll 12 = .ok (.getfield 40, 3) := by decide +kernel
theorem d_LN_layAll_15 : decode b_LN_layAll 15 = .ok (.if_icmp .ge 14, 3) := by decide +kernel
theorem d_LN_layAll_18 : decode b_LN_layAll 18 = .ok (.aload_n 0, 1) := by decide +kernel
theorem d_LN_layAll_19 : decode b_LN_layAll 19 = .ok (.iload_n 1, 1) := by decide +kernel
theorem d_LN_layAll_20 : decode b_LN_layAll 20 = .ok (.invokevirtual 45, 3) := by decide +kernel
theorem d_LN_layAll_23 : decode b_LN_layAll 23 = .ok (.iinc 1 1, 3) := by decide +kernel
theorem d_LN_layAll_26 : decode b_LN_layAll 26 = .ok (.goto (-19), 3) := by decide +kernel
theorem d_LN_layAll_29 : decode b_LN_layAll 29 = .ok (.return_, 1) := by decide +kernel
theorem d_LN_layLinesOf_0 : decode b_LN_layLinesOf 0 = .ok (.aload_n 0, 1) := by decide +kernel
theorem d_LN_layLinesOf_1 : decode b_LN_layLinesOf 1 = .ok (.getfield 19, 3) := by decide +kernel
theorem d_LN_layLinesOf_4 : decode b_LN_layLinesOf 4 = .ok (.getfield 49, 3) := by decide +kernel
theorem d_LN_layLinesOf_7 : decode b_LN_layLinesOf 7 = .ok (.iload_n 1, 1) := by decide +kernel
theorem d_LN_layLinesOf_8 : decode b_LN_layLinesOf 8 = .ok (.aaload, 1) := by decide +kernel
theorem d_LN_layLinesOf_9 : decode b_LN_layLinesOf 9 = .ok (.astore_n 2, 1) := by decide +kernel
theorem d_LN_layLinesOf_10 : decode b_LN_layLinesOf 10 = .ok (.aload_n 2, 1) := by decide +kernel
theorem d_LN_layLinesOf_11 : decode b_LN_layLinesOf 11 = .ok (.getfield 53, 3) := by decide +kernel
theorem d_LN_layLinesOf_14 : decode b_LN_layLinesOf 14 = .ok (.iconst 0, 1) := by decide +kernel
theorem d_LN_layLinesOf_15 : decode b_LN_layLinesOf 15 = .ok (.iaload, 1) := by decide +kernel
theorem d_LN_layLinesOf_16 : decode b_LN_layLinesOf 16 = .ok (.istore_n 3, 1) := by decide +kernel
theorem d_LN_layLinesOf_17 : decode b_LN_layLinesOf 17 = .ok (.iconst 0, 1) := by decide +kernel
theorem d_LN_layLinesOf_18 : decode b_LN_layLinesOf 18 = .ok (.iload_n 3, 1) := by decide +kernel
theorem d_LN_layLinesOf_19 : decode b_LN_layLinesOf 19 = .ok (.aload_n 2, 1) := by decide +kernel
theorem d_LN_layLinesOf_20 : decode b_LN_layLinesOf 20 = .ok (.getfield 53, 3) := by decide +kernel
theorem d_LN_layLinesOf_23 : decode b_LN_layLinesOf 23 = .ok (.iconst 2, 1) := by decide +kernel
theorem d_LN_layLinesOf_24 : decode b_LN_layLinesOf 24 = .ok (.iaload, 1) := by decide +kernel
theorem d_LN_layLinesOf_25 : decode b_LN_layLinesOf 25 = .ok (.iadd, 1) := by decide +kernel
theorem d_LN_layLinesOf_26 : decode b_LN_layLinesOf 26 = .ok (.invokestatic 59, 3) := by decide +kernel
theorem d_LN_layLinesOf_29 : decode b_LN_layLinesOf 29 = .ok (.istore 4, 2) := by decide +kernel
theorem d_LN_layLinesOf_31 : decode b_LN_layLinesOf 31 = .ok (.aload_n 2, 1) := by decide +kernel
theorem d_LN_layLinesOf_32 : decode b_LN_layLinesOf 32 = .ok (.getfield 65, 3) := by decide +kernel
theorem d_LN_layLinesOf_35 : decode b_LN_layLinesOf 35 = .ok (.aload_n 2, 1) := by decide +kernel
theorem d_LN_layLinesOf_36 : decode b_LN_layLinesOf 36 = .ok (.getfield 68, 3) := by decide +kernel
theorem d_LN_layLinesOf_39 : decode b_LN_layLinesOf 39 = .ok (.if_icmp .lt 18, 3) := by decide +kernel
theorem d_LN_layLinesOf_42 : decode b_LN_layLinesOf 42 = .ok (.aload_n 0, 1) := by decide +kernel
theorem d_LN_layLinesOf_43 : decode b_LN_layLinesOf 43 = .ok (.iload_n 1, 1) := by decide +kernel
theorem d_LN_layLinesOf_44 : decode b_LN_layLinesOf 44 = .ok (.aload_n 2, 1) := by decide +kernel
theorem d_LN_layLinesOf_45 : decode b_LN_layLinesOf 45 = .ok (.getfield 65, 3) := by decide +kernel
theorem d_LN_layLinesOf_48 : decode b_LN_layLinesOf 48 = .ok (.aload_n 2, 1) := by decide +kernel
theorem d_LN_layLinesOf_49 : decode b_LN_layLinesOf 49 = .ok (.getfield 65, 3) := by decide +kernel
theorem d_LN_layLinesOf_52 : decode b_LN_layLinesOf 52 = .ok (.iload 4, 2) := by decide +kernel
theorem d_LN_layLinesOf_54 : decode b_LN_layLinesOf 54 = .ok (.invokevirtual 71, 3) := by decide +kernel
theorem d_LN_layLinesOf_57 : decode b_LN_layLinesOf 57 = .ok (.aload_n 2, 1) := by decide +kernel
theorem d_LN_layLinesOf_58 : decode b_LN_layLinesOf 58 = .ok (.getfield 65, 3) := by decide +kernel
theorem d_LN_layLinesOf_61 : decode b_LN_layLinesOf 61 = .ok (.istore 5, 2) := by decide +kernel
theorem d_LN_layLinesOf_63 : decode b_LN_layLinesOf 63 = .ok (.iload 5, 2) := by decide +kernel
theorem d_LN_layLinesOf_65 : decode b_LN_layLinesOf 65 = .ok (.aload_n 2, 1) := by decide +kernel
theorem d_LN_layLinesOf_66 : decode b_LN_layLinesOf 66 = .ok (.getfield 68, 3) := by decide +kernel
theorem d_LN_layLinesOf_69 : decode b_LN_layLinesOf 69 = .ok (.if_icmp .ge 42, 3) := by decide +kernel
theorem d_LN_layLinesOf_72 : decode b_LN_layLinesOf 72 = .ok (.iload 5, 2) := by decide +kernel
theorem d_LN_layLinesOf_74 : decode b_LN_layLinesOf 74 = .ok (.iconst 1, 1) := by decide +kernel
theorem d_LN_layLinesOf_75 : decode b_LN_layLinesOf 75 = .ok (.iadd, 1) := by decide +kernel
theorem d_LN_layLinesOf_76 : decode b_LN_layLinesOf 76 = .ok (.aload_n 0, 1) := by decide +kernel
theorem d_LN_layLinesOf_77 : decode b_LN_layLinesOf 77 = .ok (.aload_n 2, 1) := by decide +kernel
theorem d_LN_layLinesOf_78 : decode b_LN_layLinesOf 78 = .ok (.iload 5, 2) := by decide +kernel
theorem d_LN_layLinesOf_80 : decode b_LN_layLinesOf 80 = .ok (.iload 4, 2) := by decide +kernel
theorem d_LN_layLinesOf_82 : decode b_LN_layLinesOf 82 = .ok (.invokevirtual 75, 3) := by decide +kernel
theorem d_LN_layLinesOf_85 : decode b_LN_layLinesOf 85 = .ok (.invokestatic 59, 3) := by decide +kernel
theorem d_LN_layLinesOf_88 : decode b_LN_layLinesOf 88 = .ok (.istore 6, 2) := by decide +kernel
theorem d_LN_layLinesOf_90 : decode b_LN_layLinesOf 90 = .ok (.aload_n 0, 1) := by decide +kernel
theorem d_LN_layLinesOf_91 : decode b_LN_layLinesOf 91 = .ok (.iload_n 1, 1) := by decide +kernel
theorem d_LN_layLinesOf_92 : decode b_LN_layLinesOf 92 = .ok (.iload 5, 2) := by decide +kernel
theorem d_LN_layLinesOf_94 : decode b_LN_layLinesOf 94 = .ok (.iload 6, 2) := by decide +kernel
theorem d_LN_layLinesOf_96 : decode b_LN_layLinesOf 96 = .ok (.iload 4, 2) := by decide +kernel
theorem d_LN_layLinesOf_98 : decode b_LN_layLinesOf 98 = .ok (.invokevirtual 71, 3) := by decide +kernel
theorem d_LN_layLinesOf_101 : decode b_LN_layLinesOf 101 = .ok (.iload 6, 2) := by decide +kernel
theorem d_LN_layLinesOf_103 : decode b_LN_layLinesOf 103 = .ok (.istore 5, 2) := by decide +kernel
theorem d_LN_layLinesOf_105 : decode b_LN_layLinesOf 105 = .ok (.iload_n 3, 1) := by decide +kernel
theorem d_LN_layLinesOf_106 : decode b_LN_layLinesOf 106 = .ok (.istore 4, 2) := by decide +kernel
theorem d_LN_layLinesOf_108 : decode b_LN_layLinesOf 108 = .ok (.goto (-45), 3) := by decide +kernel
theorem d_LN_layLinesOf_111 : decode b_LN_layLinesOf 111 = .ok (.return_, 1) := by decide +kernel
theorem d_LN_addLine_0 : decode b_LN_addLine 0 = .ok (.aload_n 0, 1) := by decide +kernel
theorem d_LN_addLine_1 : decode b_LN_addLine 1 = .ok (.getfield 19, 3) := by decide +kernel
theorem d_LN_addLine_4 : decode b_LN_addLine 4 = .ok (.getfield 49, 3) := by decide +kernel
theorem d_LN_addLine_7 : decode b_LN_addLine 7 = .ok (.iload_n 1, 1) := by decide +kernel
theorem d_LN_addLine_8 : decode b_LN_addLine 8 = .ok (.aaload, 1) := by decide +kernel
theorem d_LN_addLine_9 : decode b_LN_addLine 9 = .ok (.astore 5, 2) := by decide +kernel
theorem d_LN_addLine_11 : decode b_LN_addLine 11 = .ok (.aload_n 0, 1) := by decide +kernel
theorem d_LN_addLine_12 : decode b_LN_addLine 12 = .ok (.getfield 19, 3) := by decide +kernel
theorem d_LN_addLine_15 : decode b_LN_addLine 15 = .ok (.iload_n 2, 1) := by decide +kernel
theorem d_LN_addLine_16 : decode b_LN_addLine 16 = .ok (.iload_n 3, 1) := by decide +kernel
theorem d_LN_addLine_17 : decode b_LN_addLine 17 = .ok (.invokevirtual 107, 3) := by decide +kernel
theorem d_LN_addLine_20 : decode b_LN_addLine 20 = .ok (.istore 6, 2) := by decide +kernel
theorem d_LN_addLine_22 : decode b_LN_addLine 22 = .ok (.aload_n 0, 1) := by decide +kernel
theorem d_LN_addLine_23 : decode b_LN_addLine 23 = .ok (.aload 5, 2) := by decide +kernel
theorem d_LN_addLine_25 : decode b_LN_addLine 25 = .ok (.iload_n 2, 1) := by decide +kernel
theorem d_LN_addLine_26 : decode b_LN_addLine 26 = .ok (.iload_n 3, 1) := by decide +kernel
theorem d_LN_addLine_27 : decode b_LN_addLine 27 = .ok (.iload 4, 2) := by decide +kernel
theorem d_LN_addLine_29 : decode b_LN_addLine 29 = .ok (.invokevirtual 110, 3) := by decide +kernel
theorem d_LN_addLine_32 : decode b_LN_addLine 32 = .ok (.aload_n 0, 1) := by decide +kernel
theorem d_LN_addLine_33 : decode b_LN_addLine 33 = .ok (.getfield 11, 3) := by decide +kernel
theorem d_LN_addLine_36 : decode b_LN_addLine 36 = .ok (.iconst 0, 1) := by decide +kernel
theorem d_LN_addLine_37 : decode b_LN_addLine 37 = .ok (.aaload, 1) := by decide +kernel
theorem d_LN_addLine_38 : decode b_LN_addLine 38 = .ok (.aload_n 0, 1) := by decide +kernel
theorem d_LN_addLine_39 : decode b_LN_addLine 39 = .ok (.getfield 36, 3) := by decide +kernel
theorem d_LN_addLine_42 : decode b_LN_addLine 42 = .ok (.iload_n 1, 1) := by decide +kernel
theorem d_LN_addLine_43 : decode b_LN_addLine 43 = .ok (.iastore, 1) := by decide +kernel
theorem d_LN_addLine_44 : decode b_LN_addLine 44 = .ok (.aload_n 0, 1) := by decide +kernel
theorem d_LN_addLine_45 : decode b_LN_addLine 45 = .ok (.getfield 11, 3) := by decide +kernel
theorem d_LN_addLine_48 : decode b_LN_addLine 48 = .ok (.iconst 1, 1) := by decide +kernel
theorem d_LN_addLine_49 : decode b_LN_addLine 49 = .ok (.aaload, 1) := by decide +kernel
theorem d_LN_addLine_50 : decode b_LN_addLine 50 = .ok (.aload_n 0, 1) := by decide +kernel
theorem d_LN_addLine_51 : decode b_LN_addLine 51 = .ok (.getfield 36, 3) := by decide +kernel
theorem d_LN_addLine_54 : decode b_LN_addLine 54 = .ok (.iload_n 2, 1) := by decide +kernel
theorem d_LN_addLine_55 : decode b_LN_addLine 55 = .ok (.iastore, 1) := by decide +kernel
theorem d_LN_addLine_56 : decode b_LN_addLine 56 = .ok (.aload_n 0, 1) := by decide +kernel
theorem d_LN_addLine_57 : decode b_LN_addLine 57 = .ok (.getfield 11, 3) := by decide +kernel
theorem d_LN_addLine_60 : decode b_LN_addLine 60 = .ok (.iconst 2, 1) := by decide +kernel
theorem d_LN_addLine_61 : decode b_LN_addLine 61 = .ok (.aaload, 1) := by decide +kernel
theorem d_LN_addLine_62 : decode b_LN_addLine 62 = .ok (.aload_n 0, 1) := by decide +kernel
theorem d_LN_addLine_63 : decode b_LN_addLine 63 = .ok (.getfield 36, 3) := by decide +kernel
theorem d_LN_addLine_66 : decode b_LN_addLine 66 = .ok (.iload_n 3, 1) := by decide +kernel
theorem d_LN_addLine_67 : decode b_LN_addLine 67 = .ok (.iload_n 2, 1) := by decide +kernel
theorem d_LN_addLine_68 : decode b_LN_addLine 68 = .ok (.isub, 1) := by decide +kernel
theorem d_LN_addLine_69 : decode b_LN_addLine 69 = .ok (.iastore, 1) := by decide +kernel
theorem d_LN_addLine_70 : decode b_LN_addLine 70 = .ok (.aload_n 0, 1) := by decide +kernel
theorem d_LN_addLine_71 : decode b_LN_addLine 71 = .ok (.getfield 11, 3) := by decide +kernel
theorem d_LN_addLine_74 : decode b_LN_addLine 74 = .ok (.iconst 3, 1) := by decide +kernel
theorem d_LN_addLine_75 : decode b_LN_addLine 75 = .ok (.aaload, 1) := by decide +kernel
theorem d_LN_addLine_76 : decode b_LN_addLine 76 = .ok (.aload_n 0, 1) := by decide +kernel
theorem d_LN_addLine_77 : decode b_LN_addLine 77 = .ok (.getfield 36, 3) := by decide +kernel
theorem d_LN_addLine_80 : decode b_LN_addLine 80 = .ok (.iload 4, 2) := by decide +kernel
theorem d_LN_addLine_82 : decode b_LN_addLine 82 = .ok (.iastore, 1) := by decide +kernel
theorem d_LN_addLine_83 : decode b_LN_addLine 83 = .ok (.aload_n 0, 1) := by decide +kernel
theorem d_LN_addLine_84 : decode b_LN_addLine 84 = .ok (.getfield 11, 3) := by decide +kernel
theorem d_LN_addLine_87 : decode b_LN_addLine 87 = .ok (.iconst 4, 1) := by decide +kernel
theorem d_LN_addLine_88 : decode b_LN_addLine 88 = .ok (.aaload, 1) := by decide +kernel
theorem d_LN_addLine_89 : decode b_LN_addLine 89 = .ok (.aload_n 0, 1) := by decide +kernel
theorem d_LN_addLine_90 : decode b_LN_addLine 90 = .ok (.getfield 36, 3) := by decide +kernel
theorem d_LN_addLine_93 : decode b_LN_addLine 93 = .ok (.iload 6, 2) := by decide +kernel
theorem d_LN_addLine_95 : decode b_LN_addLine 95 = .ok (.iload_n 2, 1) := by decide +kernel
theorem d_LN_addLine_96 : decode b_LN_addLine 96 = .ok (.if_icmp .le 29, 3) := by decide +kernel
theorem d_LN_addLine_99 : decode b_LN_addLine 99 = .ok (.aload_n 0, 1) := by decide +kernel
theorem d_LN_addLine_100 : decode b_LN_addLine 100 = .ok (.getfield 16, 3) := by decide +kernel
theorem d_LN_addLine_103 : decode b_LN_addLine 103 = .ok (.iconst 1, 1) := by decide +kernel
theorem d_LN_addLine_104 : decode b_LN_addLine 104 = .ok (.aaload, 1) := by decide +kernel
theorem d_LN_addLine_105 : decode b_LN_addLine 105 = .ok (.iload 6, 2) := by decide +kernel
theorem d_LN_addLine_107 : decode b_LN_addLine 107 = .ok (.iconst 1, 1) := by decide +kernel
theorem d_LN_addLine_108 : decode b_LN_addLine 108 = .ok (.isub, 1) := by decide +kernel
theorem d_LN_addLine_109 : decode b_LN_addLine 109 = .ok (.iaload, 1) := by decide +kernel
theorem d_LN_addLine_110 : decode b_LN_addLine 110 = .ok (.aload_n 0, 1) := by decide +kernel
theorem d_LN_addLine_111 : decode b_LN_addLine 111 = .ok (.getfield 16, 3) := by decide +kernel
theorem d_LN_addLine_114 : decode b_LN_addLine 114 = .ok (.iconst 2, 1) := by decide +kernel
theorem d_LN_addLine_115 : decode b_LN_addLine 115 = .ok (.aaload, 1) := by decide +kernel
theorem d_LN_addLine_116 : decode b_LN_addLine 116 = .ok (.iload 6, 2) := by decide +kernel
theorem d_LN_addLine_118 : decode b_LN_addLine 118 = .ok (.iconst 1, 1) := by decide +kernel
theorem d_LN_addLine_119 : decode b_LN_addLine 119 = .ok (.isub, 1) := by decide +kernel
theorem d_LN_addLine_120 : decode b_LN_addLine 120 = .ok (.iaload, 1) := by decide +kernel
theorem d_LN_addLine_121 : decode b_LN_addLine 121 = .ok (.iadd, 1) := by decide +kernel
theorem d_LN_addLine_122 : decode b_LN_addLine 122 = .ok (.goto 5, 3) := by decide +kernel
theorem d_LN_addLine_125 : decode b_LN_addLine 125 = .ok (.iload 4, 2) := by decide +kernel
theorem d_LN_addLine_127 : decode b_LN_addLine 127 = .ok (.iastore, 1) := by decide +kernel
theorem d_LN_addLine_128 : decode b_LN_addLine 128 = .ok (.aload_n 0, 1) := by decide +kernel
theorem d_LN_addLine_129 : decode b_LN_addLine 129 = .ok (.getfield 11, 3) := by decide +kernel
theorem d_LN_addLine_132 : decode b_LN_addLine 132 = .ok (.iconst 5, 1) := by decide +kernel
theorem d_LN_addLine_133 : decode b_LN_addLine 133 = .ok (.aaload, 1) := by decide +kernel
theorem d_LN_addLine_134 : decode b_LN_addLine 134 = .ok (.aload_n 0, 1) := by decide +kernel
theorem d_LN_addLine_135 : decode b_LN_addLine 135 = .ok (.getfield 36, 3) := by decide +kernel
theorem d_LN_addLine_138 : decode b_LN_addLine 138 = .ok (.aload_n 0, 1) := by decide +kernel
theorem d_LN_addLine_139 : decode b_LN_addLine 139 = .ok (.aload 5, 2) := by decide +kernel
theorem d_LN_addLine_141 : decode b_LN_addLine 141 = .ok (.iload_n 2, 1) := by decide +kernel
theorem d_LN_addLine_142 : decode b_LN_addLine 142 = .ok (.iload_n 3, 1) := by decide +kernel
theorem d_LN_addLine_143 : decode b_LN_addLine 143 = .ok (.invokevirtual 114, 3) := by decide +kernel
theorem d_LN_addLine_146 : decode b_LN_addLine 146 = .ok (.iastore, 1) := by decide +kernel
theorem d_LN_addLine_147 : decode b_LN_addLine 147 = .ok (.aload_n 0, 1) := by decide +kernel
theorem d_LN_addLine_148 : decode b_LN_addLine 148 = .ok (.aload 5, 2) := by decide +kernel
theorem d_LN_addLine_150 : decode b_LN_addLine 150 = .ok (.iload_n 2, 1) := by decide +kernel
theorem d_LN_addLine_151 : decode b_LN_addLine 151 = .ok (.iload_n 3, 1) := by decide +kernel
theorem d_LN_addLine_152 : decode b_LN_addLine 152 = .ok (.invokevirtual 117, 3) := by decide +kernel
theorem d_LN_addLine_155 : decode b_LN_addLine 155 = .ok (.aload_n 0, 1) := by decide +kernel
theorem d_LN_addLine_156 : decode b_LN_addLine 156 = .ok (.dup, 1) := by decide +kernel
theorem d_LN_addLine_157 : decode b_LN_addLine 157 = .ok (.getfield 36, 3) := by decide +kernel
theorem d_LN_addLine_160 : decode b_LN_addLine 160 = .ok (.iconst 1, 1) := by decide +kernel
theorem d_LN_addLine_161 : decode b_LN_addLine 161 = .ok (.iadd, 1) := by decide +kernel
theorem d_LN_addLine_162 : decode b_LN_addLine 162 = .ok (.putfield 36, 3) := by decide +kernel
theorem d_LN_addLine_165 : decode b_LN_addLine 165 = .ok (.return_, 1) := by decide +kernel
theorem d_LN_placeSigns_0 : decode b_LN_placeSigns 0 = .ok (.aload_n 0, 1) := by decide +kernel
theorem d_LN_placeSigns_1 : decode b_LN_placeSigns 1 = .ok (.getfield 19, 3) := by decide +kernel
theorem d_LN_placeSigns_4 : decode b_LN_placeSigns 4 = .ok (.iload_n 2, 1) := by decide +kernel
theorem d_LN_placeSigns_5 : decode b_LN_placeSigns 5 = .ok (.iload_n 3, 1) := by decide +kernel
theorem d_LN_placeSigns_6 : decode b_LN_placeSigns 6 = .ok (.invokevirtual 107, 3) := by decide +kernel
theorem d_LN_placeSigns_9 : decode b_LN_placeSigns 9 = .ok (.istore 5, 2) := by decide +kernel
theorem d_LN_placeSigns_11 : decode b_LN_placeSigns 11 = .ok (.iload 4, 2) := by decide +kernel
theorem d_LN_placeSigns_13 : decode b_LN_placeSigns 13 = .ok (.istore 6, 2) := by decide +kernel
theorem d_LN_placeSigns_15 : decode b_LN_placeSigns 15 = .ok (.iload_n 2, 1) := by decide +kernel
theorem d_LN_placeSigns_16 : decode b_LN_placeSigns 16 = .ok (.istore 7, 2) := by decide +kernel
theorem d_LN_placeSigns_18 : decode b_LN_placeSigns 18 = .ok (.iload 7, 2) := by decide +kernel
theorem d_LN_placeSigns_20 : decode b_LN_placeSigns 20 = .ok (.iload_n 3, 1) := by decide +kernel
theorem d_LN_placeSigns_21 : decode b_LN_placeSigns 21 = .ok (.if_icmp .ge 114, 3) := by decide +kernel
theorem d_LN_placeSigns_24 : decode b_LN_placeSigns 24 = .ok (.aload_n 0, 1) := by decide +kernel
theorem d_LN_placeSigns_25 : decode b_LN_placeSigns 25 = .ok (.getfield 19, 3) := by decide +kernel
theorem d_LN_placeSigns_28 : decode b_LN_placeSigns 28 = .ok (.getfield 121, 3) := by decide +kernel
theorem d_LN_placeSigns_31 : decode b_LN_placeSigns 31 = .ok (.iload 7, 2) := by decide +kernel
theorem d_LN_placeSigns_33 : decode b_LN_placeSigns 33 = .ok (.iaload, 1) := by decide +kernel
theorem d_LN_placeSigns_34 : decode b_LN_placeSigns 34 = .ok (.iconst 2, 1) := by decide +kernel
theorem d_LN_placeSigns_35 : decode b_LN_placeSigns 35 = .ok (.if_icmp .ne 28, 3) := by decide +kernel
theorem d_LN_placeSigns_38 : decode b_LN_placeSigns 38 = .ok (.aload_n 1, 1) := by decide +kernel
theorem d_LN_placeSigns_39 : decode b_LN_placeSigns 39 = .ok (.iload 6, 2) := by decide +kernel
theorem d_LN_placeSigns_41 : decode b_LN_placeSigns 41 = .ok (.aload_n 0, 1) := by decide +kernel
theorem d_LN_placeSigns_42 : decode b_LN_placeSigns 42 = .ok (.iload 7, 2) := by decide +kernel
theorem d_LN_placeSigns_44 : decode b_LN_placeSigns 44 = .ok (.iload 5, 2) := by decide +kernel
theorem d_LN_placeSigns_46 : decode b_LN_placeSigns 46 = .ok (.iload_n 3, 1) := by decide +kernel
theorem d_LN_placeSigns_47 : decode b_LN_placeSigns 47 = .ok (.invokevirtual 124, 3) := by decide +kernel
theorem d_LN_placeSigns_50 : decode b_LN_placeSigns 50 = .ok (.aload_n 0, 1) := by decide +kernel
theorem d_LN_placeSigns_51 : decode b_LN_placeSigns 51 = .ok (.getfield 23, 3) := by decide +kernel
theorem d_LN_placeSigns_54 : decode b_LN_placeSigns 54 = .ok (.getfield 128, 3) := by decide +kernel
theorem d_LN_placeSigns_57 : decode b_LN_placeSigns 57 = .ok (.invokevirtual 131, 3) := by decide +kernel
theorem d_LN_placeSigns_60 : decode b_LN_placeSigns 60 = .ok (.goto 25, 3) := by decide +kernel
theorem d_LN_placeSigns_63 : decode b_LN_placeSigns 63 = .ok (.aload_n 0, 1) := by decide +kernel
theorem d_LN_placeSigns_64 : decode b_LN_placeSigns 64 = .ok (.getfield 19, 3) := by decide +kernel
theorem d_LN_placeSigns_67 : decode b_LN_placeSigns 67 = .ok (.iload 7, 2) := by decide +kernel
theorem d_LN_placeSigns_69 : decode b_LN_placeSigns 69 = .ok (.iload 7, 2) := by decide +kernel
theorem d_LN_placeSigns_71 : decode b_LN_placeSigns 71 = .ok (.iload_n 3, 1) := by decide +kernel
theorem d_LN_placeSigns_72 : decode b_LN_placeSigns 72 = .ok (.iconst 1, 1) := by decide +kernel
theorem d_LN_placeSigns_73 : decode b_LN_placeSigns 73 = .ok (.isub, 1) := by decide +kernel
theorem d_LN_placeSigns_74 : decode b_LN_placeSigns 74 = .ok (.if_icmp .ne 7, 3) := by decide +kernel
theorem d_LN_placeSigns_77 : decode b_LN_placeSigns 77 = .ok (.iconst 1, 1) := by decide +kernel
theorem d_LN_placeSigns_78 : decode b_LN_placeSigns 78 = .ok (.goto 4, 3) := by decide +kernel
theorem d_LN_placeSigns_81 : decode b_LN_placeSigns 81 = .ok (.iconst 0, 1) := by decide +kernel
theorem d_LN_placeSigns_82 : decode b_LN_placeSigns 82 = .ok (.invokevirtual 134, 3) := by decide +kernel
theorem d_LN_placeSigns_85 : decode b_LN_placeSigns 85 = .ok (.istore 8, 2) := by decide +kernel
theorem d_LN_placeSigns_87 : decode b_LN_placeSigns 87 = .ok (.aload_n 0, 1) := by decide +kernel
theorem d_LN_placeSigns_88 : decode b_LN_placeSigns 88 = .ok (.getfield 16, 3) := by decide +kernel
theorem d_LN_placeSigns_91 : decode b_LN_placeSigns 91 = .ok (.iconst 0, 1) := by decide +kernel
theorem d_LN_placeSigns_92 : decode b_LN_placeSigns 92 = .ok (.aaload, 1) := by decide +kernel
theorem d_LN_placeSigns_93 : decode b_LN_placeSigns 93 = .ok (.iload 7, 2) := by decide +kernel
theorem d_LN_placeSigns_95 : decode b_LN_placeSigns 95 = .ok (.aload_n 0, 1) := by decide +kernel
theorem d_LN_placeSigns_96 : decode b_LN_placeSigns 96 = .ok (.getfield 36, 3) := by decide +kernel
theorem d_LN_placeSigns_99 : decode b_LN_placeSigns 99 = .ok (.iastore, 1) := by decide +kernel
theorem d_LN_placeSigns_100 : decode b_LN_placeSigns 100 = .ok (.aload_n 0, 1) := by decide +kernel
theorem d_LN_placeSigns_101 : decode b_LN_placeSigns 101 = .ok (.getfield 16, 3) := by decide +kernel
theorem d_LN_placeSigns_104 : decode b_LN_placeSigns 104 = .ok (.iconst 1, 1) := by decide +kernel
theorem d_LN_placeSigns_105 : decode b_LN_placeSigns 105 = .ok (.aaload, 1) := by decide +kernel
theorem d_LN_placeSigns_106 : decode b_LN_placeSigns 106 = .ok (.iload 7, 2) := by decide +kernel
theorem d_LN_placeSigns_108 : decode b_LN_placeSigns 108 = .ok (.iload 6, 2) := by decide +kernel
theorem d_LN_placeSigns_110 : decode b_LN_placeSigns 110 = .ok (.iastore, 1) := by decide +kernel
theorem d_LN_placeSigns_111 : decode b_LN_placeSigns 111 = .ok (.aload_n 0, 1) := by decide +kernel
theorem d_LN_placeSigns_112 : decode b_LN_placeSigns 112 = .ok (.getfield 16, 3) := by decide +kernel
theorem d_LN_placeSigns_115 : decode b_LN_placeSigns 115 = .ok (.iconst 2, 1) := by decide +kernel
theorem d_LN_placeSigns_116 : decode b_LN_placeSigns 116 = .ok (.aaload, 1) := by decide +kernel
theorem d_LN_placeSigns_117 : decode b_LN_placeSigns 117 = .ok (.iload 7, 2) := by decide +kernel
theorem d_LN_placeSigns_119 : decode b_LN_placeSigns 119 = .ok (.iload 8, 2) := by decide +kernel
theorem d_LN_placeSigns_121 : decode b_LN_placeSigns 121 = .ok (.iastore, 1) := by decide +kernel
theorem d_LN_placeSigns_122 : decode b_LN_placeSigns 122 = .ok (.iload 6, 2) := by decide +kernel
theorem d_LN_placeSigns_124 : decode b_LN_placeSigns 124 = .ok (.iload 8, 2) := by decide +kernel
theorem d_LN_placeSigns_126 : decode b_LN_placeSigns 126 = .ok (.iadd, 1) := by decide +kernel
theorem d_LN_placeSigns_127 : decode b_LN_placeSigns 127 = .ok (.istore 6, 2) := by decide +kernel
theorem d_LN_placeSigns_129 : decode b_LN_placeSigns 129 = .ok (.iinc 7 1, 3) := by decide +kernel
theorem d_LN_placeSigns_132 : decode b_LN_placeSigns 132 = .ok (.goto (-114), 3) := by decide +kernel
theorem d_LN_placeSigns_135 : decode b_LN_placeSigns 135 = .ok (.return_, 1) := by decide +kernel
theorem d_LN_align_0 : decode b_LN_align 0 = .ok (.iconst 0, 1) := by decide +kernel
theorem d_LN_align_1 : decode b_LN_align 1 = .ok (.aload_n 0, 1) := by decide +kernel
theorem d_LN_align_2 : decode b_LN_align 2 = .ok (.getfield 23, 3) := by decide +kernel
theorem d_LN_align_5 : decode b_LN_align 5 = .ok (.getfield 79, 3) := by decide +kernel
theorem d_LN_align_8 : decode b_LN_align 8 = .ok (.aload_n 1, 1) := by decide +kernel
theorem d_LN_align_9 : decode b_LN_align 9 = .ok (.getfield 53, 3) := by decide +kernel
theorem d_LN_align_12 : decode b_LN_align 12 = .ok (.iconst 1, 1) := by decide +kernel
theorem d_LN_align_13 : decode b_LN_align 13 = .ok (.iaload, 1) := by decide +kernel
theorem d_LN_align_14 : decode b_LN_align 14 = .ok (.isub, 1) := by decide +kernel
theorem d_LN_align_15 : decode b_LN_align 15 = .ok (.aload_n 0, 1) := by decide +kernel
theorem d_LN_align_16 : decode b_LN_align 16 = .ok (.getfield 11, 3) := by decide +kernel
theorem d_LN_align_19 : decode b_LN_align 19 = .ok (.iconst 4, 1) := by decide +kernel
theorem d_LN_align_20 : decode b_LN_align 20 = .ok (.aaload, 1) := by decide +kernel
theorem d_LN_align_21 : decode b_LN_align 21 = .ok (.aload_n 0, 1) := by decide +kernel
theorem d_LN_align_22 : decode b_LN_align 22 = .ok (.getfield 36, 3) := by decide +kernel
theorem d_LN_align_25 : decode b_LN_align 25 = .ok (.iaload, 1) := by decide +kernel
theorem d_LN_align_26 : decode b_LN_align 26 = .ok (.isub, 1) := by decide +kernel
theorem d_LN_align_27 : decode b_LN_align 27 = .ok (.invokestatic 59, 3) := by decide +kernel
theorem d_LN_align_30 : decode b_LN_align 30 = .ok (.istore 4, 2) := by decide +kernel
theorem d_LN_align_32 : decode b_LN_align 32 = .ok (.aload_n 1, 1) := by decide +kernel
theorem d_LN_align_33 : decode b_LN_align 33 = .ok (.getfield 53, 3) := by decide +kernel
theorem d_LN_align_36 : decode b_LN_align 36 = .ok (.iconst 5, 1) := by decide +kernel
theorem d_LN_align_37 : decode b_LN_align 37 = .ok (.iaload, 1) := by decide +kernel
theorem d_LN_align_38 : decode b_LN_align 38 = .ok (.istore 5, 2) := by decide +kernel
theorem d_LN_align_40 : decode b_LN_align 40 = .ok (.iconst 0, 1) := by decide +kernel
theorem d_LN_align_41 : decode b_LN_align 41 = .ok (.istore 6, 2) := by decide +kernel
theorem d_LN_align_43 : decode b_LN_align 43 = .ok (.iconst 0, 1) := by decide +kernel
theorem d_LN_align_44 : decode b_LN_align 44 = .ok (.istore 7, 2) := by decide +kernel
theorem d_LN_align_46 : decode b_LN_align 46 = .ok (.iload 5, 2) := by decide +kernel
theorem d_LN_align_48 : decode b_LN_align 48 = .ok (.iconst 1, 1) := by decide +kernel
theorem d_LN_align_49 : decode b_LN_align 49 = .ok (.if_icmp .ne 10, 3) := by decide +kernel
theorem d_LN_align_52 : decode b_LN_align 52 = .ok (.iload 4, 2) := by decide +kernel
theorem d_LN_align_54 : decode b_LN_align 54 = .ok (.istore 6, 2) := by decide +kernel
theorem d_LN_align_56 : decode b_LN_align 56 = .ok (.goto 55, 3) := by decide +kernel
theorem d_LN_align_59 : decode b_LN_align 59 = .ok (.iload 5, 2) := by decide +kernel
theorem d_LN_align_61 : decode b_LN_align 61 = .ok (.iconst 2, 1) := by decide +kernel
theorem d_LN_align_62 : decode b_LN_align 62 = .ok (.if_icmp .ne 12, 3) := by decide +kernel
theorem d_LN_align_65 : decode b_LN_align 65 = .ok (.iload 4, 2) := by decide +kernel
theorem d_LN_align_67 : decode b_LN_align 67 = .ok (.iconst 2, 1) := by decide +kernel
theorem d_LN_align_68 : decode b_LN_align 68 = .ok (.idiv, 1) := by decide +kernel
theorem d_LN_align_69 : decode b_LN_align 69 = .ok (.istore 6, 2) := by decide +kernel
theorem d_LN_align_71 : decode b_LN_align 71 = .ok (.goto 40, 3) := by decide +kernel
theorem d_LN_align_74 : decode b_LN_align 74 = .ok (.iload 5, 2) := by decide +kernel
theorem d_LN_align_76 : decode b_LN_align 76 = .ok (.iconst 3, 1) := by decide +kernel
theorem d_LN_align_77 : decode b_LN_align 77 = .ok (.if_icmp .ne 34, 3) := by decide +kernel
theorem d_LN_align_80 : decode b_LN_align 80 = .ok (.iload_n 3, 1) := by decide +kernel
theorem d_LN_align_81 : decode b_LN_align 81 = .ok (.aload_n 1, 1) := by decide +kernel
theorem d_LN_align_82 : decode b_LN_align 82 = .ok (.getfield 68, 3) := by decide +kernel
theorem d_LN_align_85 : decode b_LN_align 85 = .ok (.if_icmp .ge 26, 3) := by decide +kernel
theorem d_LN_align_88 : decode b_LN_align 88 = .ok (.aload_n 0, 1) := by decide +kernel
theorem d_LN_align_89 : decode b_LN_align 89 = .ok (.getfield 19, 3) := by decide +kernel
theorem d_LN_align_92 : decode b_LN_align 92 = .ok (.iload_n 3, 1) := by decide +kernel
theorem d_LN_align_93 : decode b_LN_align 93 = .ok (.iconst 1, 1) := by decide +kernel
theorem d_LN_align_94 : decode b_LN_align 94 = .ok (.isub, 1) := by decide +kernel
theorem d_LN_align_95 : decode b_LN_align 95 = .ok (.invokevirtual 103, 3) := by decide +kernel
theorem d_LN_align_98 : decode b_LN_align 98 = .ok (.ifCond .ne 13, 3) := by decide +kernel
theorem d_LN_align_101 : decode b_LN_align 101 = .ok (.aload_n 0, 1) := by decide +kernel
theorem d_LN_align_102 : decode b_LN_align 102 = .ok (.iload_n 2, 1) := by decide +kernel
theorem d_LN_align_103 : decode b_LN_align 103 = .ok (.iload_n 3, 1) := by decide +kernel
theorem d_LN_align_104 : decode b_LN_align 104 = .ok (.iload 4, 2) := by decide +kernel
theorem d_LN_align_106 : decode b_LN_align 106 = .ok (.invokevirtual 141, 3) := by decide +kernel
theorem d_LN_align_109 : decode b_LN_align 109 = .ok (.istore 7, 2) := by decide +kernel
theorem d_LN_align_111 : decode b_LN_align 111 = .ok (.iload_n 2, 1) := by decide +kernel
theorem d_LN_align_112 : decode b_LN_align 112 = .ok (.istore 8, 2) := by decide +kernel
theorem d_LN_align_114 : decode b_LN_align 114 = .ok (.iload 8, 2) := by decide +kernel
theorem d_LN_align_116 : decode b_LN_align 116 = .ok (.iload_n 3, 1) := by decide +kernel
theorem d_LN_align_117 : decode b_LN_align 117 = .ok (.if_icmp .ge 23, 3) := by decide +kernel
theorem d_LN_align_120 : decode b_LN_align 120 = .ok (.aload_n 0, 1) := by decide +kernel
theorem d_LN_align_121 : decode b_LN_align 121 = .ok (.getfield 16, 3) := by decide +kernel
theorem d_LN_align_124 : decode b_LN_align 124 = .ok (.iconst 1, 1) := by decide +kernel
theorem d_LN_align_125 : decode b_LN_align 125 = .ok (.aaload, 1) := by decide +kernel
theorem d_LN_align_126 : decode b_LN_align 126 = .ok (.iload 8, 2) := by decide +kernel
theorem d_LN_align_128 : decode b_LN_align 128 = .ok (.dup2, 1) := by decide +kernel
theorem d_LN_align_129 : decode b_LN_align 129 = .ok (.iaload, 1) := by decide +kernel
theorem d_LN_align_130 : decode b_LN_align 130 = .ok (.iload 6, 2) := by decide +kernel
theorem d_LN_align_132 : decode b_LN_align 132 = .ok (.iadd, 1) := by decide +kernel
theorem d_LN_align_133 : decode b_LN_align 133 = .ok (.iastore, 1) := by decide +kernel
theorem d_LN_align_134 : decode b_LN_align 134 = .ok (.iinc 8 1, 3) := by decide +kernel
theorem d_LN_align_137 : decode b_LN_align 137 = .ok (.goto (-23), 3) := by decide +kernel
theorem d_LN_align_140 : decode b_LN_align 140 = .ok (.aload_n 0, 1) := by decide +kernel
theorem d_LN_align_141 : decode b_LN_align 141 = .ok (.getfield 11, 3) := by decide +kernel
theorem d_LN_align_144 : decode b_LN_align 144 = .ok (.bipush 8, 2) := by decide +kernel
theorem d_LN_align_146 : decode b_LN_align 146 = .ok (.aaload, 1) := by decide +kernel
theorem d_LN_align_147 : decode b_LN_align 147 = .ok (.aload_n 0, 1) := by decide +kernel
theorem d_LN_align_148 : decode b_LN_align 148 = .ok (.getfield 36, 3) := by decide +kernel
theorem d_LN_align_151 : decode b_LN_align 151 = .ok (.iload 6, 2) := by decide +kernel
theorem d_LN_align_153 : decode b_LN_align 153 = .ok (.iastore, 1) := by decide +kernel
theorem d_LN_align_154 : decode b_LN_align 154 = .ok (.aload_n 0, 1) := by decide +kernel
theorem d_LN_align_155 : decode b_LN_align 155 = .ok (.getfield 11, 3) := by decide +kernel
theorem d_LN_align_158 : decode b_LN_align 158 = .ok (.bipush 9, 2) := by decide +kernel
theorem d_LN_align_160 : decode b_LN_align 160 = .ok (.aaload, 1) := by decide +kernel
theorem d_LN_align_161 : decode b_LN_align 161 = .ok (.aload_n 0, 1) := by decide +kernel
theorem d_LN_align_162 : decode b_LN_align 162 = .ok (.getfield 36, 3) := by decide +kernel
theorem d_LN_align_165 : decode b_LN_align 165 = .ok (.iload 7, 2) := by decide +kernel
theorem d_LN_align_167 : decode b_LN_align 167 = .ok (.iastore, 1) := by decide +kernel
theorem d_LN_align_168 : decode b_LN_align 168 = .ok (.return_, 1) := by decide +kernel
theorem d_LN_widenGaps_0 : decode b_LN_widenGaps 0 = .ok (.aload_n 0, 1) := by decide +kernel
theorem d_LN_widenGaps_1 : decode b_LN_widenGaps 1 = .ok (.getfield 19, 3) := by decide +kernel
theorem d_LN_widenGaps_4 : decode b_LN_widenGaps 4 = .ok (.iload_n 1, 1) := by decide +kernel
theorem d_LN_widenGaps_5 : decode b_LN_widenGaps 5 = .ok (.iload_n 2, 1) := by decide +kernel
theorem d_LN_widenGaps_6 : decode b_LN_widenGaps 6 = .ok (.invokevirtual 107, 3) := by decide +kernel
theorem d_LN_widenGaps_9 : decode b_LN_widenGaps 9 = .ok (.istore 4, 2) := by decide +kernel
theorem d_LN_widenGaps_11 : decode b_LN_widenGaps 11 = .ok (.aload_n 0, 1) := by decide +kernel
theorem d_LN_widenGaps_12 : decode b_LN_widenGaps 12 = .ok (.iload_n 1, 1) := by decide +kernel
theorem d_LN_widenGaps_13 : decode b_LN_widenGaps 13 = .ok (.iload_n 2, 1) := by decide +kernel
theorem d_LN_widenGaps_14 : decode b_LN_widenGaps 14 = .ok (.invokevirtual 144, 3) := by decide +kernel
theorem d_LN_widenGaps_17 : decode b_LN_widenGaps 17 = .ok (.istore 5, 2) := by decide +kernel
theorem d_LN_widenGaps_19 : decode b_LN_widenGaps 19 = .ok (.iconst 0, 1) := by decide +kernel
theorem d_LN_widenGaps_20 : decode b_LN_widenGaps 20 = .ok (.istore 6, 2) := by decide +kernel
theorem d_LN_widenGaps_22 : decode b_LN_widenGaps 22 = .ok (.iload 5, 2) := by decide +kernel
theorem d_LN_widenGaps_24 : decode b_LN_widenGaps 24 = .ok (.istore 7, 2) := by decide +kernel
theorem d_LN_widenGaps_26 : decode b_LN_widenGaps 26 = .ok (.iload 7, 2) := by decide +kernel
theorem d_LN_widenGaps_28 : decode b_LN_widenGaps 28 = .ok (.iload 4, 2) := by decide +kernel
theorem d_LN_widenGaps_30 : decode b_LN_widenGaps 30 = .ok (.if_icmp .ge 33, 3) := by decide +kernel
theorem d_LN_widenGaps_33 : decode b_LN_widenGaps 33 = .ok (.iload 6, 2) := by decide +kernel
theorem d_LN_widenGaps_35 : decode b_LN_widenGaps 35 = .ok (.aload_n 0, 1) := by decide +kernel
theorem d_LN_widenGaps_36 : decode b_LN_widenGaps 36 = .ok (.getfield 19, 3) := by decide +kernel
theorem d_LN_widenGaps_39 : decode b_LN_widenGaps 39 = .ok (.getfield 121, 3) := by decide +kernel
theorem d_LN_widenGaps_42 : decode b_LN_widenGaps 42 = .ok (.iload 7, 2) := by decide +kernel
theorem d_LN_widenGaps_44 : decode b_LN_widenGaps 44 = .ok (.iaload, 1) := by decide +kernel
theorem d_LN_widenGaps_45 : decode b_LN_widenGaps 45 = .ok (.iconst 1, 1) := by decide +kernel
theorem d_LN_widenGaps_46 : decode b_LN_widenGaps 46 = .ok (.if_icmp .ne 7, 3) := by decide +kernel
theorem d_LN_widenGaps_49 : decode b_LN_widenGaps 49 = .ok (.iconst 1, 1) := by decide +kernel
theorem d_LN_widenGaps_50 : decode b_LN_widenGaps 50 = .ok (.goto 4, 3) := by decide +kernel
theorem d_LN_widenGaps_53 : decode b_LN_widenGaps 53 = .ok (.iconst 0, 1) := by decide +kernel
theorem d_LN_widenGaps_54 : decode b_LN_widenGaps 54 = .ok (.iadd, 1) := by decide +kernel
theorem d_LN_widenGaps_55 : decode b_LN_widenGaps 55 = .ok (.istore 6, 2) := by decide +kernel
theorem d_LN_widenGaps_57 : decode b_LN_widenGaps 57 = .ok (.iinc 7 1, 3) := by decide +kernel
theorem d_LN_widenGaps_60 : decode b_LN_widenGaps 60 = .ok (.goto (-34), 3) := by decide +kernel
theorem d_LN_widenGaps_63 : decode b_LN_widenGaps 63 = .ok (.iload 6, 2) := by decide +kernel
theorem d_LN_widenGaps_65 : decode b_LN_widenGaps 65 = .ok (.iconst 1, 1) := by decide +kernel
theorem d_LN_widenGaps_66 : decode b_LN_widenGaps 66 = .ok (.if_icmp .ge 5, 3) := by decide +kernel
theorem d_LN_widenGaps_69 : decode b_LN_widenGaps 69 = .ok (.iconst 0, 1) := by decide +kernel
theorem d_LN_widenGaps_70 : decode b_LN_widenGaps 70 = .ok (.ireturn, 1) := by decide +kernel
theorem d_LN_widenGaps_71 : decode b_LN_widenGaps 71 = .ok (.iload_n 3, 1) := by decide +kernel
theorem d_LN_widenGaps_72 : decode b_LN_widenGaps 72 = .ok (.iload 6, 2) := by decide +kernel
theorem d_LN_widenGaps_74 : decode b_LN_widenGaps 74 = .ok (.irem, 1) := by decide +kernel
theorem d_LN_widenGaps_75 : decode b_LN_widenGaps 75 = .ok (.istore 7, 2) := by decide +kernel
theorem d_LN_widenGaps_77 : decode b_LN_widenGaps 77 = .ok (.iconst 0, 1) := by decide +kernel
theorem d_LN_widenGaps_78 : decode b_LN_widenGaps 78 = .ok (.istore 8, 2) := by decide +kernel
theorem d_LN_widenGaps_80 : decode b_LN_widenGaps 80 = .ok (.iload 5, 2) := by decide +kernel
theorem d_LN_widenGaps_82 : decode b_LN_widenGaps 82 = .ok (.istore 9, 2) := by decide +kernel
theorem d_LN_widenGaps_84 : decode b_LN_widenGaps 84 = .ok (.iload 9, 2) := by decide +kernel
theorem d_LN_widenGaps_86 : decode b_LN_widenGaps 86 = .ok (.iload_n 2, 1) := by decide +kernel
theorem d_LN_widenGaps_87 : decode b_LN_widenGaps 87 = .ok (.if_icmp .ge 85, 3) := by decide +kernel
theorem d_LN_widenGaps_90 : decode b_LN_widenGaps 90 = .ok (.aload_n 0, 1) := by decide +kernel
theorem d_LN_widenGaps_91 : decode b_LN_widenGaps 91 = .ok (.getfield 16, 3) := by decide +kernel
theorem d_LN_widenGaps_94 : decode b_LN_widenGaps 94 = .ok (.iconst 1, 1) := by decide +kernel
theorem d_LN_widenGaps_95 : decode b_LN_widenGaps 95 = .ok (.aaload, 1) := by decide +kernel
theorem d_LN_widenGaps_96 : decode b_LN_widenGaps 96 = .ok (.iload 9, 2) := by decide +kernel
theorem d_LN_widenGaps_98 : decode b_LN_widenGaps 98 = .ok (.dup2, 1) := by decide +kernel
theorem d_LN_widenGaps_99 : decode b_LN_widenGaps 99 = .ok (.iaload, 1) := by decide +kernel
theorem d_LN_widenGaps_100 : decode b_LN_widenGaps 100 = .ok (.iload 8, 2) := by decide +kernel
theorem d_LN_widenGaps_102 : decode b_LN_widenGaps 102 = .ok (.iadd, 1) := by decide +kernel
theorem d_LN_widenGaps_103 : decode b_LN_widenGaps 103 = .ok (.iastore, 1) := by decide +kernel
theorem d_LN_widenGaps_104 : decode b_LN_widenGaps 104 = .ok (.iload 9, 2) := by decide +kernel
theorem d_LN_widenGaps_106 : decode b_LN_widenGaps 106 = .ok (.iload 4, 2) := by decide +kernel
theorem d_LN_widenGaps_108 : decode b_LN_widenGaps 108 = .ok (.if_icmp .ge 58, 3) := by decide +kernel
theorem d_LN_widenGaps_111 : decode b_LN_widenGaps 111 = .ok (.aload_n 0, 1) := by decide +kernel
theorem d_LN_widenGaps_112 : decode b_LN_widenGaps 112 = .ok (.getfield 19, 3) := by decide +kernel
theorem d_LN_widenGaps_115 : decode b_LN_widenGaps 115 = .ok (.getfield 121, 3) := by decide +kernel
theorem d_LN_widenGaps_118 : decode b_LN_widenGaps 118 = .ok (.iload 9, 2) := by decide +kernel
theorem d_LN_widenGaps_120 : decode b_LN_widenGaps 120 = .ok (.iaload, 1) := by decide +kernel
theorem d_LN_widenGaps_121 : decode b_LN_widenGaps 121 = .ok (.iconst 1, 1) := by decide +kernel
theorem d_LN_widenGaps_122 : decode b_LN_widenGaps 122 = .ok (.if_icmp .ne 44, 3) := by decide +kernel
theorem d_LN_widenGaps_125 : decode b_LN_widenGaps 125 = .ok (.iload_n 3, 1) := by decide +kernel
theorem d_LN_widenGaps_126 : decode b_LN_widenGaps 126 = .ok (.iload 6, 2) := by decide +kernel
theorem d_LN_widenGaps_128 : decode b_LN_widenGaps 128 = .ok (.idiv, 1) := by decide +kernel
theorem d_LN_widenGaps_129 : decode b_LN_widenGaps 129 = .ok (.iload 7, 2) := by decide +kernel
theorem d_LN_widenGaps_131 : decode b_LN_widenGaps 131 = .ok (.ifCond .le 7, 3) := by decide +kernel
theorem d_LN_widenGaps_134 : decode b_LN_widenGaps 134 = .ok (.iconst 1, 1) := by decide +kernel
theorem d_LN_widenGaps_135 : decode b_LN_widenGaps 135 = .ok (.goto 4, 3) := by decide +kernel
theorem d_LN_widenGaps_138 : decode b_LN_widenGaps 138 = .ok (.iconst 0, 1) := by decide +kernel
theorem d_LN_widenGaps_139 : decode b_LN_widenGaps 139 = .ok (.iadd, 1) := by decide +kernel
theorem d_LN_widenGaps_140 : decode b_LN_widenGaps 140 = .ok (.istore 10, 2) := by decide +kernel
theorem d_LN_widenGaps_142 : decode b_LN_widenGaps 142 = .ok (.aload_n 0, 1) := by decide +kernel
theorem d_LN_widenGaps_143 : decode b_LN_widenGaps 143 = .ok (.getfield 16, 3) := by decide +kernel
theorem d_LN_widenGaps_146 : decode b_LN_widenGaps 146 = .ok (.iconst 2, 1) := by decide +kernel
theorem d_LN_widenGaps_147 : decode b_LN_widenGaps 147 = .ok (.aaload, 1) := by decide +kernel
theorem d_LN_widenGaps_148 : decode b_LN_widenGaps 148 = .ok (.iload 9, 2) := by decide +kernel
theorem d_LN_widenGaps_150 : decode b_LN_widenGaps 150 = .ok (.dup2, 1) := by decide +kernel
theorem d_LN_widenGaps_151 : decode b_LN_widenGaps 151 = .ok (.iaload, 1) := by decide +kernel
theorem d_LN_widenGaps_152 : decode b_LN_widenGaps 152 = .ok (.iload 10, 2) := by decide +kernel
theorem d_LN_widenGaps_154 : decode b_LN_widenGaps 154 = .ok (.iadd, 1) := by decide +kernel
theorem d_LN_widenGaps_155 : decode b_LN_widenGaps 155 = .ok (.iastore, 1) := by decide +kernel
theorem d_LN_widenGaps_156 : decode b_LN_widenGaps 156 = .ok (.iload 8, 2) := by decide +kernel
theorem d_LN_widenGaps_158 : decode b_LN_widenGaps 158 = .ok (.iload 10, 2) := by decide +kernel
theorem d_LN_widenGaps_160 : decode b_LN_widenGaps 160 = .ok (.iadd, 1) := by decide +kernel
theorem d_LN_widenGaps_161 : decode b_LN_widenGaps 161 = .ok (.istore 8, 2) := by decide +kernel
theorem d_LN_widenGaps_163 : decode b_LN_widenGaps 163 = .ok (.iinc 7 (-1), 3) := by decide +kernel
theorem d_LN_widenGaps_166 : decode b_LN_widenGaps 166 = .ok (.iinc 9 1, 3) := by decide +kernel
theorem d_LN_widenGaps_169 : decode b_LN_widenGaps 169 = .ok (.goto (-85), 3) := by decide +kernel
theorem d_LN_widenGaps_172 : decode b_LN_widenGaps 172 = .ok (.iload_n 3, 1) := by decide +kernel
theorem d_LN_widenGaps_173 : decode b_LN_widenGaps 173 = .ok (.ireturn, 1) := by decide +kernel
