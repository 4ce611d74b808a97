theorem d_MO_count_0 : decode b_MO_count 0 = .ok (.aload_n 0, 1) := by decide +kernel
theorem d_MO_count_1 : decode b_MO_count 1 = .ok (.iconst 0, 1) := by decide +kernel
theorem d_MO_count_2 : decode b_MO_count 2 = .ok (.putfield 92, 3) := by decide +kernel
theorem d_MO_count_5 : decode b_MO_count 5 = .ok (.iload_n 1, 1) := by decide +kernel
theorem d_MO_count_6 : decode b_MO_count 6 = .ok (.tableswitch 88 0 3 #[30, 35, 56, 72], 30) := by decide +kernel
theorem d_MO_count_36 : decode b_MO_count 36 = .ok (.aload_n 0, 1) := by decide +kernel
theorem d_MO_count_37 : decode b_MO_count 37 = .ok (.getfield 95, 3) := by decide +kernel
theorem d_MO_count_40 : decode b_MO_count 40 = .ok (.ireturn, 1) := by decide +kernel
theorem d_MO_count_41 : decode b_MO_count 41 = .ok (.aload_n 0, 1) := by decide +kernel
theorem d_MO_count_42 : decode b_MO_count 42 = .ok (.getfield 95, 3) := by decide +kernel
theorem d_MO_count_45 : decode b_MO_count 45 = .ok (.ifCond .ne 7, 3) := by decide +kernel
theorem d_MO_count_48 : decode b_MO_count 48 = .ok (.iconst 0, 1) := by decide +kernel
theorem d_MO_count_49 : decode b_MO_count 49 = .ok (.goto 12, 3) := by decide +kernel
theorem d_MO_count_52 : decode b_MO_count 52 = .ok (.aload_n 0, 1) := by decide +kernel
theorem d_MO_count_53 : decode b_MO_count 53 = .ok (.getfield 19, 3) := by decide +kernel
theorem d_MO_count_56 : decode b_MO_count 56 = .ok (.aload_n 0, 1) := by decide +kernel
theorem d_MO_count_57 : decode b_MO_count 57 = .ok (.getfield 95, 3) := by decide +kernel
theorem d_MO_count_60 : decode b_MO_count 60 = .ok (.iaload, 1) := by decide +kernel
theorem d_MO_count_61 : decode b_MO_count 61 = .ok (.ireturn, 1) := by decide +kernel
theorem d_MO_count_62 : decode b_MO_count 62 = .ok (.aload_n 0, 1) := by decide +kernel
theorem d_MO_count_63 : decode b_MO_count 63 = .ok (.getfield 98, 3) := by decide +kernel
theorem d_MO_count_66 : decode b_MO_count 66 = .ok (.ifCond .eq 10, 3) := by decide +kernel
theorem d_MO_count_69 : decode b_MO_count 69 = .ok (.aload_n 0, 1) := by decide +kernel
theorem d_MO_count_70 : decode b_MO_count 70 = .ok (.getfield 151, 3) := by decide +kernel
theorem d_MO_count_73 : decode b_MO_count 73 = .ok (.goto 4, 3) := by decide +kernel
theorem d_MO_count_76 : decode b_MO_count 76 = .ok (.iconst 0, 1) := by decide +kernel
theorem d_MO_count_77 : decode b_MO_count 77 = .ok (.ireturn, 1) := by decide +kernel
theorem d_MO_count_78 : decode b_MO_count 78 = .ok (.aload_n 0, 1) := by decide +kernel
theorem d_MO_count_79 : decode b_MO_count 79 = .ok (.getfield 98, 3) := by decide +kernel
theorem d_MO_count_82 : decode b_MO_count 82 = .ok (.ifCond .eq 10, 3) := by decide +kernel
theorem d_MO_count_85 : decode b_MO_count 85 = .ok (.aload_n 0, 1) := by decide +kernel
theorem d_MO_count_86 : decode b_MO_count 86 = .ok (.getfield 166, 3) := by decide +kernel
theorem d_MO_count_89 : decode b_MO_count 89 = .ok (.goto 4, 3) := by decide +kernel
theorem d_MO_count_92 : decode b_MO_count 92 = .ok (.iconst 0, 1) := by decide +kernel
theorem d_MO_count_93 : decode b_MO_count 93 = .ok (.ireturn, 1) := by decide +kernel
theorem d_MO_count_94 : decode b_MO_count 94 = .ok (.iconst (-1), 1) := by decide +kernel
theorem d_MO_count_95 : decode b_MO_count 95 = .ok (.ireturn, 1) := by decide +kernel
theorem d_MO_line_0 : decode b_MO_line 0 = .ok (.aload_n 0, 1) := by decide +kernel
theorem d_MO_line_1 : decode b_MO_line 1 = .ok (.aload_n 0, 1) := by decide +kernel
theorem d_MO_line_2 : decode b_MO_line 2 = .ok (.getfield 98, 3) := by decide +kernel
theorem d_MO_line_5 : decode b_MO_line 5 = .ok (.ifCond .eq 17, 3) := by decide +kernel
theorem d_MO_line_8 : decode b_MO_line 8 = .ok (.iload_n 1, 1) := by decide +kernel
theorem d_MO_line_9 : decode b_MO_line 9 = .ok (.iconst 0, 1) := by decide +kernel
theorem d_MO_line_10 : decode b_MO_line 10 = .ok (.aload_n 0, 1) := by decide +kernel
theorem d_MO_line_11 : decode b_MO_line 11 = .ok (.getfield 151, 3) := by decide +kernel
theorem d_MO_line_14 : decode b_MO_line 14 = .ok (.iconst 1, 1) := by decide +kernel
theorem d_MO_line_15 : decode b_MO_line 15 = .ok (.isub, 1) := by decide +kernel
theorem d_MO_line_16 : decode b_MO_line 16 = .ok (.invokestatic 102, 3) := by decide +kernel
theorem d_MO_line_19 : decode b_MO_line 19 = .ok (.ifCond .ne 7, 3) := by decide +kernel
theorem d_MO_line_22 : decode b_MO_line 22 = .ok (.iconst 1, 1) := by decide +kernel
theorem d_MO_line_23 : decode b_MO_line 23 = .ok (.goto 18, 3) := by decide +kernel
theorem d_MO_line_26 : decode b_MO_line 26 = .ok (.iload_n 2, 1) := by decide +kernel
theorem d_MO_line_27 : decode b_MO_line 27 = .ok (.iconst 0, 1) := by decide +kernel
theorem d_MO_line_28 : decode b_MO_line 28 = .ok (.bipush 9, 2) := by decide +kernel
theorem d_MO_line_30 : decode b_MO_line 30 = .ok (.invokestatic 102, 3) := by decide +kernel
theorem d_MO_line_33 : decode b_MO_line 33 = .ok (.ifCond .ne 7, 3) := by decide +kernel
theorem d_MO_line_36 : decode b_MO_line 36 = .ok (.iconst 2, 1) := by decide +kernel
theorem d_MO_line_37 : decode b_MO_line 37 = .ok (.goto 4, 3) := by decide +kernel
theorem d_MO_line_40 : decode b_MO_line 40 = .ok (.iconst 0, 1) := by decide +kernel
theorem d_MO_line_41 : decode b_MO_line 41 = .ok (.putfield 92, 3) := by decide +kernel
theorem d_MO_line_44 : decode b_MO_line 44 = .ok (.aload_n 0, 1) := by decide +kernel
theorem d_MO_line_45 : decode b_MO_line 45 = .ok (.getfield 92, 3) := by decide +kernel
theorem d_MO_line_48 : decode b_MO_line 48 = .ok (.ifCond .le 5, 3) := by decide +kernel
theorem d_MO_line_51 : decode b_MO_line 51 = .ok (.iconst 0, 1) := by decide +kernel
theorem d_MO_line_52 : decode b_MO_line 52 = .ok (.ireturn, 1) := by decide +kernel
theorem d_MO_line_53 : decode b_MO_line 53 = .ok (.iload_n 2, 1) := by decide +kernel
theorem d_MO_line_54 : decode b_MO_line 54 = .ok (.tableswitch 113 0 8 #[50, 57, 64, 71, 78, 85, 92, 99, 106], 50) := by decide +kernel
theorem d_MO_line_104 : decode b_MO_line 104 = .ok (.aload_n 0, 1) := by decide +kernel
theorem d_MO_line_105 : decode b_MO_line 105 = .ok (.getfield 50, 3) := by decide +kernel
theorem d_MO_line_108 : decode b_MO_line 108 = .ok (.iload_n 1, 1) := by decide +kernel
theorem d_MO_line_109 : decode b_MO_line 109 = .ok (.iaload, 1) := by decide +kernel
theorem d_MO_line_110 : decode b_MO_line 110 = .ok (.ireturn, 1) := by decide +kernel
theorem d_MO_line_111 : decode b_MO_line 111 = .ok (.aload_n 0, 1) := by decide +kernel
theorem d_MO_line_112 : decode b_MO_line 112 = .ok (.getfield 53, 3) := by decide +kernel
theorem d_MO_line_115 : decode b_MO_line 115 = .ok (.iload_n 1, 1) := by decide +kernel
theorem d_MO_line_116 : decode b_MO_line 116 = .ok (.iaload, 1) := by decide +kernel
theorem d_MO_line_117 : decode b_MO_line 117 = .ok (.ireturn, 1) := by decide +kernel
theorem d_MO_line_118 : decode b_MO_line 118 = .ok (.aload_n 0, 1) := by decide +kernel
theorem d_MO_line_119 : decode b_MO_line 119 = .ok (.getfield 56, 3) := by decide +kernel
theorem d_MO_line_122 : decode b_MO_line 122 = .ok (.iload_n 1, 1) := by decide +kernel
theorem d_MO_line_123 : decode b_MO_line 123 = .ok (.iaload, 1) := by decide +kernel
theorem d_MO_line_124 : decode b_MO_line 124 = .ok (.ireturn, 1) := by decide +kernel
theorem d_MO_line_125 : decode b_MO_line 125 = .ok (.aload_n 0, 1) := by decide +kernel
theorem d_MO_line_126 : decode b_MO_line 126 = .ok (.getfield 59, 3) := by decide +kernel
theorem d_MO_line_129 : decode b_MO_line 129 = .ok (.iload_n 1, 1) := by decide +kernel
theorem d_MO_line_130 : decode b_MO_line 130 = .ok (.iaload, 1) := by decide +kernel
theorem d_MO_line_131 : decode b_MO_line 131 = .ok (.ireturn, 1) := by decide +kernel
theorem d_MO_line_132 : decode b_MO_line 132 = .ok (.aload_n 0, 1) := by decide +kernel
theorem d_MO_line_133 : decode b_MO_line 133 = .ok (.getfield 62, 3) := by decide +kernel
theorem d_MO_line_136 : decode b_MO_line 136 = .ok (.iload_n 1, 1) := by decide +kernel
theorem d_MO_line_137 : decode b_MO_line 137 = .ok (.iaload, 1) := by decide +kernel
theorem d_MO_line_138 : decode b_MO_line 138 = .ok (.ireturn, 1) := by decide +kernel
theorem d_MO_line_139 : decode b_MO_line 139 = .ok (.aload_n 0, 1) := by decide +kernel
theorem d_MO_line_140 : decode b_MO_line 140 = .ok (.getfield 65, 3) := by decide +kernel
theorem d_MO_line_143 : decode b_MO_line 143 = .ok (.iload_n 1, 1) := by decide +kernel
theorem d_MO_line_144 : decode b_MO_line 144 = .ok (.iaload, 1) := by decide +kernel
theorem d_MO_line_145 : decode b_MO_line 145 = .ok (.ireturn, 1) := by decide +kernel
theorem d_MO_line_146 : decode b_MO_line 146 = .ok (.aload_n 0, 1) := by decide +kernel
theorem d_MO_line_147 : decode b_MO_line 147 = .ok (.getfield 68, 3) := by decide +kernel
theorem d_MO_line_150 : decode b_MO_line 150 = .ok (.iload_n 1, 1) := by decide +kernel
theorem d_MO_line_151 : decode b_MO_line 151 = .ok (.iaload, 1) := by decide +kernel
theorem d_MO_line_152 : decode b_MO_line 152 = .ok (.ireturn, 1) := by decide +kernel
theorem d_MO_line_153 : decode b_MO_line 153 = .ok (.aload_n 0, 1) := by decide +kernel
theorem d_MO_line_154 : decode b_MO_line 154 = .ok (.getfield 71, 3) := by decide +kernel
theorem d_MO_line_157 : decode b_MO_line 157 = .ok (.iload_n 1, 1) := by decide +kernel
theorem d_MO_line_158 : decode b_MO_line 158 = .ok (.iaload, 1) := by decide +kernel
theorem d_MO_line_159 : decode b_MO_line 159 = .ok (.ireturn, 1) := by decide +kernel
theorem d_MO_line_160 : decode b_MO_line 160 = .ok (.aload_n 0, 1) := by decide +kernel
theorem d_MO_line_161 : decode b_MO_line 161 = .ok (.getfield 74, 3) := by decide +kernel
theorem d_MO_line_164 : decode b_MO_line 164 = .ok (.iload_n 1, 1) := by decide +kernel
theorem d_MO_line_165 : decode b_MO_line 165 = .ok (.iaload, 1) := by decide +kernel
theorem d_MO_line_166 : decode b_MO_line 166 = .ok (.ireturn, 1) := by decide +kernel
theorem d_MO_line_167 : decode b_MO_line 167 = .ok (.aload_n 0, 1) := by decide +kernel
theorem d_MO_line_168 : decode b_MO_line 168 = .ok (.getfield 77, 3) := by decide +kernel
theorem d_MO_line_171 : decode b_MO_line 171 = .ok (.iload_n 1, 1) := by decide +kernel
theorem d_MO_line_172 : decode b_MO_line 172 = .ok (.iaload, 1) := by decide +kernel
theorem d_MO_line_173 : decode b_MO_line 173 = .ok (.ireturn, 1) := by decide +kernel
theorem d_MO_where_0 : decode b_MO_where 0 = .ok (.aload_n 0, 1) := by decide +kernel
theorem d_MO_where_1 : decode b_MO_where 1 = .ok (.aload_n 0, 1) := by decide +kernel
theorem d_MO_where_2 : decode b_MO_where 2 = .ok (.getfield 98, 3) := by decide +kernel
theorem d_MO_where_5 : decode b_MO_where 5 = .ok (.ifCond .eq 29, 3) := by decide +kernel
theorem d_MO_where_8 : decode b_MO_where 8 = .ok (.aload_n 0, 1) := by decide +kernel
theorem d_MO_where_9 : decode b_MO_where 9 = .ok (.getfield 95, 3) := by decide +kernel
theorem d_MO_where_12 : decode b_MO_where 12 = .ok (.ifCond .eq 22, 3) := by decide +kernel
theorem d_MO_where_15 : decode b_MO_where 15 = .ok (.iload_n 1, 1) := by decide +kernel
theorem d_MO_where_16 : decode b_MO_where 16 = .ok (.iconst 0, 1) := by decide +kernel
theorem d_MO_where_17 : decode b_MO_where 17 = .ok (.aload_n 0, 1) := by decide +kernel
theorem d_MO_where_18 : decode b_MO_where 18 = .ok (.getfield 19, 3) := by decide +kernel
theorem d_MO_where_21 : decode b_MO_where 21 = .ok (.aload_n 0, 1) := by decide +kernel
theorem d_MO_where_22 : decode b_MO_where 22 = .ok (.getfield 95, 3) := by decide +kernel
theorem d_MO_where_25 : decode b_MO_where 25 = .ok (.iaload, 1) := by decide +kernel
theorem d_MO_where_26 : decode b_MO_where 26 = .ok (.iconst 1, 1) := by decide +kernel
theorem d_MO_where_27 : decode b_MO_where 27 = .ok (.isub, 1) := by decide +kernel
theorem d_MO_where_28 : decode b_MO_where 28 = .ok (.invokestatic 102, 3) := by decide +kernel
theorem d_MO_where_31 : decode b_MO_where 31 = .ok (.ifCond .ne 7, 3) := by decide +kernel
theorem d_MO_where_34 : decode b_MO_where 34 = .ok (.iconst 1, 1) := by decide +kernel
theorem d_MO_where_35 : decode b_MO_where 35 = .ok (.goto 17, 3) := by decide +kernel
theorem d_MO_where_38 : decode b_MO_where 38 = .ok (.iload_n 2, 1) := by decide +kernel
theorem d_MO_where_39 : decode b_MO_where 39 = .ok (.iconst 0, 1) := by decide +kernel
theorem d_MO_where_40 : decode b_MO_where 40 = .ok (.iconst 2, 1) := by decide +kernel
theorem d_MO_where_41 : decode b_MO_where 41 = .ok (.invokestatic 102, 3) := by decide +kernel
theorem d_MO_where_44 : decode b_MO_where 44 = .ok (.ifCond .ne 7, 3) := by decide +kernel
theorem d_MO_where_47 : decode b_MO_where 47 = .ok (.iconst 2, 1) := by decide +kernel
theorem d_MO_where_48 : decode b_MO_where 48 = .ok (.goto 4, 3) := by decide +kernel
theorem d_MO_where_51 : decode b_MO_where 51 = .ok (.iconst 0, 1) := by decide +kernel
theorem d_MO_where_52 : decode b_MO_where 52 = .ok (.putfield 92, 3) := by decide +kernel
theorem d_MO_where_55 : decode b_MO_where 55 = .ok (.aload_n 0, 1) := by decide +kernel
theorem d_MO_where_56 : decode b_MO_where 56 = .ok (.getfield 92, 3) := by decide +kernel
theorem d_MO_where_59 : decode b_MO_where 59 = .ok (.ifCond .le 5, 3) := by decide +kernel
theorem d_MO_where_62 : decode b_MO_where 62 = .ok (.iconst 0, 1) := by decide +kernel
theorem d_MO_where_63 : decode b_MO_where 63 = .ok (.ireturn, 1) := by decide +kernel
theorem d_MO_where_64 : decode b_MO_where 64 = .ok (.iload_n 2, 1) := by decide +kernel
