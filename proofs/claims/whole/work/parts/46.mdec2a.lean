theorem d_MO_layLine_0 : decode b_MO_layLine 0 = .ok (.aload_n 0, 1) := by decide +kernel
theorem d_MO_layLine_1 : decode b_MO_layLine 1 = .ok (.getfield 151, 3) := by decide +kernel
theorem d_MO_layLine_4 : decode b_MO_layLine 4 = .ok (.istore 5, 2) := by decide +kernel
theorem d_MO_layLine_6 : decode b_MO_layLine 6 = .ok (.aload_n 0, 1) := by decide +kernel
theorem d_MO_layLine_7 : decode b_MO_layLine 7 = .ok (.iload_n 1, 1) := by decide +kernel
theorem d_MO_layLine_8 : decode b_MO_layLine 8 = .ok (.iload_n 2, 1) := by decide +kernel
theorem d_MO_layLine_9 : decode b_MO_layLine 9 = .ok (.iload_n 3, 1) := by decide +kernel
theorem d_MO_layLine_10 : decode b_MO_layLine 10 = .ok (.invokevirtual 144, 3) := by decide +kernel
theorem d_MO_layLine_13 : decode b_MO_layLine 13 = .ok (.istore 6, 2) := by decide +kernel
theorem d_MO_layLine_15 : decode b_MO_layLine 15 = .ok (.aload_n 0, 1) := by decide +kernel
theorem d_MO_layLine_16 : decode b_MO_layLine 16 = .ok (.iload_n 1, 1) := by decide +kernel
theorem d_MO_layLine_17 : decode b_MO_layLine 17 = .ok (.invokevirtual 148, 3) := by decide +kernel
theorem d_MO_layLine_20 : decode b_MO_layLine 20 = .ok (.iload 6, 2) := by decide +kernel
theorem d_MO_layLine_22 : decode b_MO_layLine 22 = .ok (.if_icmp .le 14, 3) := by decide +kernel
theorem d_MO_layLine_25 : decode b_MO_layLine 25 = .ok (.aload_n 0, 1) := by decide +kernel
theorem d_MO_layLine_26 : decode b_MO_layLine 26 = .ok (.iload_n 1, 1) := by decide +kernel
theorem d_MO_layLine_27 : decode b_MO_layLine 27 = .ok (.invokevirtual 148, 3) := by decide +kernel
theorem d_MO_layLine_30 : decode b_MO_layLine 30 = .ok (.iload 6, 2) := by decide +kernel
theorem d_MO_layLine_32 : decode b_MO_layLine 32 = .ok (.isub, 1) := by decide +kernel
theorem d_MO_layLine_33 : decode b_MO_layLine 33 = .ok (.goto 4, 3) := by decide +kernel
theorem d_MO_layLine_36 : decode b_MO_layLine 36 = .ok (.iconst 0, 1) := by decide +kernel
theorem d_MO_layLine_37 : decode b_MO_layLine 37 = .ok (.istore 7, 2) := by decide +kernel
theorem d_MO_layLine_39 : decode b_MO_layLine 39 = .ok (.aload_n 0, 1) := by decide +kernel
theorem d_MO_layLine_40 : decode b_MO_layLine 40 = .ok (.getfield 23, 3) := by decide +kernel
theorem d_MO_layLine_43 : decode b_MO_layLine 43 = .ok (.bipush 11, 2) := by decide +kernel
theorem d_MO_layLine_45 : decode b_MO_layLine 45 = .ok (.iload_n 1, 1) := by decide +kernel
theorem d_MO_layLine_46 : decode b_MO_layLine 46 = .ok (.imul, 1) := by decide +kernel
theorem d_MO_layLine_47 : decode b_MO_layLine 47 = .ok (.iconst 5, 1) := by decide +kernel
theorem d_MO_layLine_48 : decode b_MO_layLine 48 = .ok (.iadd, 1) := by decide +kernel
theorem d_MO_layLine_49 : decode b_MO_layLine 49 = .ok (.iaload, 1) := by decide +kernel
theorem d_MO_layLine_50 : decode b_MO_layLine 50 = .ok (.istore 8, 2) := by decide +kernel
theorem d_MO_layLine_52 : decode b_MO_layLine 52 = .ok (.aload_n 0, 1) := by decide +kernel
theorem d_MO_layLine_53 : decode b_MO_layLine 53 = .ok (.iload_n 2, 1) := by decide +kernel
theorem d_MO_layLine_54 : decode b_MO_layLine 54 = .ok (.iload_n 3, 1) := by decide +kernel
theorem d_MO_layLine_55 : decode b_MO_layLine 55 = .ok (.invokevirtual 130, 3) := by decide +kernel
theorem d_MO_layLine_58 : decode b_MO_layLine 58 = .ok (.istore 9, 2) := by decide +kernel
theorem d_MO_layLine_60 : decode b_MO_layLine 60 = .ok (.aload_n 0, 1) := by decide +kernel
theorem d_MO_layLine_61 : decode b_MO_layLine 61 = .ok (.getfield 50, 3) := by decide +kernel
theorem d_MO_layLine_64 : decode b_MO_layLine 64 = .ok (.iload 5, 2) := by decide +kernel
theorem d_MO_layLine_66 : decode b_MO_layLine 66 = .ok (.iload_n 1, 1) := by decide +kernel
theorem d_MO_layLine_67 : decode b_MO_layLine 67 = .ok (.iastore, 1) := by decide +kernel
theorem d_MO_layLine_68 : decode b_MO_layLine 68 = .ok (.aload_n 0, 1) := by decide +kernel
theorem d_MO_layLine_69 : decode b_MO_layLine 69 = .ok (.getfield 53, 3) := by decide +kernel
theorem d_MO_layLine_72 : decode b_MO_layLine 72 = .ok (.iload 5, 2) := by decide +kernel
theorem d_MO_layLine_74 : decode b_MO_layLine 74 = .ok (.iload_n 2, 1) := by decide +kernel
theorem d_MO_layLine_75 : decode b_MO_layLine 75 = .ok (.iastore, 1) := by decide +kernel
theorem d_MO_layLine_76 : decode b_MO_layLine 76 = .ok (.aload_n 0, 1) := by decide +kernel
theorem d_MO_layLine_77 : decode b_MO_layLine 77 = .ok (.getfield 56, 3) := by decide +kernel
theorem d_MO_layLine_80 : decode b_MO_layLine 80 = .ok (.iload 5, 2) := by decide +kernel
theorem d_MO_layLine_82 : decode b_MO_layLine 82 = .ok (.iload_n 3, 1) := by decide +kernel
theorem d_MO_layLine_83 : decode b_MO_layLine 83 = .ok (.iload_n 2, 1) := by decide +kernel
theorem d_MO_layLine_84 : decode b_MO_layLine 84 = .ok (.isub, 1) := by decide +kernel
theorem d_MO_layLine_85 : decode b_MO_layLine 85 = .ok (.iastore, 1) := by decide +kernel
theorem d_MO_layLine_86 : decode b_MO_layLine 86 = .ok (.aload_n 0, 1) := by decide +kernel
theorem d_MO_layLine_87 : decode b_MO_layLine 87 = .ok (.getfield 59, 3) := by decide +kernel
theorem d_MO_layLine_90 : decode b_MO_layLine 90 = .ok (.iload 5, 2) := by decide +kernel
theorem d_MO_layLine_92 : decode b_MO_layLine 92 = .ok (.aload_n 0, 1) := by decide +kernel
theorem d_MO_layLine_93 : decode b_MO_layLine 93 = .ok (.iload_n 1, 1) := by decide +kernel
theorem d_MO_layLine_94 : decode b_MO_layLine 94 = .ok (.iload_n 2, 1) := by decide +kernel
theorem d_MO_layLine_95 : decode b_MO_layLine 95 = .ok (.invokevirtual 133, 3) := by decide +kernel
theorem d_MO_layLine_98 : decode b_MO_layLine 98 = .ok (.iastore, 1) := by decide +kernel
theorem d_MO_layLine_99 : decode b_MO_layLine 99 = .ok (.aload_n 0, 1) := by decide +kernel
theorem d_MO_layLine_100 : decode b_MO_layLine 100 = .ok (.getfield 62, 3) := by decide +kernel
theorem d_MO_layLine_103 : decode b_MO_layLine 103 = .ok (.iload 5, 2) := by decide +kernel
theorem d_MO_layLine_105 : decode b_MO_layLine 105 = .ok (.iload 6, 2) := by decide +kernel
theorem d_MO_layLine_107 : decode b_MO_layLine 107 = .ok (.iastore, 1) := by decide +kernel
theorem d_MO_layLine_108 : decode b_MO_layLine 108 = .ok (.aload_n 0, 1) := by decide +kernel
theorem d_MO_layLine_109 : decode b_MO_layLine 109 = .ok (.getfield 74, 3) := by decide +kernel
theorem d_MO_layLine_112 : decode b_MO_layLine 112 = .ok (.iload 5, 2) := by decide +kernel
theorem d_MO_layLine_114 : decode b_MO_layLine 114 = .ok (.iload 8, 2) := by decide +kernel
theorem d_MO_layLine_116 : decode b_MO_layLine 116 = .ok (.iconst 1, 1) := by decide +kernel
theorem d_MO_layLine_117 : decode b_MO_layLine 117 = .ok (.if_icmp .ne 8, 3) := by decide +kernel
theorem d_MO_layLine_120 : decode b_MO_layLine 120 = .ok (.iload 7, 2) := by decide +kernel
theorem d_MO_layLine_122 : decode b_MO_layLine 122 = .ok (.goto 17, 3) := by decide +kernel
theorem d_MO_layLine_125 : decode b_MO_layLine 125 = .ok (.iload 8, 2) := by decide +kernel
theorem d_MO_layLine_127 : decode b_MO_layLine 127 = .ok (.iconst 2, 1) := by decide +kernel
theorem d_MO_layLine_128 : decode b_MO_layLine 128 = .ok (.if_icmp .ne 10, 3) := by decide +kernel
theorem d_MO_layLine_131 : decode b_MO_layLine 131 = .ok (.iload 7, 2) := by decide +kernel
theorem d_MO_layLine_133 : decode b_MO_layLine 133 = .ok (.iconst 2, 1) := by decide +kernel
theorem d_MO_layLine_134 : decode b_MO_layLine 134 = .ok (.idiv, 1) := by decide +kernel
theorem d_MO_layLine_135 : decode b_MO_layLine 135 = .ok (.goto 4, 3) := by decide +kernel
theorem d_MO_layLine_138 : decode b_MO_layLine 138 = .ok (.iconst 0, 1) := by decide +kernel
theorem d_MO_layLine_139 : decode b_MO_layLine 139 = .ok (.iastore, 1) := by decide +kernel
theorem d_MO_layLine_140 : decode b_MO_layLine 140 = .ok (.aload_n 0, 1) := by decide +kernel
theorem d_MO_layLine_141 : decode b_MO_layLine 141 = .ok (.getfield 65, 3) := by decide +kernel
theorem d_MO_layLine_144 : decode b_MO_layLine 144 = .ok (.iload 5, 2) := by decide +kernel
theorem d_MO_layLine_146 : decode b_MO_layLine 146 = .ok (.aload_n 0, 1) := by decide +kernel
theorem d_MO_layLine_147 : decode b_MO_layLine 147 = .ok (.getfield 23, 3) := by decide +kernel
theorem d_MO_layLine_150 : decode b_MO_layLine 150 = .ok (.bipush 11, 2) := by decide +kernel
theorem d_MO_layLine_152 : decode b_MO_layLine 152 = .ok (.iload_n 1, 1) := by decide +kernel
theorem d_MO_layLine_153 : decode b_MO_layLine 153 = .ok (.imul, 1) := by decide +kernel
theorem d_MO_layLine_154 : decode b_MO_layLine 154 = .ok (.bipush 10, 2) := by decide +kernel
theorem d_MO_layLine_156 : decode b_MO_layLine 156 = .ok (.iadd, 1) := by decide +kernel
theorem d_MO_layLine_157 : decode b_MO_layLine 157 = .ok (.iaload, 1) := by decide +kernel
theorem d_MO_layLine_158 : decode b_MO_layLine 158 = .ok (.iastore, 1) := by decide +kernel
theorem d_MO_layLine_159 : decode b_MO_layLine 159 = .ok (.iconst 0, 1) := by decide +kernel
theorem d_MO_layLine_160 : decode b_MO_layLine 160 = .ok (.istore 10, 2) := by decide +kernel
theorem d_MO_layLine_162 : decode b_MO_layLine 162 = .ok (.iload_n 2, 1) := by decide +kernel
theorem d_MO_layLine_163 : decode b_MO_layLine 163 = .ok (.istore 11, 2) := by decide +kernel
theorem d_MO_layLine_165 : decode b_MO_layLine 165 = .ok (.iload 11, 2) := by decide +kernel
theorem d_MO_layLine_167 : decode b_MO_layLine 167 = .ok (.iload_n 3, 1) := by decide +kernel
theorem d_MO_layLine_168 : decode b_MO_layLine 168 = .ok (.if_icmp .ge 93, 3) := by decide +kernel
theorem d_MO_layLine_171 : decode b_MO_layLine 171 = .ok (.aload_n 0, 1) := by decide +kernel
theorem d_MO_layLine_172 : decode b_MO_layLine 172 = .ok (.getfield 65, 3) := by decide +kernel
theorem d_MO_layLine_175 : decode b_MO_layLine 175 = .ok (.iload 5, 2) := by decide +kernel
theorem d_MO_layLine_177 : decode b_MO_layLine 177 = .ok (.aload_n 0, 1) := by decide +kernel
theorem d_MO_layLine_178 : decode b_MO_layLine 178 = .ok (.getfield 41, 3) := by decide +kernel
theorem d_MO_layLine_181 : decode b_MO_layLine 181 = .ok (.iload 11, 2) := by decide +kernel
theorem d_MO_layLine_183 : decode b_MO_layLine 183 = .ok (.iaload, 1) := by decide +kernel
theorem d_MO_layLine_184 : decode b_MO_layLine 184 = .ok (.aload_n 0, 1) := by decide +kernel
theorem d_MO_layLine_185 : decode b_MO_layLine 185 = .ok (.getfield 65, 3) := by decide +kernel
theorem d_MO_layLine_188 : decode b_MO_layLine 188 = .ok (.iload 5, 2) := by decide +kernel
theorem d_MO_layLine_190 : decode b_MO_layLine 190 = .ok (.iaload, 1) := by decide +kernel
theorem d_MO_layLine_191 : decode b_MO_layLine 191 = .ok (.if_icmp .le 13, 3) := by decide +kernel
theorem d_MO_layLine_194 : decode b_MO_layLine 194 = .ok (.aload_n 0, 1) := by decide +kernel
theorem d_MO_layLine_195 : decode b_MO_layLine 195 = .ok (.getfield 41, 3) := by decide +kernel
theorem d_MO_layLine_198 : decode b_MO_layLine 198 = .ok (.iload 11, 2) := by decide +kernel
theorem d_MO_layLine_200 : decode b_MO_layLine 200 = .ok (.iaload, 1) := by decide +kernel
theorem d_MO_layLine_201 : decode b_MO_layLine 201 = .ok (.goto 10, 3) := by decide +kernel
theorem d_MO_layLine_204 : decode b_MO_layLine 204 = .ok (.aload_n 0, 1) := by decide +kernel
theorem d_MO_layLine_205 : decode b_MO_layLine 205 = .ok (.getfield 65, 3) := by decide +kernel
theorem d_MO_layLine_208 : decode b_MO_layLine 208 = .ok (.iload 5, 2) := by decide +kernel
theorem d_MO_layLine_210 : decode b_MO_layLine 210 = .ok (.iaload, 1) := by decide +kernel
theorem d_MO_layLine_211 : decode b_MO_layLine 211 = .ok (.iastore, 1) := by decide +kernel
theorem d_MO_layLine_212 : decode b_MO_layLine 212 = .ok (.aload_n 0, 1) := by decide +kernel
theorem d_MO_layLine_213 : decode b_MO_layLine 213 = .ok (.getfield 35, 3) := by decide +kernel
theorem d_MO_layLine_216 : decode b_MO_layLine 216 = .ok (.iload 11, 2) := by decide +kernel
theorem d_MO_layLine_218 : decode b_MO_layLine 218 = .ok (.iaload, 1) := by decide +kernel
theorem d_MO_layLine_219 : decode b_MO_layLine 219 = .ok (.iconst 2, 1) := by decide +kernel
theorem d_MO_layLine_220 : decode b_MO_layLine 220 = .ok (.if_icmp .ne 7, 3) := by decide +kernel
theorem d_MO_layLine_223 : decode b_MO_layLine 223 = .ok (.iconst 0, 1) := by decide +kernel
theorem d_MO_layLine_224 : decode b_MO_layLine 224 = .ok (.goto 29, 3) := by decide +kernel
theorem d_MO_layLine_227 : decode b_MO_layLine 227 = .ok (.iload 10, 2) := by decide +kernel
theorem d_MO_layLine_229 : decode b_MO_layLine 229 = .ok (.aload_n 0, 1) := by decide +kernel
theorem d_MO_layLine_230 : decode b_MO_layLine 230 = .ok (.getfield 35, 3) := by decide +kernel
theorem d_MO_layLine_233 : decode b_MO_layLine 233 = .ok (.iload 11, 2) := by decide +kernel
theorem d_MO_layLine_235 : decode b_MO_layLine 235 = .ok (.iaload, 1) := by decide +kernel
theorem d_MO_layLine_236 : decode b_MO_layLine 236 = .ok (.iconst 1, 1) := by decide +kernel
theorem d_MO_layLine_237 : decode b_MO_layLine 237 = .ok (.if_icmp .ne 14, 3) := by decide +kernel
theorem d_MO_layLine_240 : decode b_MO_layLine 240 = .ok (.iload 11, 2) := by decide +kernel
