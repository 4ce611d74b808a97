theorem d_MO_lay_0 : decode b_MO_lay 0 = .ok (.aload_n 0, 1) := by decide +kernel
theorem d_MO_lay_1 : decode b_MO_lay 1 = .ok (.iconst 0, 1) := by decide +kernel
theorem d_MO_lay_2 : decode b_MO_lay 2 = .ok (.putfield 92, 3) := by decide +kernel
theorem d_MO_lay_5 : decode b_MO_lay 5 = .ok (.aload_n 0, 1) := by decide +kernel
theorem d_MO_lay_6 : decode b_MO_lay 6 = .ok (.iconst 1, 1) := by decide +kernel
theorem d_MO_lay_7 : decode b_MO_lay 7 = .ok (.putfield 98, 3) := by decide +kernel
theorem d_MO_lay_10 : decode b_MO_lay 10 = .ok (.aload_n 0, 1) := by decide +kernel
theorem d_MO_lay_11 : decode b_MO_lay 11 = .ok (.iconst 0, 1) := by decide +kernel
theorem d_MO_lay_12 : decode b_MO_lay 12 = .ok (.putfield 151, 3) := by decide +kernel
theorem d_MO_lay_15 : decode b_MO_lay 15 = .ok (.aload_n 0, 1) := by decide +kernel
theorem d_MO_lay_16 : decode b_MO_lay 16 = .ok (.iconst 0, 1) := by decide +kernel
theorem d_MO_lay_17 : decode b_MO_lay 17 = .ok (.putfield 166, 3) := by decide +kernel
theorem d_MO_lay_20 : decode b_MO_lay 20 = .ok (.iconst 0, 1) := by decide +kernel
theorem d_MO_lay_21 : decode b_MO_lay 21 = .ok (.istore_n 1, 1) := by decide +kernel
theorem d_MO_lay_22 : decode b_MO_lay 22 = .ok (.iload_n 1, 1) := by decide +kernel
theorem d_MO_lay_23 : decode b_MO_lay 23 = .ok (.aload_n 0, 1) := by decide +kernel
theorem d_MO_lay_24 : decode b_MO_lay 24 = .ok (.getfield 95, 3) := by decide +kernel
theorem d_MO_lay_27 : decode b_MO_lay 27 = .ok (.if_icmp .ge 96, 3) := by decide +kernel
theorem d_MO_lay_30 : decode b_MO_lay 30 = .ok (.aload_n 0, 1) := by decide +kernel
theorem d_MO_lay_31 : decode b_MO_lay 31 = .ok (.getfield 19, 3) := by decide +kernel
theorem d_MO_lay_34 : decode b_MO_lay 34 = .ok (.iload_n 1, 1) := by decide +kernel
theorem d_MO_lay_35 : decode b_MO_lay 35 = .ok (.iaload, 1) := by decide +kernel
theorem d_MO_lay_36 : decode b_MO_lay 36 = .ok (.istore_n 2, 1) := by decide +kernel
theorem d_MO_lay_37 : decode b_MO_lay 37 = .ok (.iconst 1, 1) := by decide +kernel
theorem d_MO_lay_38 : decode b_MO_lay 38 = .ok (.istore_n 3, 1) := by decide +kernel
theorem d_MO_lay_39 : decode b_MO_lay 39 = .ok (.iload_n 3, 1) := by decide +kernel
theorem d_MO_lay_40 : decode b_MO_lay 40 = .ok (.ifCond .eq 77, 3) := by decide +kernel
theorem d_MO_lay_43 : decode b_MO_lay 43 = .ok (.iload_n 2, 1) := by decide +kernel
theorem d_MO_lay_44 : decode b_MO_lay 44 = .ok (.aload_n 0, 1) := by decide +kernel
theorem d_MO_lay_45 : decode b_MO_lay 45 = .ok (.getfield 19, 3) := by decide +kernel
theorem d_MO_lay_48 : decode b_MO_lay 48 = .ok (.iload_n 1, 1) := by decide +kernel
theorem d_MO_lay_49 : decode b_MO_lay 49 = .ok (.iconst 1, 1) := by decide +kernel
theorem d_MO_lay_50 : decode b_MO_lay 50 = .ok (.iadd, 1) := by decide +kernel
theorem d_MO_lay_51 : decode b_MO_lay 51 = .ok (.iaload, 1) := by decide +kernel
theorem d_MO_lay_52 : decode b_MO_lay 52 = .ok (.if_icmp .ge 12, 3) := by decide +kernel
theorem d_MO_lay_55 : decode b_MO_lay 55 = .ok (.aload_n 0, 1) := by decide +kernel
theorem d_MO_lay_56 : decode b_MO_lay 56 = .ok (.iload_n 1, 1) := by decide +kernel
theorem d_MO_lay_57 : decode b_MO_lay 57 = .ok (.iload_n 2, 1) := by decide +kernel
theorem d_MO_lay_58 : decode b_MO_lay 58 = .ok (.invokevirtual 169, 3) := by decide +kernel
theorem d_MO_lay_61 : decode b_MO_lay 61 = .ok (.goto 4, 3) := by decide +kernel
theorem d_MO_lay_64 : decode b_MO_lay 64 = .ok (.iload_n 2, 1) := by decide +kernel
theorem d_MO_lay_65 : decode b_MO_lay 65 = .ok (.istore 4, 2) := by decide +kernel
theorem d_MO_lay_67 : decode b_MO_lay 67 = .ok (.aload_n 0, 1) := by decide +kernel
theorem d_MO_lay_68 : decode b_MO_lay 68 = .ok (.iload_n 1, 1) := by decide +kernel
theorem d_MO_lay_69 : decode b_MO_lay 69 = .ok (.iload_n 2, 1) := by decide +kernel
theorem d_MO_lay_70 : decode b_MO_lay 70 = .ok (.iload 4, 2) := by decide +kernel
theorem d_MO_lay_72 : decode b_MO_lay 72 = .ok (.iload 4, 2) := by decide +kernel
theorem d_MO_lay_74 : decode b_MO_lay 74 = .ok (.aload_n 0, 1) := by decide +kernel
theorem d_MO_lay_75 : decode b_MO_lay 75 = .ok (.getfield 19, 3) := by decide +kernel
theorem d_MO_lay_78 : decode b_MO_lay 78 = .ok (.iload_n 1, 1) := by decide +kernel
theorem d_MO_lay_79 : decode b_MO_lay 79 = .ok (.iconst 1, 1) := by decide +kernel
theorem d_MO_lay_80 : decode b_MO_lay 80 = .ok (.iadd, 1) := by decide +kernel
theorem d_MO_lay_81 : decode b_MO_lay 81 = .ok (.iaload, 1) := by decide +kernel
theorem d_MO_lay_82 : decode b_MO_lay 82 = .ok (.if_icmp .ne 7, 3) := by decide +kernel
theorem d_MO_lay_85 : decode b_MO_lay 85 = .ok (.iconst 1, 1) := by decide +kernel
theorem d_MO_lay_86 : decode b_MO_lay 86 = .ok (.goto 4, 3) := by decide +kernel
theorem d_MO_lay_89 : decode b_MO_lay 89 = .ok (.iconst 0, 1) := by decide +kernel
theorem d_MO_lay_90 : decode b_MO_lay 90 = .ok (.invokevirtual 172, 3) := by decide +kernel
theorem d_MO_lay_93 : decode b_MO_lay 93 = .ok (.iload 4, 2) := by decide +kernel
theorem d_MO_lay_95 : decode b_MO_lay 95 = .ok (.istore_n 2, 1) := by decide +kernel
theorem d_MO_lay_96 : decode b_MO_lay 96 = .ok (.iload_n 2, 1) := by decide +kernel
theorem d_MO_lay_97 : decode b_MO_lay 97 = .ok (.aload_n 0, 1) := by decide +kernel
theorem d_MO_lay_98 : decode b_MO_lay 98 = .ok (.getfield 19, 3) := by decide +kernel
theorem d_MO_lay_101 : decode b_MO_lay 101 = .ok (.iload_n 1, 1) := by decide +kernel
theorem d_MO_lay_102 : decode b_MO_lay 102 = .ok (.iconst 1, 1) := by decide +kernel
theorem d_MO_lay_103 : decode b_MO_lay 103 = .ok (.iadd, 1) := by decide +kernel
theorem d_MO_lay_104 : decode b_MO_lay 104 = .ok (.iaload, 1) := by decide +kernel
theorem d_MO_lay_105 : decode b_MO_lay 105 = .ok (.if_icmp .ge 7, 3) := by decide +kernel
theorem d_MO_lay_108 : decode b_MO_lay 108 = .ok (.iconst 1, 1) := by decide +kernel
theorem d_MO_lay_109 : decode b_MO_lay 109 = .ok (.goto 4, 3) := by decide +kernel
theorem d_MO_lay_112 : decode b_MO_lay 112 = .ok (.iconst 0, 1) := by decide +kernel
theorem d_MO_lay_113 : decode b_MO_lay 113 = .ok (.istore_n 3, 1) := by decide +kernel
theorem d_MO_lay_114 : decode b_MO_lay 114 = .ok (.goto (-75), 3) := by decide +kernel
theorem d_MO_lay_117 : decode b_MO_lay 117 = .ok (.iinc 1 1, 3) := by decide +kernel
theorem d_MO_lay_120 : decode b_MO_lay 120 = .ok (.goto (-98), 3) := by decide +kernel
theorem d_MO_lay_123 : decode b_MO_lay 123 = .ok (.iconst 0, 1) := by decide +kernel
theorem d_MO_lay_124 : decode b_MO_lay 124 = .ok (.istore_n 1, 1) := by decide +kernel
theorem d_MO_lay_125 : decode b_MO_lay 125 = .ok (.iload_n 1, 1) := by decide +kernel
theorem d_MO_lay_126 : decode b_MO_lay 126 = .ok (.aload_n 0, 1) := by decide +kernel
theorem d_MO_lay_127 : decode b_MO_lay 127 = .ok (.getfield 151, 3) := by decide +kernel
theorem d_MO_lay_130 : decode b_MO_lay 130 = .ok (.if_icmp .ge 103, 3) := by decide +kernel
theorem d_MO_lay_133 : decode b_MO_lay 133 = .ok (.aload_n 0, 1) := by decide +kernel
theorem d_MO_lay_134 : decode b_MO_lay 134 = .ok (.iload_n 1, 1) := by decide +kernel
theorem d_MO_lay_135 : decode b_MO_lay 135 = .ok (.invokevirtual 176, 3) := by decide +kernel
theorem d_MO_lay_138 : decode b_MO_lay 138 = .ok (.istore_n 2, 1) := by decide +kernel
theorem d_MO_lay_139 : decode b_MO_lay 139 = .ok (.aload_n 0, 1) := by decide +kernel
theorem d_MO_lay_140 : decode b_MO_lay 140 = .ok (.getfield 89, 3) := by decide +kernel
theorem d_MO_lay_143 : decode b_MO_lay 143 = .ok (.aload_n 0, 1) := by decide +kernel
theorem d_MO_lay_144 : decode b_MO_lay 144 = .ok (.getfield 166, 3) := by decide +kernel
theorem d_MO_lay_147 : decode b_MO_lay 147 = .ok (.iload_n 1, 1) := by decide +kernel
theorem d_MO_lay_148 : decode b_MO_lay 148 = .ok (.iastore, 1) := by decide +kernel
theorem d_MO_lay_149 : decode b_MO_lay 149 = .ok (.iconst 0, 1) := by decide +kernel
theorem d_MO_lay_150 : decode b_MO_lay 150 = .ok (.istore_n 3, 1) := by decide +kernel
theorem d_MO_lay_151 : decode b_MO_lay 151 = .ok (.iload_n 1, 1) := by decide +kernel
theorem d_MO_lay_152 : decode b_MO_lay 152 = .ok (.istore 4, 2) := by decide +kernel
theorem d_MO_lay_154 : decode b_MO_lay 154 = .ok (.iload 4, 2) := by decide +kernel
theorem d_MO_lay_156 : decode b_MO_lay 156 = .ok (.iload_n 1, 1) := by decide +kernel
theorem d_MO_lay_157 : decode b_MO_lay 157 = .ok (.iload_n 2, 1) := by decide +kernel
theorem d_MO_lay_158 : decode b_MO_lay 158 = .ok (.iadd, 1) := by decide +kernel
theorem d_MO_lay_159 : decode b_MO_lay 159 = .ok (.if_icmp .ge 57, 3) := by decide +kernel
theorem d_MO_lay_162 : decode b_MO_lay 162 = .ok (.iload_n 3, 1) := by decide +kernel
theorem d_MO_lay_163 : decode b_MO_lay 163 = .ok (.iload 4, 2) := by decide +kernel
theorem d_MO_lay_165 : decode b_MO_lay 165 = .ok (.iload_n 1, 1) := by decide +kernel
theorem d_MO_lay_166 : decode b_MO_lay 166 = .ok (.if_icmp .le 12, 3) := by decide +kernel
theorem d_MO_lay_169 : decode b_MO_lay 169 = .ok (.aload_n 0, 1) := by decide +kernel
theorem d_MO_lay_170 : decode b_MO_lay 170 = .ok (.iload 4, 2) := by decide +kernel
theorem d_MO_lay_172 : decode b_MO_lay 172 = .ok (.invokevirtual 157, 3) := by decide +kernel
theorem d_MO_lay_175 : decode b_MO_lay 175 = .ok (.goto 4, 3) := by decide +kernel
theorem d_MO_lay_178 : decode b_MO_lay 178 = .ok (.iconst 0, 1) := by decide +kernel
theorem d_MO_lay_179 : decode b_MO_lay 179 = .ok (.iadd, 1) := by decide +kernel
theorem d_MO_lay_180 : decode b_MO_lay 180 = .ok (.istore_n 3, 1) := by decide +kernel
theorem d_MO_lay_181 : decode b_MO_lay 181 = .ok (.aload_n 0, 1) := by decide +kernel
theorem d_MO_lay_182 : decode b_MO_lay 182 = .ok (.getfield 68, 3) := by decide +kernel
theorem d_MO_lay_185 : decode b_MO_lay 185 = .ok (.iload 4, 2) := by decide +kernel
theorem d_MO_lay_187 : decode b_MO_lay 187 = .ok (.aload_n 0, 1) := by decide +kernel
theorem d_MO_lay_188 : decode b_MO_lay 188 = .ok (.getfield 166, 3) := by decide +kernel
theorem d_MO_lay_191 : decode b_MO_lay 191 = .ok (.iastore, 1) := by decide +kernel
theorem d_MO_lay_192 : decode b_MO_lay 192 = .ok (.aload_n 0, 1) := by decide +kernel
theorem d_MO_lay_193 : decode b_MO_lay 193 = .ok (.getfield 71, 3) := by decide +kernel
theorem d_MO_lay_196 : decode b_MO_lay 196 = .ok (.iload 4, 2) := by decide +kernel
theorem d_MO_lay_198 : decode b_MO_lay 198 = .ok (.iload_n 3, 1) := by decide +kernel
theorem d_MO_lay_199 : decode b_MO_lay 199 = .ok (.iastore, 1) := by decide +kernel
theorem d_MO_lay_200 : decode b_MO_lay 200 = .ok (.iload_n 3, 1) := by decide +kernel
theorem d_MO_lay_201 : decode b_MO_lay 201 = .ok (.aload_n 0, 1) := by decide +kernel
theorem d_MO_lay_202 : decode b_MO_lay 202 = .ok (.getfield 65, 3) := by decide +kernel
theorem d_MO_lay_205 : decode b_MO_lay 205 = .ok (.iload 4, 2) := by decide +kernel
theorem d_MO_lay_207 : decode b_MO_lay 207 = .ok (.iaload, 1) := by decide +kernel
theorem d_MO_lay_208 : decode b_MO_lay 208 = .ok (.iadd, 1) := by decide +kernel
theorem d_MO_lay_209 : decode b_MO_lay 209 = .ok (.istore_n 3, 1) := by decide +kernel
theorem d_MO_lay_210 : decode b_MO_lay 210 = .ok (.iinc 4 1, 3) := by decide +kernel
theorem d_MO_lay_213 : decode b_MO_lay 213 = .ok (.goto (-59), 3) := by decide +kernel
theorem d_MO_lay_216 : decode b_MO_lay 216 = .ok (.iload_n 1, 1) := by decide +kernel
theorem d_MO_lay_217 : decode b_MO_lay 217 = .ok (.iload_n 2, 1) := by decide +kernel
theorem d_MO_lay_218 : decode b_MO_lay 218 = .ok (.iadd, 1) := by decide +kernel
theorem d_MO_lay_219 : decode b_MO_lay 219 = .ok (.istore_n 1, 1) := by decide +kernel
theorem d_MO_lay_220 : decode b_MO_lay 220 = .ok (.aload_n 0, 1) := by decide +kernel
theorem d_MO_lay_221 : decode b_MO_lay 221 = .ok (.dup, 1) := by decide +kernel
theorem d_MO_lay_222 : decode b_MO_lay 222 = .ok (.getfield 166, 3) := by decide +kernel
theorem d_MO_lay_225 : decode b_MO_lay 225 = .ok (.iconst 1, 1) := by decide +kernel
theorem d_MO_lay_226 : decode b_MO_lay 226 = .ok (.iadd, 1) := by decide +kernel
theorem d_MO_lay_227 : decode b_MO_lay 227 = .ok (.putfield 166, 3) := by decide +kernel
theorem d_MO_lay_230 : decode b_MO_lay 230 = .ok (.goto (-105), 3) := by decide +kernel
theorem d_MO_lay_233 : decode b_MO_lay 233 = .ok (.aload_n 0, 1) := by decide +kernel
theorem d_MO_lay_234 : decode b_MO_lay 234 = .ok (.getfield 89, 3) := by decide +kernel
theorem d_MO_lay_237 : decode b_MO_lay 237 = .ok (.aload_n 0, 1) := by decide +kernel
theorem d_MO_lay_238 : decode b_MO_lay 238 = .ok (.getfield 166, 3) := by decide +kernel
theorem d_MO_lay_241 : decode b_MO_lay 241 = .ok (.aload_n 0, 1) := by decide +kernel
theorem d_MO_lay_242 : decode b_MO_lay 242 = .ok (.getfield 151, 3) := by decide +kernel
theorem d_MO_lay_245 : decode b_MO_lay 245 = .ok (.iastore, 1) := by decide +kernel
theorem d_MO_lay_246 : decode b_MO_lay 246 = .ok (.aload_n 0, 1) := by decide +kernel
theorem d_MO_lay_247 : decode b_MO_lay 247 = .ok (.getfield 166, 3) := by decide +kernel
theorem d_MO_lay_250 : decode b_MO_lay 250 = .ok (.ireturn, 1) := by decide +kernel
