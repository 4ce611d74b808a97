theorem d_law_0 : decode code 0 = .ok (.new 8, 3) := by decide +kernel
theorem d_law_3 : decode code 3 = .ok (.dup, 1) := by decide +kernel
theorem d_law_4 : decode code 4 = .ok (.invokespecial 46, 3) := by decide +kernel
theorem d_law_7 : decode code 7 = .ok (.astore_n 1, 1) := by decide +kernel
theorem d_law_8 : decode code 8 = .ok (.new 47, 3) := by decide +kernel
theorem d_law_11 : decode code 11 = .ok (.dup, 1) := by decide +kernel
theorem d_law_12 : decode code 12 = .ok (.invokespecial 49, 3) := by decide +kernel
theorem d_law_15 : decode code 15 = .ok (.astore_n 2, 1) := by decide +kernel
theorem d_law_16 : decode code 16 = .ok (.iconst 1, 1) := by decide +kernel
theorem d_law_17 : decode code 17 = .ok (.newarray .long, 2) := by decide +kernel
theorem d_law_19 : decode code 19 = .ok (.astore_n 3, 1) := by decide +kernel
theorem d_law_20 : decode code 20 = .ok (.iconst 0, 1) := by decide +kernel
theorem d_law_21 : decode code 21 = .ok (.istore 4, 2) := by decide +kernel
theorem d_law_23 : decode code 23 = .ok (.iload 4, 2) := by decide +kernel
theorem d_law_25 : decode code 25 = .ok (.aload_n 0, 1) := by decide +kernel
theorem d_law_26 : decode code 26 = .ok (.arraylength, 1) := by decide +kernel
theorem d_law_27 : decode code 27 = .ok (.iconst 4, 1) := by decide +kernel
theorem d_law_28 : decode code 28 = .ok (.isub, 1) := by decide +kernel
theorem d_law_29 : decode code 29 = .ok (.if_icmp .gt 734, 3) := by decide +kernel
theorem d_law_32 : decode code 32 = .ok (.aload_n 0, 1) := by decide +kernel
theorem d_law_33 : decode code 33 = .ok (.iload 4, 2) := by decide +kernel
theorem d_law_35 : decode code 35 = .ok (.iaload, 1) := by decide +kernel
theorem d_law_36 : decode code 36 = .ok (.bipush 15, 2) := by decide +kernel
theorem d_law_38 : decode code 38 = .ok (.iand, 1) := by decide +kernel
theorem d_law_39 : decode code 39 = .ok (.tableswitch 718 0 11 #[61, 72, 116, 196, 256, 336, 396, 409, 434, 502, 570, 638], 61) := by decide +kernel
theorem d_law_100 : decode code 100 = .ok (.aload_n 1, 1) := by decide +kernel
theorem d_law_101 : decode code 101 = .ok (.invokevirtual 50, 3) := by decide +kernel
theorem d_law_104 : decode code 104 = .ok (.aload_n 2, 1) := by decide +kernel
theorem d_law_105 : decode code 105 = .ok (.invokevirtual 53, 3) := by decide +kernel
theorem d_law_108 : decode code 108 = .ok (.goto 649, 3) := by decide +kernel
theorem d_law_111 : decode code 111 = .ok (.aload_n 1, 1) := by decide +kernel
theorem d_law_112 : decode code 112 = .ok (.aload_n 3, 1) := by decide +kernel
theorem d_law_113 : decode code 113 = .ok (.invokestatic 54, 3) := by decide +kernel
theorem d_law_116 : decode code 116 = .ok (.istore 5, 2) := by decide +kernel
theorem d_law_118 : decode code 118 = .ok (.aload_n 2, 1) := by decide +kernel
theorem d_law_119 : decode code 119 = .ok (.invokevirtual 59, 3) := by decide +kernel
theorem d_law_122 : decode code 122 = .ok (.istore 6, 2) := by decide +kernel
theorem d_law_124 : decode code 124 = .ok (.aload_n 2, 1) := by decide +kernel
theorem d_law_125 : decode code 125 = .ok (.invokevirtual 60, 3) := by decide +kernel
theorem d_law_128 : decode code 128 = .ok (.iload 5, 2) := by decide +kernel
theorem d_law_130 : decode code 130 = .ok (.if_icmp .eq 5, 3) := by decide +kernel
theorem d_law_133 : decode code 133 = .ok (.iconst 0, 1) := by decide +kernel
theorem d_law_134 : decode code 134 = .ok (.ireturn, 1) := by decide +kernel
theorem d_law_135 : decode code 135 = .ok (.iload 5, 2) := by decide +kernel
theorem d_law_137 : decode code 137 = .ok (.ifCond .ne 15, 3) := by decide +kernel
theorem d_law_140 : decode code 140 = .ok (.aload_n 3, 1) := by decide +kernel
theorem d_law_141 : decode code 141 = .ok (.iconst 0, 1) := by decide +kernel
theorem d_law_142 : decode code 142 = .ok (.laload, 1) := by decide +kernel
theorem d_law_143 : decode code 143 = .ok (.iload 6, 2) := by decide +kernel
theorem d_law_145 : decode code 145 = .ok (.i2l, 1) := by decide +kernel
theorem d_law_146 : decode code 146 = .ok (.lcmp, 1) := by decide +kernel
theorem d_law_147 : decode code 147 = .ok (.ifCond .eq 5, 3) := by decide +kernel
theorem d_law_150 : decode code 150 = .ok (.iconst 0, 1) := by decide +kernel
theorem d_law_151 : decode code 151 = .ok (.ireturn, 1) := by decide +kernel
theorem d_law_152 : decode code 152 = .ok (.goto 605, 3) := by decide +kernel
theorem d_law_155 : decode code 155 = .ok (.aload_n 1, 1) := by decide +kernel
theorem d_law_156 : decode code 156 = .ok (.aload_n 0, 1) := by decide +kernel
theorem d_law_157 : decode code 157 = .ok (.iload 4, 2) := by decide +kernel
theorem d_law_159 : decode code 159 = .ok (.iconst 1, 1) := by decide +kernel
theorem d_law_160 : decode code 160 = .ok (.iadd, 1) := by decide +kernel
theorem d_law_161 : decode code 161 = .ok (.iaload, 1) := by decide +kernel
theorem d_law_162 : decode code 162 = .ok (.aload_n 0, 1) := by decide +kernel
theorem d_law_163 : decode code 163 = .ok (.iload 4, 2) := by decide +kernel
theorem d_law_165 : decode code 165 = .ok (.iconst 2, 1) := by decide +kernel
theorem d_law_166 : decode code 166 = .ok (.iadd, 1) := by decide +kernel
