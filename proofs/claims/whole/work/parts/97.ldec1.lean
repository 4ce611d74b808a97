theorem d_law_167 : decode code 167 = .ok (.iaload, 1) := by decide +kernel
theorem d_law_168 : decode code 168 = .ok (.aload_n 0, 1) := by decide +kernel
theorem d_law_169 : decode code 169 = .ok (.iload 4, 2) := by decide +kernel
theorem d_law_171 : decode code 171 = .ok (.iconst 3, 1) := by decide +kernel
theorem d_law_172 : decode code 172 = .ok (.iadd, 1) := by decide +kernel
theorem d_law_173 : decode code 173 = .ok (.iaload, 1) := by decide +kernel
theorem d_law_174 : decode code 174 = .ok (.aload_n 3, 1) := by decide +kernel
theorem d_law_175 : decode code 175 = .ok (.invokestatic 63, 3) := by decide +kernel
theorem d_law_178 : decode code 178 = .ok (.istore 5, 2) := by decide +kernel
theorem d_law_180 : decode code 180 = .ok (.aload_n 2, 1) := by decide +kernel
theorem d_law_181 : decode code 181 = .ok (.aload_n 0, 1) := by decide +kernel
theorem d_law_182 : decode code 182 = .ok (.iload 4, 2) := by decide +kernel
theorem d_law_184 : decode code 184 = .ok (.iconst 1, 1) := by decide +kernel
theorem d_law_185 : decode code 185 = .ok (.iadd, 1) := by decide +kernel
theorem d_law_186 : decode code 186 = .ok (.iaload, 1) := by decide +kernel
theorem d_law_187 : decode code 187 = .ok (.aload_n 0, 1) := by decide +kernel
theorem d_law_188 : decode code 188 = .ok (.iload 4, 2) := by decide +kernel
theorem d_law_190 : decode code 190 = .ok (.iconst 2, 1) := by decide +kernel
theorem d_law_191 : decode code 191 = .ok (.iadd, 1) := by decide +kernel
theorem d_law_192 : decode code 192 = .ok (.iaload, 1) := by decide +kernel
theorem d_law_193 : decode code 193 = .ok (.aload_n 0, 1) := by decide +kernel
theorem d_law_194 : decode code 194 = .ok (.iload 4, 2) := by decide +kernel
theorem d_law_196 : decode code 196 = .ok (.iconst 3, 1) := by decide +kernel
theorem d_law_197 : decode code 197 = .ok (.iadd, 1) := by decide +kernel
theorem d_law_198 : decode code 198 = .ok (.iaload, 1) := by decide +kernel
theorem d_law_199 : decode code 199 = .ok (.invokevirtual 66, 3) := by decide +kernel
theorem d_law_202 : decode code 202 = .ok (.istore 6, 2) := by decide +kernel
theorem d_law_204 : decode code 204 = .ok (.aload_n 2, 1) := by decide +kernel
theorem d_law_205 : decode code 205 = .ok (.invokevirtual 60, 3) := by decide +kernel
theorem d_law_208 : decode code 208 = .ok (.iload 5, 2) := by decide +kernel
theorem d_law_210 : decode code 210 = .ok (.if_icmp .eq 5, 3) := by decide +kernel
theorem d_law_213 : decode code 213 = .ok (.iconst 0, 1) := by decide +kernel
theorem d_law_214 : decode code 214 = .ok (.ireturn, 1) := by decide +kernel
theorem d_law_215 : decode code 215 = .ok (.iload 5, 2) := by decide +kernel
theorem d_law_217 : decode code 217 = .ok (.ifCond .ne 15, 3) := by decide +kernel
theorem d_law_220 : decode code 220 = .ok (.aload_n 3, 1) := by decide +kernel
theorem d_law_221 : decode code 221 = .ok (.iconst 0, 1) := by decide +kernel
theorem d_law_222 : decode code 222 = .ok (.laload, 1) := by decide +kernel
theorem d_law_223 : decode code 223 = .ok (.iload 6, 2) := by decide +kernel
theorem d_law_225 : decode code 225 = .ok (.i2l, 1) := by decide +kernel
theorem d_law_226 : decode code 226 = .ok (.lcmp, 1) := by decide +kernel
theorem d_law_227 : decode code 227 = .ok (.ifCond .eq 5, 3) := by decide +kernel
theorem d_law_230 : decode code 230 = .ok (.iconst 0, 1) := by decide +kernel
theorem d_law_231 : decode code 231 = .ok (.ireturn, 1) := by decide +kernel
theorem d_law_232 : decode code 232 = .ok (.goto 525, 3) := by decide +kernel
theorem d_law_235 : decode code 235 = .ok (.aload_n 1, 1) := by decide +kernel
theorem d_law_236 : decode code 236 = .ok (.aload_n 0, 1) := by decide +kernel
theorem d_law_237 : decode code 237 = .ok (.iload 4, 2) := by decide +kernel
theorem d_law_239 : decode code 239 = .ok (.iconst 1, 1) := by decide +kernel
theorem d_law_240 : decode code 240 = .ok (.iadd, 1) := by decide +kernel
theorem d_law_241 : decode code 241 = .ok (.iaload, 1) := by decide +kernel
theorem d_law_242 : decode code 242 = .ok (.aload_n 0, 1) := by decide +kernel
theorem d_law_243 : decode code 243 = .ok (.iload 4, 2) := by decide +kernel
theorem d_law_245 : decode code 245 = .ok (.iconst 2, 1) := by decide +kernel
theorem d_law_246 : decode code 246 = .ok (.iadd, 1) := by decide +kernel
theorem d_law_247 : decode code 247 = .ok (.iaload, 1) := by decide +kernel
theorem d_law_248 : decode code 248 = .ok (.aload_n 0, 1) := by decide +kernel
theorem d_law_249 : decode code 249 = .ok (.iload 4, 2) := by decide +kernel
theorem d_law_251 : decode code 251 = .ok (.iconst 3, 1) := by decide +kernel
theorem d_law_252 : decode code 252 = .ok (.iadd, 1) := by decide +kernel
theorem d_law_253 : decode code 253 = .ok (.iaload, 1) := by decide +kernel
theorem d_law_254 : decode code 254 = .ok (.invokestatic 67, 3) := by decide +kernel
theorem d_law_257 : decode code 257 = .ok (.istore 5, 2) := by decide +kernel
theorem d_law_259 : decode code 259 = .ok (.aload_n 2, 1) := by decide +kernel
theorem d_law_260 : decode code 260 = .ok (.aload_n 0, 1) := by decide +kernel
