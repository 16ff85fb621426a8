theorem d_law_182 : decode code 182 = .ok (.iadd, 1) := by decide +kernel
theorem d_law_183 : decode code 183 = .ok (.iaload, 1) := by decide +kernel
theorem d_law_184 : decode code 184 = .ok (.aload_n 0, 1) := by decide +kernel
theorem d_law_185 : decode code 185 = .ok (.iload 4, 2) := by decide +kernel
theorem d_law_187 : decode code 187 = .ok (.iconst 2, 1) := by decide +kernel
theorem d_law_188 : decode code 188 = .ok (.iadd, 1) := by decide +kernel
theorem d_law_189 : decode code 189 = .ok (.iaload, 1) := by decide +kernel
theorem d_law_190 : decode code 190 = .ok (.aload_n 0, 1) := by decide +kernel
theorem d_law_191 : decode code 191 = .ok (.iload 4, 2) := by decide +kernel
theorem d_law_193 : decode code 193 = .ok (.iconst 3, 1) := by decide +kernel
theorem d_law_194 : decode code 194 = .ok (.iadd, 1) := by decide +kernel
theorem d_law_195 : decode code 195 = .ok (.iaload, 1) := by decide +kernel
theorem d_law_196 : decode code 196 = .ok (.ifCond .eq 7, 3) := by decide +kernel
theorem d_law_199 : decode code 199 = .ok (.iconst 1, 1) := by decide +kernel
theorem d_law_200 : decode code 200 = .ok (.goto 4, 3) := by decide +kernel
theorem d_law_203 : decode code 203 = .ok (.iconst 0, 1) := by decide +kernel
theorem d_law_204 : decode code 204 = .ok (.invokevirtual 89, 3) := by decide +kernel
theorem d_law_207 : decode code 207 = .ok (.istore 6, 2) := by decide +kernel
theorem d_law_209 : decode code 209 = .ok (.aload_n 2, 1) := by decide +kernel
theorem d_law_210 : decode code 210 = .ok (.invokevirtual 90, 3) := by decide +kernel
theorem d_law_213 : decode code 213 = .ok (.iload 5, 2) := by decide +kernel
theorem d_law_215 : decode code 215 = .ok (.if_icmp .eq 5, 3) := by decide +kernel
theorem d_law_218 : decode code 218 = .ok (.iconst 0, 1) := by decide +kernel
theorem d_law_219 : decode code 219 = .ok (.ireturn, 1) := by decide +kernel
theorem d_law_220 : decode code 220 = .ok (.iload 5, 2) := by decide +kernel
theorem d_law_222 : decode code 222 = .ok (.ifCond .ne 15, 3) := by decide +kernel
theorem d_law_225 : decode code 225 = .ok (.aload_n 3, 1) := by decide +kernel
theorem d_law_226 : decode code 226 = .ok (.iconst 0, 1) := by decide +kernel
theorem d_law_227 : decode code 227 = .ok (.laload, 1) := by decide +kernel
theorem d_law_228 : decode code 228 = .ok (.iload 6, 2) := by decide +kernel
theorem d_law_230 : decode code 230 = .ok (.i2l, 1) := by decide +kernel
theorem d_law_231 : decode code 231 = .ok (.lcmp, 1) := by decide +kernel
theorem d_law_232 : decode code 232 = .ok (.ifCond .eq 5, 3) := by decide +kernel
theorem d_law_235 : decode code 235 = .ok (.iconst 0, 1) := by decide +kernel
theorem d_law_236 : decode code 236 = .ok (.ireturn, 1) := by decide +kernel
theorem d_law_237 : decode code 237 = .ok (.goto 652, 3) := by decide +kernel
theorem d_law_240 : decode code 240 = .ok (.aload_n 1, 1) := by decide +kernel
theorem d_law_241 : decode code 241 = .ok (.aload_n 0, 1) := by decide +kernel
theorem d_law_242 : decode code 242 = .ok (.iload 4, 2) := by decide +kernel
theorem d_law_244 : decode code 244 = .ok (.iconst 1, 1) := by decide +kernel
theorem d_law_245 : decode code 245 = .ok (.iadd, 1) := by decide +kernel
theorem d_law_246 : decode code 246 = .ok (.iaload, 1) := by decide +kernel
theorem d_law_247 : decode code 247 = .ok (.aload_n 0, 1) := by decide +kernel
theorem d_law_248 : decode code 248 = .ok (.iload 4, 2) := by decide +kernel
theorem d_law_250 : decode code 250 = .ok (.iconst 2, 1) := by decide +kernel
theorem d_law_251 : decode code 251 = .ok (.iadd, 1) := by decide +kernel
theorem d_law_252 : decode code 252 = .ok (.iaload, 1) := by decide +kernel
theorem d_law_253 : decode code 253 = .ok (.ifCond .eq 7, 3) := by decide +kernel
theorem d_law_256 : decode code 256 = .ok (.iconst 1, 1) := by decide +kernel
theorem d_law_257 : decode code 257 = .ok (.goto 4, 3) := by decide +kernel
theorem d_law_260 : decode code 260 = .ok (.iconst 0, 1) := by decide +kernel
theorem d_law_261 : decode code 261 = .ok (.aload_n 3, 1) := by decide +kernel
theorem d_law_262 : decode code 262 = .ok (.invokestatic 93, 3) := by decide +kernel
theorem d_law_265 : decode code 265 = .ok (.istore 5, 2) := by decide +kernel
theorem d_law_267 : decode code 267 = .ok (.aload_n 2, 1) := by decide +kernel
theorem d_law_268 : decode code 268 = .ok (.aload_n 0, 1) := by decide +kernel
theorem d_law_269 : decode code 269 = .ok (.iload 4, 2) := by decide +kernel
theorem d_law_271 : decode code 271 = .ok (.iconst 1, 1) := by decide +kernel
theorem d_law_272 : decode code 272 = .ok (.iadd, 1) := by decide +kernel
theorem d_law_273 : decode code 273 = .ok (.iaload, 1) := by decide +kernel
