theorem d_Mo_ask_156 : decode b_Mo_ask 156 = .ok (.iadd, 1) := by decide +kernel
theorem d_Mo_ask_157 : decode b_Mo_ask 157 = .ok (.istore 6, 2) := by decide +kernel
theorem d_Mo_ask_159 : decode b_Mo_ask 159 = .ok (.aload_n 0, 1) := by decide +kernel
theorem d_Mo_ask_160 : decode b_Mo_ask 160 = .ok (.getfield 35, 3) := by decide +kernel
theorem d_Mo_ask_163 : decode b_Mo_ask 163 = .ok (.iload 6, 2) := by decide +kernel
theorem d_Mo_ask_165 : decode b_Mo_ask 165 = .ok (.iload_n 1, 1) := by decide +kernel
theorem d_Mo_ask_166 : decode b_Mo_ask 166 = .ok (.iastore, 1) := by decide +kernel
theorem d_Mo_ask_167 : decode b_Mo_ask 167 = .ok (.aload_n 0, 1) := by decide +kernel
theorem d_Mo_ask_168 : decode b_Mo_ask 168 = .ok (.getfield 38, 3) := by decide +kernel
theorem d_Mo_ask_171 : decode b_Mo_ask 171 = .ok (.iload 6, 2) := by decide +kernel
theorem d_Mo_ask_173 : decode b_Mo_ask 173 = .ok (.iload_n 2, 1) := by decide +kernel
theorem d_Mo_ask_174 : decode b_Mo_ask 174 = .ok (.iastore, 1) := by decide +kernel
theorem d_Mo_ask_175 : decode b_Mo_ask 175 = .ok (.aload_n 0, 1) := by decide +kernel
theorem d_Mo_ask_176 : decode b_Mo_ask 176 = .ok (.getfield 41, 3) := by decide +kernel
theorem d_Mo_ask_179 : decode b_Mo_ask 179 = .ok (.iload 6, 2) := by decide +kernel
theorem d_Mo_ask_181 : decode b_Mo_ask 181 = .ok (.iload_n 3, 1) := by decide +kernel
theorem d_Mo_ask_182 : decode b_Mo_ask 182 = .ok (.iastore, 1) := by decide +kernel
theorem d_Mo_ask_183 : decode b_Mo_ask 183 = .ok (.aload_n 0, 1) := by decide +kernel
theorem d_Mo_ask_184 : decode b_Mo_ask 184 = .ok (.getfield 44, 3) := by decide +kernel
theorem d_Mo_ask_187 : decode b_Mo_ask 187 = .ok (.iload 6, 2) := by decide +kernel
theorem d_Mo_ask_189 : decode b_Mo_ask 189 = .ok (.iload 4, 2) := by decide +kernel
theorem d_Mo_ask_191 : decode b_Mo_ask 191 = .ok (.iastore, 1) := by decide +kernel
theorem d_Mo_ask_192 : decode b_Mo_ask 192 = .ok (.aload_n 0, 1) := by decide +kernel
theorem d_Mo_ask_193 : decode b_Mo_ask 193 = .ok (.getfield 47, 3) := by decide +kernel
theorem d_Mo_ask_196 : decode b_Mo_ask 196 = .ok (.iload 6, 2) := by decide +kernel
theorem d_Mo_ask_198 : decode b_Mo_ask 198 = .ok (.iload 5, 2) := by decide +kernel
theorem d_Mo_ask_200 : decode b_Mo_ask 200 = .ok (.iastore, 1) := by decide +kernel
theorem d_Mo_ask_201 : decode b_Mo_ask 201 = .ok (.iconst 1, 1) := by decide +kernel
theorem d_Mo_ask_202 : decode b_Mo_ask 202 = .ok (.istore 7, 2) := by decide +kernel
theorem d_Mo_ask_204 : decode b_Mo_ask 204 = .ok (.iload 7, 2) := by decide +kernel
theorem d_Mo_ask_206 : decode b_Mo_ask 206 = .ok (.iload 6, 2) := by decide +kernel
theorem d_Mo_ask_208 : decode b_Mo_ask 208 = .ok (.if_icmp .ge 50, 3) := by decide +kernel
theorem d_Mo_ask_211 : decode b_Mo_ask 211 = .ok (.aload_n 0, 1) := by decide +kernel
theorem d_Mo_ask_212 : decode b_Mo_ask 212 = .ok (.iload 7, 2) := by decide +kernel
theorem d_Mo_ask_214 : decode b_Mo_ask 214 = .ok (.iload 6, 2) := by decide +kernel
theorem d_Mo_ask_216 : decode b_Mo_ask 216 = .ok (.invokevirtual 91, 3) := by decide +kernel
theorem d_Mo_ask_219 : decode b_Mo_ask 219 = .ok (.ifCond .eq 33, 3) := by decide +kernel
theorem d_Mo_ask_222 : decode b_Mo_ask 222 = .ok (.aload_n 0, 1) := by decide +kernel
theorem d_Mo_ask_223 : decode b_Mo_ask 223 = .ok (.getfield 47, 3) := by decide +kernel
theorem d_Mo_ask_226 : decode b_Mo_ask 226 = .ok (.iload 7, 2) := by decide +kernel
theorem d_Mo_ask_228 : decode b_Mo_ask 228 = .ok (.iaload, 1) := by decide +kernel
theorem d_Mo_ask_229 : decode b_Mo_ask 229 = .ok (.iload 5, 2) := by decide +kernel
theorem d_Mo_ask_231 : decode b_Mo_ask 231 = .ok (.if_icmp .ge 17, 3) := by decide +kernel
theorem d_Mo_ask_234 : decode b_Mo_ask 234 = .ok (.aload_n 0, 1) := by decide +kernel
theorem d_Mo_ask_235 : decode b_Mo_ask 235 = .ok (.getfield 41, 3) := by decide +kernel
theorem d_Mo_ask_238 : decode b_Mo_ask 238 = .ok (.iload 7, 2) := by decide +kernel
theorem d_Mo_ask_240 : decode b_Mo_ask 240 = .ok (.iaload, 1) := by decide +kernel
theorem d_Mo_ask_241 : decode b_Mo_ask 241 = .ok (.aload_n 0, 1) := by decide +kernel
theorem d_Mo_ask_242 : decode b_Mo_ask 242 = .ok (.getfield 78, 3) := by decide +kernel
theorem d_Mo_ask_245 : decode b_Mo_ask 245 = .ok (.if_icmp .gt 7, 3) := by decide +kernel
theorem d_Mo_ask_248 : decode b_Mo_ask 248 = .ok (.iload 7, 2) := by decide +kernel
theorem d_Mo_ask_250 : decode b_Mo_ask 250 = .ok (.ineg, 1) := by decide +kernel
theorem d_Mo_ask_251 : decode b_Mo_ask 251 = .ok (.ireturn, 1) := by decide +kernel
theorem d_Mo_ask_252 : decode b_Mo_ask 252 = .ok (.iinc 7 1, 3) := by decide +kernel
theorem d_Mo_ask_255 : decode b_Mo_ask 255 = .ok (.goto (-51), 3) := by decide +kernel
theorem d_Mo_ask_258 : decode b_Mo_ask 258 = .ok (.iconst 1, 1) := by decide +kernel
theorem d_Mo_ask_259 : decode b_Mo_ask 259 = .ok (.istore 7, 2) := by decide +kernel
theorem d_Mo_ask_261 : decode b_Mo_ask 261 = .ok (.iload 7, 2) := by decide +kernel
theorem d_Mo_ask_263 : decode b_Mo_ask 263 = .ok (.iload 6, 2) := by decide +kernel
theorem d_Mo_ask_265 : decode b_Mo_ask 265 = .ok (.if_icmp .ge 28, 3) := by decide +kernel
theorem d_Mo_ask_268 : decode b_Mo_ask 268 = .ok (.aload_n 0, 1) := by decide +kernel
theorem d_Mo_ask_269 : decode b_Mo_ask 269 = .ok (.iload 7, 2) := by decide +kernel
theorem d_Mo_ask_271 : decode b_Mo_ask 271 = .ok (.iload 6, 2) := by decide +kernel
theorem d_Mo_ask_273 : decode b_Mo_ask 273 = .ok (.invokevirtual 91, 3) := by decide +kernel
theorem d_Mo_ask_276 : decode b_Mo_ask 276 = .ok (.ifCond .eq 11, 3) := by decide +kernel
theorem d_Mo_ask_279 : decode b_Mo_ask 279 = .ok (.aload_n 0, 1) := by decide +kernel
theorem d_Mo_ask_280 : decode b_Mo_ask 280 = .ok (.getfield 50, 3) := by decide +kernel
theorem d_Mo_ask_283 : decode b_Mo_ask 283 = .ok (.iload 7, 2) := by decide +kernel
theorem d_Mo_ask_285 : decode b_Mo_ask 285 = .ok (.iconst 3, 1) := by decide +kernel
theorem d_Mo_ask_286 : decode b_Mo_ask 286 = .ok (.iastore, 1) := by decide +kernel
theorem d_Mo_ask_287 : decode b_Mo_ask 287 = .ok (.iinc 7 1, 3) := by decide +kernel
theorem d_Mo_ask_290 : decode b_Mo_ask 290 = .ok (.goto (-29), 3) := by decide +kernel
theorem d_Mo_ask_293 : decode b_Mo_ask 293 = .ok (.aload_n 0, 1) := by decide +kernel
theorem d_Mo_ask_294 : decode b_Mo_ask 294 = .ok (.getfield 50, 3) := by decide +kernel
theorem d_Mo_ask_297 : decode b_Mo_ask 297 = .ok (.iload 6, 2) := by decide +kernel
theorem d_Mo_ask_299 : decode b_Mo_ask 299 = .ok (.iconst 0, 1) := by decide +kernel
theorem d_Mo_ask_300 : decode b_Mo_ask 300 = .ok (.iastore, 1) := by decide +kernel
theorem d_Mo_ask_301 : decode b_Mo_ask 301 = .ok (.aload_n 0, 1) := by decide +kernel
theorem d_Mo_ask_302 : decode b_Mo_ask 302 = .ok (.iload 6, 2) := by decide +kernel
theorem d_Mo_ask_304 : decode b_Mo_ask 304 = .ok (.putfield 67, 3) := by decide +kernel
theorem d_Mo_ask_307 : decode b_Mo_ask 307 = .ok (.iload 6, 2) := by decide +kernel
theorem d_Mo_ask_309 : decode b_Mo_ask 309 = .ok (.ireturn, 1) := by decide +kernel
theorem d_Mo_liveOf_0 : decode b_Mo_liveOf 0 = .ok (.iconst 0, 1) := by decide +kernel
theorem d_Mo_liveOf_1 : decode b_Mo_liveOf 1 = .ok (.istore_n 2, 1) := by decide +kernel
theorem d_Mo_liveOf_2 : decode b_Mo_liveOf 2 = .ok (.iconst 1, 1) := by decide +kernel
theorem d_Mo_liveOf_3 : decode b_Mo_liveOf 3 = .ok (.istore_n 3, 1) := by decide +kernel
theorem d_Mo_liveOf_4 : decode b_Mo_liveOf 4 = .ok (.iload_n 3, 1) := by decide +kernel
theorem d_Mo_liveOf_5 : decode b_Mo_liveOf 5 = .ok (.aload_n 0, 1) := by decide +kernel
theorem d_Mo_liveOf_6 : decode b_Mo_liveOf 6 = .ok (.getfield 67, 3) := by decide +kernel
theorem d_Mo_liveOf_9 : decode b_Mo_liveOf 9 = .ok (.if_icmp .gt 36, 3) := by decide +kernel
theorem d_Mo_liveOf_12 : decode b_Mo_liveOf 12 = .ok (.iload_n 2, 1) := by decide +kernel
theorem d_Mo_liveOf_13 : decode b_Mo_liveOf 13 = .ok (.aload_n 0, 1) := by decide +kernel
theorem d_Mo_liveOf_14 : decode b_Mo_liveOf 14 = .ok (.getfield 35, 3) := by decide +kernel
theorem d_Mo_liveOf_17 : decode b_Mo_liveOf 17 = .ok (.iload_n 3, 1) := by decide +kernel
theorem d_Mo_liveOf_18 : decode b_Mo_liveOf 18 = .ok (.iaload, 1) := by decide +kernel
theorem d_Mo_liveOf_19 : decode b_Mo_liveOf 19 = .ok (.iload_n 1, 1) := by decide +kernel
theorem d_Mo_liveOf_20 : decode b_Mo_liveOf 20 = .ok (.if_icmp .ne 16, 3) := by decide +kernel
theorem d_Mo_liveOf_23 : decode b_Mo_liveOf 23 = .ok (.aload_n 0, 1) := by decide +kernel
theorem d_Mo_liveOf_24 : decode b_Mo_liveOf 24 = .ok (.getfield 50, 3) := by decide +kernel
theorem d_Mo_liveOf_27 : decode b_Mo_liveOf 27 = .ok (.iload_n 3, 1) := by decide +kernel
theorem d_Mo_liveOf_28 : decode b_Mo_liveOf 28 = .ok (.iaload, 1) := by decide +kernel
theorem d_Mo_liveOf_29 : decode b_Mo_liveOf 29 = .ok (.ifCond .ne 7, 3) := by decide +kernel
theorem d_Mo_liveOf_32 : decode b_Mo_liveOf 32 = .ok (.iconst 1, 1) := by decide +kernel
theorem d_Mo_liveOf_33 : decode b_Mo_liveOf 33 = .ok (.goto 4, 3) := by decide +kernel
theorem d_Mo_liveOf_36 : decode b_Mo_liveOf 36 = .ok (.iconst 0, 1) := by decide +kernel
theorem d_Mo_liveOf_37 : decode b_Mo_liveOf 37 = .ok (.iadd, 1) := by decide +kernel
theorem d_Mo_liveOf_38 : decode b_Mo_liveOf 38 = .ok (.istore_n 2, 1) := by decide +kernel
theorem d_Mo_liveOf_39 : decode b_Mo_liveOf 39 = .ok (.iinc 3 1, 3) := by decide +kernel
theorem d_Mo_liveOf_42 : decode b_Mo_liveOf 42 = .ok (.goto (-38), 3) := by decide +kernel
theorem d_Mo_liveOf_45 : decode b_Mo_liveOf 45 = .ok (.iload_n 2, 1) := by decide +kernel
theorem d_Mo_liveOf_46 : decode b_Mo_liveOf 46 = .ok (.ireturn, 1) := by decide +kernel
theorem d_Mo_free_0 : decode b_Mo_free 0 = .ok (.aload_n 0, 1) := by decide +kernel
theorem d_Mo_free_1 : decode b_Mo_free 1 = .ok (.aload_n 0, 1) := by decide +kernel
theorem d_Mo_free_2 : decode b_Mo_free 2 = .ok (.iload_n 1, 1) := by decide +kernel
theorem d_Mo_free_3 : decode b_Mo_free 3 = .ok (.invokevirtual 97, 3) := by decide +kernel
theorem d_Mo_free_6 : decode b_Mo_free 6 = .ok (.ifCond .ne 7, 3) := by decide +kernel
theorem d_Mo_free_9 : decode b_Mo_free 9 = .ok (.iconst 1, 1) := by decide +kernel
theorem d_Mo_free_10 : decode b_Mo_free 10 = .ok (.goto 4, 3) := by decide +kernel
theorem d_Mo_free_13 : decode b_Mo_free 13 = .ok (.iconst 0, 1) := by decide +kernel
theorem d_Mo_free_14 : decode b_Mo_free 14 = .ok (.putfield 53, 3) := by decide +kernel
theorem d_Mo_free_17 : decode b_Mo_free 17 = .ok (.aload_n 0, 1) := by decide +kernel
theorem d_Mo_free_18 : decode b_Mo_free 18 = .ok (.getfield 53, 3) := by decide +kernel
theorem d_Mo_free_21 : decode b_Mo_free 21 = .ok (.ifCond .ne 21, 3) := by decide +kernel
theorem d_Mo_free_24 : decode b_Mo_free 24 = .ok (.aload_n 0, 1) := by decide +kernel
theorem d_Mo_free_25 : decode b_Mo_free 25 = .ok (.aload_n 0, 1) := by decide +kernel
theorem d_Mo_free_26 : decode b_Mo_free 26 = .ok (.getfield 50, 3) := by decide +kernel
theorem d_Mo_free_29 : decode b_Mo_free 29 = .ok (.iload_n 1, 1) := by decide +kernel
theorem d_Mo_free_30 : decode b_Mo_free 30 = .ok (.iaload, 1) := by decide +kernel
theorem d_Mo_free_31 : decode b_Mo_free 31 = .ok (.ifCond .eq 7, 3) := by decide +kernel
theorem d_Mo_free_34 : decode b_Mo_free 34 = .ok (.iconst 2, 1) := by decide +kernel
theorem d_Mo_free_35 : decode b_Mo_free 35 = .ok (.goto 4, 3) := by decide +kernel
theorem d_Mo_free_38 : decode b_Mo_free 38 = .ok (.iconst 0, 1) := by decide +kernel
theorem d_Mo_free_39 : decode b_Mo_free 39 = .ok (.putfield 53, 3) := by decide +kernel
theorem d_Mo_free_42 : decode b_Mo_free 42 = .ok (.aload_n 0, 1) := by decide +kernel
theorem d_Mo_free_43 : decode b_Mo_free 43 = .ok (.getfield 53, 3) := by decide +kernel
theorem d_Mo_free_46 : decode b_Mo_free 46 = .ok (.ifCond .le 5, 3) := by decide +kernel
theorem d_Mo_free_49 : decode b_Mo_free 49 = .ok (.iconst 0, 1) := by decide +kernel
theorem d_Mo_free_50 : decode b_Mo_free 50 = .ok (.ireturn, 1) := by decide +kernel
theorem d_Mo_free_51 : decode b_Mo_free 51 = .ok (.aload_n 0, 1) := by decide +kernel
theorem d_Mo_free_52 : decode b_Mo_free 52 = .ok (.getfield 50, 3) := by decide +kernel
theorem d_Mo_free_55 : decode b_Mo_free 55 = .ok (.iload_n 1, 1) := by decide +kernel
theorem d_Mo_free_56 : decode b_Mo_free 56 = .ok (.iconst 2, 1) := by decide +kernel
theorem d_Mo_free_57 : decode b_Mo_free 57 = .ok (.iastore, 1) := by decide +kernel
theorem d_Mo_free_58 : decode b_Mo_free 58 = .ok (.aload_n 0, 1) := by decide +kernel
theorem d_Mo_free_59 : decode b_Mo_free 59 = .ok (.aload_n 0, 1) := by decide +kernel
theorem d_Mo_free_60 : decode b_Mo_free 60 = .ok (.getfield 35, 3) := by decide +kernel
theorem d_Mo_free_63 : decode b_Mo_free 63 = .ok (.iload_n 1, 1) := by decide +kernel
theorem d_Mo_free_64 : decode b_Mo_free 64 = .ok (.iaload, 1) := by decide +kernel
theorem d_Mo_free_65 : decode b_Mo_free 65 = .ok (.invokevirtual 100, 3) := by decide +kernel
theorem d_Mo_free_68 : decode b_Mo_free 68 = .ok (.ireturn, 1) := by decide +kernel
theorem d_Mo_meets_0 : decode b_Mo_meets 0 = .ok (.aload_n 0, 1) := by decide +kernel
theorem d_Mo_meets_1 : decode b_Mo_meets 1 = .ok (.aload_n 0, 1) := by decide +kernel
theorem d_Mo_meets_2 : decode b_Mo_meets 2 = .ok (.iload_n 1, 1) := by decide +kernel
theorem d_Mo_meets_3 : decode b_Mo_meets 3 = .ok (.invokevirtual 97, 3) := by decide +kernel
theorem d_Mo_meets_6 : decode b_Mo_meets 6 = .ok (.ifCond .eq 15, 3) := by decide +kernel
theorem d_Mo_meets_9 : decode b_Mo_meets 9 = .ok (.aload_n 0, 1) := by decide +kernel
theorem d_Mo_meets_10 : decode b_Mo_meets 10 = .ok (.iload_n 2, 1) := by decide +kernel
theorem d_Mo_meets_11 : decode b_Mo_meets 11 = .ok (.invokevirtual 97, 3) := by decide +kernel
theorem d_Mo_meets_14 : decode b_Mo_meets 14 = .ok (.ifCond .eq 7, 3) := by decide +kernel
theorem d_Mo_meets_17 : decode b_Mo_meets 17 = .ok (.iconst 0, 1) := by decide +kernel
theorem d_Mo_meets_18 : decode b_Mo_meets 18 = .ok (.goto 4, 3) := by decide +kernel
theorem d_Mo_meets_21 : decode b_Mo_meets 21 = .ok (.iconst 1, 1) := by decide +kernel
theorem d_Mo_meets_22 : decode b_Mo_meets 22 = .ok (.putfield 53, 3) := by decide +kernel
theorem d_Mo_meets_25 : decode b_Mo_meets 25 = .ok (.aload_n 0, 1) := by decide +kernel
theorem d_Mo_meets_26 : decode b_Mo_meets 26 = .ok (.getfield 53, 3) := by decide +kernel
theorem d_Mo_meets_29 : decode b_Mo_meets 29 = .ok (.ifCond .ne 16, 3) := by decide +kernel
theorem d_Mo_meets_32 : decode b_Mo_meets 32 = .ok (.aload_n 0, 1) := by decide +kernel
theorem d_Mo_meets_33 : decode b_Mo_meets 33 = .ok (.iload_n 1, 1) := by decide +kernel
theorem d_Mo_meets_34 : decode b_Mo_meets 34 = .ok (.iload_n 2, 1) := by decide +kernel
theorem d_Mo_meets_35 : decode b_Mo_meets 35 = .ok (.invokevirtual 94, 3) := by decide +kernel
theorem d_Mo_meets_38 : decode b_Mo_meets 38 = .ok (.ifCond .eq 7, 3) := by decide +kernel
theorem d_Mo_meets_41 : decode b_Mo_meets 41 = .ok (.iconst 1, 1) := by decide +kernel
theorem d_Mo_meets_42 : decode b_Mo_meets 42 = .ok (.goto 4, 3) := by decide +kernel
theorem d_Mo_meets_45 : decode b_Mo_meets 45 = .ok (.iconst 0, 1) := by decide +kernel
theorem d_Mo_meets_46 : decode b_Mo_meets 46 = .ok (.ireturn, 1) := by decide +kernel
theorem d_Mo_step_0 : decode b_Mo_step 0 = .ok (.aload_n 0, 1) := by decide +kernel
theorem d_Mo_step_1 : decode b_Mo_step 1 = .ok (.aload_n 0, 1) := by decide +kernel
theorem d_Mo_step_2 : decode b_Mo_step 2 = .ok (.iload_n 1, 1) := by decide +kernel
theorem d_Mo_step_3 : decode b_Mo_step 3 = .ok (.invokevirtual 81, 3) := by decide +kernel
theorem d_Mo_step_6 : decode b_Mo_step 6 = .ok (.ifCond .eq 11, 3) := by decide +kernel
theorem d_Mo_step_9 : decode b_Mo_step 9 = .ok (.aload_n 0, 1) := by decide +kernel
theorem d_Mo_step_10 : decode b_Mo_step 10 = .ok (.iload_n 2, 1) := by decide +kernel
theorem d_Mo_step_11 : decode b_Mo_step 11 = .ok (.invokevirtual 70, 3) := by decide +kernel
theorem d_Mo_step_14 : decode b_Mo_step 14 = .ok (.ifCond .ne 7, 3) := by decide +kernel
theorem d_Mo_step_17 : decode b_Mo_step 17 = .ok (.iconst 1, 1) := by decide +kernel
theorem d_Mo_step_18 : decode b_Mo_step 18 = .ok (.goto 4, 3) := by decide +kernel
theorem d_Mo_step_21 : decode b_Mo_step 21 = .ok (.iconst 0, 1) := by decide +kernel
theorem d_Mo_step_22 : decode b_Mo_step 22 = .ok (.putfield 53, 3) := by decide +kernel
theorem d_Mo_step_25 : decode b_Mo_step 25 = .ok (.aload_n 0, 1) := by decide +kernel
theorem d_Mo_step_26 : decode b_Mo_step 26 = .ok (.getfield 53, 3) := by decide +kernel
theorem d_Mo_step_29 : decode b_Mo_step 29 = .ok (.ifCond .ne 52, 3) := by decide +kernel
theorem d_Mo_step_32 : decode b_Mo_step 32 = .ok (.aload_n 0, 1) := by decide +kernel
theorem d_Mo_step_33 : decode b_Mo_step 33 = .ok (.aload_n 0, 1) := by decide +kernel
theorem d_Mo_step_34 : decode b_Mo_step 34 = .ok (.getfield 13, 3) := by decide +kernel
theorem d_Mo_step_37 : decode b_Mo_step 37 = .ok (.bipush 16, 2) := by decide +kernel
theorem d_Mo_step_39 : decode b_Mo_step 39 = .ok (.aload_n 0, 1) := by decide +kernel
theorem d_Mo_step_40 : decode b_Mo_step 40 = .ok (.getfield 16, 3) := by decide +kernel
theorem d_Mo_step_43 : decode b_Mo_step 43 = .ok (.iload_n 1, 1) := by decide +kernel
theorem d_Mo_step_44 : decode b_Mo_step 44 = .ok (.iaload, 1) := by decide +kernel
theorem d_Mo_step_45 : decode b_Mo_step 45 = .ok (.imul, 1) := by decide +kernel
theorem d_Mo_step_46 : decode b_Mo_step 46 = .ok (.iload_n 2, 1) := by decide +kernel
theorem d_Mo_step_47 : decode b_Mo_step 47 = .ok (.iadd, 1) := by decide +kernel
theorem d_Mo_step_48 : decode b_Mo_step 48 = .ok (.baload, 1) := by decide +kernel
theorem d_Mo_step_49 : decode b_Mo_step 49 = .ok (.ifCond .ne 7, 3) := by decide +kernel
theorem d_Mo_step_52 : decode b_Mo_step 52 = .ok (.iconst 2, 1) := by decide +kernel
theorem d_Mo_step_53 : decode b_Mo_step 53 = .ok (.goto 25, 3) := by decide +kernel
theorem d_Mo_step_56 : decode b_Mo_step 56 = .ok (.aload_n 0, 1) := by decide +kernel
theorem d_Mo_step_57 : decode b_Mo_step 57 = .ok (.getfield 32, 3) := by decide +kernel
theorem d_Mo_step_60 : decode b_Mo_step 60 = .ok (.iload_n 1, 1) := by decide +kernel
theorem d_Mo_step_61 : decode b_Mo_step 61 = .ok (.baload, 1) := by decide +kernel
theorem d_Mo_step_62 : decode b_Mo_step 62 = .ok (.ifCond .ne 11, 3) := by decide +kernel
theorem d_Mo_step_65 : decode b_Mo_step 65 = .ok (.aload_n 0, 1) := by decide +kernel
theorem d_Mo_step_66 : decode b_Mo_step 66 = .ok (.iload_n 1, 1) := by decide +kernel
theorem d_Mo_step_67 : decode b_Mo_step 67 = .ok (.invokevirtual 84, 3) := by decide +kernel
theorem d_Mo_step_70 : decode b_Mo_step 70 = .ok (.ifCond .eq 7, 3) := by decide +kernel
theorem d_Mo_step_73 : decode b_Mo_step 73 = .ok (.iconst 3, 1) := by decide +kernel
theorem d_Mo_step_74 : decode b_Mo_step 74 = .ok (.goto 4, 3) := by decide +kernel
theorem d_Mo_step_77 : decode b_Mo_step 77 = .ok (.iconst 0, 1) := by decide +kernel
theorem d_Mo_step_78 : decode b_Mo_step 78 = .ok (.putfield 53, 3) := by decide +kernel
theorem d_Mo_step_81 : decode b_Mo_step 81 = .ok (.aload_n 0, 1) := by decide +kernel
theorem d_Mo_step_82 : decode b_Mo_step 82 = .ok (.getfield 53, 3) := by decide +kernel
theorem d_Mo_step_85 : decode b_Mo_step 85 = .ok (.ifCond .le 5, 3) := by decide +kernel
theorem d_Mo_step_88 : decode b_Mo_step 88 = .ok (.iconst 0, 1) := by decide +kernel
theorem d_Mo_step_89 : decode b_Mo_step 89 = .ok (.ireturn, 1) := by decide +kernel
theorem d_Mo_step_90 : decode b_Mo_step 90 = .ok (.aload_n 0, 1) := by decide +kernel
theorem d_Mo_step_91 : decode b_Mo_step 91 = .ok (.getfield 29, 3) := by decide +kernel
theorem d_Mo_step_94 : decode b_Mo_step 94 = .ok (.iload_n 1, 1) := by decide +kernel
theorem d_Mo_step_95 : decode b_Mo_step 95 = .ok (.aload_n 0, 1) := by decide +kernel
theorem d_Mo_step_96 : decode b_Mo_step 96 = .ok (.getfield 78, 3) := by decide +kernel
theorem d_Mo_step_99 : decode b_Mo_step 99 = .ok (.iastore, 1) := by decide +kernel
theorem d_Mo_step_100 : decode b_Mo_step 100 = .ok (.iconst 1, 1) := by decide +kernel
theorem d_Mo_step_101 : decode b_Mo_step 101 = .ok (.istore_n 3, 1) := by decide +kernel
theorem d_Mo_step_102 : decode b_Mo_step 102 = .ok (.iload_n 3, 1) := by decide +kernel
theorem d_Mo_step_103 : decode b_Mo_step 103 = .ok (.aload_n 0, 1) := by decide +kernel
theorem d_Mo_step_104 : decode b_Mo_step 104 = .ok (.getfield 67, 3) := by decide +kernel
theorem d_Mo_step_107 : decode b_Mo_step 107 = .ok (.if_icmp .gt 51, 3) := by decide +kernel
theorem d_Mo_step_110 : decode b_Mo_step 110 = .ok (.aload_n 0, 1) := by decide +kernel
theorem d_Mo_step_111 : decode b_Mo_step 111 = .ok (.getfield 35, 3) := by decide +kernel
theorem d_Mo_step_114 : decode b_Mo_step 114 = .ok (.iload_n 3, 1) := by decide +kernel
theorem d_Mo_step_115 : decode b_Mo_step 115 = .ok (.iaload, 1) := by decide +kernel
theorem d_Mo_step_116 : decode b_Mo_step 116 = .ok (.iload_n 1, 1) := by decide +kernel
theorem d_Mo_step_117 : decode b_Mo_step 117 = .ok (.if_icmp .ne 35, 3) := by decide +kernel
theorem d_Mo_step_120 : decode b_Mo_step 120 = .ok (.aload_n 0, 1) := by decide +kernel
theorem d_Mo_step_121 : decode b_Mo_step 121 = .ok (.getfield 38, 3) := by decide +kernel
theorem d_Mo_step_124 : decode b_Mo_step 124 = .ok (.iload_n 3, 1) := by decide +kernel
theorem d_Mo_step_125 : decode b_Mo_step 125 = .ok (.iaload, 1) := by decide +kernel
theorem d_Mo_step_126 : decode b_Mo_step 126 = .ok (.iload_n 2, 1) := by decide +kernel
theorem d_Mo_step_127 : decode b_Mo_step 127 = .ok (.if_icmp .ne 25, 3) := by decide +kernel
theorem d_Mo_step_130 : decode b_Mo_step 130 = .ok (.aload_n 0, 1) := by decide +kernel
theorem d_Mo_step_131 : decode b_Mo_step 131 = .ok (.getfield 50, 3) := by decide +kernel
theorem d_Mo_step_134 : decode b_Mo_step 134 = .ok (.iload_n 3, 1) := by decide +kernel
theorem d_Mo_step_135 : decode b_Mo_step 135 = .ok (.iaload, 1) := by decide +kernel
theorem d_Mo_step_136 : decode b_Mo_step 136 = .ok (.ifCond .ne 16, 3) := by decide +kernel
theorem d_Mo_step_139 : decode b_Mo_step 139 = .ok (.aload_n 0, 1) := by decide +kernel
theorem d_Mo_step_140 : decode b_Mo_step 140 = .ok (.getfield 41, 3) := by decide +kernel
theorem d_Mo_step_143 : decode b_Mo_step 143 = .ok (.iload_n 3, 1) := by decide +kernel
theorem d_Mo_step_144 : decode b_Mo_step 144 = .ok (.iaload, 1) := by decide +kernel
theorem d_Mo_step_145 : decode b_Mo_step 145 = .ok (.aload_n 0, 1) := by decide +kernel
theorem d_Mo_step_146 : decode b_Mo_step 146 = .ok (.getfield 78, 3) := by decide +kernel
theorem d_Mo_step_149 : decode b_Mo_step 149 = .ok (.if_icmp .le 9, 3) := by decide +kernel
theorem d_Mo_step_152 : decode b_Mo_step 152 = .ok (.iinc 3 1, 3) := by decide +kernel
theorem d_Mo_step_155 : decode b_Mo_step 155 = .ok (.goto (-53), 3) := by decide +kernel
theorem d_Mo_step_158 : decode b_Mo_step 158 = .ok (.iload_n 3, 1) := by decide +kernel
theorem d_Mo_step_159 : decode b_Mo_step 159 = .ok (.aload_n 0, 1) := by decide +kernel
theorem d_Mo_step_160 : decode b_Mo_step 160 = .ok (.getfield 67, 3) := by decide +kernel
theorem d_Mo_step_163 : decode b_Mo_step 163 = .ok (.if_icmp .le 5, 3) := by decide +kernel
theorem d_Mo_step_166 : decode b_Mo_step 166 = .ok (.iconst 0, 1) := by decide +kernel
theorem d_Mo_step_167 : decode b_Mo_step 167 = .ok (.ireturn, 1) := by decide +kernel
theorem d_Mo_step_168 : decode b_Mo_step 168 = .ok (.aload_n 0, 1) := by decide +kernel
theorem d_Mo_step_169 : decode b_Mo_step 169 = .ok (.iload_n 1, 1) := by decide +kernel
theorem d_Mo_step_170 : decode b_Mo_step 170 = .ok (.iload_n 2, 1) := by decide +kernel
theorem d_Mo_step_171 : decode b_Mo_step 171 = .ok (.invokevirtual 87, 3) := by decide +kernel
theorem d_Mo_step_174 : decode b_Mo_step 174 = .ok (.ifCond .eq 5, 3) := by decide +kernel
theorem d_Mo_step_177 : decode b_Mo_step 177 = .ok (.iconst (-1), 1) := by decide +kernel
theorem d_Mo_step_178 : decode b_Mo_step 178 = .ok (.ireturn, 1) := by decide +kernel
theorem d_Mo_step_179 : decode b_Mo_step 179 = .ok (.aload_n 0, 1) := by decide +kernel
theorem d_Mo_step_180 : decode b_Mo_step 180 = .ok (.getfield 50, 3) := by decide +kernel
theorem d_Mo_step_183 : decode b_Mo_step 183 = .ok (.iload_n 3, 1) := by decide +kernel
theorem d_Mo_step_184 : decode b_Mo_step 184 = .ok (.iconst 1, 1) := by decide +kernel
theorem d_Mo_step_185 : decode b_Mo_step 185 = .ok (.iastore, 1) := by decide +kernel
theorem d_Mo_step_186 : decode b_Mo_step 186 = .ok (.aload_n 0, 1) := by decide +kernel
theorem d_Mo_step_187 : decode b_Mo_step 187 = .ok (.getfield 23, 3) := by decide +kernel
theorem d_Mo_step_190 : decode b_Mo_step 190 = .ok (.iload_n 1, 1) := by decide +kernel
theorem d_Mo_step_191 : decode b_Mo_step 191 = .ok (.aload_n 0, 1) := by decide +kernel
theorem d_Mo_step_192 : decode b_Mo_step 192 = .ok (.getfield 20, 3) := by decide +kernel
theorem d_Mo_step_195 : decode b_Mo_step 195 = .ok (.iload_n 1, 1) := by decide +kernel
theorem d_Mo_step_196 : decode b_Mo_step 196 = .ok (.baload, 1) := by decide +kernel
theorem d_Mo_step_197 : decode b_Mo_step 197 = .ok (.ifCond .eq 12, 3) := by decide +kernel
theorem d_Mo_step_200 : decode b_Mo_step 200 = .ok (.aload_n 0, 1) := by decide +kernel
theorem d_Mo_step_201 : decode b_Mo_step 201 = .ok (.getfield 16, 3) := by decide +kernel
theorem d_Mo_step_204 : decode b_Mo_step 204 = .ok (.iload_n 1, 1) := by decide +kernel
theorem d_Mo_step_205 : decode b_Mo_step 205 = .ok (.iaload, 1) := by decide +kernel
theorem d_Mo_step_206 : decode b_Mo_step 206 = .ok (.goto 4, 3) := by decide +kernel
theorem d_Mo_step_209 : decode b_Mo_step 209 = .ok (.iconst (-1), 1) := by decide +kernel
theorem d_Mo_step_210 : decode b_Mo_step 210 = .ok (.iastore, 1) := by decide +kernel
theorem d_Mo_step_211 : decode b_Mo_step 211 = .ok (.aload_n 0, 1) := by decide +kernel
theorem d_Mo_step_212 : decode b_Mo_step 212 = .ok (.getfield 16, 3) := by decide +kernel
theorem d_Mo_step_215 : decode b_Mo_step 215 = .ok (.iload_n 1, 1) := by decide +kernel
theorem d_Mo_step_216 : decode b_Mo_step 216 = .ok (.iload_n 2, 1) := by decide +kernel
theorem d_Mo_step_217 : decode b_Mo_step 217 = .ok (.iastore, 1) := by decide +kernel
theorem d_Mo_step_218 : decode b_Mo_step 218 = .ok (.aload_n 0, 1) := by decide +kernel
theorem d_Mo_step_219 : decode b_Mo_step 219 = .ok (.getfield 26, 3) := by decide +kernel
theorem d_Mo_step_222 : decode b_Mo_step 222 = .ok (.iload_n 1, 1) := by decide +kernel
theorem d_Mo_step_223 : decode b_Mo_step 223 = .ok (.iconst (-1), 1) := by decide +kernel
theorem d_Mo_step_224 : decode b_Mo_step 224 = .ok (.iastore, 1) := by decide +kernel
theorem d_Mo_step_225 : decode b_Mo_step 225 = .ok (.iload_n 3, 1) := by decide +kernel
theorem d_Mo_step_226 : decode b_Mo_step 226 = .ok (.ireturn, 1) := by decide +kernel
theorem d_Mo_pull_0 : decode b_Mo_pull 0 = .ok (.aload_n 0, 1) := by decide +kernel
theorem d_Mo_pull_1 : decode b_Mo_pull 1 = .ok (.aload_n 0, 1) := by decide +kernel
theorem d_Mo_pull_2 : decode b_Mo_pull 2 = .ok (.iload_n 1, 1) := by decide +kernel
theorem d_Mo_pull_3 : decode b_Mo_pull 3 = .ok (.invokevirtual 81, 3) := by decide +kernel
theorem d_Mo_pull_6 : decode b_Mo_pull 6 = .ok (.ifCond .ne 7, 3) := by decide +kernel
theorem d_Mo_pull_9 : decode b_Mo_pull 9 = .ok (.iconst 1, 1) := by decide +kernel
theorem d_Mo_pull_10 : decode b_Mo_pull 10 = .ok (.goto 4, 3) := by decide +kernel
theorem d_Mo_pull_13 : decode b_Mo_pull 13 = .ok (.iconst 0, 1) := by decide +kernel
theorem d_Mo_pull_14 : decode b_Mo_pull 14 = .ok (.putfield 53, 3) := by decide +kernel
theorem d_Mo_pull_17 : decode b_Mo_pull 17 = .ok (.aload_n 0, 1) := by decide +kernel
theorem d_Mo_pull_18 : decode b_Mo_pull 18 = .ok (.getfield 53, 3) := by decide +kernel
theorem d_Mo_pull_21 : decode b_Mo_pull 21 = .ok (.ifCond .ne 22, 3) := by decide +kernel
theorem d_Mo_pull_24 : decode b_Mo_pull 24 = .ok (.aload_n 0, 1) := by decide +kernel
theorem d_Mo_pull_25 : decode b_Mo_pull 25 = .ok (.aload_n 0, 1) := by decide +kernel
theorem d_Mo_pull_26 : decode b_Mo_pull 26 = .ok (.getfield 23, 3) := by decide +kernel
theorem d_Mo_pull_29 : decode b_Mo_pull 29 = .ok (.iload_n 1, 1) := by decide +kernel
theorem d_Mo_pull_30 : decode b_Mo_pull 30 = .ok (.iaload, 1) := by decide +kernel
theorem d_Mo_pull_31 : decode b_Mo_pull 31 = .ok (.iconst (-1), 1) := by decide +kernel
theorem d_Mo_pull_32 : decode b_Mo_pull 32 = .ok (.if_icmp .ne 7, 3) := by decide +kernel
theorem d_Mo_pull_35 : decode b_Mo_pull 35 = .ok (.iconst 2, 1) := by decide +kernel
theorem d_Mo_pull_36 : decode b_Mo_pull 36 = .ok (.goto 4, 3) := by decide +kernel
theorem d_Mo_pull_39 : decode b_Mo_pull 39 = .ok (.iconst 0, 1) := by decide +kernel
theorem d_Mo_pull_40 : decode b_Mo_pull 40 = .ok (.putfield 53, 3) := by decide +kernel
theorem d_Mo_pull_43 : decode b_Mo_pull 43 = .ok (.aload_n 0, 1) := by decide +kernel
theorem d_Mo_pull_44 : decode b_Mo_pull 44 = .ok (.getfield 53, 3) := by decide +kernel
theorem d_Mo_pull_47 : decode b_Mo_pull 47 = .ok (.ifCond .le 5, 3) := by decide +kernel
theorem d_Mo_pull_50 : decode b_Mo_pull 50 = .ok (.iconst 0, 1) := by decide +kernel
theorem d_Mo_pull_51 : decode b_Mo_pull 51 = .ok (.ireturn, 1) := by decide +kernel
theorem d_Mo_pull_52 : decode b_Mo_pull 52 = .ok (.aload_n 0, 1) := by decide +kernel
theorem d_Mo_pull_53 : decode b_Mo_pull 53 = .ok (.getfield 23, 3) := by decide +kernel
theorem d_Mo_pull_56 : decode b_Mo_pull 56 = .ok (.iload_n 1, 1) := by decide +kernel
theorem d_Mo_pull_57 : decode b_Mo_pull 57 = .ok (.iaload, 1) := by decide +kernel
theorem d_Mo_pull_58 : decode b_Mo_pull 58 = .ok (.istore_n 2, 1) := by decide +kernel
theorem d_Mo_pull_59 : decode b_Mo_pull 59 = .ok (.aload_n 0, 1) := by decide +kernel
theorem d_Mo_pull_60 : decode b_Mo_pull 60 = .ok (.getfield 23, 3) := by decide +kernel
theorem d_Mo_pull_63 : decode b_Mo_pull 63 = .ok (.iload_n 1, 1) := by decide +kernel
theorem d_Mo_pull_64 : decode b_Mo_pull 64 = .ok (.iconst (-1), 1) := by decide +kernel
theorem d_Mo_pull_65 : decode b_Mo_pull 65 = .ok (.iastore, 1) := by decide +kernel
theorem d_Mo_pull_66 : decode b_Mo_pull 66 = .ok (.aload_n 0, 1) := by decide +kernel
theorem d_Mo_pull_67 : decode b_Mo_pull 67 = .ok (.getfield 29, 3) := by decide +kernel
theorem d_Mo_pull_70 : decode b_Mo_pull 70 = .ok (.iload_n 1, 1) := by decide +kernel
theorem d_Mo_pull_71 : decode b_Mo_pull 71 = .ok (.aload_n 0, 1) := by decide +kernel
theorem d_Mo_pull_72 : decode b_Mo_pull 72 = .ok (.getfield 78, 3) := by decide +kernel
theorem d_Mo_pull_75 : decode b_Mo_pull 75 = .ok (.iastore, 1) := by decide +kernel
theorem d_Mo_pull_76 : decode b_Mo_pull 76 = .ok (.iload_n 2, 1) := by decide +kernel
theorem d_Mo_pull_77 : decode b_Mo_pull 77 = .ok (.ireturn, 1) := by decide +kernel
theorem d_Mo_await_0 : decode b_Mo_await 0 = .ok (.aload_n 0, 1) := by decide +kernel
theorem d_Mo_await_1 : decode b_Mo_await 1 = .ok (.aload_n 0, 1) := by decide +kernel
theorem d_Mo_await_2 : decode b_Mo_await 2 = .ok (.iload_n 1, 1) := by decide +kernel
theorem d_Mo_await_3 : decode b_Mo_await 3 = .ok (.invokevirtual 81, 3) := by decide +kernel
theorem d_Mo_await_6 : decode b_Mo_await 6 = .ok (.ifCond .eq 11, 3) := by decide +kernel
theorem d_Mo_await_9 : decode b_Mo_await 9 = .ok (.aload_n 0, 1) := by decide +kernel
theorem d_Mo_await_10 : decode b_Mo_await 10 = .ok (.iload_n 2, 1) := by decide +kernel
theorem d_Mo_await_11 : decode b_Mo_await 11 = .ok (.invokevirtual 70, 3) := by decide +kernel
theorem d_Mo_await_14 : decode b_Mo_await 14 = .ok (.ifCond .ne 7, 3) := by decide +kernel
theorem d_Mo_await_17 : decode b_Mo_await 17 = .ok (.iconst 1, 1) := by decide +kernel
theorem d_Mo_await_18 : decode b_Mo_await 18 = .ok (.goto 4, 3) := by decide +kernel
theorem d_Mo_await_21 : decode b_Mo_await 21 = .ok (.iconst 0, 1) := by decide +kernel
theorem d_Mo_await_22 : decode b_Mo_await 22 = .ok (.putfield 53, 3) := by decide +kernel
theorem d_Mo_await_25 : decode b_Mo_await 25 = .ok (.aload_n 0, 1) := by decide +kernel
theorem d_Mo_await_26 : decode b_Mo_await 26 = .ok (.getfield 53, 3) := by decide +kernel
theorem d_Mo_await_29 : decode b_Mo_await 29 = .ok (.ifCond .ne 21, 3) := by decide +kernel
theorem d_Mo_await_32 : decode b_Mo_await 32 = .ok (.aload_n 0, 1) := by decide +kernel
theorem d_Mo_await_33 : decode b_Mo_await 33 = .ok (.aload_n 0, 1) := by decide +kernel
theorem d_Mo_await_34 : decode b_Mo_await 34 = .ok (.iload_n 1, 1) := by decide +kernel
theorem d_Mo_await_35 : decode b_Mo_await 35 = .ok (.iload_n 2, 1) := by decide +kernel
theorem d_Mo_await_36 : decode b_Mo_await 36 = .ok (.invokevirtual 87, 3) := by decide +kernel
theorem d_Mo_await_39 : decode b_Mo_await 39 = .ok (.ifCond .ne 7, 3) := by decide +kernel
theorem d_Mo_await_42 : decode b_Mo_await 42 = .ok (.iconst 2, 1) := by decide +kernel
theorem d_Mo_await_43 : decode b_Mo_await 43 = .ok (.goto 4, 3) := by decide +kernel
theorem d_Mo_await_46 : decode b_Mo_await 46 = .ok (.iconst 0, 1) := by decide +kernel
theorem d_Mo_await_47 : decode b_Mo_await 47 = .ok (.putfield 53, 3) := by decide +kernel
theorem d_Mo_await_50 : decode b_Mo_await 50 = .ok (.aload_n 0, 1) := by decide +kernel
theorem d_Mo_await_51 : decode b_Mo_await 51 = .ok (.getfield 53, 3) := by decide +kernel
theorem d_Mo_await_54 : decode b_Mo_await 54 = .ok (.ifCond .le 5, 3) := by decide +kernel
theorem d_Mo_await_57 : decode b_Mo_await 57 = .ok (.iconst 0, 1) := by decide +kernel
theorem d_Mo_await_58 : decode b_Mo_await 58 = .ok (.ireturn, 1) := by decide +kernel
theorem d_Mo_await_59 : decode b_Mo_await 59 = .ok (.iconst 1, 1) := by decide +kernel
theorem d_Mo_await_60 : decode b_Mo_await 60 = .ok (.istore_n 3, 1) := by decide +kernel
theorem d_Mo_await_61 : decode b_Mo_await 61 = .ok (.aload_n 0, 1) := by decide +kernel
theorem d_Mo_await_62 : decode b_Mo_await 62 = .ok (.iload_n 2, 1) := by decide +kernel
theorem d_Mo_await_63 : decode b_Mo_await 63 = .ok (.invokevirtual 74, 3) := by decide +kernel
theorem d_Mo_await_66 : decode b_Mo_await 66 = .ok (.istore 4, 2) := by decide +kernel
theorem d_Mo_await_68 : decode b_Mo_await 68 = .ok (.iload 4, 2) := by decide +kernel
theorem d_Mo_await_70 : decode b_Mo_await 70 = .ok (.iconst (-1), 1) := by decide +kernel
theorem d_Mo_await_71 : decode b_Mo_await 71 = .ok (.if_icmp .eq 49, 3) := by decide +kernel
theorem d_Mo_await_74 : decode b_Mo_await 74 = .ok (.iload 4, 2) := by decide +kernel
theorem d_Mo_await_76 : decode b_Mo_await 76 = .ok (.iload_n 1, 1) := by decide +kernel
theorem d_Mo_await_77 : decode b_Mo_await 77 = .ok (.if_icmp .eq 43, 3) := by decide +kernel
theorem d_Mo_await_80 : decode b_Mo_await 80 = .ok (.iload_n 3, 1) := by decide +kernel
theorem d_Mo_await_81 : decode b_Mo_await 81 = .ok (.bipush 6, 2) := by decide +kernel
theorem d_Mo_await_83 : decode b_Mo_await 83 = .ok (.if_icmp .gt 37, 3) := by decide +kernel
theorem d_Mo_await_86 : decode b_Mo_await 86 = .ok (.iinc 3 1, 3) := by decide +kernel
theorem d_Mo_await_89 : decode b_Mo_await 89 = .ok (.aload_n 0, 1) := by decide +kernel
theorem d_Mo_await_90 : decode b_Mo_await 90 = .ok (.getfield 26, 3) := by decide +kernel
theorem d_Mo_await_93 : decode b_Mo_await 93 = .ok (.iload 4, 2) := by decide +kernel
theorem d_Mo_await_95 : decode b_Mo_await 95 = .ok (.iaload, 1) := by decide +kernel
theorem d_Mo_await_96 : decode b_Mo_await 96 = .ok (.iconst (-1), 1) := by decide +kernel
theorem d_Mo_await_97 : decode b_Mo_await 97 = .ok (.if_icmp .ne 7, 3) := by decide +kernel
theorem d_Mo_await_100 : decode b_Mo_await 100 = .ok (.iconst (-1), 1) := by decide +kernel
theorem d_Mo_await_101 : decode b_Mo_await 101 = .ok (.goto 14, 3) := by decide +kernel
theorem d_Mo_await_104 : decode b_Mo_await 104 = .ok (.aload_n 0, 1) := by decide +kernel
theorem d_Mo_await_105 : decode b_Mo_await 105 = .ok (.aload_n 0, 1) := by decide +kernel
theorem d_Mo_await_106 : decode b_Mo_await 106 = .ok (.getfield 26, 3) := by decide +kernel
theorem d_Mo_await_109 : decode b_Mo_await 109 = .ok (.iload 4, 2) := by decide +kernel
theorem d_Mo_await_111 : decode b_Mo_await 111 = .ok (.iaload, 1) := by decide +kernel
theorem d_Mo_await_112 : decode b_Mo_await 112 = .ok (.invokevirtual 74, 3) := by decide +kernel
theorem d_Mo_await_115 : decode b_Mo_await 115 = .ok (.istore 4, 2) := by decide +kernel
theorem d_Mo_await_117 : decode b_Mo_await 117 = .ok (.goto (-49), 3) := by decide +kernel
theorem d_Mo_await_120 : decode b_Mo_await 120 = .ok (.iload 4, 2) := by decide +kernel
theorem d_Mo_await_122 : decode b_Mo_await 122 = .ok (.iload_n 1, 1) := by decide +kernel
theorem d_Mo_await_123 : decode b_Mo_await 123 = .ok (.if_icmp .ne 6, 3) := by decide +kernel
theorem d_Mo_await_126 : decode b_Mo_await 126 = .ok (.iload_n 3, 1) := by decide +kernel
theorem d_Mo_await_127 : decode b_Mo_await 127 = .ok (.ineg, 1) := by decide +kernel
theorem d_Mo_await_128 : decode b_Mo_await 128 = .ok (.ireturn, 1) := by decide +kernel
theorem d_Mo_await_129 : decode b_Mo_await 129 = .ok (.aload_n 0, 1) := by decide +kernel
theorem d_Mo_await_130 : decode b_Mo_await 130 = .ok (.getfield 26, 3) := by decide +kernel
theorem d_Mo_await_133 : decode b_Mo_await 133 = .ok (.iload_n 1, 1) := by decide +kernel
theorem d_Mo_await_134 : decode b_Mo_await 134 = .ok (.iload_n 2, 1) := by decide +kernel
theorem d_Mo_await_135 : decode b_Mo_await 135 = .ok (.iastore, 1) := by decide +kernel
theorem d_Mo_await_136 : decode b_Mo_await 136 = .ok (.iconst 0, 1) := by decide +kernel
theorem d_Mo_await_137 : decode b_Mo_await 137 = .ok (.ireturn, 1) := by decide +kernel
theorem d_Mo_bestOf_0 : decode b_Mo_bestOf 0 = .ok (.iconst 0, 1) := by decide +kernel
theorem d_Mo_bestOf_1 : decode b_Mo_bestOf 1 = .ok (.istore_n 3, 1) := by decide +kernel
theorem d_Mo_bestOf_2 : decode b_Mo_bestOf 2 = .ok (.iconst 1, 1) := by decide +kernel
theorem d_Mo_bestOf_3 : decode b_Mo_bestOf 3 = .ok (.istore 4, 2) := by decide +kernel
theorem d_Mo_bestOf_5 : decode b_Mo_bestOf 5 = .ok (.iload 4, 2) := by decide +kernel
theorem d_Mo_bestOf_7 : decode b_Mo_bestOf 7 = .ok (.aload_n 0, 1) := by decide +kernel
theorem d_Mo_bestOf_8 : decode b_Mo_bestOf 8 = .ok (.getfield 67, 3) := by decide +kernel
theorem d_Mo_bestOf_11 : decode b_Mo_bestOf 11 = .ok (.if_icmp .gt 60, 3) := by decide +kernel
theorem d_Mo_bestOf_14 : decode b_Mo_bestOf 14 = .ok (.aload_n 0, 1) := by decide +kernel
theorem d_Mo_bestOf_15 : decode b_Mo_bestOf 15 = .ok (.getfield 35, 3) := by decide +kernel
theorem d_Mo_bestOf_18 : decode b_Mo_bestOf 18 = .ok (.iload 4, 2) := by decide +kernel
theorem d_Mo_bestOf_20 : decode b_Mo_bestOf 20 = .ok (.iaload, 1) := by decide +kernel
theorem d_Mo_bestOf_21 : decode b_Mo_bestOf 21 = .ok (.iload_n 1, 1) := by decide +kernel
theorem d_Mo_bestOf_22 : decode b_Mo_bestOf 22 = .ok (.if_icmp .ne 43, 3) := by decide +kernel
theorem d_Mo_bestOf_25 : decode b_Mo_bestOf 25 = .ok (.aload_n 0, 1) := by decide +kernel
theorem d_Mo_bestOf_26 : decode b_Mo_bestOf 26 = .ok (.getfield 38, 3) := by decide +kernel
theorem d_Mo_bestOf_29 : decode b_Mo_bestOf 29 = .ok (.iload 4, 2) := by decide +kernel
theorem d_Mo_bestOf_31 : decode b_Mo_bestOf 31 = .ok (.iaload, 1) := by decide +kernel
theorem d_Mo_bestOf_32 : decode b_Mo_bestOf 32 = .ok (.iload_n 2, 1) := by decide +kernel
theorem d_Mo_bestOf_33 : decode b_Mo_bestOf 33 = .ok (.if_icmp .ne 32, 3) := by decide +kernel
theorem d_Mo_bestOf_36 : decode b_Mo_bestOf 36 = .ok (.aload_n 0, 1) := by decide +kernel
theorem d_Mo_bestOf_37 : decode b_Mo_bestOf 37 = .ok (.getfield 50, 3) := by decide +kernel
theorem d_Mo_bestOf_40 : decode b_Mo_bestOf 40 = .ok (.iload 4, 2) := by decide +kernel
theorem d_Mo_bestOf_42 : decode b_Mo_bestOf 42 = .ok (.iaload, 1) := by decide +kernel
theorem d_Mo_bestOf_43 : decode b_Mo_bestOf 43 = .ok (.ifCond .ne 22, 3) := by decide +kernel
theorem d_Mo_bestOf_46 : decode b_Mo_bestOf 46 = .ok (.aload_n 0, 1) := by decide +kernel
theorem d_Mo_bestOf_47 : decode b_Mo_bestOf 47 = .ok (.getfield 47, 3) := by decide +kernel
theorem d_Mo_bestOf_50 : decode b_Mo_bestOf 50 = .ok (.iload 4, 2) := by decide +kernel
theorem d_Mo_bestOf_52 : decode b_Mo_bestOf 52 = .ok (.iaload, 1) := by decide +kernel
theorem d_Mo_bestOf_53 : decode b_Mo_bestOf 53 = .ok (.iload_n 3, 1) := by decide +kernel
theorem d_Mo_bestOf_54 : decode b_Mo_bestOf 54 = .ok (.if_icmp .le 11, 3) := by decide +kernel
theorem d_Mo_bestOf_57 : decode b_Mo_bestOf 57 = .ok (.aload_n 0, 1) := by decide +kernel
theorem d_Mo_bestOf_58 : decode b_Mo_bestOf 58 = .ok (.getfield 47, 3) := by decide +kernel
theorem d_Mo_bestOf_61 : decode b_Mo_bestOf 61 = .ok (.iload 4, 2) := by decide +kernel
theorem d_Mo_bestOf_63 : decode b_Mo_bestOf 63 = .ok (.iaload, 1) := by decide +kernel
theorem d_Mo_bestOf_64 : decode b_Mo_bestOf 64 = .ok (.istore_n 3, 1) := by decide +kernel
theorem d_Mo_bestOf_65 : decode b_Mo_bestOf 65 = .ok (.iinc 4 1, 3) := by decide +kernel
theorem d_Mo_bestOf_68 : decode b_Mo_bestOf 68 = .ok (.goto (-63), 3) := by decide +kernel
theorem d_Mo_bestOf_71 : decode b_Mo_bestOf 71 = .ok (.iload_n 3, 1) := by decide +kernel
theorem d_Mo_bestOf_72 : decode b_Mo_bestOf 72 = .ok (.ireturn, 1) := by decide +kernel
theorem d_Mo_next_0 : decode b_Mo_next 0 = .ok (.aload_n 0, 1) := by decide +kernel
theorem d_Mo_next_1 : decode b_Mo_next 1 = .ok (.aload_n 0, 1) := by decide +kernel
theorem d_Mo_next_2 : decode b_Mo_next 2 = .ok (.iload_n 1, 1) := by decide +kernel
theorem d_Mo_next_3 : decode b_Mo_next 3 = .ok (.invokevirtual 70, 3) := by decide +kernel
theorem d_Mo_next_6 : decode b_Mo_next 6 = .ok (.ifCond .eq 7, 3) := by decide +kernel
theorem d_Mo_next_9 : decode b_Mo_next 9 = .ok (.iconst 0, 1) := by decide +kernel
theorem d_Mo_next_10 : decode b_Mo_next 10 = .ok (.goto 4, 3) := by decide +kernel
theorem d_Mo_next_13 : decode b_Mo_next 13 = .ok (.iconst 1, 1) := by decide +kernel
theorem d_Mo_next_14 : decode b_Mo_next 14 = .ok (.putfield 53, 3) := by decide +kernel
theorem d_Mo_next_17 : decode b_Mo_next 17 = .ok (.iconst (-1), 1) := by decide +kernel
theorem d_Mo_next_18 : decode b_Mo_next 18 = .ok (.istore_n 2, 1) := by decide +kernel
theorem d_Mo_next_19 : decode b_Mo_next 19 = .ok (.iconst 0, 1) := by decide +kernel
theorem d_Mo_next_20 : decode b_Mo_next 20 = .ok (.istore_n 3, 1) := by decide +kernel
theorem d_Mo_next_21 : decode b_Mo_next 21 = .ok (.iload_n 3, 1) := by decide +kernel
theorem d_Mo_next_22 : decode b_Mo_next 22 = .ok (.aload_n 0, 1) := by decide +kernel
theorem d_Mo_next_23 : decode b_Mo_next 23 = .ok (.getfield 64, 3) := by decide +kernel
theorem d_Mo_next_26 : decode b_Mo_next 26 = .ok (.if_icmp .ge 48, 3) := by decide +kernel
theorem d_Mo_next_29 : decode b_Mo_next 29 = .ok (.aload_n 0, 1) := by decide +kernel
theorem d_Mo_next_30 : decode b_Mo_next 30 = .ok (.getfield 53, 3) := by decide +kernel
theorem d_Mo_next_33 : decode b_Mo_next 33 = .ok (.ifCond .ne 41, 3) := by decide +kernel
theorem d_Mo_next_36 : decode b_Mo_next 36 = .ok (.aload_n 0, 1) := by decide +kernel
theorem d_Mo_next_37 : decode b_Mo_next 37 = .ok (.getfield 26, 3) := by decide +kernel
theorem d_Mo_next_40 : decode b_Mo_next 40 = .ok (.iload_n 3, 1) := by decide +kernel
theorem d_Mo_next_41 : decode b_Mo_next 41 = .ok (.iaload, 1) := by decide +kernel
theorem d_Mo_next_42 : decode b_Mo_next 42 = .ok (.iload_n 1, 1) := by decide +kernel
theorem d_Mo_next_43 : decode b_Mo_next 43 = .ok (.if_icmp .ne 25, 3) := by decide +kernel
theorem d_Mo_next_46 : decode b_Mo_next 46 = .ok (.iload_n 2, 1) := by decide +kernel
theorem d_Mo_next_47 : decode b_Mo_next 47 = .ok (.iconst (-1), 1) := by decide +kernel
theorem d_Mo_next_48 : decode b_Mo_next 48 = .ok (.if_icmp .eq 18, 3) := by decide +kernel
theorem d_Mo_next_51 : decode b_Mo_next 51 = .ok (.aload_n 0, 1) := by decide +kernel
theorem d_Mo_next_52 : decode b_Mo_next 52 = .ok (.iload_n 3, 1) := by decide +kernel
theorem d_Mo_next_53 : decode b_Mo_next 53 = .ok (.iload_n 1, 1) := by decide +kernel
theorem d_Mo_next_54 : decode b_Mo_next 54 = .ok (.invokevirtual 103, 3) := by decide +kernel
theorem d_Mo_next_57 : decode b_Mo_next 57 = .ok (.aload_n 0, 1) := by decide +kernel
theorem d_Mo_next_58 : decode b_Mo_next 58 = .ok (.iload_n 2, 1) := by decide +kernel
theorem d_Mo_next_59 : decode b_Mo_next 59 = .ok (.iload_n 1, 1) := by decide +kernel
theorem d_Mo_next_60 : decode b_Mo_next 60 = .ok (.invokevirtual 103, 3) := by decide +kernel
theorem d_Mo_next_63 : decode b_Mo_next 63 = .ok (.if_icmp .le 5, 3) := by decide +kernel
theorem d_Mo_next_66 : decode b_Mo_next 66 = .ok (.iload_n 3, 1) := by decide +kernel
theorem d_Mo_next_67 : decode b_Mo_next 67 = .ok (.istore_n 2, 1) := by decide +kernel
theorem d_Mo_next_68 : decode b_Mo_next 68 = .ok (.iinc 3 1, 3) := by decide +kernel
theorem d_Mo_next_71 : decode b_Mo_next 71 = .ok (.goto (-50), 3) := by decide +kernel
theorem d_Mo_next_74 : decode b_Mo_next 74 = .ok (.aload_n 0, 1) := by decide +kernel
theorem d_Mo_next_75 : decode b_Mo_next 75 = .ok (.getfield 53, 3) := by decide +kernel
theorem d_Mo_next_78 : decode b_Mo_next 78 = .ok (.ifCond .le 7, 3) := by decide +kernel
theorem d_Mo_next_81 : decode b_Mo_next 81 = .ok (.iconst 0, 1) := by decide +kernel
theorem d_Mo_next_82 : decode b_Mo_next 82 = .ok (.goto 4, 3) := by decide +kernel
theorem d_Mo_next_85 : decode b_Mo_next 85 = .ok (.iload_n 2, 1) := by decide +kernel
theorem d_Mo_next_86 : decode b_Mo_next 86 = .ok (.ireturn, 1) := by decide +kernel
theorem d_Mo_zone_0 : decode b_Mo_zone 0 = .ok (.aload_n 0, 1) := by decide +kernel
theorem d_Mo_zone_1 : decode b_Mo_zone 1 = .ok (.aload_n 0, 1) := by decide +kernel
theorem d_Mo_zone_2 : decode b_Mo_zone 2 = .ok (.iload_n 1, 1) := by decide +kernel
theorem d_Mo_zone_3 : decode b_Mo_zone 3 = .ok (.invokevirtual 70, 3) := by decide +kernel
theorem d_Mo_zone_6 : decode b_Mo_zone 6 = .ok (.ifCond .ne 7, 3) := by decide +kernel
theorem d_Mo_zone_9 : decode b_Mo_zone 9 = .ok (.iconst 1, 1) := by decide +kernel
theorem d_Mo_zone_10 : decode b_Mo_zone 10 = .ok (.goto 4, 3) := by decide +kernel
theorem d_Mo_zone_13 : decode b_Mo_zone 13 = .ok (.iconst 0, 1) := by decide +kernel
theorem d_Mo_zone_14 : decode b_Mo_zone 14 = .ok (.putfield 53, 3) := by decide +kernel
theorem d_Mo_zone_17 : decode b_Mo_zone 17 = .ok (.aload_n 0, 1) := by decide +kernel
theorem d_Mo_zone_18 : decode b_Mo_zone 18 = .ok (.getfield 53, 3) := by decide +kernel
theorem d_Mo_zone_21 : decode b_Mo_zone 21 = .ok (.ifCond .ne 31, 3) := by decide +kernel
theorem d_Mo_zone_24 : decode b_Mo_zone 24 = .ok (.aload_n 0, 1) := by decide +kernel
theorem d_Mo_zone_25 : decode b_Mo_zone 25 = .ok (.aload_n 0, 1) := by decide +kernel
theorem d_Mo_zone_26 : decode b_Mo_zone 26 = .ok (.getfield 7, 3) := by decide +kernel
theorem d_Mo_zone_29 : decode b_Mo_zone 29 = .ok (.iload_n 1, 1) := by decide +kernel
theorem d_Mo_zone_30 : decode b_Mo_zone 30 = .ok (.baload, 1) := by decide +kernel
theorem d_Mo_zone_31 : decode b_Mo_zone 31 = .ok (.iload_n 2, 1) := by decide +kernel
theorem d_Mo_zone_32 : decode b_Mo_zone 32 = .ok (.if_icmp .eq 12, 3) := by decide +kernel
theorem d_Mo_zone_35 : decode b_Mo_zone 35 = .ok (.aload_n 0, 1) := by decide +kernel
theorem d_Mo_zone_36 : decode b_Mo_zone 36 = .ok (.iload_n 1, 1) := by decide +kernel
theorem d_Mo_zone_37 : decode b_Mo_zone 37 = .ok (.invokevirtual 74, 3) := by decide +kernel
theorem d_Mo_zone_40 : decode b_Mo_zone 40 = .ok (.iconst (-1), 1) := by decide +kernel
theorem d_Mo_zone_41 : decode b_Mo_zone 41 = .ok (.if_icmp .eq 7, 3) := by decide +kernel
theorem d_Mo_zone_44 : decode b_Mo_zone 44 = .ok (.iconst 2, 1) := by decide +kernel
theorem d_Mo_zone_45 : decode b_Mo_zone 45 = .ok (.goto 4, 3) := by decide +kernel
theorem d_Mo_zone_48 : decode b_Mo_zone 48 = .ok (.iconst 0, 1) := by decide +kernel
theorem d_Mo_zone_49 : decode b_Mo_zone 49 = .ok (.putfield 53, 3) := by decide +kernel
theorem d_Mo_zone_52 : decode b_Mo_zone 52 = .ok (.aload_n 0, 1) := by decide +kernel
theorem d_Mo_zone_53 : decode b_Mo_zone 53 = .ok (.getfield 53, 3) := by decide +kernel
theorem d_Mo_zone_56 : decode b_Mo_zone 56 = .ok (.ifCond .le 5, 3) := by decide +kernel
theorem d_Mo_zone_59 : decode b_Mo_zone 59 = .ok (.iconst 0, 1) := by decide +kernel
theorem d_Mo_zone_60 : decode b_Mo_zone 60 = .ok (.ireturn, 1) := by decide +kernel
theorem d_Mo_zone_61 : decode b_Mo_zone 61 = .ok (.aload_n 0, 1) := by decide +kernel
theorem d_Mo_zone_62 : decode b_Mo_zone 62 = .ok (.getfield 7, 3) := by decide +kernel
theorem d_Mo_zone_65 : decode b_Mo_zone 65 = .ok (.iload_n 1, 1) := by decide +kernel
theorem d_Mo_zone_66 : decode b_Mo_zone 66 = .ok (.iload_n 2, 1) := by decide +kernel
theorem d_Mo_zone_67 : decode b_Mo_zone 67 = .ok (.bastore, 1) := by decide +kernel
theorem d_Mo_zone_68 : decode b_Mo_zone 68 = .ok (.iconst 0, 1) := by decide +kernel
theorem d_Mo_zone_69 : decode b_Mo_zone 69 = .ok (.istore_n 3, 1) := by decide +kernel
theorem d_Mo_zone_70 : decode b_Mo_zone 70 = .ok (.iconst 1, 1) := by decide +kernel
theorem d_Mo_zone_71 : decode b_Mo_zone 71 = .ok (.istore 4, 2) := by decide +kernel
theorem d_Mo_zone_73 : decode b_Mo_zone 73 = .ok (.iload 4, 2) := by decide +kernel
theorem d_Mo_zone_75 : decode b_Mo_zone 75 = .ok (.aload_n 0, 1) := by decide +kernel
theorem d_Mo_zone_76 : decode b_Mo_zone 76 = .ok (.getfield 67, 3) := by decide +kernel
theorem d_Mo_zone_79 : decode b_Mo_zone 79 = .ok (.if_icmp .gt 48, 3) := by decide +kernel
theorem d_Mo_zone_82 : decode b_Mo_zone 82 = .ok (.iload_n 2, 1) := by decide +kernel
theorem d_Mo_zone_83 : decode b_Mo_zone 83 = .ok (.ifCond .eq 44, 3) := by decide +kernel
theorem d_Mo_zone_86 : decode b_Mo_zone 86 = .ok (.aload_n 0, 1) := by decide +kernel
theorem d_Mo_zone_87 : decode b_Mo_zone 87 = .ok (.getfield 38, 3) := by decide +kernel
theorem d_Mo_zone_90 : decode b_Mo_zone 90 = .ok (.iload 4, 2) := by decide +kernel
theorem d_Mo_zone_92 : decode b_Mo_zone 92 = .ok (.iaload, 1) := by decide +kernel
theorem d_Mo_zone_93 : decode b_Mo_zone 93 = .ok (.iload_n 1, 1) := by decide +kernel
theorem d_Mo_zone_94 : decode b_Mo_zone 94 = .ok (.if_icmp .ne 27, 3) := by decide +kernel
theorem d_Mo_zone_97 : decode b_Mo_zone 97 = .ok (.aload_n 0, 1) := by decide +kernel
theorem d_Mo_zone_98 : decode b_Mo_zone 98 = .ok (.getfield 50, 3) := by decide +kernel
theorem d_Mo_zone_101 : decode b_Mo_zone 101 = .ok (.iload 4, 2) := by decide +kernel
theorem d_Mo_zone_103 : decode b_Mo_zone 103 = .ok (.iaload, 1) := by decide +kernel
theorem d_Mo_zone_104 : decode b_Mo_zone 104 = .ok (.ifCond .eq 6, 3) := by decide +kernel
theorem d_Mo_zone_107 : decode b_Mo_zone 107 = .ok (.goto 14, 3) := by decide +kernel
theorem d_Mo_zone_110 : decode b_Mo_zone 110 = .ok (.aload_n 0, 1) := by decide +kernel
theorem d_Mo_zone_111 : decode b_Mo_zone 111 = .ok (.getfield 50, 3) := by decide +kernel
theorem d_Mo_zone_114 : decode b_Mo_zone 114 = .ok (.iload 4, 2) := by decide +kernel
theorem d_Mo_zone_116 : decode b_Mo_zone 116 = .ok (.iconst 3, 1) := by decide +kernel
theorem d_Mo_zone_117 : decode b_Mo_zone 117 = .ok (.iastore, 1) := by decide +kernel
theorem d_Mo_zone_118 : decode b_Mo_zone 118 = .ok (.iinc 3 1, 3) := by decide +kernel
theorem d_Mo_zone_121 : decode b_Mo_zone 121 = .ok (.iinc 4 1, 3) := by decide +kernel
theorem d_Mo_zone_124 : decode b_Mo_zone 124 = .ok (.goto (-51), 3) := by decide +kernel
theorem d_Mo_zone_127 : decode b_Mo_zone 127 = .ok (.iload_n 3, 1) := by decide +kernel
theorem d_Mo_zone_128 : decode b_Mo_zone 128 = .ok (.ireturn, 1) := by decide +kernel
theorem d_Mo_halt_0 : decode b_Mo_halt 0 = .ok (.aload_n 0, 1) := by decide +kernel
theorem d_Mo_halt_1 : decode b_Mo_halt 1 = .ok (.aload_n 0, 1) := by decide +kernel
theorem d_Mo_halt_2 : decode b_Mo_halt 2 = .ok (.iload_n 1, 1) := by decide +kernel
theorem d_Mo_halt_3 : decode b_Mo_halt 3 = .ok (.invokevirtual 81, 3) := by decide +kernel
theorem d_Mo_halt_6 : decode b_Mo_halt 6 = .ok (.ifCond .ne 7, 3) := by decide +kernel
theorem d_Mo_halt_9 : decode b_Mo_halt 9 = .ok (.iconst 1, 1) := by decide +kernel
theorem d_Mo_halt_10 : decode b_Mo_halt 10 = .ok (.goto 4, 3) := by decide +kernel
theorem d_Mo_halt_13 : decode b_Mo_halt 13 = .ok (.iconst 0, 1) := by decide +kernel
theorem d_Mo_halt_14 : decode b_Mo_halt 14 = .ok (.putfield 53, 3) := by decide +kernel
theorem d_Mo_halt_17 : decode b_Mo_halt 17 = .ok (.aload_n 0, 1) := by decide +kernel
theorem d_Mo_halt_18 : decode b_Mo_halt 18 = .ok (.getfield 53, 3) := by decide +kernel
theorem d_Mo_halt_21 : decode b_Mo_halt 21 = .ok (.ifCond .ne 22, 3) := by decide +kernel
