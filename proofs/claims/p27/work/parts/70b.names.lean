theorem dL_areRows_101 : decode cL_areRows 101 = .ok (.if_icmp .ge 171, 3) := by decide +kernel
theorem dL_areRows_104 : decode cL_areRows 104 = .ok (.aload_n 0, 1) := by decide +kernel
theorem dL_areRows_105 : decode cL_areRows 105 = .ok (.iload 12, 2) := by decide +kernel
theorem dL_areRows_107 : decode cL_areRows 107 = .ok (.iconst 2, 1) := by decide +kernel
theorem dL_areRows_108 : decode cL_areRows 108 = .ok (.invokevirtual 58, 3) := by decide +kernel
theorem dL_areRows_111 : decode cL_areRows 111 = .ok (.istore 13, 2) := by decide +kernel
theorem dL_areRows_113 : decode cL_areRows 113 = .ok (.aload_n 0, 1) := by decide +kernel
theorem dL_areRows_114 : decode cL_areRows 114 = .ok (.iload 12, 2) := by decide +kernel
theorem dL_areRows_116 : decode cL_areRows 116 = .ok (.iconst 3, 1) := by decide +kernel
theorem dL_areRows_117 : decode cL_areRows 117 = .ok (.invokevirtual 58, 3) := by decide +kernel
theorem dL_areRows_120 : decode cL_areRows 120 = .ok (.istore 14, 2) := by decide +kernel
theorem dL_areRows_122 : decode cL_areRows 122 = .ok (.bipush 100, 2) := by decide +kernel
theorem dL_areRows_124 : decode cL_areRows 124 = .ok (.iload 9, 2) := by decide +kernel
theorem dL_areRows_126 : decode cL_areRows 126 = .ok (.imul, 1) := by decide +kernel
theorem dL_areRows_127 : decode cL_areRows 127 = .ok (.iload 8, 2) := by decide +kernel
theorem dL_areRows_129 : decode cL_areRows 129 = .ok (.if_icmp .lt 25, 3) := by decide +kernel
theorem dL_areRows_132 : decode cL_areRows 132 = .ok (.bipush 100, 2) := by decide +kernel
theorem dL_areRows_134 : decode cL_areRows 134 = .ok (.iload 9, 2) := by decide +kernel
theorem dL_areRows_136 : decode cL_areRows 136 = .ok (.imul, 1) := by decide +kernel
theorem dL_areRows_137 : decode cL_areRows 137 = .ok (.iload 8, 2) := by decide +kernel
theorem dL_areRows_139 : decode cL_areRows 139 = .ok (.bipush 100, 2) := by decide +kernel
theorem dL_areRows_141 : decode cL_areRows 141 = .ok (.iload 7, 2) := by decide +kernel
theorem dL_areRows_143 : decode cL_areRows 143 = .ok (.iconst 1, 1) := by decide +kernel
theorem dL_areRows_144 : decode cL_areRows 144 = .ok (.isub, 1) := by decide +kernel
theorem dL_areRows_145 : decode cL_areRows 145 = .ok (.imul, 1) := by decide +kernel
theorem dL_areRows_146 : decode cL_areRows 146 = .ok (.iadd, 1) := by decide +kernel
theorem dL_areRows_147 : decode cL_areRows 147 = .ok (.if_icmp .gt 7, 3) := by decide +kernel
theorem dL_areRows_150 : decode cL_areRows 150 = .ok (.iconst 1, 1) := by decide +kernel
theorem dL_areRows_151 : decode cL_areRows 151 = .ok (.goto 4, 3) := by decide +kernel
theorem dL_areRows_154 : decode cL_areRows 154 = .ok (.iconst 0, 1) := by decide +kernel
theorem dL_areRows_155 : decode cL_areRows 155 = .ok (.istore 15, 2) := by decide +kernel
theorem dL_areRows_157 : decode cL_areRows 157 = .ok (.aload_n 0, 1) := by decide +kernel
theorem dL_areRows_158 : decode cL_areRows 158 = .ok (.iload 12, 2) := by decide +kernel
theorem dL_areRows_160 : decode cL_areRows 160 = .ok (.iconst 1, 1) := by decide +kernel
theorem dL_areRows_161 : decode cL_areRows 161 = .ok (.invokevirtual 58, 3) := by decide +kernel
theorem dL_areRows_164 : decode cL_areRows 164 = .ok (.iload 9, 2) := by decide +kernel
theorem dL_areRows_166 : decode cL_areRows 166 = .ok (.if_icmp .ne 50, 3) := by decide +kernel
theorem dL_areRows_169 : decode cL_areRows 169 = .ok (.iload 13, 2) := by decide +kernel
theorem dL_areRows_171 : decode cL_areRows 171 = .ok (.iload 4, 2) := by decide +kernel
theorem dL_areRows_173 : decode cL_areRows 173 = .ok (.if_icmp .eq 19, 3) := by decide +kernel
theorem dL_areRows_176 : decode cL_areRows 176 = .ok (.iload 13, 2) := by decide +kernel
theorem dL_areRows_178 : decode cL_areRows 178 = .ok (.iload 4, 2) := by decide +kernel
theorem dL_areRows_180 : decode cL_areRows 180 = .ok (.iconst 1, 1) := by decide +kernel
theorem dL_areRows_181 : decode cL_areRows 181 = .ok (.iadd, 1) := by decide +kernel
theorem dL_areRows_182 : decode cL_areRows 182 = .ok (.if_icmp .ne 34, 3) := by decide +kernel
theorem dL_areRows_185 : decode cL_areRows 185 = .ok (.iload 12, 2) := by decide +kernel
theorem dL_areRows_187 : decode cL_areRows 187 = .ok (.iload 10, 2) := by decide +kernel
theorem dL_areRows_189 : decode cL_areRows 189 = .ok (.if_icmp .ne 27, 3) := by decide +kernel
theorem dL_areRows_192 : decode cL_areRows 192 = .ok (.aload_n 0, 1) := by decide +kernel
theorem dL_areRows_193 : decode cL_areRows 193 = .ok (.iload 12, 2) := by decide +kernel
theorem dL_areRows_195 : decode cL_areRows 195 = .ok (.iconst 4, 1) := by decide +kernel
theorem dL_areRows_196 : decode cL_areRows 196 = .ok (.invokevirtual 58, 3) := by decide +kernel
theorem dL_areRows_199 : decode cL_areRows 199 = .ok (.iload 15, 2) := by decide +kernel
theorem dL_areRows_201 : decode cL_areRows 201 = .ok (.ifCond .eq 7, 3) := by decide +kernel
theorem dL_areRows_204 : decode cL_areRows 204 = .ok (.iconst 1, 1) := by decide +kernel
theorem dL_areRows_205 : decode cL_areRows 205 = .ok (.goto 4, 3) := by decide +kernel
theorem dL_areRows_208 : decode cL_areRows 208 = .ok (.iconst 0, 1) := by decide +kernel
theorem dL_areRows_209 : decode cL_areRows 209 = .ok (.if_icmp .ne 7, 3) := by decide +kernel
theorem dL_areRows_212 : decode cL_areRows 212 = .ok (.iconst 1, 1) := by decide +kernel
theorem dL_areRows_213 : decode cL_areRows 213 = .ok (.goto 4, 3) := by decide +kernel
theorem dL_areRows_216 : decode cL_areRows 216 = .ok (.iconst 0, 1) := by decide +kernel
theorem dL_areRows_217 : decode cL_areRows 217 = .ok (.istore 16, 2) := by decide +kernel
theorem dL_areRows_219 : decode cL_areRows 219 = .ok (.iload 16, 2) := by decide +kernel
theorem dL_areRows_221 : decode cL_areRows 221 = .ok (.ifCond .ne 5, 3) := by decide +kernel
theorem dL_areRows_224 : decode cL_areRows 224 = .ok (.iconst 0, 1) := by decide +kernel
theorem dL_areRows_225 : decode cL_areRows 225 = .ok (.ireturn, 1) := by decide +kernel
theorem dL_areRows_226 : decode cL_areRows 226 = .ok (.iload 13, 2) := by decide +kernel
theorem dL_areRows_228 : decode cL_areRows 228 = .ok (.istore 4, 2) := by decide +kernel
theorem dL_areRows_230 : decode cL_areRows 230 = .ok (.iload 14, 2) := by decide +kernel
theorem dL_areRows_232 : decode cL_areRows 232 = .ok (.ifCond .le 10, 3) := by decide +kernel
theorem dL_areRows_235 : decode cL_areRows 235 = .ok (.iload 5, 2) := by decide +kernel
theorem dL_areRows_237 : decode cL_areRows 237 = .ok (.iconst 1, 1) := by decide +kernel
theorem dL_areRows_238 : decode cL_areRows 238 = .ok (.iadd, 1) := by decide +kernel
theorem dL_areRows_239 : decode cL_areRows 239 = .ok (.goto 5, 3) := by decide +kernel
theorem dL_areRows_242 : decode cL_areRows 242 = .ok (.iload 5, 2) := by decide +kernel
theorem dL_areRows_244 : decode cL_areRows 244 = .ok (.istore 5, 2) := by decide +kernel
theorem dL_areRows_246 : decode cL_areRows 246 = .ok (.iload 14, 2) := by decide +kernel
theorem dL_areRows_248 : decode cL_areRows 248 = .ok (.iconst 1, 1) := by decide +kernel
theorem dL_areRows_249 : decode cL_areRows 249 = .ok (.if_icmp .ne 13, 3) := by decide +kernel
theorem dL_areRows_252 : decode cL_areRows 252 = .ok (.iload 6, 2) := by decide +kernel
theorem dL_areRows_254 : decode cL_areRows 254 = .ok (.ifCond .ge 8, 3) := by decide +kernel
theorem dL_areRows_257 : decode cL_areRows 257 = .ok (.iload 12, 2) := by decide +kernel
theorem dL_areRows_259 : decode cL_areRows 259 = .ok (.goto 5, 3) := by decide +kernel
theorem dL_areRows_262 : decode cL_areRows 262 = .ok (.iload 6, 2) := by decide +kernel
theorem dL_areRows_264 : decode cL_areRows 264 = .ok (.istore 6, 2) := by decide +kernel
theorem dL_areRows_266 : decode cL_areRows 266 = .ok (.iinc 12 1, 3) := by decide +kernel
theorem dL_areRows_269 : decode cL_areRows 269 = .ok (.goto (-175), 3) := by decide +kernel
theorem dL_areRows_272 : decode cL_areRows 272 = .ok (.iload_n 3, 1) := by decide +kernel
theorem dL_areRows_273 : decode cL_areRows 273 = .ok (.iload 11, 2) := by decide +kernel
theorem dL_areRows_275 : decode cL_areRows 275 = .ok (.iadd, 1) := by decide +kernel
theorem dL_areRows_276 : decode cL_areRows 276 = .ok (.istore_n 3, 1) := by decide +kernel
theorem dL_areRows_277 : decode cL_areRows 277 = .ok (.iinc 9 1, 3) := by decide +kernel
theorem dL_areRows_280 : decode cL_areRows 280 = .ok (.goto (-238), 3) := by decide +kernel
theorem dL_areRows_283 : decode cL_areRows 283 = .ok (.iload_n 1, 1) := by decide +kernel
theorem dL_areRows_284 : decode cL_areRows 284 = .ok (.iload 7, 2) := by decide +kernel
theorem dL_areRows_286 : decode cL_areRows 286 = .ok (.if_icmp .ge 7, 3) := by decide +kernel
theorem dL_areRows_289 : decode cL_areRows 289 = .ok (.iconst 0, 1) := by decide +kernel
theorem dL_areRows_290 : decode cL_areRows 290 = .ok (.goto 10, 3) := by decide +kernel
theorem dL_areRows_293 : decode cL_areRows 293 = .ok (.bipush 100, 2) := by decide +kernel
theorem dL_areRows_295 : decode cL_areRows 295 = .ok (.iload_n 1, 1) := by decide +kernel
theorem dL_areRows_296 : decode cL_areRows 296 = .ok (.iload 7, 2) := by decide +kernel
theorem dL_areRows_298 : decode cL_areRows 298 = .ok (.isub, 1) := by decide +kernel
theorem dL_areRows_299 : decode cL_areRows 299 = .ok (.imul, 1) := by decide +kernel
theorem dL_areRows_300 : decode cL_areRows 300 = .ok (.istore 9, 2) := by decide +kernel
theorem dL_areRows_302 : decode cL_areRows 302 = .ok (.iload_n 3, 1) := by decide +kernel
theorem dL_areRows_303 : decode cL_areRows 303 = .ok (.iload_n 2, 1) := by decide +kernel
theorem dL_areRows_304 : decode cL_areRows 304 = .ok (.if_icmp .ne 82, 3) := by decide +kernel
theorem dL_areRows_307 : decode cL_areRows 307 = .ok (.iload 4, 2) := by decide +kernel
theorem dL_areRows_309 : decode cL_areRows 309 = .ok (.aload_n 0, 1) := by decide +kernel
theorem dL_areRows_310 : decode cL_areRows 310 = .ok (.iconst 2, 1) := by decide +kernel
theorem dL_areRows_311 : decode cL_areRows 311 = .ok (.invokevirtual 28, 3) := by decide +kernel
theorem dL_areRows_314 : decode cL_areRows 314 = .ok (.iconst 1, 1) := by decide +kernel
theorem dL_areRows_315 : decode cL_areRows 315 = .ok (.isub, 1) := by decide +kernel
theorem dL_areRows_316 : decode cL_areRows 316 = .ok (.if_icmp .ne 70, 3) := by decide +kernel
theorem dL_areRows_319 : decode cL_areRows 319 = .ok (.iload 5, 2) := by decide +kernel
theorem dL_areRows_321 : decode cL_areRows 321 = .ok (.aload_n 0, 1) := by decide +kernel
theorem dL_areRows_322 : decode cL_areRows 322 = .ok (.iconst 3, 1) := by decide +kernel
theorem dL_areRows_323 : decode cL_areRows 323 = .ok (.invokevirtual 28, 3) := by decide +kernel
theorem dL_areRows_326 : decode cL_areRows 326 = .ok (.if_icmp .ne 60, 3) := by decide +kernel
theorem dL_areRows_329 : decode cL_areRows 329 = .ok (.iload 6, 2) := by decide +kernel
theorem dL_areRows_331 : decode cL_areRows 331 = .ok (.aload_n 0, 1) := by decide +kernel
theorem dL_areRows_332 : decode cL_areRows 332 = .ok (.bipush 16, 2) := by decide +kernel
theorem dL_areRows_334 : decode cL_areRows 334 = .ok (.invokevirtual 28, 3) := by decide +kernel
theorem dL_areRows_337 : decode cL_areRows 337 = .ok (.if_icmp .ne 49, 3) := by decide +kernel
theorem dL_areRows_340 : decode cL_areRows 340 = .ok (.iload 8, 2) := by decide +kernel
theorem dL_areRows_342 : decode cL_areRows 342 = .ok (.ifCond .lt 44, 3) := by decide +kernel
theorem dL_areRows_345 : decode cL_areRows 345 = .ok (.iload 8, 2) := by decide +kernel
theorem dL_areRows_347 : decode cL_areRows 347 = .ok (.iload 9, 2) := by decide +kernel
theorem dL_areRows_349 : decode cL_areRows 349 = .ok (.if_icmp .gt 37, 3) := by decide +kernel
theorem dL_areRows_352 : decode cL_areRows 352 = .ok (.aload_n 0, 1) := by decide +kernel
theorem dL_areRows_353 : decode cL_areRows 353 = .ok (.bipush 9, 2) := by decide +kernel
theorem dL_areRows_355 : decode cL_areRows 355 = .ok (.invokevirtual 28, 3) := by decide +kernel
theorem dL_areRows_358 : decode cL_areRows 358 = .ok (.ifCond .lt 28, 3) := by decide +kernel
theorem dL_areRows_361 : decode cL_areRows 361 = .ok (.aload_n 0, 1) := by decide +kernel
theorem dL_areRows_362 : decode cL_areRows 362 = .ok (.bipush 9, 2) := by decide +kernel
theorem dL_areRows_364 : decode cL_areRows 364 = .ok (.invokevirtual 28, 3) := by decide +kernel
theorem dL_areRows_367 : decode cL_areRows 367 = .ok (.iload 9, 2) := by decide +kernel
theorem dL_areRows_369 : decode cL_areRows 369 = .ok (.if_icmp .gt 17, 3) := by decide +kernel
theorem dL_areRows_372 : decode cL_areRows 372 = .ok (.aload_n 0, 1) := by decide +kernel
theorem dL_areRows_373 : decode cL_areRows 373 = .ok (.iload_n 1, 1) := by decide +kernel
theorem dL_areRows_374 : decode cL_areRows 374 = .ok (.iconst 0, 1) := by decide +kernel
theorem dL_areRows_375 : decode cL_areRows 375 = .ok (.invokevirtual 64, 3) := by decide +kernel
theorem dL_areRows_378 : decode cL_areRows 378 = .ok (.iconst (-1), 1) := by decide +kernel
theorem dL_areRows_379 : decode cL_areRows 379 = .ok (.if_icmp .ne 7, 3) := by decide +kernel
theorem dL_areRows_382 : decode cL_areRows 382 = .ok (.iconst 1, 1) := by decide +kernel
theorem dL_areRows_383 : decode cL_areRows 383 = .ok (.goto 4, 3) := by decide +kernel
theorem dL_areRows_386 : decode cL_areRows 386 = .ok (.iconst 0, 1) := by decide +kernel
theorem dL_areRows_387 : decode cL_areRows 387 = .ok (.ireturn, 1) := by decide +kernel
set_option maxRecDepth 20000 in
theorem ggL_isEstimate_X3_told : GoodIn wsL_isEstimate wsX3_told := goodIn_r _ [5, 6, 7, 8, 9, 10, 11, 12, 13, 14, 15, 16, 17, 18, 19, 20, 21, 22, 23, 24, 25, 26, 27, 28, 29, 30, 31, 4, 32, 33, 34, 35, 36, 37, 38, 39, 40, 41, 42, 43, 44, 45, 46, 47, 48, 49, 50, 51, 52, 53, 54, 55, 56, 57, 58, 59, 60, 61, 62, 63, 64, 65, 66, 67, 68, 69, 70, 71, 72, 73, 74, 75, 76, 77, 78, 79, 80, 81, 82, 83, 84, 85, 98, 99, 100, 101, 102, 103, 104, 105, 106, 107, 108, 109, 110, 111, 112, 113, 114, 115, 116, 117, 118, 119, 120, 121, 122, 123, 124, 125, 126, 127, 128, 129, 130, 131, 132, 133, 134, 135] (by decide +kernel) (by decide +kernel)
set_option maxRecDepth 20000 in
theorem gL_isEstimate_X3_told : GoodIn wsL_isEstimate (wsV RL 28 RX3 yX3_told wsX3_told) := goodIn_app (goodIn_of _ (by decide +kernel)) ggL_isEstimate_X3_told
set_option maxRecDepth 20000 in
theorem ggL_isEstimate_X3_trail : GoodIn wsL_isEstimate wsX3_trail := goodIn_r _ [89, 6, 20, 21, 90, 91, 92, 31, 4, 32, 98, 99, 100, 101, 102, 103, 104, 105, 106, 107, 108, 109, 110, 111, 112, 113, 114, 115, 116, 117, 118, 119, 120, 121, 122, 123, 133, 134, 135] (by decide +kernel) (by decide +kernel)
set_option maxRecDepth 20000 in
theorem gL_isEstimate_X3_trail : GoodIn wsL_isEstimate (wsV RL 67 RX3 yX3_trail wsX3_trail) := goodIn_app (goodIn_of _ (by decide +kernel)) ggL_isEstimate_X3_trail
set_option maxRecDepth 20000 in
theorem ggL_isEstimate_X3_heard : GoodIn wsL_isEstimate wsX3_heard := goodIn_r _ [96, 6, 22, 97, 92, 31, 4, 32, 98, 99, 100, 101, 102, 103, 104, 105, 106, 107, 108, 109, 110, 111, 112, 113, 114, 115, 116, 117, 118, 119, 120, 121, 122, 123] (by decide +kernel) (by decide +kernel)
set_option maxRecDepth 20000 in
theorem gL_isEstimate_X3_heard : GoodIn wsL_isEstimate (wsV RL 70 RX3 yX3_heard wsX3_heard) := goodIn_app (goodIn_of _ (by decide +kernel)) ggL_isEstimate_X3_heard
theorem dL_isEstimate_0 : decode cL_isEstimate 0 = .ok (.aload_n 0, 1) := by decide +kernel
theorem dL_isEstimate_1 : decode cL_isEstimate 1 = .ok (.bipush 7, 2) := by decide +kernel
theorem dL_isEstimate_3 : decode cL_isEstimate 3 = .ok (.invokevirtual 28, 3) := by decide +kernel
theorem dL_isEstimate_6 : decode cL_isEstimate 6 = .ok (.istore_n 1, 1) := by decide +kernel
theorem dL_isEstimate_7 : decode cL_isEstimate 7 = .ok (.aload_n 0, 1) := by decide +kernel
theorem dL_isEstimate_8 : decode cL_isEstimate 8 = .ok (.iconst 0, 1) := by decide +kernel
theorem dL_isEstimate_9 : decode cL_isEstimate 9 = .ok (.invokevirtual 28, 3) := by decide +kernel
theorem dL_isEstimate_12 : decode cL_isEstimate 12 = .ok (.istore_n 2, 1) := by decide +kernel
theorem dL_isEstimate_13 : decode cL_isEstimate 13 = .ok (.aload_n 0, 1) := by decide +kernel
theorem dL_isEstimate_14 : decode cL_isEstimate 14 = .ok (.iconst 5, 1) := by decide +kernel
theorem dL_isEstimate_15 : decode cL_isEstimate 15 = .ok (.invokevirtual 28, 3) := by decide +kernel
theorem dL_isEstimate_18 : decode cL_isEstimate 18 = .ok (.istore_n 3, 1) := by decide +kernel
theorem dL_isEstimate_19 : decode cL_isEstimate 19 = .ok (.aload_n 0, 1) := by decide +kernel
theorem dL_isEstimate_20 : decode cL_isEstimate 20 = .ok (.bipush 16, 2) := by decide +kernel
theorem dL_isEstimate_22 : decode cL_isEstimate 22 = .ok (.invokevirtual 28, 3) := by decide +kernel
theorem dL_isEstimate_25 : decode cL_isEstimate 25 = .ok (.istore 4, 2) := by decide +kernel
theorem dL_isEstimate_27 : decode cL_isEstimate 27 = .ok (.aload_n 0, 1) := by decide +kernel
theorem dL_isEstimate_28 : decode cL_isEstimate 28 = .ok (.bipush 15, 2) := by decide +kernel
theorem dL_isEstimate_30 : decode cL_isEstimate 30 = .ok (.invokevirtual 28, 3) := by decide +kernel
theorem dL_isEstimate_33 : decode cL_isEstimate 33 = .ok (.istore 5, 2) := by decide +kernel
theorem dL_isEstimate_35 : decode cL_isEstimate 35 = .ok (.iload_n 3, 1) := by decide +kernel
theorem dL_isEstimate_36 : decode cL_isEstimate 36 = .ok (.ifCond .lt 43, 3) := by decide +kernel
theorem dL_isEstimate_39 : decode cL_isEstimate 39 = .ok (.iload_n 3, 1) := by decide +kernel
theorem dL_isEstimate_40 : decode cL_isEstimate 40 = .ok (.iload_n 2, 1) := by decide +kernel
theorem dL_isEstimate_41 : decode cL_isEstimate 41 = .ok (.if_icmp .gt 38, 3) := by decide +kernel
theorem dL_isEstimate_44 : decode cL_isEstimate 44 = .ok (.iload_n 1, 1) := by decide +kernel
theorem dL_isEstimate_45 : decode cL_isEstimate 45 = .ok (.ifCond .lt 34, 3) := by decide +kernel
theorem dL_isEstimate_48 : decode cL_isEstimate 48 = .ok (.iload_n 1, 1) := by decide +kernel
theorem dL_isEstimate_49 : decode cL_isEstimate 49 = .ok (.iload_n 2, 1) := by decide +kernel
theorem dL_isEstimate_50 : decode cL_isEstimate 50 = .ok (.if_icmp .ge 29, 3) := by decide +kernel
theorem dL_isEstimate_53 : decode cL_isEstimate 53 = .ok (.iload 4, 2) := by decide +kernel
theorem dL_isEstimate_55 : decode cL_isEstimate 55 = .ok (.bipush (-9), 2) := by decide +kernel
theorem dL_isEstimate_57 : decode cL_isEstimate 57 = .ok (.if_icmp .eq 9, 3) := by decide +kernel
theorem dL_isEstimate_60 : decode cL_isEstimate 60 = .ok (.iload_n 1, 1) := by decide +kernel
theorem dL_isEstimate_61 : decode cL_isEstimate 61 = .ok (.iload 4, 2) := by decide +kernel
theorem dL_isEstimate_63 : decode cL_isEstimate 63 = .ok (.if_icmp .gt 16, 3) := by decide +kernel
theorem dL_isEstimate_66 : decode cL_isEstimate 66 = .ok (.aload_n 0, 1) := by decide +kernel
theorem dL_isEstimate_67 : decode cL_isEstimate 67 = .ok (.bipush 6, 2) := by decide +kernel
theorem dL_isEstimate_69 : decode cL_isEstimate 69 = .ok (.invokevirtual 28, 3) := by decide +kernel
theorem dL_isEstimate_72 : decode cL_isEstimate 72 = .ok (.ifCond .lt 7, 3) := by decide +kernel
theorem dL_isEstimate_75 : decode cL_isEstimate 75 = .ok (.iconst 1, 1) := by decide +kernel
theorem dL_isEstimate_76 : decode cL_isEstimate 76 = .ok (.goto 4, 3) := by decide +kernel
theorem dL_isEstimate_79 : decode cL_isEstimate 79 = .ok (.iconst 0, 1) := by decide +kernel
theorem dL_isEstimate_80 : decode cL_isEstimate 80 = .ok (.istore 6, 2) := by decide +kernel
theorem dL_isEstimate_82 : decode cL_isEstimate 82 = .ok (.iload 6, 2) := by decide +kernel
theorem dL_isEstimate_84 : decode cL_isEstimate 84 = .ok (.ifCond .eq 25, 3) := by decide +kernel
theorem dL_isEstimate_87 : decode cL_isEstimate 87 = .ok (.iload_n 1, 1) := by decide +kernel
theorem dL_isEstimate_88 : decode cL_isEstimate 88 = .ok (.iload_n 3, 1) := by decide +kernel
theorem dL_isEstimate_89 : decode cL_isEstimate 89 = .ok (.if_icmp .ge 16, 3) := by decide +kernel
theorem dL_isEstimate_92 : decode cL_isEstimate 92 = .ok (.iload_n 1, 1) := by decide +kernel
theorem dL_isEstimate_93 : decode cL_isEstimate 93 = .ok (.iload_n 2, 1) := by decide +kernel
theorem dL_isEstimate_94 : decode cL_isEstimate 94 = .ok (.iconst 1, 1) := by decide +kernel
theorem dL_isEstimate_95 : decode cL_isEstimate 95 = .ok (.isub, 1) := by decide +kernel
theorem dL_isEstimate_96 : decode cL_isEstimate 96 = .ok (.if_icmp .eq 9, 3) := by decide +kernel
theorem dL_isEstimate_99 : decode cL_isEstimate 99 = .ok (.iload_n 1, 1) := by decide +kernel
theorem dL_isEstimate_100 : decode cL_isEstimate 100 = .ok (.iload 4, 2) := by decide +kernel
theorem dL_isEstimate_102 : decode cL_isEstimate 102 = .ok (.if_icmp .ne 7, 3) := by decide +kernel
theorem dL_isEstimate_105 : decode cL_isEstimate 105 = .ok (.iconst 1, 1) := by decide +kernel
theorem dL_isEstimate_106 : decode cL_isEstimate 106 = .ok (.goto 4, 3) := by decide +kernel
theorem dL_isEstimate_109 : decode cL_isEstimate 109 = .ok (.iconst 0, 1) := by decide +kernel
theorem dL_isEstimate_110 : decode cL_isEstimate 110 = .ok (.istore 6, 2) := by decide +kernel
theorem dL_isEstimate_112 : decode cL_isEstimate 112 = .ok (.iconst (-1), 1) := by decide +kernel
theorem dL_isEstimate_113 : decode cL_isEstimate 113 = .ok (.istore 7, 2) := by decide +kernel
theorem dL_isEstimate_115 : decode cL_isEstimate 115 = .ok (.iconst (-1), 1) := by decide +kernel
theorem dL_isEstimate_116 : decode cL_isEstimate 116 = .ok (.istore 8, 2) := by decide +kernel
theorem dL_isEstimate_118 : decode cL_isEstimate 118 = .ok (.iconst 0, 1) := by decide +kernel
theorem dL_isEstimate_119 : decode cL_isEstimate 119 = .ok (.istore 9, 2) := by decide +kernel
theorem dL_isEstimate_121 : decode cL_isEstimate 121 = .ok (.iload 9, 2) := by decide +kernel
theorem dL_isEstimate_123 : decode cL_isEstimate 123 = .ok (.iload 5, 2) := by decide +kernel
theorem dL_isEstimate_125 : decode cL_isEstimate 125 = .ok (.if_icmp .ge 78, 3) := by decide +kernel
theorem dL_isEstimate_128 : decode cL_isEstimate 128 = .ok (.iload 6, 2) := by decide +kernel
theorem dL_isEstimate_130 : decode cL_isEstimate 130 = .ok (.ifCond .eq 46, 3) := by decide +kernel
theorem dL_isEstimate_133 : decode cL_isEstimate 133 = .ok (.aload_n 0, 1) := by decide +kernel
theorem dL_isEstimate_134 : decode cL_isEstimate 134 = .ok (.iload 9, 2) := by decide +kernel
theorem dL_isEstimate_136 : decode cL_isEstimate 136 = .ok (.iconst 0, 1) := by decide +kernel
theorem dL_isEstimate_137 : decode cL_isEstimate 137 = .ok (.invokevirtual 67, 3) := by decide +kernel
theorem dL_isEstimate_140 : decode cL_isEstimate 140 = .ok (.iload 7, 2) := by decide +kernel
theorem dL_isEstimate_142 : decode cL_isEstimate 142 = .ok (.if_icmp .le 34, 3) := by decide +kernel
theorem dL_isEstimate_145 : decode cL_isEstimate 145 = .ok (.aload_n 0, 1) := by decide +kernel
theorem dL_isEstimate_146 : decode cL_isEstimate 146 = .ok (.iload 9, 2) := by decide +kernel
theorem dL_isEstimate_148 : decode cL_isEstimate 148 = .ok (.iconst 1, 1) := by decide +kernel
theorem dL_isEstimate_149 : decode cL_isEstimate 149 = .ok (.invokevirtual 67, 3) := by decide +kernel
theorem dL_isEstimate_152 : decode cL_isEstimate 152 = .ok (.iload 8, 2) := by decide +kernel
theorem dL_isEstimate_154 : decode cL_isEstimate 154 = .ok (.if_icmp .le 22, 3) := by decide +kernel
theorem dL_isEstimate_157 : decode cL_isEstimate 157 = .ok (.aload_n 0, 1) := by decide +kernel
theorem dL_isEstimate_158 : decode cL_isEstimate 158 = .ok (.iload 9, 2) := by decide +kernel
theorem dL_isEstimate_160 : decode cL_isEstimate 160 = .ok (.iconst 0, 1) := by decide +kernel
theorem dL_isEstimate_161 : decode cL_isEstimate 161 = .ok (.invokevirtual 67, 3) := by decide +kernel
theorem dL_isEstimate_164 : decode cL_isEstimate 164 = .ok (.aload_n 0, 1) := by decide +kernel
theorem dL_isEstimate_165 : decode cL_isEstimate 165 = .ok (.iconst 4, 1) := by decide +kernel
theorem dL_isEstimate_166 : decode cL_isEstimate 166 = .ok (.invokevirtual 28, 3) := by decide +kernel
theorem dL_isEstimate_169 : decode cL_isEstimate 169 = .ok (.if_icmp .gt 7, 3) := by decide +kernel
theorem dL_isEstimate_172 : decode cL_isEstimate 172 = .ok (.iconst 1, 1) := by decide +kernel
theorem dL_isEstimate_173 : decode cL_isEstimate 173 = .ok (.goto 4, 3) := by decide +kernel
theorem dL_isEstimate_176 : decode cL_isEstimate 176 = .ok (.iconst 0, 1) := by decide +kernel
theorem dL_isEstimate_177 : decode cL_isEstimate 177 = .ok (.istore 6, 2) := by decide +kernel
theorem dL_isEstimate_179 : decode cL_isEstimate 179 = .ok (.aload_n 0, 1) := by decide +kernel
theorem dL_isEstimate_180 : decode cL_isEstimate 180 = .ok (.iload 9, 2) := by decide +kernel
theorem dL_isEstimate_182 : decode cL_isEstimate 182 = .ok (.iconst 0, 1) := by decide +kernel
theorem dL_isEstimate_183 : decode cL_isEstimate 183 = .ok (.invokevirtual 67, 3) := by decide +kernel
theorem dL_isEstimate_186 : decode cL_isEstimate 186 = .ok (.istore 7, 2) := by decide +kernel
theorem dL_isEstimate_188 : decode cL_isEstimate 188 = .ok (.aload_n 0, 1) := by decide +kernel
theorem dL_isEstimate_189 : decode cL_isEstimate 189 = .ok (.iload 9, 2) := by decide +kernel
theorem dL_isEstimate_191 : decode cL_isEstimate 191 = .ok (.iconst 1, 1) := by decide +kernel
theorem dL_isEstimate_192 : decode cL_isEstimate 192 = .ok (.invokevirtual 67, 3) := by decide +kernel
theorem dL_isEstimate_195 : decode cL_isEstimate 195 = .ok (.istore 8, 2) := by decide +kernel
theorem dL_isEstimate_197 : decode cL_isEstimate 197 = .ok (.iinc 9 1, 3) := by decide +kernel
theorem dL_isEstimate_200 : decode cL_isEstimate 200 = .ok (.goto (-79), 3) := by decide +kernel
theorem dL_isEstimate_203 : decode cL_isEstimate 203 = .ok (.iload 6, 2) := by decide +kernel
theorem dL_isEstimate_205 : decode cL_isEstimate 205 = .ok (.ifCond .eq 55, 3) := by decide +kernel
theorem dL_isEstimate_208 : decode cL_isEstimate 208 = .ok (.iload 5, 2) := by decide +kernel
theorem dL_isEstimate_210 : decode cL_isEstimate 210 = .ok (.ifCond .eq 9, 3) := by decide +kernel
theorem dL_isEstimate_213 : decode cL_isEstimate 213 = .ok (.iload 8, 2) := by decide +kernel
theorem dL_isEstimate_215 : decode cL_isEstimate 215 = .ok (.iload_n 3, 1) := by decide +kernel
theorem dL_isEstimate_216 : decode cL_isEstimate 216 = .ok (.if_icmp .ne 44, 3) := by decide +kernel
theorem dL_isEstimate_219 : decode cL_isEstimate 219 = .ok (.aload_n 0, 1) := by decide +kernel
theorem dL_isEstimate_220 : decode cL_isEstimate 220 = .ok (.iload 5, 2) := by decide +kernel
theorem dL_isEstimate_222 : decode cL_isEstimate 222 = .ok (.iconst 0, 1) := by decide +kernel
theorem dL_isEstimate_223 : decode cL_isEstimate 223 = .ok (.invokevirtual 67, 3) := by decide +kernel
theorem dL_isEstimate_226 : decode cL_isEstimate 226 = .ok (.bipush (-9), 2) := by decide +kernel
theorem dL_isEstimate_228 : decode cL_isEstimate 228 = .ok (.if_icmp .ne 32, 3) := by decide +kernel
theorem dL_isEstimate_231 : decode cL_isEstimate 231 = .ok (.aload_n 0, 1) := by decide +kernel
theorem dL_isEstimate_232 : decode cL_isEstimate 232 = .ok (.aload_n 0, 1) := by decide +kernel
theorem dL_isEstimate_233 : decode cL_isEstimate 233 = .ok (.bipush 17, 2) := by decide +kernel
theorem dL_isEstimate_235 : decode cL_isEstimate 235 = .ok (.invokevirtual 28, 3) := by decide +kernel
theorem dL_isEstimate_238 : decode cL_isEstimate 238 = .ok (.invokevirtual 70, 3) := by decide +kernel
theorem dL_isEstimate_241 : decode cL_isEstimate 241 = .ok (.bipush (-9), 2) := by decide +kernel
theorem dL_isEstimate_243 : decode cL_isEstimate 243 = .ok (.if_icmp .ne 17, 3) := by decide +kernel
theorem dL_isEstimate_246 : decode cL_isEstimate 246 = .ok (.aload_n 0, 1) := by decide +kernel
theorem dL_isEstimate_247 : decode cL_isEstimate 247 = .ok (.bipush 17, 2) := by decide +kernel
theorem dL_isEstimate_249 : decode cL_isEstimate 249 = .ok (.invokevirtual 28, 3) := by decide +kernel
theorem dL_isEstimate_252 : decode cL_isEstimate 252 = .ok (.iconst 4, 1) := by decide +kernel
theorem dL_isEstimate_253 : decode cL_isEstimate 253 = .ok (.if_icmp .gt 7, 3) := by decide +kernel
theorem dL_isEstimate_256 : decode cL_isEstimate 256 = .ok (.iconst 1, 1) := by decide +kernel
theorem dL_isEstimate_257 : decode cL_isEstimate 257 = .ok (.goto 4, 3) := by decide +kernel
theorem dL_isEstimate_260 : decode cL_isEstimate 260 = .ok (.iconst 0, 1) := by decide +kernel
theorem dL_isEstimate_261 : decode cL_isEstimate 261 = .ok (.istore 6, 2) := by decide +kernel
theorem dL_isEstimate_263 : decode cL_isEstimate 263 = .ok (.iload 6, 2) := by decide +kernel
theorem dL_isEstimate_265 : decode cL_isEstimate 265 = .ok (.ifCond .eq 43, 3) := by decide +kernel
theorem dL_isEstimate_268 : decode cL_isEstimate 268 = .ok (.iload 5, 2) := by decide +kernel
theorem dL_isEstimate_270 : decode cL_isEstimate 270 = .ok (.iconst 2, 1) := by decide +kernel
theorem dL_isEstimate_271 : decode cL_isEstimate 271 = .ok (.if_icmp .lt 33, 3) := by decide +kernel
theorem dL_isEstimate_274 : decode cL_isEstimate 274 = .ok (.aload_n 0, 1) := by decide +kernel
theorem dL_isEstimate_275 : decode cL_isEstimate 275 = .ok (.bipush 6, 2) := by decide +kernel
theorem dL_isEstimate_277 : decode cL_isEstimate 277 = .ok (.invokevirtual 28, 3) := by decide +kernel
theorem dL_isEstimate_280 : decode cL_isEstimate 280 = .ok (.bipush 100, 2) := by decide +kernel
theorem dL_isEstimate_282 : decode cL_isEstimate 282 = .ok (.iload_n 3, 1) := by decide +kernel
theorem dL_isEstimate_283 : decode cL_isEstimate 283 = .ok (.aload_n 0, 1) := by decide +kernel
theorem dL_isEstimate_284 : decode cL_isEstimate 284 = .ok (.iconst 0, 1) := by decide +kernel
theorem dL_isEstimate_285 : decode cL_isEstimate 285 = .ok (.iconst 1, 1) := by decide +kernel
theorem dL_isEstimate_286 : decode cL_isEstimate 286 = .ok (.invokevirtual 67, 3) := by decide +kernel
theorem dL_isEstimate_289 : decode cL_isEstimate 289 = .ok (.isub, 1) := by decide +kernel
theorem dL_isEstimate_290 : decode cL_isEstimate 290 = .ok (.imul, 1) := by decide +kernel
theorem dL_isEstimate_291 : decode cL_isEstimate 291 = .ok (.iload 7, 2) := by decide +kernel
theorem dL_isEstimate_293 : decode cL_isEstimate 293 = .ok (.aload_n 0, 1) := by decide +kernel
theorem dL_isEstimate_294 : decode cL_isEstimate 294 = .ok (.iconst 0, 1) := by decide +kernel
theorem dL_isEstimate_295 : decode cL_isEstimate 295 = .ok (.iconst 0, 1) := by decide +kernel
theorem dL_isEstimate_296 : decode cL_isEstimate 296 = .ok (.invokevirtual 67, 3) := by decide +kernel
theorem dL_isEstimate_299 : decode cL_isEstimate 299 = .ok (.isub, 1) := by decide +kernel
theorem dL_isEstimate_300 : decode cL_isEstimate 300 = .ok (.idiv, 1) := by decide +kernel
theorem dL_isEstimate_301 : decode cL_isEstimate 301 = .ok (.if_icmp .ne 7, 3) := by decide +kernel
theorem dL_isEstimate_304 : decode cL_isEstimate 304 = .ok (.iconst 1, 1) := by decide +kernel
theorem dL_isEstimate_305 : decode cL_isEstimate 305 = .ok (.goto 4, 3) := by decide +kernel
theorem dL_isEstimate_308 : decode cL_isEstimate 308 = .ok (.iconst 0, 1) := by decide +kernel
theorem dL_isEstimate_309 : decode cL_isEstimate 309 = .ok (.ireturn, 1) := by decide +kernel
set_option maxRecDepth 20000 in
theorem ggL_isBest_X3_told : GoodIn wsL_isBest wsX3_told := goodIn_r _ [5, 6, 7, 8, 9, 10, 11, 12, 13, 14, 15, 16, 17, 18, 19, 20, 21, 22, 23, 24, 25, 26, 27, 28, 29, 30, 31, 4, 32, 33, 34, 35, 36, 37, 38, 39, 40, 41, 42, 43, 44, 45, 46, 47, 48, 49, 50, 51, 52, 53, 54, 55, 56, 57, 58, 59, 60, 61, 62, 63, 64, 65, 66, 67, 68, 69, 70, 71, 72, 73, 74, 75, 76, 77, 78, 79, 80, 81, 82, 83, 84, 85, 244, 245, 246, 247, 248, 249, 250, 251, 252, 253, 254, 255, 256, 257, 258, 259, 260, 261, 262, 263, 264, 265, 266, 267, 268, 269, 270, 271, 272, 273, 274, 275, 276, 277, 278, 279, 280, 281] (by decide +kernel) (by decide +kernel)
set_option maxRecDepth 20000 in
theorem gL_isBest_X3_told : GoodIn wsL_isBest (wsV RL 28 RX3 yX3_told wsX3_told) := goodIn_app (goodIn_of _ (by decide +kernel)) ggL_isBest_X3_told
set_option maxRecDepth 20000 in
theorem ggL_isBest_X3_best : GoodIn wsL_isBest wsX3_best := goodIn_r _ [89, 6, 90, 91, 4, 92, 93, 94, 95, 36, 96, 56, 54, 78, 79, 60, 80, 42, 43, 69, 70, 71, 97, 31, 32, 98, 99, 100, 101, 102, 103, 104, 105, 106, 107, 108, 109, 110, 111, 112, 113, 114, 115, 244, 245, 246, 247, 248, 249, 250, 251, 252, 253, 254, 255, 256, 257, 258, 259, 260, 261, 262, 263, 264, 265, 266, 267, 268, 269, 270, 271, 272, 273, 274, 275, 276, 277, 278] (by decide +kernel) (by decide +kernel)
set_option maxRecDepth 20000 in
theorem gL_isBest_X3_best : GoodIn wsL_isBest (wsV RL 73 RX3 yX3_best wsX3_best) := goodIn_app (goodIn_of _ (by decide +kernel)) ggL_isBest_X3_best
set_option maxRecDepth 20000 in
theorem ggL_isBest_X3_word : GoodIn wsL_isBest wsX3_word := goodIn_r _ [119, 6, 7, 120, 121, 122, 123, 124, 125, 126, 27, 127, 29, 128, 31, 4, 32, 129, 130, 131, 36, 132, 133, 134, 135, 136, 137, 54, 244, 245, 246, 247, 248, 249, 250, 251, 252, 253, 254, 255, 256, 257, 258, 259, 260, 261, 262, 263, 264, 265, 266, 267, 268, 269, 270, 271, 272, 273, 274, 275, 276, 277, 278] (by decide +kernel) (by decide +kernel)
set_option maxRecDepth 20000 in
theorem gL_isBest_X3_word : GoodIn wsL_isBest (wsV RL 58 RX3 yX3_word wsX3_word) := goodIn_app (goodIn_of _ (by decide +kernel)) ggL_isBest_X3_word
set_option maxRecDepth 20000 in
theorem ggL_isBest_X3_setting : GoodIn wsL_isBest wsX3_setting := goodIn_r _ [141, 6, 142, 143, 144, 4, 145, 128, 31, 32, 244, 245, 246, 247, 248, 249, 250, 251, 252, 253, 254, 255, 256, 257, 258, 259, 260, 261, 262, 263, 264, 265, 266, 267, 268, 269] (by decide +kernel) (by decide +kernel)
set_option maxRecDepth 20000 in
theorem gL_isBest_X3_setting : GoodIn wsL_isBest (wsV RL 61 RX3 yX3_setting wsX3_setting) := goodIn_app (goodIn_of _ (by decide +kernel)) ggL_isBest_X3_setting
set_option maxRecDepth 20000 in
theorem ggL_isBest_X3_score : GoodIn wsL_isBest wsX3_score := goodIn_r _ [149, 6, 7, 124, 125, 126, 27, 127, 29, 111, 106, 107, 36, 108, 109, 110, 42, 97, 31, 4, 32, 244, 245, 246, 247, 248, 249, 250, 251, 252, 253, 254, 255, 256, 257, 258, 259, 260, 261, 262, 263, 264, 265, 266, 267, 268, 269, 270, 271, 272, 273, 274, 275, 276, 277, 278] (by decide +kernel) (by decide +kernel)
set_option maxRecDepth 20000 in
theorem gL_isBest_X3_score : GoodIn wsL_isBest (wsV RL 76 RX3 yX3_score wsX3_score) := goodIn_app (goodIn_of _ (by decide +kernel)) ggL_isBest_X3_score
set_option maxRecDepth 20000 in
theorem ggL_isBest_X3_hear : GoodIn wsL_isBest wsX3_hear := goodIn_r _ [153, 6, 12, 90, 91, 4, 92, 154, 155, 156, 157, 23, 158, 159, 160, 161, 162, 163, 164, 165, 166, 167, 168, 169, 170, 36, 171, 54, 42, 172, 110, 109, 56, 57, 52, 53, 133, 173, 174, 175, 176, 177, 178, 179, 83, 70, 60, 71, 180, 181, 182, 183, 184, 185, 186, 27, 187, 29, 188, 189, 190, 191, 192, 30, 193, 194, 195, 196, 197, 198, 199, 200, 201, 202, 203, 204, 205, 206, 207, 94, 95, 96, 78, 79, 80, 43, 69, 97, 31, 32, 98, 99, 100, 101, 102, 103, 104, 105, 106, 107, 108, 208, 113, 114, 115, 209, 210, 211, 212, 213, 214, 215, 216, 217, 218, 219, 220, 221, 222, 223, 224, 225, 226, 227, 228, 229, 230, 231, 232, 233, 234, 244, 245, 246, 247, 248, 249, 250, 251, 252, 253, 254, 255, 256, 257, 258, 259, 260, 261, 262, 263, 264, 265, 266, 267, 268, 269, 270, 271, 272, 273, 274, 275, 276, 277, 278, 279, 280, 281] (by decide +kernel) (by decide +kernel)
set_option maxRecDepth 20000 in
theorem gL_isBest_X3_hear : GoodIn wsL_isBest (wsV RL 52 RX3 yX3_hear wsX3_hear) := goodIn_app (goodIn_of _ (by decide +kernel)) ggL_isBest_X3_hear
set_option maxRecDepth 20000 in
theorem ggL_isBest_X3_heard : GoodIn wsL_isBest wsX3_heard := goodIn_r _ [238, 6, 22, 239, 128, 31, 4, 32, 244, 245, 246, 247, 248, 249, 250, 251, 252, 253, 254, 255, 256, 257, 258, 259, 260, 261, 262, 263, 264, 265, 266, 267, 268, 269] (by decide +kernel) (by decide +kernel)
set_option maxRecDepth 20000 in
theorem gL_isBest_X3_heard : GoodIn wsL_isBest (wsV RL 70 RX3 yX3_heard wsX3_heard) := goodIn_app (goodIn_of _ (by decide +kernel)) ggL_isBest_X3_heard
set_option maxRecDepth 20000 in
theorem ggL_isBest_X3_undo : GoodIn wsL_isBest wsX3_undo := goodIn_r _ [243, 23, 6, 158, 163, 164, 165, 4, 166, 167, 168, 169, 170, 36, 171, 54, 42, 172, 110, 109, 56, 57, 52, 53, 133, 173, 174, 175, 176, 177, 178, 179, 83, 70, 60, 71, 180, 181, 182, 183, 184, 185, 186, 27, 187, 29, 188, 189, 190, 191, 192, 30, 193, 194, 195, 196, 197, 198, 199, 200, 201, 202, 244, 245, 246, 247, 248, 249, 250, 251, 252, 253, 254, 255, 256, 257, 258, 259, 260, 261, 262, 263, 264, 265, 266, 267, 268, 269, 270, 271, 272, 273, 274, 275, 276, 277, 278, 279, 280, 281] (by decide +kernel) (by decide +kernel)
set_option maxRecDepth 20000 in
theorem gL_isBest_X3_undo : GoodIn wsL_isBest (wsV RL 43 RX3 yX3_undo wsX3_undo) := goodIn_app (goodIn_of _ (by decide +kernel)) ggL_isBest_X3_undo
theorem dL_isBest_0 : decode cL_isBest 0 = .ok (.aload_n 0, 1) := by decide +kernel
theorem dL_isBest_1 : decode cL_isBest 1 = .ok (.iconst 5, 1) := by decide +kernel
theorem dL_isBest_2 : decode cL_isBest 2 = .ok (.invokevirtual 28, 3) := by decide +kernel
theorem dL_isBest_5 : decode cL_isBest 5 = .ok (.istore_n 2, 1) := by decide +kernel
theorem dL_isBest_6 : decode cL_isBest 6 = .ok (.aload_n 0, 1) := by decide +kernel
theorem dL_isBest_7 : decode cL_isBest 7 = .ok (.iload_n 1, 1) := by decide +kernel
theorem dL_isBest_8 : decode cL_isBest 8 = .ok (.iconst 0, 1) := by decide +kernel
theorem dL_isBest_9 : decode cL_isBest 9 = .ok (.invokevirtual 73, 3) := by decide +kernel
theorem dL_isBest_12 : decode cL_isBest 12 = .ok (.istore_n 3, 1) := by decide +kernel
theorem dL_isBest_13 : decode cL_isBest 13 = .ok (.aload_n 0, 1) := by decide +kernel
theorem dL_isBest_14 : decode cL_isBest 14 = .ok (.iload_n 1, 1) := by decide +kernel
theorem dL_isBest_15 : decode cL_isBest 15 = .ok (.iconst 1, 1) := by decide +kernel
theorem dL_isBest_16 : decode cL_isBest 16 = .ok (.invokevirtual 73, 3) := by decide +kernel
theorem dL_isBest_19 : decode cL_isBest 19 = .ok (.istore 4, 2) := by decide +kernel
theorem dL_isBest_21 : decode cL_isBest 21 = .ok (.aload_n 0, 1) := by decide +kernel
theorem dL_isBest_22 : decode cL_isBest 22 = .ok (.iload_n 1, 1) := by decide +kernel
theorem dL_isBest_23 : decode cL_isBest 23 = .ok (.iconst 2, 1) := by decide +kernel
theorem dL_isBest_24 : decode cL_isBest 24 = .ok (.invokevirtual 73, 3) := by decide +kernel
theorem dL_isBest_27 : decode cL_isBest 27 = .ok (.istore 5, 2) := by decide +kernel
theorem dL_isBest_29 : decode cL_isBest 29 = .ok (.iconst 0, 1) := by decide +kernel
theorem dL_isBest_30 : decode cL_isBest 30 = .ok (.istore 6, 2) := by decide +kernel
theorem dL_isBest_32 : decode cL_isBest 32 = .ok (.iconst 0, 1) := by decide +kernel
theorem dL_isBest_33 : decode cL_isBest 33 = .ok (.istore 7, 2) := by decide +kernel
theorem dL_isBest_35 : decode cL_isBest 35 = .ok (.iload 7, 2) := by decide +kernel
theorem dL_isBest_37 : decode cL_isBest 37 = .ok (.aload_n 0, 1) := by decide +kernel
theorem dL_isBest_38 : decode cL_isBest 38 = .ok (.iconst 0, 1) := by decide +kernel
theorem dL_isBest_39 : decode cL_isBest 39 = .ok (.invokevirtual 28, 3) := by decide +kernel
theorem dL_isBest_42 : decode cL_isBest 42 = .ok (.if_icmp .ge 130, 3) := by decide +kernel
theorem dL_isBest_45 : decode cL_isBest 45 = .ok (.aload_n 0, 1) := by decide +kernel
theorem dL_isBest_46 : decode cL_isBest 46 = .ok (.iload 7, 2) := by decide +kernel
theorem dL_isBest_48 : decode cL_isBest 48 = .ok (.iconst 0, 1) := by decide +kernel
theorem dL_isBest_49 : decode cL_isBest 49 = .ok (.invokevirtual 58, 3) := by decide +kernel
theorem dL_isBest_52 : decode cL_isBest 52 = .ok (.iload_n 1, 1) := by decide +kernel
theorem dL_isBest_53 : decode cL_isBest 53 = .ok (.if_icmp .ne 113, 3) := by decide +kernel
theorem dL_isBest_56 : decode cL_isBest 56 = .ok (.iload 7, 2) := by decide +kernel
theorem dL_isBest_58 : decode cL_isBest 58 = .ok (.iload_n 2, 1) := by decide +kernel
theorem dL_isBest_59 : decode cL_isBest 59 = .ok (.aload_n 0, 1) := by decide +kernel
theorem dL_isBest_60 : decode cL_isBest 60 = .ok (.iconst 3, 1) := by decide +kernel
theorem dL_isBest_61 : decode cL_isBest 61 = .ok (.invokevirtual 61, 3) := by decide +kernel
theorem dL_isBest_64 : decode cL_isBest 64 = .ok (.isub, 1) := by decide +kernel
theorem dL_isBest_65 : decode cL_isBest 65 = .ok (.if_icmp .lt 101, 3) := by decide +kernel
theorem dL_isBest_68 : decode cL_isBest 68 = .ok (.iload 7, 2) := by decide +kernel
theorem dL_isBest_70 : decode cL_isBest 70 = .ok (.iload_n 2, 1) := by decide +kernel
theorem dL_isBest_71 : decode cL_isBest 71 = .ok (.aload_n 0, 1) := by decide +kernel
theorem dL_isBest_72 : decode cL_isBest 72 = .ok (.iconst 4, 1) := by decide +kernel
theorem dL_isBest_73 : decode cL_isBest 73 = .ok (.invokevirtual 61, 3) := by decide +kernel
theorem dL_isBest_76 : decode cL_isBest 76 = .ok (.iadd, 1) := by decide +kernel
theorem dL_isBest_77 : decode cL_isBest 77 = .ok (.if_icmp .gt 89, 3) := by decide +kernel
theorem dL_isBest_80 : decode cL_isBest 80 = .ok (.iconst 1, 1) := by decide +kernel
theorem dL_isBest_81 : decode cL_isBest 81 = .ok (.istore 6, 2) := by decide +kernel
theorem dL_isBest_83 : decode cL_isBest 83 = .ok (.iload 7, 2) := by decide +kernel
theorem dL_isBest_85 : decode cL_isBest 85 = .ok (.iload_n 2, 1) := by decide +kernel
theorem dL_isBest_86 : decode cL_isBest 86 = .ok (.if_icmp .le 10, 3) := by decide +kernel
theorem dL_isBest_89 : decode cL_isBest 89 = .ok (.iload 7, 2) := by decide +kernel
theorem dL_isBest_91 : decode cL_isBest 91 = .ok (.iload_n 2, 1) := by decide +kernel
theorem dL_isBest_92 : decode cL_isBest 92 = .ok (.isub, 1) := by decide +kernel
theorem dL_isBest_93 : decode cL_isBest 93 = .ok (.goto 7, 3) := by decide +kernel
theorem dL_isBest_96 : decode cL_isBest 96 = .ok (.iload_n 2, 1) := by decide +kernel
theorem dL_isBest_97 : decode cL_isBest 97 = .ok (.iload 7, 2) := by decide +kernel
theorem dL_isBest_99 : decode cL_isBest 99 = .ok (.isub, 1) := by decide +kernel
theorem dL_isBest_100 : decode cL_isBest 100 = .ok (.istore 8, 2) := by decide +kernel
theorem dL_isBest_102 : decode cL_isBest 102 = .ok (.iload_n 3, 1) := by decide +kernel
theorem dL_isBest_103 : decode cL_isBest 103 = .ok (.iload_n 2, 1) := by decide +kernel
