theorem dL_isBest_104 : decode cL_isBest 104 = .ok (.if_icmp .le 9, 3) := by decide +kernel
theorem dL_isBest_107 : decode cL_isBest 107 = .ok (.iload_n 3, 1) := by decide +kernel
theorem dL_isBest_108 : decode cL_isBest 108 = .ok (.iload_n 2, 1) := by decide +kernel
theorem dL_isBest_109 : decode cL_isBest 109 = .ok (.isub, 1) := by decide +kernel
theorem dL_isBest_110 : decode cL_isBest 110 = .ok (.goto 6, 3) := by decide +kernel
theorem dL_isBest_113 : decode cL_isBest 113 = .ok (.iload_n 2, 1) := by decide +kernel
theorem dL_isBest_114 : decode cL_isBest 114 = .ok (.iload_n 3, 1) := by decide +kernel
theorem dL_isBest_115 : decode cL_isBest 115 = .ok (.isub, 1) := by decide +kernel
theorem dL_isBest_116 : decode cL_isBest 116 = .ok (.istore 9, 2) := by decide +kernel
theorem dL_isBest_118 : decode cL_isBest 118 = .ok (.iload_n 3, 1) := by decide +kernel
theorem dL_isBest_119 : decode cL_isBest 119 = .ok (.ifCond .lt 45, 3) := by decide +kernel
theorem dL_isBest_122 : decode cL_isBest 122 = .ok (.aload_n 0, 1) := by decide +kernel
theorem dL_isBest_123 : decode cL_isBest 123 = .ok (.iload 7, 2) := by decide +kernel
theorem dL_isBest_125 : decode cL_isBest 125 = .ok (.invokevirtual 76, 3) := by decide +kernel
theorem dL_isBest_128 : decode cL_isBest 128 = .ok (.iload 4, 2) := by decide +kernel
theorem dL_isBest_130 : decode cL_isBest 130 = .ok (.if_icmp .gt 34, 3) := by decide +kernel
theorem dL_isBest_133 : decode cL_isBest 133 = .ok (.aload_n 0, 1) := by decide +kernel
theorem dL_isBest_134 : decode cL_isBest 134 = .ok (.iload 7, 2) := by decide +kernel
theorem dL_isBest_136 : decode cL_isBest 136 = .ok (.invokevirtual 76, 3) := by decide +kernel
theorem dL_isBest_139 : decode cL_isBest 139 = .ok (.iload 4, 2) := by decide +kernel
theorem dL_isBest_141 : decode cL_isBest 141 = .ok (.if_icmp .ne 25, 3) := by decide +kernel
theorem dL_isBest_144 : decode cL_isBest 144 = .ok (.iload 8, 2) := by decide +kernel
theorem dL_isBest_146 : decode cL_isBest 146 = .ok (.iload 9, 2) := by decide +kernel
theorem dL_isBest_148 : decode cL_isBest 148 = .ok (.if_icmp .lt 16, 3) := by decide +kernel
theorem dL_isBest_151 : decode cL_isBest 151 = .ok (.iload 8, 2) := by decide +kernel
theorem dL_isBest_153 : decode cL_isBest 153 = .ok (.iload 9, 2) := by decide +kernel
theorem dL_isBest_155 : decode cL_isBest 155 = .ok (.if_icmp .ne 11, 3) := by decide +kernel
theorem dL_isBest_158 : decode cL_isBest 158 = .ok (.iload 7, 2) := by decide +kernel
theorem dL_isBest_160 : decode cL_isBest 160 = .ok (.iload_n 3, 1) := by decide +kernel
theorem dL_isBest_161 : decode cL_isBest 161 = .ok (.if_icmp .ge 5, 3) := by decide +kernel
theorem dL_isBest_164 : decode cL_isBest 164 = .ok (.iconst 0, 1) := by decide +kernel
theorem dL_isBest_165 : decode cL_isBest 165 = .ok (.ireturn, 1) := by decide +kernel
theorem dL_isBest_166 : decode cL_isBest 166 = .ok (.iinc 7 1, 3) := by decide +kernel
theorem dL_isBest_169 : decode cL_isBest 169 = .ok (.goto (-134), 3) := by decide +kernel
theorem dL_isBest_172 : decode cL_isBest 172 = .ok (.iload 6, 2) := by decide +kernel
theorem dL_isBest_174 : decode cL_isBest 174 = .ok (.iload_n 3, 1) := by decide +kernel
theorem dL_isBest_175 : decode cL_isBest 175 = .ok (.ifCond .lt 7, 3) := by decide +kernel
theorem dL_isBest_178 : decode cL_isBest 178 = .ok (.iconst 1, 1) := by decide +kernel
theorem dL_isBest_179 : decode cL_isBest 179 = .ok (.goto 4, 3) := by decide +kernel
theorem dL_isBest_182 : decode cL_isBest 182 = .ok (.iconst 0, 1) := by decide +kernel
theorem dL_isBest_183 : decode cL_isBest 183 = .ok (.if_icmp .ne 43, 3) := by decide +kernel
theorem dL_isBest_186 : decode cL_isBest 186 = .ok (.iload 6, 2) := by decide +kernel
theorem dL_isBest_188 : decode cL_isBest 188 = .ok (.ifCond .eq 40, 3) := by decide +kernel
theorem dL_isBest_191 : decode cL_isBest 191 = .ok (.iload 4, 2) := by decide +kernel
theorem dL_isBest_193 : decode cL_isBest 193 = .ok (.aload_n 0, 1) := by decide +kernel
theorem dL_isBest_194 : decode cL_isBest 194 = .ok (.iload_n 3, 1) := by decide +kernel
theorem dL_isBest_195 : decode cL_isBest 195 = .ok (.invokevirtual 76, 3) := by decide +kernel
theorem dL_isBest_198 : decode cL_isBest 198 = .ok (.if_icmp .ne 28, 3) := by decide +kernel
theorem dL_isBest_201 : decode cL_isBest 201 = .ok (.iload 5, 2) := by decide +kernel
theorem dL_isBest_203 : decode cL_isBest 203 = .ok (.iload_n 3, 1) := by decide +kernel
theorem dL_isBest_204 : decode cL_isBest 204 = .ok (.iload_n 2, 1) := by decide +kernel
theorem dL_isBest_205 : decode cL_isBest 205 = .ok (.if_icmp .eq 13, 3) := by decide +kernel
theorem dL_isBest_208 : decode cL_isBest 208 = .ok (.iload 4, 2) := by decide +kernel
theorem dL_isBest_210 : decode cL_isBest 210 = .ok (.aload_n 0, 1) := by decide +kernel
theorem dL_isBest_211 : decode cL_isBest 211 = .ok (.iconst 5, 1) := by decide +kernel
theorem dL_isBest_212 : decode cL_isBest 212 = .ok (.invokevirtual 61, 3) := by decide +kernel
theorem dL_isBest_215 : decode cL_isBest 215 = .ok (.if_icmp .lt 7, 3) := by decide +kernel
theorem dL_isBest_218 : decode cL_isBest 218 = .ok (.iconst 1, 1) := by decide +kernel
theorem dL_isBest_219 : decode cL_isBest 219 = .ok (.goto 4, 3) := by decide +kernel
theorem dL_isBest_222 : decode cL_isBest 222 = .ok (.iconst 0, 1) := by decide +kernel
theorem dL_isBest_223 : decode cL_isBest 223 = .ok (.if_icmp .eq 5, 3) := by decide +kernel
theorem dL_isBest_226 : decode cL_isBest 226 = .ok (.iconst 0, 1) := by decide +kernel
theorem dL_isBest_227 : decode cL_isBest 227 = .ok (.ireturn, 1) := by decide +kernel
theorem dL_isBest_228 : decode cL_isBest 228 = .ok (.aload_n 0, 1) := by decide +kernel
theorem dL_isBest_229 : decode cL_isBest 229 = .ok (.bipush 10, 2) := by decide +kernel
theorem dL_isBest_231 : decode cL_isBest 231 = .ok (.invokevirtual 28, 3) := by decide +kernel
theorem dL_isBest_234 : decode cL_isBest 234 = .ok (.istore 7, 2) := by decide +kernel
theorem dL_isBest_236 : decode cL_isBest 236 = .ok (.aload_n 0, 1) := by decide +kernel
theorem dL_isBest_237 : decode cL_isBest 237 = .ok (.bipush 11, 2) := by decide +kernel
theorem dL_isBest_239 : decode cL_isBest 239 = .ok (.invokevirtual 28, 3) := by decide +kernel
theorem dL_isBest_242 : decode cL_isBest 242 = .ok (.istore 8, 2) := by decide +kernel
theorem dL_isBest_244 : decode cL_isBest 244 = .ok (.aload_n 0, 1) := by decide +kernel
theorem dL_isBest_245 : decode cL_isBest 245 = .ok (.bipush 12, 2) := by decide +kernel
theorem dL_isBest_247 : decode cL_isBest 247 = .ok (.invokevirtual 28, 3) := by decide +kernel
theorem dL_isBest_250 : decode cL_isBest 250 = .ok (.istore 9, 2) := by decide +kernel
theorem dL_isBest_252 : decode cL_isBest 252 = .ok (.aload_n 0, 1) := by decide +kernel
theorem dL_isBest_253 : decode cL_isBest 253 = .ok (.iload_n 1, 1) := by decide +kernel
theorem dL_isBest_254 : decode cL_isBest 254 = .ok (.invokevirtual 52, 3) := by decide +kernel
theorem dL_isBest_257 : decode cL_isBest 257 = .ok (.istore 10, 2) := by decide +kernel
theorem dL_isBest_259 : decode cL_isBest 259 = .ok (.iload 6, 2) := by decide +kernel
theorem dL_isBest_261 : decode cL_isBest 261 = .ok (.ifCond .eq 13, 3) := by decide +kernel
theorem dL_isBest_264 : decode cL_isBest 264 = .ok (.iload 5, 2) := by decide +kernel
theorem dL_isBest_266 : decode cL_isBest 266 = .ok (.iconst 1, 1) := by decide +kernel
theorem dL_isBest_267 : decode cL_isBest 267 = .ok (.if_icmp .ne 7, 3) := by decide +kernel
theorem dL_isBest_270 : decode cL_isBest 270 = .ok (.iconst 1, 1) := by decide +kernel
theorem dL_isBest_271 : decode cL_isBest 271 = .ok (.goto 4, 3) := by decide +kernel
theorem dL_isBest_274 : decode cL_isBest 274 = .ok (.iconst 0, 1) := by decide +kernel
theorem dL_isBest_275 : decode cL_isBest 275 = .ok (.istore 11, 2) := by decide +kernel
theorem dL_isBest_277 : decode cL_isBest 277 = .ok (.iload 10, 2) := by decide +kernel
theorem dL_isBest_279 : decode cL_isBest 279 = .ok (.iload 11, 2) := by decide +kernel
theorem dL_isBest_281 : decode cL_isBest 281 = .ok (.ifCond .eq 9, 3) := by decide +kernel
theorem dL_isBest_284 : decode cL_isBest 284 = .ok (.iload_n 3, 1) := by decide +kernel
theorem dL_isBest_285 : decode cL_isBest 285 = .ok (.iconst 1, 1) := by decide +kernel
theorem dL_isBest_286 : decode cL_isBest 286 = .ok (.iadd, 1) := by decide +kernel
theorem dL_isBest_287 : decode cL_isBest 287 = .ok (.goto 5, 3) := by decide +kernel
theorem dL_isBest_290 : decode cL_isBest 290 = .ok (.bipush (-9), 2) := by decide +kernel
theorem dL_isBest_292 : decode cL_isBest 292 = .ok (.if_icmp .ne 95, 3) := by decide +kernel
theorem dL_isBest_295 : decode cL_isBest 295 = .ok (.aload_n 0, 1) := by decide +kernel
theorem dL_isBest_296 : decode cL_isBest 296 = .ok (.bipush 12, 2) := by decide +kernel
theorem dL_isBest_298 : decode cL_isBest 298 = .ok (.invokevirtual 28, 3) := by decide +kernel
theorem dL_isBest_301 : decode cL_isBest 301 = .ok (.iload 11, 2) := by decide +kernel
theorem dL_isBest_303 : decode cL_isBest 303 = .ok (.ifCond .eq 8, 3) := by decide +kernel
theorem dL_isBest_306 : decode cL_isBest 306 = .ok (.iload 9, 2) := by decide +kernel
theorem dL_isBest_308 : decode cL_isBest 308 = .ok (.goto 7, 3) := by decide +kernel
theorem dL_isBest_311 : decode cL_isBest 311 = .ok (.iload 9, 2) := by decide +kernel
theorem dL_isBest_313 : decode cL_isBest 313 = .ok (.iconst 1, 1) := by decide +kernel
theorem dL_isBest_314 : decode cL_isBest 314 = .ok (.iadd, 1) := by decide +kernel
theorem dL_isBest_315 : decode cL_isBest 315 = .ok (.if_icmp .ne 72, 3) := by decide +kernel
theorem dL_isBest_318 : decode cL_isBest 318 = .ok (.aload_n 0, 1) := by decide +kernel
theorem dL_isBest_319 : decode cL_isBest 319 = .ok (.bipush 10, 2) := by decide +kernel
theorem dL_isBest_321 : decode cL_isBest 321 = .ok (.invokevirtual 28, 3) := by decide +kernel
theorem dL_isBest_324 : decode cL_isBest 324 = .ok (.iload 11, 2) := by decide +kernel
theorem dL_isBest_326 : decode cL_isBest 326 = .ok (.ifCond .eq 15, 3) := by decide +kernel
theorem dL_isBest_329 : decode cL_isBest 329 = .ok (.iload_n 3, 1) := by decide +kernel
theorem dL_isBest_330 : decode cL_isBest 330 = .ok (.iload_n 2, 1) := by decide +kernel
theorem dL_isBest_331 : decode cL_isBest 331 = .ok (.if_icmp .le 10, 3) := by decide +kernel
theorem dL_isBest_334 : decode cL_isBest 334 = .ok (.iload 7, 2) := by decide +kernel
theorem dL_isBest_336 : decode cL_isBest 336 = .ok (.iconst 1, 1) := by decide +kernel
theorem dL_isBest_337 : decode cL_isBest 337 = .ok (.iadd, 1) := by decide +kernel
theorem dL_isBest_338 : decode cL_isBest 338 = .ok (.goto 5, 3) := by decide +kernel
theorem dL_isBest_341 : decode cL_isBest 341 = .ok (.iload 7, 2) := by decide +kernel
theorem dL_isBest_343 : decode cL_isBest 343 = .ok (.if_icmp .ne 44, 3) := by decide +kernel
theorem dL_isBest_346 : decode cL_isBest 346 = .ok (.aload_n 0, 1) := by decide +kernel
theorem dL_isBest_347 : decode cL_isBest 347 = .ok (.bipush 11, 2) := by decide +kernel
theorem dL_isBest_349 : decode cL_isBest 349 = .ok (.invokevirtual 28, 3) := by decide +kernel
theorem dL_isBest_352 : decode cL_isBest 352 = .ok (.iload 11, 2) := by decide +kernel
theorem dL_isBest_354 : decode cL_isBest 354 = .ok (.ifCond .eq 15, 3) := by decide +kernel
theorem dL_isBest_357 : decode cL_isBest 357 = .ok (.iload_n 3, 1) := by decide +kernel
theorem dL_isBest_358 : decode cL_isBest 358 = .ok (.iload_n 2, 1) := by decide +kernel
theorem dL_isBest_359 : decode cL_isBest 359 = .ok (.if_icmp .ge 10, 3) := by decide +kernel
theorem dL_isBest_362 : decode cL_isBest 362 = .ok (.iload 8, 2) := by decide +kernel
theorem dL_isBest_364 : decode cL_isBest 364 = .ok (.iconst 1, 1) := by decide +kernel
theorem dL_isBest_365 : decode cL_isBest 365 = .ok (.iadd, 1) := by decide +kernel
theorem dL_isBest_366 : decode cL_isBest 366 = .ok (.goto 5, 3) := by decide +kernel
theorem dL_isBest_369 : decode cL_isBest 369 = .ok (.iload 8, 2) := by decide +kernel
theorem dL_isBest_371 : decode cL_isBest 371 = .ok (.if_icmp .ne 16, 3) := by decide +kernel
theorem dL_isBest_374 : decode cL_isBest 374 = .ok (.aload_n 0, 1) := by decide +kernel
theorem dL_isBest_375 : decode cL_isBest 375 = .ok (.iconst 0, 1) := by decide +kernel
theorem dL_isBest_376 : decode cL_isBest 376 = .ok (.invokevirtual 70, 3) := by decide +kernel
theorem dL_isBest_379 : decode cL_isBest 379 = .ok (.iload_n 1, 1) := by decide +kernel
theorem dL_isBest_380 : decode cL_isBest 380 = .ok (.if_icmp .ne 7, 3) := by decide +kernel
theorem dL_isBest_383 : decode cL_isBest 383 = .ok (.iconst 1, 1) := by decide +kernel
theorem dL_isBest_384 : decode cL_isBest 384 = .ok (.goto 4, 3) := by decide +kernel
theorem dL_isBest_387 : decode cL_isBest 387 = .ok (.iconst 0, 1) := by decide +kernel
theorem dL_isBest_388 : decode cL_isBest 388 = .ok (.istore 12, 2) := by decide +kernel
theorem dL_isBest_390 : decode cL_isBest 390 = .ok (.aload_n 0, 1) := by decide +kernel
theorem dL_isBest_391 : decode cL_isBest 391 = .ok (.invokevirtual 43, 3) := by decide +kernel
theorem dL_isBest_394 : decode cL_isBest 394 = .ok (.ifCond .lt 21, 3) := by decide +kernel
theorem dL_isBest_397 : decode cL_isBest 397 = .ok (.iload 12, 2) := by decide +kernel
theorem dL_isBest_399 : decode cL_isBest 399 = .ok (.ifCond .eq 16, 3) := by decide +kernel
theorem dL_isBest_402 : decode cL_isBest 402 = .ok (.aload_n 0, 1) := by decide +kernel
theorem dL_isBest_403 : decode cL_isBest 403 = .ok (.iconst 5, 1) := by decide +kernel
theorem dL_isBest_404 : decode cL_isBest 404 = .ok (.invokevirtual 28, 3) := by decide +kernel
theorem dL_isBest_407 : decode cL_isBest 407 = .ok (.iload_n 2, 1) := by decide +kernel
theorem dL_isBest_408 : decode cL_isBest 408 = .ok (.if_icmp .ne 7, 3) := by decide +kernel
theorem dL_isBest_411 : decode cL_isBest 411 = .ok (.iconst 1, 1) := by decide +kernel
theorem dL_isBest_412 : decode cL_isBest 412 = .ok (.goto 4, 3) := by decide +kernel
theorem dL_isBest_415 : decode cL_isBest 415 = .ok (.iconst 0, 1) := by decide +kernel
theorem dL_isBest_416 : decode cL_isBest 416 = .ok (.ireturn, 1) := by decide +kernel
set_option maxRecDepth 20000 in
theorem ggL_areAlike_X3_mean : GoodIn wsL_areAlike wsX3_mean := goodIn_r _ [5, 6, 7, 8, 9, 208, 209, 210, 211, 212, 213, 214, 215, 216, 217, 218, 219, 220, 221, 222, 223, 224, 225, 226, 227, 228, 229, 230, 231, 232, 233, 234, 235, 236, 237, 238, 239, 240, 241, 242] (by decide +kernel) (by decide +kernel)
set_option maxRecDepth 20000 in
theorem gL_areAlike_X3_mean : GoodIn wsL_areAlike (wsV RL 79 RX3 yX3_mean wsX3_mean) := goodIn_app (goodIn_of _ (by decide +kernel)) ggL_areAlike_X3_mean
set_option maxRecDepth 20000 in
theorem ggL_areAlike_X3_told : GoodIn wsL_areAlike wsX3_told := goodIn_r _ [13, 6, 7, 9, 8, 14, 15, 16, 17, 18, 19, 20, 21, 22, 23, 24, 25, 26, 27, 28, 29, 30, 31, 32, 33, 34, 35, 4, 36, 37, 38, 39, 40, 41, 42, 43, 44, 45, 46, 47, 48, 49, 50, 51, 52, 53, 54, 55, 56, 57, 58, 59, 60, 61, 62, 63, 64, 65, 66, 67, 68, 69, 70, 71, 72, 73, 74, 75, 76, 77, 78, 79, 80, 81, 82, 83, 84, 85, 86, 87, 88, 89, 208, 209, 210, 211, 212, 213, 214, 215, 216, 217, 218, 219, 220, 221, 222, 223, 224, 225, 226, 227, 228, 229, 230, 231, 232, 233, 234, 235, 236, 237, 238, 239, 240, 241, 242, 243, 244, 245] (by decide +kernel) (by decide +kernel)
set_option maxRecDepth 20000 in
theorem gL_areAlike_X3_told : GoodIn wsL_areAlike (wsV RL 28 RX3 yX3_told wsX3_told) := goodIn_app (goodIn_of _ (by decide +kernel)) ggL_areAlike_X3_told
set_option maxRecDepth 20000 in
theorem ggL_areAlike_X3_rehearse : GoodIn wsL_areAlike wsX3_rehearse := goodIn_r _ [93, 94, 6, 22, 19, 20, 21, 16, 95, 96, 97, 40, 98, 58, 46, 99, 100, 101, 60, 61, 56, 57, 102, 103, 104, 105, 106, 107, 108, 4, 109, 87, 74, 64, 75, 110, 111, 112, 113, 114, 115, 116, 31, 117, 33, 118, 119, 120, 121, 122, 34, 123, 124, 125, 126, 127, 128, 129, 130, 131, 132, 133, 134, 135, 136, 47, 137, 138, 139, 140, 141, 42, 43, 44, 45, 48, 49, 50, 51, 35, 36, 52, 53, 54, 55, 59, 62, 63, 65, 66, 67, 68, 142, 143, 144, 145, 76, 146, 70, 71, 72, 73, 77, 78, 79, 80, 81, 82, 83, 84, 85, 86, 88, 147, 148, 149, 150, 151, 152, 153, 154, 155, 156, 157, 158, 159, 160, 161, 162, 163, 164, 165, 166, 167, 168, 169, 170, 171, 172, 173, 174, 175, 176, 177, 178, 179, 180, 181, 182, 183, 184, 185, 186, 187, 188, 189, 190, 191, 192, 193, 194, 195, 196, 197, 198, 199, 200, 201, 202, 203, 204, 205, 206, 207, 208, 209, 210, 211, 212, 213, 214, 215, 216, 217, 218, 219, 220, 221, 222, 223, 224, 225, 226, 227, 228, 229, 230, 231, 232, 233, 234, 235, 236, 237, 238, 239, 240, 241, 242, 243, 244, 245] (by decide +kernel) (by decide +kernel)
set_option maxRecDepth 20000 in
theorem gL_areAlike_X3_rehearse : GoodIn wsL_areAlike (wsV RL 83 RX3 yX3_rehearse wsX3_rehearse) := goodIn_app (goodIn_of _ (by decide +kernel)) ggL_areAlike_X3_rehearse
theorem dL_areAlike_0 : decode cL_areAlike 0 = .ok (.aload_n 0, 1) := by decide +kernel
theorem dL_areAlike_1 : decode cL_areAlike 1 = .ok (.invokevirtual 79, 3) := by decide +kernel
theorem dL_areAlike_4 : decode cL_areAlike 4 = .ok (.aload_n 1, 1) := by decide +kernel
theorem dL_areAlike_5 : decode cL_areAlike 5 = .ok (.invokevirtual 79, 3) := by decide +kernel
theorem dL_areAlike_8 : decode cL_areAlike 8 = .ok (.fcmp .l, 1) := by decide +kernel
theorem dL_areAlike_9 : decode cL_areAlike 9 = .ok (.ifCond .ne 7, 3) := by decide +kernel
theorem dL_areAlike_12 : decode cL_areAlike 12 = .ok (.iconst 1, 1) := by decide +kernel
theorem dL_areAlike_13 : decode cL_areAlike 13 = .ok (.goto 4, 3) := by decide +kernel
theorem dL_areAlike_16 : decode cL_areAlike 16 = .ok (.iconst 0, 1) := by decide +kernel
theorem dL_areAlike_17 : decode cL_areAlike 17 = .ok (.istore_n 2, 1) := by decide +kernel
theorem dL_areAlike_18 : decode cL_areAlike 18 = .ok (.iconst 0, 1) := by decide +kernel
theorem dL_areAlike_19 : decode cL_areAlike 19 = .ok (.istore_n 3, 1) := by decide +kernel
theorem dL_areAlike_20 : decode cL_areAlike 20 = .ok (.iload_n 3, 1) := by decide +kernel
theorem dL_areAlike_21 : decode cL_areAlike 21 = .ok (.bipush 18, 2) := by decide +kernel
theorem dL_areAlike_23 : decode cL_areAlike 23 = .ok (.if_icmp .ge 32, 3) := by decide +kernel
theorem dL_areAlike_26 : decode cL_areAlike 26 = .ok (.iload_n 2, 1) := by decide +kernel
theorem dL_areAlike_27 : decode cL_areAlike 27 = .ok (.ifCond .eq 20, 3) := by decide +kernel
theorem dL_areAlike_30 : decode cL_areAlike 30 = .ok (.aload_n 0, 1) := by decide +kernel
theorem dL_areAlike_31 : decode cL_areAlike 31 = .ok (.iload_n 3, 1) := by decide +kernel
theorem dL_areAlike_32 : decode cL_areAlike 32 = .ok (.invokevirtual 28, 3) := by decide +kernel
theorem dL_areAlike_35 : decode cL_areAlike 35 = .ok (.aload_n 1, 1) := by decide +kernel
theorem dL_areAlike_36 : decode cL_areAlike 36 = .ok (.iload_n 3, 1) := by decide +kernel
theorem dL_areAlike_37 : decode cL_areAlike 37 = .ok (.invokevirtual 28, 3) := by decide +kernel
theorem dL_areAlike_40 : decode cL_areAlike 40 = .ok (.if_icmp .ne 7, 3) := by decide +kernel
theorem dL_areAlike_43 : decode cL_areAlike 43 = .ok (.iconst 1, 1) := by decide +kernel
theorem dL_areAlike_44 : decode cL_areAlike 44 = .ok (.goto 4, 3) := by decide +kernel
theorem dL_areAlike_47 : decode cL_areAlike 47 = .ok (.iconst 0, 1) := by decide +kernel
theorem dL_areAlike_48 : decode cL_areAlike 48 = .ok (.istore_n 2, 1) := by decide +kernel
theorem dL_areAlike_49 : decode cL_areAlike 49 = .ok (.iinc 3 1, 3) := by decide +kernel
theorem dL_areAlike_52 : decode cL_areAlike 52 = .ok (.goto (-32), 3) := by decide +kernel
theorem dL_areAlike_55 : decode cL_areAlike 55 = .ok (.iload_n 2, 1) := by decide +kernel
theorem dL_areAlike_56 : decode cL_areAlike 56 = .ok (.ifCond .eq 37, 3) := by decide +kernel
theorem dL_areAlike_59 : decode cL_areAlike 59 = .ok (.aload_n 0, 1) := by decide +kernel
theorem dL_areAlike_60 : decode cL_areAlike 60 = .ok (.iconst 3, 1) := by decide +kernel
theorem dL_areAlike_61 : decode cL_areAlike 61 = .ok (.iconst 0, 1) := by decide +kernel
theorem dL_areAlike_62 : decode cL_areAlike 62 = .ok (.invokevirtual 83, 3) := by decide +kernel
theorem dL_areAlike_65 : decode cL_areAlike 65 = .ok (.aload_n 1, 1) := by decide +kernel
theorem dL_areAlike_66 : decode cL_areAlike 66 = .ok (.iconst 3, 1) := by decide +kernel
theorem dL_areAlike_67 : decode cL_areAlike 67 = .ok (.iconst 0, 1) := by decide +kernel
theorem dL_areAlike_68 : decode cL_areAlike 68 = .ok (.invokevirtual 83, 3) := by decide +kernel
theorem dL_areAlike_71 : decode cL_areAlike 71 = .ok (.if_icmp .ne 22, 3) := by decide +kernel
theorem dL_areAlike_74 : decode cL_areAlike 74 = .ok (.aload_n 0, 1) := by decide +kernel
theorem dL_areAlike_75 : decode cL_areAlike 75 = .ok (.iconst 2, 1) := by decide +kernel
theorem dL_areAlike_76 : decode cL_areAlike 76 = .ok (.iconst 3, 1) := by decide +kernel
theorem dL_areAlike_77 : decode cL_areAlike 77 = .ok (.invokevirtual 83, 3) := by decide +kernel
theorem dL_areAlike_80 : decode cL_areAlike 80 = .ok (.aload_n 1, 1) := by decide +kernel
theorem dL_areAlike_81 : decode cL_areAlike 81 = .ok (.iconst 2, 1) := by decide +kernel
theorem dL_areAlike_82 : decode cL_areAlike 82 = .ok (.iconst 3, 1) := by decide +kernel
theorem dL_areAlike_83 : decode cL_areAlike 83 = .ok (.invokevirtual 83, 3) := by decide +kernel
theorem dL_areAlike_86 : decode cL_areAlike 86 = .ok (.if_icmp .ne 7, 3) := by decide +kernel
theorem dL_areAlike_89 : decode cL_areAlike 89 = .ok (.iconst 1, 1) := by decide +kernel
theorem dL_areAlike_90 : decode cL_areAlike 90 = .ok (.goto 4, 3) := by decide +kernel
theorem dL_areAlike_93 : decode cL_areAlike 93 = .ok (.iconst 0, 1) := by decide +kernel
theorem dL_areAlike_94 : decode cL_areAlike 94 = .ok (.ireturn, 1) := by decide +kernel
set_option maxRecDepth 20000 in
theorem ggL_law_X3_init : GoodIn wsL_law wsX3_init := goodIn_r _ [5, 6, 7, 8, 9, 10, 11, 12, 13, 14, 15, 16, 17, 18, 19, 20, 21, 22, 23, 24, 25, 26, 27, 28, 29, 30, 31, 32, 33, 34, 35, 36, 37, 38, 39, 40, 41, 42, 43, 44, 45, 46, 47, 48, 49, 50, 51, 2, 52, 53, 54, 55, 56, 57, 58, 59, 60, 61, 62, 63, 64, 65, 66, 67, 68, 69, 70, 71, 72, 73, 74, 75, 76, 77, 78, 79, 80, 81, 82, 83, 84, 85, 86, 87, 88, 89, 90, 91, 92, 93, 94, 95, 96, 97, 98, 99, 100, 101, 102, 103, 104, 105, 106, 107, 108, 109, 110, 111, 112, 113, 114, 115, 116, 117, 118, 433, 434, 435, 436, 437, 438, 439, 440, 441, 442, 443, 444, 445, 446, 447, 448, 449, 450, 451, 452, 453, 454, 455, 456, 457, 458, 459, 460, 461, 462, 463, 464, 465, 466, 467, 468, 469, 470] (by decide +kernel) (by decide +kernel)
set_option maxRecDepth 20000 in
theorem gL_law_X3_init : GoodIn wsL_law (wsX3_init) := ggL_law_X3_init
set_option maxRecDepth 20000 in
theorem ggL_law_L_cell : GoodIn wsL_law wsL_cell := goodIn_r _ [122, 123] (by decide +kernel) (by decide +kernel)
set_option maxRecDepth 20000 in
theorem gL_law_L_cell : GoodIn wsL_law (va_wsS RL 87 yL_cell wsL_cell) := goodIn_app (goodIn_of _ (by decide +kernel)) ggL_law_L_cell
set_option maxRecDepth 20000 in
theorem ggL_law_L_low : GoodIn wsL_law wsL_low := goodIn_r _ [126, 127] (by decide +kernel) (by decide +kernel)
set_option maxRecDepth 20000 in
theorem gL_law_L_low : GoodIn wsL_law (va_wsS RL 15 yL_low wsL_low) := goodIn_app (goodIn_of _ (by decide +kernel)) ggL_law_L_low
set_option maxRecDepth 20000 in
theorem ggL_law_X3_told : GoodIn wsL_law wsX3_told := goodIn_r _ [131, 18, 132, 133, 134, 135, 136, 137, 138, 139, 140, 141, 142, 143, 144, 145, 146, 147, 148, 149, 150, 151, 13, 152, 65, 31, 108, 2, 109, 153, 154, 155, 17, 156, 157, 158, 159, 160, 39, 161, 162, 163, 164, 165, 166, 167, 168, 169, 95, 96, 37, 170, 93, 94, 171, 172, 55, 173, 174, 175, 176, 177, 178, 179, 180, 181, 54, 56, 182, 183, 184, 185, 186, 187, 188, 189, 190, 191, 192, 53, 193, 194, 433, 434, 435, 436, 437, 438, 439, 440, 441, 442, 443, 453, 454, 455, 456, 457, 458, 459, 460, 461, 462, 463, 464, 465, 466, 467, 444, 445, 446, 447, 448, 449, 450, 451, 452, 468, 469, 470] (by decide +kernel) (by decide +kernel)
set_option maxRecDepth 20000 in
theorem gL_law_X3_told : GoodIn wsL_law (wsV RL 28 RX3 yX3_told wsX3_told) := goodIn_app (goodIn_of _ (by decide +kernel)) ggL_law_X3_told
set_option maxRecDepth 20000 in
theorem ggL_law_L_load : GoodIn wsL_law wsL_load := goodIn_r _ [197, 198, 199, 200, 2, 201, 202, 124, 125, 121, 126, 127, 203, 204, 205, 206, 10, 207, 78, 79, 208, 209, 210, 211, 18, 14, 132, 133, 212, 213, 214, 215, 216, 217, 218, 61, 62, 63, 13, 64, 65, 66, 67, 219, 108, 109, 68, 69, 70, 71, 72, 73, 74, 75, 76, 77, 29, 30, 31, 80, 81, 82, 83, 84, 85, 86, 87, 220, 221, 222, 223, 148, 20, 224, 225, 226, 227, 228, 229, 230, 231, 19, 232, 233, 234, 17, 235, 37, 39, 43, 44, 92, 93, 94, 95, 96, 97, 98, 99, 100, 101, 102, 51, 52, 53, 54, 55, 56, 57, 58, 59, 60, 103, 104, 105, 106, 107, 32, 33, 236, 237, 238, 42, 239, 118, 48, 49, 88, 89, 90, 91, 110, 111, 112, 113, 114, 115, 116, 117, 433, 434, 435, 436, 437, 438, 439, 440, 441, 442, 443, 453, 454, 455, 456, 457, 458, 459, 460, 461, 462, 463, 464, 465, 466, 467, 444, 445, 446, 447, 448, 449, 450, 451, 452, 468, 469, 470] (by decide +kernel) (by decide +kernel)
set_option maxRecDepth 20000 in
theorem gL_law_L_load : GoodIn wsL_law (va_wsS RL 31 yL_load wsL_load) := goodIn_app (goodIn_of _ (by decide +kernel)) ggL_law_L_load
set_option maxRecDepth 20000 in
theorem gq_change_1 : GoodIn wsL_law (.code yL_change cL_change 5 (some .int) :: wsL_change_r1) := goodIn_r _ [242, 128, 129, 130, 2, 131, 18, 132, 133, 134, 135, 136, 137, 138, 139, 140, 141, 142, 143, 144, 145, 146, 147, 148, 149] (by decide +kernel) (by decide +kernel)
set_option maxRecDepth 20000 in
theorem gq_change_2 : GoodIn wsL_law (wsL_change_r2) := goodIn_r _ [150, 151, 13, 152, 65, 31, 108, 109, 153, 154, 155, 17, 156, 157, 158, 159, 160, 39, 161, 162, 163, 164, 165, 166] (by decide +kernel) (by decide +kernel)
set_option maxRecDepth 20000 in
theorem gq_change_3 : GoodIn wsL_law (wsL_change_r3) := goodIn_r _ [167, 168, 169, 95, 96, 37, 170, 93, 94, 171, 172, 55, 173, 174, 175, 176, 177, 178, 179, 180, 181, 54, 56, 182] (by decide +kernel) (by decide +kernel)
set_option maxRecDepth 20000 in
theorem gq_change_4 : GoodIn wsL_law (wsL_change_r4) := goodIn_r _ [183, 184, 185, 186, 187, 188, 189, 190, 191, 192, 53, 193, 194, 124, 125, 121, 126, 127, 195, 196, 197, 198, 199, 200] (by decide +kernel) (by decide +kernel)
set_option maxRecDepth 20000 in
theorem gq_change_5 : GoodIn wsL_law (wsL_change_r5) := goodIn_r _ [201, 202, 203, 204, 205, 206, 10, 207, 78, 79, 208, 209, 210, 211, 14, 212, 213, 214, 215, 216, 217, 218, 61, 62] (by decide +kernel) (by decide +kernel)
set_option maxRecDepth 20000 in
theorem gq_change_6 : GoodIn wsL_law (wsL_change_r6) := goodIn_r _ [63, 64, 66, 67, 219, 68, 69, 70, 71, 72, 73, 74, 75, 76, 77, 29, 30, 80, 81, 82, 83, 84, 85, 86] (by decide +kernel) (by decide +kernel)
set_option maxRecDepth 20000 in
theorem gq_change_7 : GoodIn wsL_law (wsL_change_r7) := goodIn_r _ [87, 220, 221, 222, 223, 20, 224, 225, 226, 227, 228, 229, 230, 231, 19, 232, 233, 234, 235, 43, 44, 92, 97, 98] (by decide +kernel) (by decide +kernel)
set_option maxRecDepth 20000 in
theorem gq_change_8 : GoodIn wsL_law (wsL_change_r8) := goodIn_r _ [99, 100, 101, 102, 51, 52, 57, 58, 59, 60, 103, 104, 105, 106, 107, 32, 33, 236, 237, 238, 42, 239, 118, 48] (by decide +kernel) (by decide +kernel)
set_option maxRecDepth 20000 in
theorem gq_change_9 : GoodIn wsL_law (wsL_change_r9) := goodIn_r _ [49, 88, 89, 90, 91, 110, 111, 112, 113, 114, 115, 116, 117, 243, 244, 245, 246, 247, 248, 25, 249, 250, 251, 252] (by decide +kernel) (by decide +kernel)
set_option maxRecDepth 20000 in
theorem gq_change_10 : GoodIn wsL_law (wsL_change_r10) := goodIn_r _ [253, 254, 255, 256, 257, 258, 259, 260, 261, 262, 263, 264, 265, 266, 267, 268, 269, 270, 271, 272, 273, 274, 275, 276] (by decide +kernel) (by decide +kernel)
set_option maxRecDepth 20000 in
theorem gq_change_11 : GoodIn wsL_law (wsL_change_r11) := goodIn_r _ [277, 278, 279, 280, 281, 282, 283, 284, 285, 286, 287, 23, 21, 288, 289, 290, 291, 292, 293, 294, 295, 296, 297, 298] (by decide +kernel) (by decide +kernel)
set_option maxRecDepth 20000 in
theorem gq_change_12 : GoodIn wsL_law (wsL_change_r12) := goodIn_r _ [299, 300, 301, 302, 303, 304, 305, 306, 307, 308, 309, 310, 311, 312, 313, 314, 315, 316, 317, 318, 319, 320, 321, 322] (by decide +kernel) (by decide +kernel)
set_option maxRecDepth 20000 in
theorem gq_change_13 : GoodIn wsL_law (wsL_change_r13) := goodIn_r _ [323, 324, 325, 326, 327, 328, 329, 330, 331, 332, 333, 334, 335, 336, 337, 338, 339, 340, 341, 342, 343, 344, 345, 346] (by decide +kernel) (by decide +kernel)
set_option maxRecDepth 20000 in
theorem gq_change_14 : GoodIn wsL_law (wsL_change_r14) := goodIn_r _ [347, 348, 349, 350, 351, 352, 353, 354, 355, 356, 357, 358, 359, 360, 361, 362, 363, 364, 365, 366, 367, 368, 369, 370] (by decide +kernel) (by decide +kernel)
set_option maxRecDepth 20000 in
theorem gq_change_wsX30 : GoodIn wsL_law (wsX30) := goodIn_r _ [433, 434, 435, 436, 437, 438, 439, 440, 441, 442, 443] (by decide +kernel) (by decide +kernel)
set_option maxRecDepth 20000 in
theorem gq_change_wsX10 : GoodIn wsL_law (wsX10) := goodIn_r _ [453, 454, 455, 456, 457, 458, 459, 460, 461, 462, 463, 464, 465, 466, 467] (by decide +kernel) (by decide +kernel)
set_option maxRecDepth 20000 in
theorem gq_change_wsX00 : GoodIn wsL_law (wsX00) := goodIn_r _ [444, 445, 446, 447, 448, 449, 450, 451, 452] (by decide +kernel) (by decide +kernel)
set_option maxRecDepth 20000 in
theorem gq_change_wsX20 : GoodIn wsL_law (wsX20) := goodIn_r _ [468, 469, 470] (by decide +kernel) (by decide +kernel)
theorem ggL_law_L_change : GoodIn wsL_law wsL_change := (goodIn_ca (goodIn_ca (goodIn_ca (goodIn_ca (goodIn_ca gq_change_1 (goodIn_app gq_change_2 (goodIn_app gq_change_3 (goodIn_app gq_change_4 (goodIn_app gq_change_5 (goodIn_app gq_change_6 (goodIn_app gq_change_7 (goodIn_app gq_change_8 (goodIn_app gq_change_9 (goodIn_app gq_change_10 (goodIn_app gq_change_11 (goodIn_app gq_change_12 (goodIn_app gq_change_13 gq_change_14))))))))))))) gq_change_wsX30) gq_change_wsX10) gq_change_wsX00) gq_change_wsX20)
set_option maxRecDepth 20000 in
theorem gL_law_L_change : GoodIn wsL_law (va_wsS RL 91 yL_change wsL_change) := goodIn_app (goodIn_of _ (by decide +kernel)) ggL_law_L_change
set_option maxRecDepth 20000 in
theorem ggL_law_L_isEstimate : GoodIn wsL_law wsL_isEstimate := goodIn_r _ [373, 128, 129, 130, 2, 131, 18, 132, 133, 134, 135, 136, 137, 138, 139, 140, 141, 142, 143, 144, 145, 146, 147, 148, 149, 150, 151, 13, 152, 65, 31, 108, 109, 153, 154, 155, 17, 156, 157, 158, 159, 160, 39, 161, 162, 163, 164, 165, 166, 167, 168, 169, 95, 96, 37, 170, 93, 94, 171, 172, 55, 173, 174, 175, 176, 177, 178, 179, 180, 181, 54, 56, 182, 183, 184, 185, 186, 187, 188, 189, 190, 191, 192, 53, 193, 194, 374, 375, 376, 377, 378, 379, 219, 380, 381, 382, 383, 384, 433, 434, 435, 436, 437, 438, 439, 440, 441, 442, 443, 453, 454, 455, 456, 457, 458, 459, 460, 461, 462, 463, 464, 465, 466, 467, 444, 445, 446, 447, 448, 449, 450, 451, 452, 468, 469, 470] (by decide +kernel) (by decide +kernel)
set_option maxRecDepth 20000 in
theorem gL_law_L_isEstimate : GoodIn wsL_law (va_wsS RL 94 yL_isEstimate wsL_isEstimate) := goodIn_app (goodIn_of _ (by decide +kernel)) ggL_law_L_isEstimate
set_option maxRecDepth 20000 in
theorem ggL_law_L_areRows : GoodIn wsL_law wsL_areRows := goodIn_r _ [387, 128, 129, 130, 2, 131, 18, 132, 133, 134, 135, 136, 137, 138, 139, 140, 141, 142, 143, 144, 145, 146, 147, 148, 149, 150, 151, 13, 152, 65, 31, 108, 109, 153, 154, 155, 17, 156, 157, 158, 159, 160, 39, 161, 162, 163, 164, 165, 166, 167, 168, 169, 95, 96, 37, 170, 93, 94, 171, 172, 55, 173, 174, 175, 176, 177, 178, 179, 180, 181, 54, 56, 182, 183, 184, 185, 186, 187, 188, 189, 190, 191, 192, 53, 193, 194, 388, 389, 390, 391, 25, 249, 250, 251, 219, 392, 393, 394, 395, 396, 397, 398, 399, 400, 107, 33, 362, 363, 364, 365, 366, 367, 368, 369, 260, 261, 262, 263, 370, 355, 356, 357, 97, 358, 359, 360, 361, 433, 434, 435, 436, 437, 438, 439, 440, 441, 442, 443, 453, 454, 455, 456, 457, 458, 459, 460, 461, 462, 463, 464, 465, 466, 467, 444, 445, 446, 447, 448, 449, 450, 451, 452, 468, 469, 470] (by decide +kernel) (by decide +kernel)
set_option maxRecDepth 20000 in
theorem gL_law_L_areRows : GoodIn wsL_law (va_wsS RL 98 yL_areRows wsL_areRows) := goodIn_app (goodIn_of _ (by decide +kernel)) ggL_law_L_areRows
set_option maxRecDepth 20000 in
theorem gq_isBest_1 : GoodIn wsL_law (.code yL_isBest cL_isBest 13 (some .boolean) :: wsL_isBest_r1) := goodIn_r _ [403, 128, 129, 130, 2, 131, 18, 132, 133, 134, 135, 136, 137, 138, 139, 140, 141, 142, 143, 144, 145, 146, 147, 148, 149] (by decide +kernel) (by decide +kernel)
set_option maxRecDepth 20000 in
theorem gq_isBest_2 : GoodIn wsL_law (wsL_isBest_r2) := goodIn_r _ [150, 151, 13, 152, 65, 31, 108, 109, 153, 154, 155, 17, 156, 157, 158, 159, 160, 39, 161, 162, 163, 164, 165, 166] (by decide +kernel) (by decide +kernel)
set_option maxRecDepth 20000 in
theorem gq_isBest_3 : GoodIn wsL_law (wsL_isBest_r3) := goodIn_r _ [167, 168, 169, 95, 96, 37, 170, 93, 94, 171, 172, 55, 173, 174, 175, 176, 177, 178, 179, 180, 181, 54, 56, 182] (by decide +kernel) (by decide +kernel)
set_option maxRecDepth 20000 in
theorem gq_isBest_4 : GoodIn wsL_law (wsL_isBest_r4) := goodIn_r _ [183, 184, 185, 186, 187, 188, 189, 190, 191, 192, 53, 193, 194, 404, 405, 406, 407, 296, 72, 73, 408, 302, 303, 304] (by decide +kernel) (by decide +kernel)
set_option maxRecDepth 20000 in
theorem gq_isBest_5 : GoodIn wsL_law (wsL_isBest_r5) := goodIn_r _ [305, 306, 307, 308, 309, 310, 311, 312, 313, 314, 315, 316, 92, 44, 409, 410, 318, 319, 320, 362, 363, 364, 365, 366] (by decide +kernel) (by decide +kernel)
set_option maxRecDepth 20000 in
theorem gq_isBest_6 : GoodIn wsL_law (wsL_isBest_r6) := goodIn_r _ [367, 368, 369, 260, 261, 262, 263, 219, 370, 355, 356, 357, 97, 358, 359, 360, 361, 388, 389, 390, 391, 25, 249, 250] (by decide +kernel) (by decide +kernel)
set_option maxRecDepth 20000 in
theorem gq_isBest_7 : GoodIn wsL_law (wsL_isBest_r7) := goodIn_r _ [251, 411, 412, 413, 414, 292, 293, 294, 295, 220, 221, 222, 223, 20, 224, 225, 226, 227, 228, 229, 230, 231, 19, 232] (by decide +kernel) (by decide +kernel)
set_option maxRecDepth 20000 in
theorem gq_isBest_8 : GoodIn wsL_law (wsL_isBest_r8) := goodIn_r _ [233, 234, 235, 43, 98, 99, 100, 101, 102, 51, 52, 57, 58, 59, 60, 103, 104, 105, 106, 66, 67, 107, 29, 30] (by decide +kernel) (by decide +kernel)
set_option maxRecDepth 20000 in
theorem gq_isBest_9 : GoodIn wsL_law (wsL_isBest_r9) := goodIn_r _ [32, 33, 236, 237, 238, 42, 239, 118, 48, 49, 297, 298, 299, 300, 301, 317, 321, 322, 323, 324, 114, 115, 116, 117] (by decide +kernel) (by decide +kernel)
set_option maxRecDepth 20000 in
theorem gq_isBest_10 : GoodIn wsL_law (wsL_isBest_r10) := goodIn_r _ [325, 326, 327, 328, 78, 79, 329, 330, 331, 332, 333, 334, 335, 336, 337, 338, 339, 340, 380, 381, 382, 383, 384, 280] (by decide +kernel) (by decide +kernel)
set_option maxRecDepth 20000 in
theorem gq_isBest_11 : GoodIn wsL_law (wsL_isBest_r11) := goodIn_r _ [281, 282, 283] (by decide +kernel) (by decide +kernel)
set_option maxRecDepth 20000 in
theorem gq_isBest_wsX30 : GoodIn wsL_law (wsX30) := goodIn_r _ [433, 434, 435, 436, 437, 438, 439, 440, 441, 442, 443] (by decide +kernel) (by decide +kernel)
set_option maxRecDepth 20000 in
theorem gq_isBest_wsX10 : GoodIn wsL_law (wsX10) := goodIn_r _ [453, 454, 455, 456, 457, 458, 459, 460, 461, 462, 463, 464, 465, 466, 467] (by decide +kernel) (by decide +kernel)
set_option maxRecDepth 20000 in
theorem gq_isBest_wsX00 : GoodIn wsL_law (wsX00) := goodIn_r _ [444, 445, 446, 447, 448, 449, 450, 451, 452] (by decide +kernel) (by decide +kernel)
set_option maxRecDepth 20000 in
theorem gq_isBest_wsX20 : GoodIn wsL_law (wsX20) := goodIn_r _ [468, 469, 470] (by decide +kernel) (by decide +kernel)
theorem ggL_law_L_isBest : GoodIn wsL_law wsL_isBest := (goodIn_ca (goodIn_ca (goodIn_ca (goodIn_ca (goodIn_ca gq_isBest_1 (goodIn_app gq_isBest_2 (goodIn_app gq_isBest_3 (goodIn_app gq_isBest_4 (goodIn_app gq_isBest_5 (goodIn_app gq_isBest_6 (goodIn_app gq_isBest_7 (goodIn_app gq_isBest_8 (goodIn_app gq_isBest_9 (goodIn_app gq_isBest_10 gq_isBest_11)))))))))) gq_isBest_wsX30) gq_isBest_wsX10) gq_isBest_wsX00) gq_isBest_wsX20)
set_option maxRecDepth 20000 in
theorem gL_law_L_isBest : GoodIn wsL_law (va_wsS RL 101 yL_isBest wsL_isBest) := goodIn_app (goodIn_of _ (by decide +kernel)) ggL_law_L_isBest
set_option maxRecDepth 20000 in
theorem ggL_law_X3_word : GoodIn wsL_law wsX3_word := goodIn_r _ [365, 18, 132, 366, 367, 368, 369, 260, 261, 262, 13, 263, 65, 219, 108, 2, 109, 370, 355, 356, 17, 357, 97, 358, 359, 360, 361, 37, 433, 434, 435, 436, 437, 438, 439, 440, 441, 442, 443, 453, 454, 455, 456, 457, 458, 459, 460, 461, 462, 463, 464, 465, 466, 467, 444, 445, 446, 447, 448, 449, 450, 451, 452] (by decide +kernel) (by decide +kernel)
set_option maxRecDepth 20000 in
theorem gL_law_X3_word : GoodIn wsL_law (wsV RL 58 RX3 yX3_word wsX3_word) := goodIn_app (goodIn_of _ (by decide +kernel)) ggL_law_X3_word
set_option maxRecDepth 20000 in
theorem ggL_law_L_areAlike : GoodIn wsL_law wsL_areAlike := goodIn_r _ [417, 418, 419, 420, 2, 421, 18, 132, 134, 133, 128, 129, 130, 131, 135, 136, 137, 138, 139, 140, 141, 142, 143, 144, 145, 146, 147, 148, 149, 150, 151, 13, 152, 65, 31, 108, 109, 153, 154, 155, 17, 156, 157, 158, 159, 160, 39, 161, 162, 163, 164, 165, 166, 167, 168, 169, 95, 96, 37, 170, 93, 94, 171, 172, 55, 173, 174, 175, 176, 177, 178, 179, 180, 181, 54, 56, 182, 183, 184, 185, 186, 187, 188, 189, 190, 191, 192, 53, 193, 194, 422, 423, 424, 425, 19, 232, 233, 234, 235, 43, 44, 92, 97, 98, 99, 100, 101, 102, 51, 52, 57, 58, 59, 60, 103, 104, 105, 106, 66, 67, 107, 29, 30, 32, 33, 236, 237, 238, 42, 239, 118, 48, 49, 426, 427, 428, 429, 305, 430, 346, 347, 348, 349, 350, 351, 352, 353, 354, 355, 356, 357, 358, 359, 360, 361, 431, 298, 299, 300, 301, 302, 303, 304, 306, 307, 308, 309, 310, 311, 312, 313, 314, 315, 316, 317, 318, 319, 320, 321, 322, 323, 324, 114, 115, 116, 117, 325, 326, 327, 328, 78, 79, 329, 330, 331, 332, 333, 334, 335, 336, 337, 338, 339, 340, 432, 277, 278, 279, 433, 434, 435, 436, 437, 438, 439, 440, 441, 442, 443, 453, 454, 455, 456, 457, 458, 459, 460, 461, 462, 463, 464, 465, 466, 467, 444, 445, 446, 447, 448, 449, 450, 451, 452, 468, 469, 470] (by decide +kernel) (by decide +kernel)
set_option maxRecDepth 20000 in
theorem gL_law_L_areAlike : GoodIn wsL_law (va_wsS RL 105 yL_areAlike wsL_areAlike) := goodIn_app (goodIn_of _ (by decide +kernel)) ggL_law_L_areAlike
theorem dL_law_0 : decode cL_law 0 = .ok (.new 10, 3) := by decide +kernel
theorem dL_law_3 : decode cL_law 3 = .ok (.dup, 1) := by decide +kernel
theorem dL_law_4 : decode cL_law 4 = .ok (.invokespecial 86, 3) := by decide +kernel
theorem dL_law_7 : decode cL_law 7 = .ok (.astore_n 1, 1) := by decide +kernel
theorem dL_law_8 : decode cL_law 8 = .ok (.new 10, 3) := by decide +kernel
theorem dL_law_11 : decode cL_law 11 = .ok (.dup, 1) := by decide +kernel
theorem dL_law_12 : decode cL_law 12 = .ok (.invokespecial 86, 3) := by decide +kernel
theorem dL_law_15 : decode cL_law 15 = .ok (.astore_n 2, 1) := by decide +kernel
theorem dL_law_16 : decode cL_law 16 = .ok (.iconst 0, 1) := by decide +kernel
theorem dL_law_17 : decode cL_law 17 = .ok (.istore_n 3, 1) := by decide +kernel
theorem dL_law_18 : decode cL_law 18 = .ok (.iload_n 3, 1) := by decide +kernel
theorem dL_law_19 : decode cL_law 19 = .ok (.bipush 40, 2) := by decide +kernel
theorem dL_law_21 : decode cL_law 21 = .ok (.if_icmp .ge 181, 3) := by decide +kernel
theorem dL_law_24 : decode cL_law 24 = .ok (.aload_n 0, 1) := by decide +kernel
theorem dL_law_25 : decode cL_law 25 = .ok (.iconst 2, 1) := by decide +kernel
theorem dL_law_26 : decode cL_law 26 = .ok (.iload_n 3, 1) := by decide +kernel
theorem dL_law_27 : decode cL_law 27 = .ok (.imul, 1) := by decide +kernel
theorem dL_law_28 : decode cL_law 28 = .ok (.invokestatic 87, 3) := by decide +kernel
theorem dL_law_31 : decode cL_law 31 = .ok (.istore 4, 2) := by decide +kernel
theorem dL_law_33 : decode cL_law 33 = .ok (.aload_n 0, 1) := by decide +kernel
theorem dL_law_34 : decode cL_law 34 = .ok (.iconst 2, 1) := by decide +kernel
theorem dL_law_35 : decode cL_law 35 = .ok (.iload_n 3, 1) := by decide +kernel
theorem dL_law_36 : decode cL_law 36 = .ok (.imul, 1) := by decide +kernel
theorem dL_law_37 : decode cL_law 37 = .ok (.iconst 1, 1) := by decide +kernel
theorem dL_law_38 : decode cL_law 38 = .ok (.iadd, 1) := by decide +kernel
theorem dL_law_39 : decode cL_law 39 = .ok (.invokestatic 87, 3) := by decide +kernel
theorem dL_law_42 : decode cL_law 42 = .ok (.istore 5, 2) := by decide +kernel
theorem dL_law_44 : decode cL_law 44 = .ok (.iload 4, 2) := by decide +kernel
theorem dL_law_46 : decode cL_law 46 = .ok (.bipush 24, 2) := by decide +kernel
theorem dL_law_48 : decode cL_law 48 = .ok (.invokestatic 15, 3) := by decide +kernel
theorem dL_law_51 : decode cL_law 51 = .ok (.istore 6, 2) := by decide +kernel
theorem dL_law_53 : decode cL_law 53 = .ok (.aload_n 1, 1) := by decide +kernel
theorem dL_law_54 : decode cL_law 54 = .ok (.bipush 13, 2) := by decide +kernel
theorem dL_law_56 : decode cL_law 56 = .ok (.invokevirtual 28, 3) := by decide +kernel
theorem dL_law_59 : decode cL_law 59 = .ok (.istore 7, 2) := by decide +kernel
theorem dL_law_61 : decode cL_law 61 = .ok (.iload_n 3, 1) := by decide +kernel
theorem dL_law_62 : decode cL_law 62 = .ok (.ifCond .ne 22, 3) := by decide +kernel
theorem dL_law_65 : decode cL_law 65 = .ok (.aload_n 1, 1) := by decide +kernel
theorem dL_law_66 : decode cL_law 66 = .ok (.iload 4, 2) := by decide +kernel
theorem dL_law_68 : decode cL_law 68 = .ok (.iload 5, 2) := by decide +kernel
theorem dL_law_70 : decode cL_law 70 = .ok (.invokestatic 31, 3) := by decide +kernel
theorem dL_law_73 : decode cL_law 73 = .ok (.aload_n 2, 1) := by decide +kernel
theorem dL_law_74 : decode cL_law 74 = .ok (.iload 4, 2) := by decide +kernel
theorem dL_law_76 : decode cL_law 76 = .ok (.iload 5, 2) := by decide +kernel
theorem dL_law_78 : decode cL_law 78 = .ok (.invokestatic 31, 3) := by decide +kernel
theorem dL_law_81 : decode cL_law 81 = .ok (.if_icmp .ne 29, 3) := by decide +kernel
theorem dL_law_84 : decode cL_law 84 = .ok (.iload 6, 2) := by decide +kernel
theorem dL_law_86 : decode cL_law 86 = .ok (.bipush 8, 2) := by decide +kernel
theorem dL_law_88 : decode cL_law 88 = .ok (.if_icmp .eq 24, 3) := by decide +kernel
theorem dL_law_91 : decode cL_law 91 = .ok (.aload_n 1, 1) := by decide +kernel
theorem dL_law_92 : decode cL_law 92 = .ok (.iload 4, 2) := by decide +kernel
theorem dL_law_94 : decode cL_law 94 = .ok (.iload 5, 2) := by decide +kernel
theorem dL_law_96 : decode cL_law 96 = .ok (.invokestatic 91, 3) := by decide +kernel
theorem dL_law_99 : decode cL_law 99 = .ok (.aload_n 2, 1) := by decide +kernel
theorem dL_law_100 : decode cL_law 100 = .ok (.iload 4, 2) := by decide +kernel
theorem dL_law_102 : decode cL_law 102 = .ok (.iload 5, 2) := by decide +kernel
theorem dL_law_104 : decode cL_law 104 = .ok (.invokestatic 91, 3) := by decide +kernel
theorem dL_law_107 : decode cL_law 107 = .ok (.if_icmp .eq 5, 3) := by decide +kernel
theorem dL_law_110 : decode cL_law 110 = .ok (.iconst 0, 1) := by decide +kernel
theorem dL_law_111 : decode cL_law 111 = .ok (.ireturn, 1) := by decide +kernel
theorem dL_law_112 : decode cL_law 112 = .ok (.aload_n 1, 1) := by decide +kernel
theorem dL_law_113 : decode cL_law 113 = .ok (.invokestatic 94, 3) := by decide +kernel
theorem dL_law_116 : decode cL_law 116 = .ok (.ifCond .eq 36, 3) := by decide +kernel
theorem dL_law_119 : decode cL_law 119 = .ok (.iload_n 3, 1) := by decide +kernel
theorem dL_law_120 : decode cL_law 120 = .ok (.iconst 3, 1) := by decide +kernel
theorem dL_law_121 : decode cL_law 121 = .ok (.irem, 1) := by decide +kernel
theorem dL_law_122 : decode cL_law 122 = .ok (.iconst 2, 1) := by decide +kernel
theorem dL_law_123 : decode cL_law 123 = .ok (.if_icmp .ne 31, 3) := by decide +kernel
theorem dL_law_126 : decode cL_law 126 = .ok (.aload_n 1, 1) := by decide +kernel
theorem dL_law_127 : decode cL_law 127 = .ok (.invokestatic 98, 3) := by decide +kernel
theorem dL_law_130 : decode cL_law 130 = .ok (.ifCond .eq 22, 3) := by decide +kernel
theorem dL_law_133 : decode cL_law 133 = .ok (.aload_n 1, 1) := by decide +kernel
theorem dL_law_134 : decode cL_law 134 = .ok (.bipush 97, 2) := by decide +kernel
theorem dL_law_136 : decode cL_law 136 = .ok (.iload 5, 2) := by decide +kernel
theorem dL_law_138 : decode cL_law 138 = .ok (.bipush 7, 2) := by decide +kernel
theorem dL_law_140 : decode cL_law 140 = .ok (.ishr, 1) := by decide +kernel
theorem dL_law_141 : decode cL_law 141 = .ok (.iconst 5, 1) := by decide +kernel
theorem dL_law_142 : decode cL_law 142 = .ok (.invokestatic 15, 3) := by decide +kernel
theorem dL_law_145 : decode cL_law 145 = .ok (.iadd, 1) := by decide +kernel
theorem dL_law_146 : decode cL_law 146 = .ok (.invokestatic 101, 3) := by decide +kernel
theorem dL_law_149 : decode cL_law 149 = .ok (.ifCond .ne 5, 3) := by decide +kernel
theorem dL_law_152 : decode cL_law 152 = .ok (.iconst 0, 1) := by decide +kernel
theorem dL_law_153 : decode cL_law 153 = .ok (.ireturn, 1) := by decide +kernel
theorem dL_law_154 : decode cL_law 154 = .ok (.iload 6, 2) := by decide +kernel
theorem dL_law_156 : decode cL_law 156 = .ok (.bipush 10, 2) := by decide +kernel
theorem dL_law_158 : decode cL_law 158 = .ok (.if_icmp .le 38, 3) := by decide +kernel
theorem dL_law_161 : decode cL_law 161 = .ok (.iload 6, 2) := by decide +kernel
theorem dL_law_163 : decode cL_law 163 = .ok (.bipush 15, 2) := by decide +kernel
theorem dL_law_165 : decode cL_law 165 = .ok (.if_icmp .ge 31, 3) := by decide +kernel
theorem dL_law_168 : decode cL_law 168 = .ok (.aload_n 1, 1) := by decide +kernel
theorem dL_law_169 : decode cL_law 169 = .ok (.aload_n 1, 1) := by decide +kernel
theorem dL_law_170 : decode cL_law 170 = .ok (.bipush 7, 2) := by decide +kernel
theorem dL_law_172 : decode cL_law 172 = .ok (.invokevirtual 28, 3) := by decide +kernel
theorem dL_law_175 : decode cL_law 175 = .ok (.iconst 4, 1) := by decide +kernel
theorem dL_law_176 : decode cL_law 176 = .ok (.invokevirtual 58, 3) := by decide +kernel
theorem dL_law_179 : decode cL_law 179 = .ok (.iconst 1, 1) := by decide +kernel
theorem dL_law_180 : decode cL_law 180 = .ok (.if_icmp .ne 14, 3) := by decide +kernel
theorem dL_law_183 : decode cL_law 183 = .ok (.aload_n 1, 1) := by decide +kernel
theorem dL_law_184 : decode cL_law 184 = .ok (.bipush 13, 2) := by decide +kernel
theorem dL_law_186 : decode cL_law 186 = .ok (.invokevirtual 28, 3) := by decide +kernel
theorem dL_law_189 : decode cL_law 189 = .ok (.iload 7, 2) := by decide +kernel
theorem dL_law_191 : decode cL_law 191 = .ok (.if_icmp .ge 5, 3) := by decide +kernel
theorem dL_law_194 : decode cL_law 194 = .ok (.iconst 0, 1) := by decide +kernel
theorem dL_law_195 : decode cL_law 195 = .ok (.ireturn, 1) := by decide +kernel
theorem dL_law_196 : decode cL_law 196 = .ok (.iinc 3 1, 3) := by decide +kernel
theorem dL_law_199 : decode cL_law 199 = .ok (.goto (-181), 3) := by decide +kernel
theorem dL_law_202 : decode cL_law 202 = .ok (.aload_n 1, 1) := by decide +kernel
theorem dL_law_203 : decode cL_law 203 = .ok (.aload_n 2, 1) := by decide +kernel
theorem dL_law_204 : decode cL_law 204 = .ok (.invokestatic 105, 3) := by decide +kernel
theorem dL_law_207 : decode cL_law 207 = .ok (.ireturn, 1) := by decide +kernel
