theorem dL_refused_169 : decode cL_refused 169 = .ok (.ldc 17, 2) := by decide +kernel
theorem dL_refused_171 : decode cL_refused 171 = .ok (.if_icmp .ne 36, 3) := by decide +kernel
theorem dL_refused_174 : decode cL_refused 174 = .ok (.aload_n 0, 1) := by decide +kernel
theorem dL_refused_175 : decode cL_refused 175 = .ok (.bipush 9, 2) := by decide +kernel
theorem dL_refused_177 : decode cL_refused 177 = .ok (.iconst (-1), 1) := by decide +kernel
theorem dL_refused_178 : decode cL_refused 178 = .ok (.iconst 0, 1) := by decide +kernel
theorem dL_refused_179 : decode cL_refused 179 = .ok (.iconst 0, 1) := by decide +kernel
theorem dL_refused_180 : decode cL_refused 180 = .ok (.invokestatic 102, 3) := by decide +kernel
theorem dL_refused_183 : decode cL_refused 183 = .ok (.ldc 17, 2) := by decide +kernel
theorem dL_refused_185 : decode cL_refused 185 = .ok (.if_icmp .ne 22, 3) := by decide +kernel
theorem dL_refused_188 : decode cL_refused 188 = .ok (.aload_n 0, 1) := by decide +kernel
theorem dL_refused_189 : decode cL_refused 189 = .ok (.bipush 10, 2) := by decide +kernel
theorem dL_refused_191 : decode cL_refused 191 = .ok (.iconst 0, 1) := by decide +kernel
theorem dL_refused_192 : decode cL_refused 192 = .ok (.bipush 24, 2) := by decide +kernel
theorem dL_refused_194 : decode cL_refused 194 = .ok (.iconst 0, 1) := by decide +kernel
theorem dL_refused_195 : decode cL_refused 195 = .ok (.invokestatic 102, 3) := by decide +kernel
theorem dL_refused_198 : decode cL_refused 198 = .ok (.ldc 17, 2) := by decide +kernel
theorem dL_refused_200 : decode cL_refused 200 = .ok (.if_icmp .ne 7, 3) := by decide +kernel
theorem dL_refused_203 : decode cL_refused 203 = .ok (.iconst 1, 1) := by decide +kernel
theorem dL_refused_204 : decode cL_refused 204 = .ok (.goto 4, 3) := by decide +kernel
theorem dL_refused_207 : decode cL_refused 207 = .ok (.iconst 0, 1) := by decide +kernel
theorem dL_refused_208 : decode cL_refused 208 = .ok (.istore 4, 2) := by decide +kernel
theorem dL_refused_210 : decode cL_refused 210 = .ok (.iload 4, 2) := by decide +kernel
theorem dL_refused_212 : decode cL_refused 212 = .ok (.ifCond .eq 206, 3) := by decide +kernel
theorem dL_refused_215 : decode cL_refused 215 = .ok (.aload_n 0, 1) := by decide +kernel
theorem dL_refused_216 : decode cL_refused 216 = .ok (.bipush 11, 2) := by decide +kernel
theorem dL_refused_218 : decode cL_refused 218 = .ok (.bipush 16, 2) := by decide +kernel
theorem dL_refused_220 : decode cL_refused 220 = .ok (.iconst 0, 1) := by decide +kernel
theorem dL_refused_221 : decode cL_refused 221 = .ok (.iconst 0, 1) := by decide +kernel
theorem dL_refused_222 : decode cL_refused 222 = .ok (.invokestatic 102, 3) := by decide +kernel
theorem dL_refused_225 : decode cL_refused 225 = .ok (.ldc 17, 2) := by decide +kernel
theorem dL_refused_227 : decode cL_refused 227 = .ok (.if_icmp .ne 191, 3) := by decide +kernel
theorem dL_refused_230 : decode cL_refused 230 = .ok (.aload_n 0, 1) := by decide +kernel
theorem dL_refused_231 : decode cL_refused 231 = .ok (.bipush 12, 2) := by decide +kernel
theorem dL_refused_233 : decode cL_refused 233 = .ok (.bipush 16, 2) := by decide +kernel
theorem dL_refused_235 : decode cL_refused 235 = .ok (.iconst 0, 1) := by decide +kernel
theorem dL_refused_236 : decode cL_refused 236 = .ok (.iconst 0, 1) := by decide +kernel
theorem dL_refused_237 : decode cL_refused 237 = .ok (.invokestatic 102, 3) := by decide +kernel
theorem dL_refused_240 : decode cL_refused 240 = .ok (.ldc 17, 2) := by decide +kernel
theorem dL_refused_242 : decode cL_refused 242 = .ok (.if_icmp .ne 176, 3) := by decide +kernel
theorem dL_refused_245 : decode cL_refused 245 = .ok (.aload_n 0, 1) := by decide +kernel
theorem dL_refused_246 : decode cL_refused 246 = .ok (.bipush 13, 2) := by decide +kernel
theorem dL_refused_248 : decode cL_refused 248 = .ok (.iconst (-1), 1) := by decide +kernel
theorem dL_refused_249 : decode cL_refused 249 = .ok (.iconst 0, 1) := by decide +kernel
theorem dL_refused_250 : decode cL_refused 250 = .ok (.iconst 0, 1) := by decide +kernel
theorem dL_refused_251 : decode cL_refused 251 = .ok (.invokestatic 102, 3) := by decide +kernel
theorem dL_refused_254 : decode cL_refused 254 = .ok (.ldc 17, 2) := by decide +kernel
theorem dL_refused_256 : decode cL_refused 256 = .ok (.if_icmp .ne 162, 3) := by decide +kernel
theorem dL_refused_259 : decode cL_refused 259 = .ok (.aload_n 0, 1) := by decide +kernel
theorem dL_refused_260 : decode cL_refused 260 = .ok (.bipush 14, 2) := by decide +kernel
theorem dL_refused_262 : decode cL_refused 262 = .ok (.bipush 16, 2) := by decide +kernel
theorem dL_refused_264 : decode cL_refused 264 = .ok (.iconst 0, 1) := by decide +kernel
theorem dL_refused_265 : decode cL_refused 265 = .ok (.iconst 0, 1) := by decide +kernel
theorem dL_refused_266 : decode cL_refused 266 = .ok (.invokestatic 102, 3) := by decide +kernel
theorem dL_refused_269 : decode cL_refused 269 = .ok (.ldc 17, 2) := by decide +kernel
theorem dL_refused_271 : decode cL_refused 271 = .ok (.if_icmp .ne 147, 3) := by decide +kernel
theorem dL_refused_274 : decode cL_refused 274 = .ok (.aload_n 0, 1) := by decide +kernel
theorem dL_refused_275 : decode cL_refused 275 = .ok (.bipush 15, 2) := by decide +kernel
theorem dL_refused_277 : decode cL_refused 277 = .ok (.bipush 16, 2) := by decide +kernel
theorem dL_refused_279 : decode cL_refused 279 = .ok (.iconst 0, 1) := by decide +kernel
theorem dL_refused_280 : decode cL_refused 280 = .ok (.iconst 0, 1) := by decide +kernel
theorem dL_refused_281 : decode cL_refused 281 = .ok (.invokestatic 102, 3) := by decide +kernel
theorem dL_refused_284 : decode cL_refused 284 = .ok (.ldc 17, 2) := by decide +kernel
theorem dL_refused_286 : decode cL_refused 286 = .ok (.if_icmp .ne 132, 3) := by decide +kernel
theorem dL_refused_289 : decode cL_refused 289 = .ok (.aload_n 0, 1) := by decide +kernel
theorem dL_refused_290 : decode cL_refused 290 = .ok (.bipush 16, 2) := by decide +kernel
theorem dL_refused_292 : decode cL_refused 292 = .ok (.iconst 0, 1) := by decide +kernel
theorem dL_refused_293 : decode cL_refused 293 = .ok (.iconst 0, 1) := by decide +kernel
theorem dL_refused_294 : decode cL_refused 294 = .ok (.iconst 0, 1) := by decide +kernel
theorem dL_refused_295 : decode cL_refused 295 = .ok (.invokestatic 102, 3) := by decide +kernel
theorem dL_refused_298 : decode cL_refused 298 = .ok (.ldc 20, 2) := by decide +kernel
theorem dL_refused_300 : decode cL_refused 300 = .ok (.if_icmp .ne 118, 3) := by decide +kernel
theorem dL_refused_303 : decode cL_refused 303 = .ok (.aload_n 0, 1) := by decide +kernel
theorem dL_refused_304 : decode cL_refused 304 = .ok (.bipush 17, 2) := by decide +kernel
theorem dL_refused_306 : decode cL_refused 306 = .ok (.iconst (-1), 1) := by decide +kernel
theorem dL_refused_307 : decode cL_refused 307 = .ok (.iconst 0, 1) := by decide +kernel
theorem dL_refused_308 : decode cL_refused 308 = .ok (.iconst 0, 1) := by decide +kernel
theorem dL_refused_309 : decode cL_refused 309 = .ok (.invokestatic 102, 3) := by decide +kernel
theorem dL_refused_312 : decode cL_refused 312 = .ok (.ldc 17, 2) := by decide +kernel
theorem dL_refused_314 : decode cL_refused 314 = .ok (.if_icmp .ne 104, 3) := by decide +kernel
theorem dL_refused_317 : decode cL_refused 317 = .ok (.aload_n 0, 1) := by decide +kernel
theorem dL_refused_318 : decode cL_refused 318 = .ok (.bipush 18, 2) := by decide +kernel
theorem dL_refused_320 : decode cL_refused 320 = .ok (.bipush 16, 2) := by decide +kernel
theorem dL_refused_322 : decode cL_refused 322 = .ok (.iconst 0, 1) := by decide +kernel
theorem dL_refused_323 : decode cL_refused 323 = .ok (.iconst 0, 1) := by decide +kernel
theorem dL_refused_324 : decode cL_refused 324 = .ok (.invokestatic 102, 3) := by decide +kernel
theorem dL_refused_327 : decode cL_refused 327 = .ok (.ldc 17, 2) := by decide +kernel
theorem dL_refused_329 : decode cL_refused 329 = .ok (.if_icmp .ne 89, 3) := by decide +kernel
theorem dL_refused_332 : decode cL_refused 332 = .ok (.aload_n 0, 1) := by decide +kernel
theorem dL_refused_333 : decode cL_refused 333 = .ok (.bipush 19, 2) := by decide +kernel
theorem dL_refused_335 : decode cL_refused 335 = .ok (.bipush 24, 2) := by decide +kernel
theorem dL_refused_337 : decode cL_refused 337 = .ok (.iconst 0, 1) := by decide +kernel
theorem dL_refused_338 : decode cL_refused 338 = .ok (.iconst 0, 1) := by decide +kernel
theorem dL_refused_339 : decode cL_refused 339 = .ok (.invokestatic 102, 3) := by decide +kernel
theorem dL_refused_342 : decode cL_refused 342 = .ok (.ldc 17, 2) := by decide +kernel
theorem dL_refused_344 : decode cL_refused 344 = .ok (.if_icmp .ne 74, 3) := by decide +kernel
theorem dL_refused_347 : decode cL_refused 347 = .ok (.aload_n 0, 1) := by decide +kernel
theorem dL_refused_348 : decode cL_refused 348 = .ok (.bipush 20, 2) := by decide +kernel
theorem dL_refused_350 : decode cL_refused 350 = .ok (.iconst (-1), 1) := by decide +kernel
theorem dL_refused_351 : decode cL_refused 351 = .ok (.iconst 0, 1) := by decide +kernel
theorem dL_refused_352 : decode cL_refused 352 = .ok (.iconst 0, 1) := by decide +kernel
theorem dL_refused_353 : decode cL_refused 353 = .ok (.invokestatic 102, 3) := by decide +kernel
theorem dL_refused_356 : decode cL_refused 356 = .ok (.ldc 17, 2) := by decide +kernel
theorem dL_refused_358 : decode cL_refused 358 = .ok (.if_icmp .ne 60, 3) := by decide +kernel
theorem dL_refused_361 : decode cL_refused 361 = .ok (.aload_n 0, 1) := by decide +kernel
theorem dL_refused_362 : decode cL_refused 362 = .ok (.bipush 21, 2) := by decide +kernel
theorem dL_refused_364 : decode cL_refused 364 = .ok (.bipush 24, 2) := by decide +kernel
theorem dL_refused_366 : decode cL_refused 366 = .ok (.iconst 0, 1) := by decide +kernel
theorem dL_refused_367 : decode cL_refused 367 = .ok (.iconst 0, 1) := by decide +kernel
theorem dL_refused_368 : decode cL_refused 368 = .ok (.invokestatic 102, 3) := by decide +kernel
theorem dL_refused_371 : decode cL_refused 371 = .ok (.ldc 17, 2) := by decide +kernel
theorem dL_refused_373 : decode cL_refused 373 = .ok (.if_icmp .ne 45, 3) := by decide +kernel
theorem dL_refused_376 : decode cL_refused 376 = .ok (.aload_n 0, 1) := by decide +kernel
theorem dL_refused_377 : decode cL_refused 377 = .ok (.bipush 22, 2) := by decide +kernel
theorem dL_refused_379 : decode cL_refused 379 = .ok (.iconst 4, 1) := by decide +kernel
theorem dL_refused_380 : decode cL_refused 380 = .ok (.iconst 0, 1) := by decide +kernel
theorem dL_refused_381 : decode cL_refused 381 = .ok (.iconst 0, 1) := by decide +kernel
theorem dL_refused_382 : decode cL_refused 382 = .ok (.invokestatic 102, 3) := by decide +kernel
theorem dL_refused_385 : decode cL_refused 385 = .ok (.ldc 17, 2) := by decide +kernel
theorem dL_refused_387 : decode cL_refused 387 = .ok (.if_icmp .ne 31, 3) := by decide +kernel
theorem dL_refused_390 : decode cL_refused 390 = .ok (.aload_n 0, 1) := by decide +kernel
theorem dL_refused_391 : decode cL_refused 391 = .ok (.bipush 22, 2) := by decide +kernel
theorem dL_refused_393 : decode cL_refused 393 = .ok (.iconst 0, 1) := by decide +kernel
theorem dL_refused_394 : decode cL_refused 394 = .ok (.iconst (-1), 1) := by decide +kernel
theorem dL_refused_395 : decode cL_refused 395 = .ok (.iconst 0, 1) := by decide +kernel
theorem dL_refused_396 : decode cL_refused 396 = .ok (.invokestatic 102, 3) := by decide +kernel
theorem dL_refused_399 : decode cL_refused 399 = .ok (.ldc 20, 2) := by decide +kernel
theorem dL_refused_401 : decode cL_refused 401 = .ok (.if_icmp .ne 17, 3) := by decide +kernel
theorem dL_refused_404 : decode cL_refused 404 = .ok (.aload_n 0, 1) := by decide +kernel
theorem dL_refused_405 : decode cL_refused 405 = .ok (.aload_n 1, 1) := by decide +kernel
theorem dL_refused_406 : decode cL_refused 406 = .ok (.invokestatic 134, 3) := by decide +kernel
theorem dL_refused_409 : decode cL_refused 409 = .ok (.lload_n 2, 1) := by decide +kernel
theorem dL_refused_410 : decode cL_refused 410 = .ok (.lcmp, 1) := by decide +kernel
theorem dL_refused_411 : decode cL_refused 411 = .ok (.ifCond .ne 7, 3) := by decide +kernel
theorem dL_refused_414 : decode cL_refused 414 = .ok (.iconst 1, 1) := by decide +kernel
theorem dL_refused_415 : decode cL_refused 415 = .ok (.goto 4, 3) := by decide +kernel
theorem dL_refused_418 : decode cL_refused 418 = .ok (.iconst 0, 1) := by decide +kernel
theorem dL_refused_419 : decode cL_refused 419 = .ok (.ireturn, 1) := by decide +kernel
set_option maxRecDepth 20000 in
theorem cggL_law_X3_init_1 : GoodIn wsL_law wsX3_init_r1 := goodIn_r _ [7, 8, 9, 10, 11, 3, 12, 13, 14, 15, 16, 17, 18, 19, 20, 21, 22, 23, 24, 25, 26, 27, 28, 29] (by decide +kernel) (by decide +kernel)
set_option maxRecDepth 20000 in
theorem cggL_law_X3_init_2 : GoodIn wsL_law wsX3_init_r2 := goodIn_r _ [30, 31, 32, 33, 34, 35, 36, 37, 38, 39, 40, 41, 42] (by decide +kernel) (by decide +kernel)
set_option maxRecDepth 20000 in
theorem ggL_law_X3_init : GoodIn wsL_law wsX3_init := goodIn_hd (goodIn_r _ [6] (by decide +kernel) (by decide +kernel)) (goodIn_app (goodIn_app (goodIn_app (goodIn_app (goodIn_app cggL_law_X3_init_1 (cggL_law_X3_init_2)) (goodIn_r _ [385, 386, 387, 388, 389, 390, 391, 392, 393, 394, 395] (by decide +kernel) (by decide +kernel))) (goodIn_r _ [396, 397, 398, 399] (by decide +kernel) (by decide +kernel))) (goodIn_r _ [400, 401, 402, 403, 404, 405, 406, 407, 408] (by decide +kernel) (by decide +kernel))) (goodIn_r _ [409, 410, 411, 412, 413, 414, 415, 416] (by decide +kernel) (by decide +kernel)))
set_option maxRecDepth 20000 in
theorem gL_law_X3_init : GoodIn wsL_law (wsX3_init) := ggL_law_X3_init
set_option maxRecDepth 20000 in
theorem cggL_law_L_refused_1 : GoodIn wsL_law wsL_refused_r1 := goodIn_r _ [47, 48, 49, 50, 45, 51, 52, 53, 54, 55, 56, 57, 58, 59, 2, 60, 61, 62, 63, 64, 65, 66, 67, 68] (by decide +kernel) (by decide +kernel)
set_option maxRecDepth 20000 in
theorem cggL_law_L_refused_2 : GoodIn wsL_law wsL_refused_r2 := goodIn_r _ [69, 70, 71, 72, 73, 74, 75, 76, 16, 77, 78, 79, 15, 80, 81, 30, 31, 32, 82, 83, 84, 85, 86, 87] (by decide +kernel) (by decide +kernel)
set_option maxRecDepth 20000 in
theorem cggL_law_L_refused_3 : GoodIn wsL_law wsL_refused_r3 := goodIn_r _ [88, 89, 90, 91, 92, 93, 94, 19, 95, 17, 96, 97, 98, 99, 100, 101, 102, 103, 104, 105, 106, 107, 108, 109] (by decide +kernel) (by decide +kernel)
set_option maxRecDepth 20000 in
theorem cggL_law_L_refused_4 : GoodIn wsL_law wsL_refused_r4 := goodIn_r _ [110, 111, 112, 113, 114, 115, 116, 117, 118, 119, 120, 121, 122, 123, 124, 125, 126, 127, 128, 129, 130, 21, 131, 37] (by decide +kernel) (by decide +kernel)
set_option maxRecDepth 20000 in
theorem cggL_law_L_refused_5 : GoodIn wsL_law wsL_refused_r5 := goodIn_r _ [132, 133, 134, 135, 136, 137, 138, 139, 23, 140, 141, 142, 143, 144, 145, 146, 147, 148, 149, 150, 151, 152, 153, 154] (by decide +kernel) (by decide +kernel)
set_option maxRecDepth 20000 in
theorem cggL_law_L_refused_6 : GoodIn wsL_law wsL_refused_r6 := goodIn_r _ [155, 156, 157, 158, 159, 160, 161, 12, 162, 163, 164, 165, 166, 167, 168, 169, 170, 171, 172, 173, 174, 175, 176, 177] (by decide +kernel) (by decide +kernel)
set_option maxRecDepth 20000 in
theorem cggL_law_L_refused_7 : GoodIn wsL_law wsL_refused_r7 := goodIn_r _ [178, 179, 180, 181, 182, 11, 183, 184, 185, 186, 187, 188, 189, 190, 191, 192, 193, 194, 195, 196, 197, 198, 199, 200] (by decide +kernel) (by decide +kernel)
set_option maxRecDepth 20000 in
theorem cggL_law_L_refused_8 : GoodIn wsL_law wsL_refused_r8 := goodIn_r _ [201, 202, 203, 204, 205, 206, 207, 208, 209, 210, 211, 212, 213, 214, 215, 216, 217, 218, 219, 220, 221, 222, 223, 224] (by decide +kernel) (by decide +kernel)
set_option maxRecDepth 20000 in
theorem cggL_law_L_refused_9 : GoodIn wsL_law wsL_refused_r9 := goodIn_r _ [225, 226, 227, 228, 229, 230, 231, 232, 233, 234, 235, 236, 237, 238, 239, 240, 241, 242, 243, 244, 245, 246, 247, 248] (by decide +kernel) (by decide +kernel)
set_option maxRecDepth 20000 in
theorem cggL_law_L_refused_10 : GoodIn wsL_law wsL_refused_r10 := goodIn_r _ [249, 250, 251, 252, 253, 254, 255, 256, 257, 258, 259, 260, 261, 262, 263, 264, 265, 266, 267, 268, 269, 270, 271, 272] (by decide +kernel) (by decide +kernel)
set_option maxRecDepth 20000 in
theorem cggL_law_L_refused_11 : GoodIn wsL_law wsL_refused_r11 := goodIn_r _ [273, 274, 275, 276, 277, 278, 279, 280, 281, 282, 283, 284, 285, 286, 287, 288, 289, 290, 291, 292, 293, 294, 295, 296] (by decide +kernel) (by decide +kernel)
set_option maxRecDepth 20000 in
theorem cggL_law_L_refused_12 : GoodIn wsL_law wsL_refused_r12 := goodIn_r _ [297, 298, 299, 300, 25, 301, 302, 303, 304, 305, 306, 307, 308, 309, 310, 311, 312, 313, 314, 315, 316, 317, 318, 319] (by decide +kernel) (by decide +kernel)
set_option maxRecDepth 20000 in
theorem cggL_law_L_refused_13 : GoodIn wsL_law wsL_refused_r13 := goodIn_r _ [320, 321, 322, 323, 324, 325, 326, 327, 328, 329, 330, 331, 332, 333, 334, 335, 336, 38, 337, 338, 339, 340, 341, 342] (by decide +kernel) (by decide +kernel)
set_option maxRecDepth 20000 in
theorem cggL_law_L_refused_14 : GoodIn wsL_law wsL_refused_r14 := goodIn_r _ [343, 344, 345, 346, 347, 348] (by decide +kernel) (by decide +kernel)
set_option maxRecDepth 20000 in
theorem ggL_law_L_refused : GoodIn wsL_law wsL_refused := goodIn_ca (goodIn_ca (goodIn_ca (goodIn_hd (goodIn_r _ [46] (by decide +kernel) (by decide +kernel)) (goodIn_app (goodIn_app (goodIn_app (goodIn_app (goodIn_app cggL_law_L_refused_1 (goodIn_app cggL_law_L_refused_2 (goodIn_app cggL_law_L_refused_3 (goodIn_app cggL_law_L_refused_4 (goodIn_app cggL_law_L_refused_5 (goodIn_app cggL_law_L_refused_6 (goodIn_app cggL_law_L_refused_7 (goodIn_app cggL_law_L_refused_8 (goodIn_app cggL_law_L_refused_9 (goodIn_app cggL_law_L_refused_10 (goodIn_app cggL_law_L_refused_11 (goodIn_app cggL_law_L_refused_12 (goodIn_app cggL_law_L_refused_13 (cggL_law_L_refused_14)))))))))))))) (goodIn_r _ [385, 386, 387, 388, 389, 390, 391, 392, 393, 394, 395] (by decide +kernel) (by decide +kernel))) (goodIn_r _ [396, 397, 398, 399] (by decide +kernel) (by decide +kernel))) (goodIn_r _ [400, 401, 402, 403, 404, 405, 406, 407, 408] (by decide +kernel) (by decide +kernel))) (goodIn_r _ [409, 410, 411, 412, 413, 414, 415, 416] (by decide +kernel) (by decide +kernel)))) (goodIn_sub (fun _ h => List.mem_append_left _ (List.mem_append_left _ (List.mem_append_right _ h))) (by decide +kernel))) (goodIn_sub (fun _ h => List.mem_append_left _ (List.mem_append_right _ h)) (by decide +kernel))) (goodIn_sub (fun _ h => List.mem_append_right _ h) (by decide +kernel))
set_option maxRecDepth 20000 in
theorem gL_law_L_refused : GoodIn wsL_law (va_wsS RL 139 yL_refused wsL_refused) := goodIn_app (goodIn_of _ (by decide +kernel)) ggL_law_L_refused
set_option maxRecDepth 20000 in
theorem ggL_law_L_cell : GoodIn wsL_law wsL_cell := goodIn_r _ [351, 352, 353] (by decide +kernel) (by decide +kernel)
set_option maxRecDepth 20000 in
theorem gL_law_L_cell : GoodIn wsL_law (va_wsS RL 143 yL_cell wsL_cell) := goodIn_app (goodIn_of _ (by decide +kernel)) ggL_law_L_cell
set_option maxRecDepth 20000 in
theorem ggL_law_L_some : GoodIn wsL_law wsL_some := goodIn_r _ [356] (by decide +kernel) (by decide +kernel)
set_option maxRecDepth 20000 in
theorem gL_law_L_some : GoodIn wsL_law (va_wsS RL 123 yL_some wsL_some) := goodIn_app (goodIn_of _ (by decide +kernel)) ggL_law_L_some
set_option maxRecDepth 20000 in
theorem cggL_law_L_offices_1 : GoodIn wsL_law wsL_offices_r1 := goodIn_r _ [172, 47, 354, 355, 45, 356, 360, 361, 362, 363, 166, 167, 168, 169, 170, 171, 48, 173, 174, 175, 176, 177, 178, 2] (by decide +kernel) (by decide +kernel)
set_option maxRecDepth 20000 in
theorem cggL_law_L_offices_2 : GoodIn wsL_law wsL_offices_r2 := goodIn_r _ [179, 71, 72, 180, 181, 182, 11, 183, 184, 185, 186, 61, 12, 63, 64, 65, 66, 67, 187, 188, 189, 190, 16, 62] (by decide +kernel) (by decide +kernel)
set_option maxRecDepth 20000 in
theorem cggL_law_L_offices_3 : GoodIn wsL_law wsL_offices_r3 := goodIn_r _ [77, 78, 79, 15, 80, 81, 30, 31, 32, 191, 192, 193, 194, 57, 58, 59, 60, 68, 69, 70, 73, 74, 75, 76] (by decide +kernel) (by decide +kernel)
set_option maxRecDepth 20000 in
theorem cggL_law_L_offices_4 : GoodIn wsL_law wsL_offices_r4 := goodIn_r _ [195, 196, 197, 198, 17, 199, 200, 201, 202, 86, 19, 203, 204, 205, 206, 207, 208, 209, 210, 211, 212, 213, 214, 215] (by decide +kernel) (by decide +kernel)
set_option maxRecDepth 20000 in
theorem cggL_law_L_offices_5 : GoodIn wsL_law wsL_offices_r5 := goodIn_r _ [216, 217, 218, 219, 220, 221, 222, 223, 224, 225, 226, 227, 228, 229, 230, 231, 232, 233, 234, 235, 236, 237, 238, 239] (by decide +kernel) (by decide +kernel)
set_option maxRecDepth 20000 in
theorem cggL_law_L_offices_6 : GoodIn wsL_law wsL_offices_r6 := goodIn_r _ [240, 241, 242, 243, 244, 245, 246, 247, 248, 249, 250, 251, 252, 253, 254, 255, 256, 257, 258, 259, 260, 261, 262, 263] (by decide +kernel) (by decide +kernel)
set_option maxRecDepth 20000 in
theorem cggL_law_L_offices_7 : GoodIn wsL_law wsL_offices_r7 := goodIn_r _ [264, 265, 21, 266, 267, 268, 133, 269, 270, 271, 272, 273, 274, 275, 276, 277, 278, 279, 280, 281, 282, 283, 284, 285] (by decide +kernel) (by decide +kernel)
set_option maxRecDepth 20000 in
theorem cggL_law_L_offices_8 : GoodIn wsL_law wsL_offices_r8 := goodIn_r _ [124, 125, 126, 127, 128, 129, 130, 131, 37, 132, 134, 286, 287, 288, 289, 23, 290, 291, 292, 293, 139, 141, 140, 294] (by decide +kernel) (by decide +kernel)
set_option maxRecDepth 20000 in
theorem cggL_law_L_offices_9 : GoodIn wsL_law wsL_offices_r9 := goodIn_r _ [295, 296, 297, 298, 299, 300, 25, 301, 302, 303, 304, 305, 306, 307, 308, 309, 310, 311, 312, 313, 314, 315, 144, 157] (by decide +kernel) (by decide +kernel)
set_option maxRecDepth 20000 in
theorem cggL_law_L_offices_10 : GoodIn wsL_law wsL_offices_r10 := goodIn_r _ [110, 316, 317, 318, 319, 320, 321, 322, 323, 324, 325, 326, 327, 328, 145, 87, 88, 89, 90, 91, 92, 93, 94, 95] (by decide +kernel) (by decide +kernel)
set_option maxRecDepth 20000 in
theorem cggL_law_L_offices_11 : GoodIn wsL_law wsL_offices_r11 := goodIn_r _ [96, 97, 98, 99, 100, 101, 102, 103, 104, 105, 106, 107, 108, 109, 111, 112, 113, 114, 329, 330, 331, 332, 333, 334] (by decide +kernel) (by decide +kernel)
set_option maxRecDepth 20000 in
theorem cggL_law_L_offices_12 : GoodIn wsL_law wsL_offices_r12 := goodIn_r _ [335, 336, 38, 337, 338, 339, 340, 341, 342, 343, 344, 345, 346, 347, 348, 135, 136, 137, 138, 142, 143, 146, 147, 148] (by decide +kernel) (by decide +kernel)
set_option maxRecDepth 20000 in
theorem cggL_law_L_offices_13 : GoodIn wsL_law wsL_offices_r13 := goodIn_r _ [149, 150, 151, 152, 153, 154, 155, 156, 158, 159, 160, 161, 82, 83, 84, 85, 115, 116, 117, 118, 119, 120, 121, 122] (by decide +kernel) (by decide +kernel)
set_option maxRecDepth 20000 in
theorem cggL_law_L_offices_14 : GoodIn wsL_law wsL_offices_r14 := goodIn_r _ [123, 162, 163, 164, 165] (by decide +kernel) (by decide +kernel)
set_option maxRecDepth 20000 in
theorem ggL_law_L_offices : GoodIn wsL_law wsL_offices := goodIn_ca (goodIn_ca (goodIn_ca (goodIn_hd (goodIn_r _ [359] (by decide +kernel) (by decide +kernel)) (goodIn_app (goodIn_app (goodIn_app (goodIn_app (goodIn_app cggL_law_L_offices_1 (goodIn_app cggL_law_L_offices_2 (goodIn_app cggL_law_L_offices_3 (goodIn_app cggL_law_L_offices_4 (goodIn_app cggL_law_L_offices_5 (goodIn_app cggL_law_L_offices_6 (goodIn_app cggL_law_L_offices_7 (goodIn_app cggL_law_L_offices_8 (goodIn_app cggL_law_L_offices_9 (goodIn_app cggL_law_L_offices_10 (goodIn_app cggL_law_L_offices_11 (goodIn_app cggL_law_L_offices_12 (goodIn_app cggL_law_L_offices_13 (cggL_law_L_offices_14)))))))))))))) (goodIn_r _ [385, 386, 387, 388, 389, 390, 391, 392, 393, 394, 395] (by decide +kernel) (by decide +kernel))) (goodIn_r _ [396, 397, 398, 399] (by decide +kernel) (by decide +kernel))) (goodIn_r _ [400, 401, 402, 403, 404, 405, 406, 407, 408] (by decide +kernel) (by decide +kernel))) (goodIn_r _ [409, 410, 411, 412, 413, 414, 415, 416] (by decide +kernel) (by decide +kernel)))) (goodIn_sub (fun _ h => List.mem_append_left _ (List.mem_append_right _ h)) (by decide +kernel))) (goodIn_sub (fun _ h => List.mem_append_right _ h) (by decide +kernel))) (goodIn_sub (fun _ h => List.mem_append_left _ (List.mem_append_left _ (List.mem_append_right _ h))) (by decide +kernel))
set_option maxRecDepth 20000 in
theorem gL_law_L_offices : GoodIn wsL_law (va_wsS RL 147 yL_offices wsL_offices) := goodIn_app (goodIn_of _ (by decide +kernel)) ggL_law_L_offices
set_option maxRecDepth 20000 in
theorem cggL_law_L_acts_1 : GoodIn wsL_law wsL_acts_r1 := goodIn_r _ [172, 47, 48, 354, 355, 45, 356, 367, 368, 369, 370, 371, 372, 373, 374, 375, 166, 167, 168, 169, 170, 171, 173, 174] (by decide +kernel) (by decide +kernel)
set_option maxRecDepth 20000 in
theorem cggL_law_L_acts_2 : GoodIn wsL_law wsL_acts_r2 := goodIn_r _ [175, 176, 177, 178, 2, 179, 71, 72, 180, 181, 182, 11, 183, 184, 185, 186, 61, 12, 63, 64, 65, 66, 67, 187] (by decide +kernel) (by decide +kernel)
set_option maxRecDepth 20000 in
theorem cggL_law_L_acts_3 : GoodIn wsL_law wsL_acts_r3 := goodIn_r _ [188, 189, 190, 16, 62, 77, 78, 79, 15, 80, 81, 30, 31, 32, 191, 192, 193, 194, 57, 58, 59, 60, 68, 69] (by decide +kernel) (by decide +kernel)
set_option maxRecDepth 20000 in
theorem cggL_law_L_acts_4 : GoodIn wsL_law wsL_acts_r4 := goodIn_r _ [70, 73, 74, 75, 76, 195, 196, 197, 198, 17, 199, 200, 201, 202, 86, 19, 203, 204, 205, 206, 207, 208, 209, 210] (by decide +kernel) (by decide +kernel)
set_option maxRecDepth 20000 in
theorem cggL_law_L_acts_5 : GoodIn wsL_law wsL_acts_r5 := goodIn_r _ [211, 212, 213, 214, 215, 216, 217, 218, 219, 220, 221, 222, 223, 224, 225, 226, 227, 228, 229, 230, 231, 232, 233, 234] (by decide +kernel) (by decide +kernel)
set_option maxRecDepth 20000 in
theorem cggL_law_L_acts_6 : GoodIn wsL_law wsL_acts_r6 := goodIn_r _ [235, 236, 237, 238, 239, 240, 241, 242, 243, 244, 245, 246, 247, 248, 249, 250, 251, 252, 253, 254, 255, 256, 257, 258] (by decide +kernel) (by decide +kernel)
set_option maxRecDepth 20000 in
theorem cggL_law_L_acts_7 : GoodIn wsL_law wsL_acts_r7 := goodIn_r _ [259, 260, 261, 262, 263, 264, 265, 21, 266, 267, 268, 133, 269, 270, 271, 272, 273, 274, 275, 276, 277, 278, 279, 280] (by decide +kernel) (by decide +kernel)
set_option maxRecDepth 20000 in
theorem cggL_law_L_acts_8 : GoodIn wsL_law wsL_acts_r8 := goodIn_r _ [281, 282, 283, 284, 285, 124, 125, 126, 127, 128, 129, 130, 131, 37, 132, 134, 286, 287, 288, 289, 23, 290, 291, 292] (by decide +kernel) (by decide +kernel)
set_option maxRecDepth 20000 in
theorem cggL_law_L_acts_9 : GoodIn wsL_law wsL_acts_r9 := goodIn_r _ [293, 139, 141, 140, 294, 295, 296, 297, 298, 299, 300, 25, 301, 302, 303, 304, 305, 306, 307, 308, 309, 310, 311, 312] (by decide +kernel) (by decide +kernel)
set_option maxRecDepth 20000 in
theorem cggL_law_L_acts_10 : GoodIn wsL_law wsL_acts_r10 := goodIn_r _ [313, 314, 315, 144, 157, 110, 316, 317, 318, 319, 320, 321, 322, 323, 324, 325, 326, 327, 328, 145, 87, 88, 89, 90] (by decide +kernel) (by decide +kernel)
set_option maxRecDepth 20000 in
theorem cggL_law_L_acts_11 : GoodIn wsL_law wsL_acts_r11 := goodIn_r _ [91, 92, 93, 94, 95, 96, 97, 98, 99, 100, 101, 102, 103, 104, 105, 106, 107, 108, 109, 111, 112, 113, 114, 329] (by decide +kernel) (by decide +kernel)
set_option maxRecDepth 20000 in
theorem cggL_law_L_acts_12 : GoodIn wsL_law wsL_acts_r12 := goodIn_r _ [330, 331, 332, 333, 334, 335, 336, 38, 337, 338, 339, 340, 341, 342, 343, 344, 345, 346, 347, 348, 135, 136, 137, 138] (by decide +kernel) (by decide +kernel)
set_option maxRecDepth 20000 in
theorem cggL_law_L_acts_13 : GoodIn wsL_law wsL_acts_r13 := goodIn_r _ [142, 143, 146, 147, 148, 149, 150, 151, 152, 153, 154, 155, 156, 158, 159, 160, 161, 82, 83, 84, 85, 115, 116, 117] (by decide +kernel) (by decide +kernel)
set_option maxRecDepth 20000 in
theorem cggL_law_L_acts_14 : GoodIn wsL_law wsL_acts_r14 := goodIn_r _ [118, 119, 120, 121, 122, 123, 162, 163, 164, 165, 360, 361, 362, 363] (by decide +kernel) (by decide +kernel)
set_option maxRecDepth 20000 in
theorem ggL_law_L_acts : GoodIn wsL_law wsL_acts := goodIn_ca (goodIn_ca (goodIn_ca (goodIn_hd (goodIn_r _ [366] (by decide +kernel) (by decide +kernel)) (goodIn_app (goodIn_app (goodIn_app (goodIn_app (goodIn_app cggL_law_L_acts_1 (goodIn_app cggL_law_L_acts_2 (goodIn_app cggL_law_L_acts_3 (goodIn_app cggL_law_L_acts_4 (goodIn_app cggL_law_L_acts_5 (goodIn_app cggL_law_L_acts_6 (goodIn_app cggL_law_L_acts_7 (goodIn_app cggL_law_L_acts_8 (goodIn_app cggL_law_L_acts_9 (goodIn_app cggL_law_L_acts_10 (goodIn_app cggL_law_L_acts_11 (goodIn_app cggL_law_L_acts_12 (goodIn_app cggL_law_L_acts_13 (cggL_law_L_acts_14)))))))))))))) (goodIn_r _ [385, 386, 387, 388, 389, 390, 391, 392, 393, 394, 395] (by decide +kernel) (by decide +kernel))) (goodIn_r _ [396, 397, 398, 399] (by decide +kernel) (by decide +kernel))) (goodIn_r _ [400, 401, 402, 403, 404, 405, 406, 407, 408] (by decide +kernel) (by decide +kernel))) (goodIn_r _ [409, 410, 411, 412, 413, 414, 415, 416] (by decide +kernel) (by decide +kernel)))) (goodIn_sub (fun _ h => List.mem_append_left _ (List.mem_append_right _ h)) (by decide +kernel))) (goodIn_sub (fun _ h => List.mem_append_right _ h) (by decide +kernel))) (goodIn_sub (fun _ h => List.mem_append_left _ (List.mem_append_left _ (List.mem_append_right _ h))) (by decide +kernel))
set_option maxRecDepth 20000 in
theorem gL_law_L_acts : GoodIn wsL_law (va_wsS RL 151 yL_acts wsL_acts) := goodIn_app (goodIn_of _ (by decide +kernel)) ggL_law_L_acts
set_option maxRecDepth 20000 in
theorem cggL_law_L_pleas_1 : GoodIn wsL_law wsL_pleas_r1 := goodIn_r _ [48, 172, 166, 167, 45, 168, 169, 170, 171, 47, 173, 174, 175, 176, 177, 178, 2, 179, 71, 72, 180, 181, 182, 11] (by decide +kernel) (by decide +kernel)
set_option maxRecDepth 20000 in
theorem cggL_law_L_pleas_2 : GoodIn wsL_law wsL_pleas_r2 := goodIn_r _ [183, 184, 185, 186, 61, 12, 63, 64, 65, 66, 67, 187, 188, 189, 190, 16, 62, 77, 78, 79, 15, 80, 81, 30] (by decide +kernel) (by decide +kernel)
set_option maxRecDepth 20000 in
theorem cggL_law_L_pleas_3 : GoodIn wsL_law wsL_pleas_r3 := goodIn_r _ [31, 32, 191, 192, 193, 194, 57, 58, 59, 60, 68, 69, 70, 73, 74, 75, 76, 195, 196, 197, 198, 17, 199, 200] (by decide +kernel) (by decide +kernel)
set_option maxRecDepth 20000 in
theorem cggL_law_L_pleas_4 : GoodIn wsL_law wsL_pleas_r4 := goodIn_r _ [201, 202, 86, 19, 203, 204, 205, 206, 207, 208, 209, 210, 211, 212, 213, 214, 215, 216, 217, 218, 219, 220, 221, 222] (by decide +kernel) (by decide +kernel)
set_option maxRecDepth 20000 in
theorem cggL_law_L_pleas_5 : GoodIn wsL_law wsL_pleas_r5 := goodIn_r _ [223, 224, 225, 226, 227, 228, 229, 230, 231, 232, 233, 234, 235, 236, 237, 238, 239, 240, 241, 242, 243, 244, 245, 246] (by decide +kernel) (by decide +kernel)
set_option maxRecDepth 20000 in
theorem cggL_law_L_pleas_6 : GoodIn wsL_law wsL_pleas_r6 := goodIn_r _ [247, 248, 249, 250, 251, 252, 253, 254, 255, 256, 257, 258, 259, 260, 261, 262, 263, 264, 265, 21, 266, 267, 268, 133] (by decide +kernel) (by decide +kernel)
set_option maxRecDepth 20000 in
theorem cggL_law_L_pleas_7 : GoodIn wsL_law wsL_pleas_r7 := goodIn_r _ [269, 270, 271, 272, 273, 274, 275, 276, 277, 278, 279, 280, 281, 282, 283, 284, 285, 124, 125, 126, 127, 128, 129, 130] (by decide +kernel) (by decide +kernel)
set_option maxRecDepth 20000 in
theorem cggL_law_L_pleas_8 : GoodIn wsL_law wsL_pleas_r8 := goodIn_r _ [131, 37, 132, 134, 286, 287, 288, 289, 23, 290, 291, 292, 293, 139, 141, 140, 294, 295, 296, 297, 298, 299, 300, 25] (by decide +kernel) (by decide +kernel)
set_option maxRecDepth 20000 in
theorem cggL_law_L_pleas_9 : GoodIn wsL_law wsL_pleas_r9 := goodIn_r _ [301, 302, 303, 304, 305, 306, 307, 308, 309, 310, 311, 312, 313, 314, 315, 144, 157, 110, 316, 317, 318, 319, 320, 321] (by decide +kernel) (by decide +kernel)
set_option maxRecDepth 20000 in
theorem cggL_law_L_pleas_10 : GoodIn wsL_law wsL_pleas_r10 := goodIn_r _ [322, 323, 324, 325, 326, 327, 328, 145, 87, 88, 89, 90, 91, 92, 93, 94, 95, 96, 97, 98, 99, 100, 101, 102] (by decide +kernel) (by decide +kernel)
set_option maxRecDepth 20000 in
theorem cggL_law_L_pleas_11 : GoodIn wsL_law wsL_pleas_r11 := goodIn_r _ [103, 104, 105, 106, 107, 108, 109, 111, 112, 113, 114, 329, 330, 331, 332, 333, 334, 335, 336, 38, 337, 338, 339, 340] (by decide +kernel) (by decide +kernel)
set_option maxRecDepth 20000 in
theorem cggL_law_L_pleas_12 : GoodIn wsL_law wsL_pleas_r12 := goodIn_r _ [341, 342, 343, 344, 345, 346, 347, 348, 135, 136, 137, 138, 142, 143, 146, 147, 148, 149, 150, 151, 152, 153, 154, 155] (by decide +kernel) (by decide +kernel)
set_option maxRecDepth 20000 in
theorem cggL_law_L_pleas_13 : GoodIn wsL_law wsL_pleas_r13 := goodIn_r _ [156, 158, 159, 160, 161, 82, 83, 84, 85, 115, 116, 117, 118, 119, 120, 121, 122, 123, 162, 163, 164, 165, 354, 355] (by decide +kernel) (by decide +kernel)
set_option maxRecDepth 20000 in
theorem cggL_law_L_pleas_14 : GoodIn wsL_law wsL_pleas_r14 := goodIn_r _ [356, 360, 361, 362, 363] (by decide +kernel) (by decide +kernel)
set_option maxRecDepth 20000 in
theorem ggL_law_L_pleas : GoodIn wsL_law wsL_pleas := goodIn_ca (goodIn_ca (goodIn_ca (goodIn_hd (goodIn_r _ [378] (by decide +kernel) (by decide +kernel)) (goodIn_app (goodIn_app (goodIn_app (goodIn_app (goodIn_app cggL_law_L_pleas_1 (goodIn_app cggL_law_L_pleas_2 (goodIn_app cggL_law_L_pleas_3 (goodIn_app cggL_law_L_pleas_4 (goodIn_app cggL_law_L_pleas_5 (goodIn_app cggL_law_L_pleas_6 (goodIn_app cggL_law_L_pleas_7 (goodIn_app cggL_law_L_pleas_8 (goodIn_app cggL_law_L_pleas_9 (goodIn_app cggL_law_L_pleas_10 (goodIn_app cggL_law_L_pleas_11 (goodIn_app cggL_law_L_pleas_12 (goodIn_app cggL_law_L_pleas_13 (cggL_law_L_pleas_14)))))))))))))) (goodIn_r _ [385, 386, 387, 388, 389, 390, 391, 392, 393, 394, 395] (by decide +kernel) (by decide +kernel))) (goodIn_r _ [396, 397, 398, 399] (by decide +kernel) (by decide +kernel))) (goodIn_r _ [400, 401, 402, 403, 404, 405, 406, 407, 408] (by decide +kernel) (by decide +kernel))) (goodIn_r _ [409, 410, 411, 412, 413, 414, 415, 416] (by decide +kernel) (by decide +kernel)))) (goodIn_sub (fun _ h => List.mem_append_left _ (List.mem_append_right _ h)) (by decide +kernel))) (goodIn_sub (fun _ h => List.mem_append_right _ h) (by decide +kernel))) (goodIn_sub (fun _ h => List.mem_append_left _ (List.mem_append_left _ (List.mem_append_right _ h))) (by decide +kernel))
set_option maxRecDepth 20000 in
theorem gL_law_L_pleas : GoodIn wsL_law (va_wsS RL 154 yL_pleas wsL_pleas) := goodIn_app (goodIn_of _ (by decide +kernel)) ggL_law_L_pleas
set_option maxRecDepth 20000 in
theorem cggL_law_L_files_1 : GoodIn wsL_law wsL_files_r1 := goodIn_r _ [48, 172, 166, 167, 45, 168, 169, 170, 171, 47, 173, 174, 175, 176, 177, 178, 2, 179, 71, 72, 180, 181, 182, 11] (by decide +kernel) (by decide +kernel)
set_option maxRecDepth 20000 in
theorem cggL_law_L_files_2 : GoodIn wsL_law wsL_files_r2 := goodIn_r _ [183, 184, 185, 186, 61, 12, 63, 64, 65, 66, 67, 187, 188, 189, 190, 16, 62, 77, 78, 79, 15, 80, 81, 30] (by decide +kernel) (by decide +kernel)
set_option maxRecDepth 20000 in
theorem cggL_law_L_files_3 : GoodIn wsL_law wsL_files_r3 := goodIn_r _ [31, 32, 191, 192, 193, 194, 57, 58, 59, 60, 68, 69, 70, 73, 74, 75, 76, 195, 196, 197, 198, 17, 199, 200] (by decide +kernel) (by decide +kernel)
set_option maxRecDepth 20000 in
theorem cggL_law_L_files_4 : GoodIn wsL_law wsL_files_r4 := goodIn_r _ [201, 202, 86, 19, 203, 204, 205, 206, 207, 208, 209, 210, 211, 212, 213, 214, 215, 216, 217, 218, 219, 220, 221, 222] (by decide +kernel) (by decide +kernel)
set_option maxRecDepth 20000 in
theorem cggL_law_L_files_5 : GoodIn wsL_law wsL_files_r5 := goodIn_r _ [223, 224, 225, 226, 227, 228, 229, 230, 231, 232, 233, 234, 235, 236, 237, 238, 239, 240, 241, 242, 243, 244, 245, 246] (by decide +kernel) (by decide +kernel)
set_option maxRecDepth 20000 in
theorem cggL_law_L_files_6 : GoodIn wsL_law wsL_files_r6 := goodIn_r _ [247, 248, 249, 250, 251, 252, 253, 254, 255, 256, 257, 258, 259, 260, 261, 262, 263, 264, 265, 21, 266, 267, 268, 133] (by decide +kernel) (by decide +kernel)
set_option maxRecDepth 20000 in
theorem cggL_law_L_files_7 : GoodIn wsL_law wsL_files_r7 := goodIn_r _ [269, 270, 271, 272, 273, 274, 275, 276, 277, 278, 279, 280, 281, 282, 283, 284, 285, 124, 125, 126, 127, 128, 129, 130] (by decide +kernel) (by decide +kernel)
set_option maxRecDepth 20000 in
theorem cggL_law_L_files_8 : GoodIn wsL_law wsL_files_r8 := goodIn_r _ [131, 37, 132, 134, 286, 287, 288, 289, 23, 290, 291, 292, 293, 139, 141, 140, 294, 295, 296, 297, 298, 299, 300, 25] (by decide +kernel) (by decide +kernel)
set_option maxRecDepth 20000 in
theorem cggL_law_L_files_9 : GoodIn wsL_law wsL_files_r9 := goodIn_r _ [301, 302, 303, 304, 305, 306, 307, 308, 309, 310, 311, 312, 313, 314, 315, 144, 157, 110, 316, 317, 318, 319, 320, 321] (by decide +kernel) (by decide +kernel)
set_option maxRecDepth 20000 in
theorem cggL_law_L_files_10 : GoodIn wsL_law wsL_files_r10 := goodIn_r _ [322, 323, 324, 325, 326, 327, 328, 145, 87, 88, 89, 90, 91, 92, 93, 94, 95, 96, 97, 98, 99, 100, 101, 102] (by decide +kernel) (by decide +kernel)
set_option maxRecDepth 20000 in
theorem cggL_law_L_files_11 : GoodIn wsL_law wsL_files_r11 := goodIn_r _ [103, 104, 105, 106, 107, 108, 109, 111, 112, 113, 114, 329, 330, 331, 332, 333, 334, 335, 336, 38, 337, 338, 339, 340] (by decide +kernel) (by decide +kernel)
set_option maxRecDepth 20000 in
theorem cggL_law_L_files_12 : GoodIn wsL_law wsL_files_r12 := goodIn_r _ [341, 342, 343, 344, 345, 346, 347, 348, 135, 136, 137, 138, 142, 143, 146, 147, 148, 149, 150, 151, 152, 153, 154, 155] (by decide +kernel) (by decide +kernel)
set_option maxRecDepth 20000 in
theorem cggL_law_L_files_13 : GoodIn wsL_law wsL_files_r13 := goodIn_r _ [156, 158, 159, 160, 161, 82, 83, 84, 85, 115, 116, 117, 118, 119, 120, 121, 122, 123, 162, 163, 164, 165, 354, 355] (by decide +kernel) (by decide +kernel)
set_option maxRecDepth 20000 in
theorem cggL_law_L_files_14 : GoodIn wsL_law wsL_files_r14 := goodIn_r _ [356, 360, 361, 362, 363] (by decide +kernel) (by decide +kernel)
set_option maxRecDepth 20000 in
theorem ggL_law_L_files : GoodIn wsL_law wsL_files := goodIn_ca (goodIn_ca (goodIn_ca (goodIn_hd (goodIn_r _ [381] (by decide +kernel) (by decide +kernel)) (goodIn_app (goodIn_app (goodIn_app (goodIn_app (goodIn_app cggL_law_L_files_1 (goodIn_app cggL_law_L_files_2 (goodIn_app cggL_law_L_files_3 (goodIn_app cggL_law_L_files_4 (goodIn_app cggL_law_L_files_5 (goodIn_app cggL_law_L_files_6 (goodIn_app cggL_law_L_files_7 (goodIn_app cggL_law_L_files_8 (goodIn_app cggL_law_L_files_9 (goodIn_app cggL_law_L_files_10 (goodIn_app cggL_law_L_files_11 (goodIn_app cggL_law_L_files_12 (goodIn_app cggL_law_L_files_13 (cggL_law_L_files_14)))))))))))))) (goodIn_r _ [385, 386, 387, 388, 389, 390, 391, 392, 393, 394, 395] (by decide +kernel) (by decide +kernel))) (goodIn_r _ [396, 397, 398, 399] (by decide +kernel) (by decide +kernel))) (goodIn_r _ [400, 401, 402, 403, 404, 405, 406, 407, 408] (by decide +kernel) (by decide +kernel))) (goodIn_r _ [409, 410, 411, 412, 413, 414, 415, 416] (by decide +kernel) (by decide +kernel)))) (goodIn_sub (fun _ h => List.mem_append_left _ (List.mem_append_right _ h)) (by decide +kernel))) (goodIn_sub (fun _ h => List.mem_append_right _ h) (by decide +kernel))) (goodIn_sub (fun _ h => List.mem_append_left _ (List.mem_append_left _ (List.mem_append_right _ h))) (by decide +kernel))
set_option maxRecDepth 20000 in
theorem gL_law_L_files : GoodIn wsL_law (va_wsS RL 157 yL_files wsL_files) := goodIn_app (goodIn_of _ (by decide +kernel)) ggL_law_L_files
set_option maxRecDepth 20000 in
theorem cggL_law_L_passes_1 : GoodIn wsL_law wsL_passes_r1 := goodIn_r _ [3, 172, 354, 355, 45, 356, 135, 136, 137, 2, 138, 139, 23, 140, 141, 142, 143, 144, 145, 63, 64, 65, 66, 67] (by decide +kernel) (by decide +kernel)
set_option maxRecDepth 20000 in
theorem cggL_law_L_passes_2 : GoodIn wsL_law wsL_passes_r2 := goodIn_r _ [68, 69, 70, 71, 72, 146, 147, 148, 149, 150, 151, 152, 360, 361, 362, 363, 166, 167, 168, 169, 170, 171, 48, 47] (by decide +kernel) (by decide +kernel)
set_option maxRecDepth 20000 in
theorem cggL_law_L_passes_3 : GoodIn wsL_law wsL_passes_r3 := goodIn_r _ [173, 174, 175, 176, 177, 178, 179, 180, 181, 182, 11, 183, 184, 185, 186, 61, 12, 187, 188, 189, 190, 16, 62, 77] (by decide +kernel) (by decide +kernel)
set_option maxRecDepth 20000 in
theorem cggL_law_L_passes_4 : GoodIn wsL_law wsL_passes_r4 := goodIn_r _ [78, 79, 15, 80, 81, 30, 31, 32, 191, 192, 193, 194, 57, 58, 59, 60, 73, 74, 75, 76, 195, 196, 197, 198] (by decide +kernel) (by decide +kernel)
set_option maxRecDepth 20000 in
theorem cggL_law_L_passes_5 : GoodIn wsL_law wsL_passes_r5 := goodIn_r _ [17, 199, 200, 201, 202, 86, 19, 203, 204, 205, 206, 207, 208, 209, 210, 211, 212, 213, 214, 215, 216, 217, 218, 219] (by decide +kernel) (by decide +kernel)
set_option maxRecDepth 20000 in
theorem cggL_law_L_passes_6 : GoodIn wsL_law wsL_passes_r6 := goodIn_r _ [220, 221, 222, 223, 224, 225, 226, 227, 228, 229, 230, 231, 232, 233, 234, 235, 236, 237, 238, 239, 240, 241, 242, 243] (by decide +kernel) (by decide +kernel)
set_option maxRecDepth 20000 in
theorem cggL_law_L_passes_7 : GoodIn wsL_law wsL_passes_r7 := goodIn_r _ [244, 245, 246, 247, 248, 249, 250, 251, 252, 253, 254, 255, 256, 257, 258, 259, 260, 261, 262, 263, 264, 265, 21, 266] (by decide +kernel) (by decide +kernel)
set_option maxRecDepth 20000 in
theorem cggL_law_L_passes_8 : GoodIn wsL_law wsL_passes_r8 := goodIn_r _ [267, 268, 133, 269, 270, 271, 272, 273, 274, 275, 276, 277, 278, 279, 280, 281, 282, 283, 284, 285, 124, 125, 126, 127] (by decide +kernel) (by decide +kernel)
set_option maxRecDepth 20000 in
theorem cggL_law_L_passes_9 : GoodIn wsL_law wsL_passes_r9 := goodIn_r _ [128, 129, 130, 131, 37, 132, 134, 286, 287, 288, 289, 290, 291, 292, 293, 294, 295, 296, 297, 298, 299, 300, 25, 301] (by decide +kernel) (by decide +kernel)
set_option maxRecDepth 20000 in
theorem cggL_law_L_passes_10 : GoodIn wsL_law wsL_passes_r10 := goodIn_r _ [302, 303, 304, 305, 306, 307, 308, 309, 310, 311, 312, 313, 314, 315, 157, 110, 316, 317, 318, 319, 320, 321, 322, 323] (by decide +kernel) (by decide +kernel)
set_option maxRecDepth 20000 in
theorem cggL_law_L_passes_11 : GoodIn wsL_law wsL_passes_r11 := goodIn_r _ [324, 325, 326, 327, 328, 87, 88, 89, 90, 91, 92, 93, 94, 95, 96, 97, 98, 99, 100, 101, 102, 103, 104, 105] (by decide +kernel) (by decide +kernel)
set_option maxRecDepth 20000 in
theorem cggL_law_L_passes_12 : GoodIn wsL_law wsL_passes_r12 := goodIn_r _ [106, 107, 108, 109, 111, 112, 113, 114, 329, 330, 331, 332, 333, 334, 335, 336, 38, 337, 338, 339, 340, 341, 342, 343] (by decide +kernel) (by decide +kernel)
set_option maxRecDepth 20000 in
theorem cggL_law_L_passes_13 : GoodIn wsL_law wsL_passes_r13 := goodIn_r _ [344, 345, 346, 347, 348, 153, 154, 155, 156, 158, 159, 160, 161, 82, 83, 84, 85, 115, 116, 117, 118, 119, 120, 121] (by decide +kernel) (by decide +kernel)
set_option maxRecDepth 20000 in
theorem cggL_law_L_passes_14 : GoodIn wsL_law wsL_passes_r14 := goodIn_r _ [122, 123, 162, 163, 164, 165] (by decide +kernel) (by decide +kernel)
set_option maxRecDepth 20000 in
theorem ggL_law_L_passes : GoodIn wsL_law wsL_passes := goodIn_ca (goodIn_ca (goodIn_ca (goodIn_hd (goodIn_r _ [384] (by decide +kernel) (by decide +kernel)) (goodIn_app (goodIn_app (goodIn_app (goodIn_app (goodIn_app cggL_law_L_passes_1 (goodIn_app cggL_law_L_passes_2 (goodIn_app cggL_law_L_passes_3 (goodIn_app cggL_law_L_passes_4 (goodIn_app cggL_law_L_passes_5 (goodIn_app cggL_law_L_passes_6 (goodIn_app cggL_law_L_passes_7 (goodIn_app cggL_law_L_passes_8 (goodIn_app cggL_law_L_passes_9 (goodIn_app cggL_law_L_passes_10 (goodIn_app cggL_law_L_passes_11 (goodIn_app cggL_law_L_passes_12 (goodIn_app cggL_law_L_passes_13 (cggL_law_L_passes_14)))))))))))))) (goodIn_r _ [385, 386, 387, 388, 389, 390, 391, 392, 393, 394, 395] (by decide +kernel) (by decide +kernel))) (goodIn_r _ [409, 410, 411, 412, 413, 414, 415, 416] (by decide +kernel) (by decide +kernel))) (goodIn_r _ [396, 397, 398, 399] (by decide +kernel) (by decide +kernel))) (goodIn_r _ [400, 401, 402, 403, 404, 405, 406, 407, 408] (by decide +kernel) (by decide +kernel)))) (goodIn_sub (fun _ h => List.mem_append_left _ (List.mem_append_left _ (List.mem_append_right _ h))) (by decide +kernel))) (goodIn_sub (fun _ h => List.mem_append_left _ (List.mem_append_right _ h)) (by decide +kernel))) (goodIn_sub (fun _ h => List.mem_append_right _ h) (by decide +kernel))
set_option maxRecDepth 20000 in
theorem gL_law_L_passes : GoodIn wsL_law (va_wsS RL 160 yL_passes wsL_passes) := goodIn_app (goodIn_of _ (by decide +kernel)) ggL_law_L_passes
set_option maxRecDepth 20000 in
theorem cggL_law_L_all_1 : GoodIn wsL_law wsL_all_r1 := goodIn_r _ [52, 53, 54, 55, 56, 57, 58, 59, 2, 60, 61, 62, 63, 64, 65, 66, 67, 68, 69, 70, 71, 72, 73, 74] (by decide +kernel) (by decide +kernel)
set_option maxRecDepth 20000 in
theorem cggL_law_L_all_2 : GoodIn wsL_law wsL_all_r2 := goodIn_r _ [75, 76, 16, 77, 78, 79, 15, 80, 81, 30, 31, 32, 82, 83, 84, 85, 86, 87, 88, 89, 90, 91, 92, 93] (by decide +kernel) (by decide +kernel)
set_option maxRecDepth 20000 in
theorem cggL_law_L_all_3 : GoodIn wsL_law wsL_all_r3 := goodIn_r _ [94, 19, 95, 17, 96, 97, 98, 99, 100, 101, 102, 103, 104, 105, 106, 107, 108, 109, 110, 111, 112, 113, 114, 115] (by decide +kernel) (by decide +kernel)
set_option maxRecDepth 20000 in
theorem cggL_law_L_all_4 : GoodIn wsL_law wsL_all_r4 := goodIn_r _ [116, 117, 118, 119, 120, 121, 122, 123, 124, 125, 126, 127, 128, 129, 130, 21, 131, 37, 132, 133, 134, 135, 136, 137] (by decide +kernel) (by decide +kernel)
set_option maxRecDepth 20000 in
theorem cggL_law_L_all_5 : GoodIn wsL_law wsL_all_r5 := goodIn_r _ [138, 139, 23, 140, 141, 142, 143, 144, 145, 146, 147, 148, 149, 150, 151, 152, 153, 154, 155, 156, 157, 158, 159, 160] (by decide +kernel) (by decide +kernel)
set_option maxRecDepth 20000 in
theorem cggL_law_L_all_6 : GoodIn wsL_law wsL_all_r6 := goodIn_r _ [161, 12, 162, 163, 164, 165] (by decide +kernel) (by decide +kernel)
set_option maxRecDepth 20000 in
theorem ggL_law_L_all : GoodIn wsL_law wsL_all := goodIn_ca (goodIn_ca (goodIn_hd (goodIn_r _ [51] (by decide +kernel) (by decide +kernel)) (goodIn_app (goodIn_app (goodIn_app (goodIn_app (goodIn_app cggL_law_L_all_1 (goodIn_app cggL_law_L_all_2 (goodIn_app cggL_law_L_all_3 (goodIn_app cggL_law_L_all_4 (goodIn_app cggL_law_L_all_5 (cggL_law_L_all_6)))))) (goodIn_r _ [385, 386, 387, 388, 389, 390, 391, 392, 393, 394, 395] (by decide +kernel) (by decide +kernel))) (goodIn_r _ [396, 397, 398, 399] (by decide +kernel) (by decide +kernel))) (goodIn_r _ [400, 401, 402, 403, 404, 405, 406, 407, 408] (by decide +kernel) (by decide +kernel))) (goodIn_r _ [409, 410, 411, 412, 413, 414, 415, 416] (by decide +kernel) (by decide +kernel)))) (goodIn_sub (fun _ h => List.mem_append_left _ (List.mem_append_left _ (List.mem_append_right _ h))) (by decide +kernel))) (goodIn_sub (fun _ h => List.mem_append_left _ (List.mem_append_right _ h)) (by decide +kernel))
set_option maxRecDepth 20000 in
theorem gL_law_L_all : GoodIn wsL_law (va_wsS RL 134 yL_all wsL_all) := goodIn_app (goodIn_of _ (by decide +kernel)) ggL_law_L_all
theorem dL_law_0 : decode cL_law 0 = .ok (.new 25, 3) := by decide +kernel
theorem dL_law_3 : decode cL_law 3 = .ok (.dup, 1) := by decide +kernel
theorem dL_law_4 : decode cL_law 4 = .ok (.invokespecial 138, 3) := by decide +kernel
theorem dL_law_7 : decode cL_law 7 = .ok (.astore_n 1, 1) := by decide +kernel
theorem dL_law_8 : decode cL_law 8 = .ok (.new 25, 3) := by decide +kernel
theorem dL_law_11 : decode cL_law 11 = .ok (.dup, 1) := by decide +kernel
theorem dL_law_12 : decode cL_law 12 = .ok (.invokespecial 138, 3) := by decide +kernel
theorem dL_law_15 : decode cL_law 15 = .ok (.astore_n 2, 1) := by decide +kernel
theorem dL_law_16 : decode cL_law 16 = .ok (.iconst 4, 1) := by decide +kernel
theorem dL_law_17 : decode cL_law 17 = .ok (.newarray .int, 2) := by decide +kernel
theorem dL_law_19 : decode cL_law 19 = .ok (.astore_n 3, 1) := by decide +kernel
theorem dL_law_20 : decode cL_law 20 = .ok (.aload_n 1, 1) := by decide +kernel
theorem dL_law_21 : decode cL_law 21 = .ok (.aload_n 3, 1) := by decide +kernel
theorem dL_law_22 : decode cL_law 22 = .ok (.invokestatic 139, 3) := by decide +kernel
theorem dL_law_25 : decode cL_law 25 = .ok (.istore 4, 2) := by decide +kernel
theorem dL_law_27 : decode cL_law 27 = .ok (.iconst 0, 1) := by decide +kernel
theorem dL_law_28 : decode cL_law 28 = .ok (.istore 5, 2) := by decide +kernel
theorem dL_law_30 : decode cL_law 30 = .ok (.iload 5, 2) := by decide +kernel
theorem dL_law_32 : decode cL_law 32 = .ok (.bipush 120, 2) := by decide +kernel
theorem dL_law_34 : decode cL_law 34 = .ok (.if_icmp .ge 198, 3) := by decide +kernel
theorem dL_law_37 : decode cL_law 37 = .ok (.iload 4, 2) := by decide +kernel
theorem dL_law_39 : decode cL_law 39 = .ok (.ifCond .eq 193, 3) := by decide +kernel
theorem dL_law_42 : decode cL_law 42 = .ok (.aload_n 0, 1) := by decide +kernel
theorem dL_law_43 : decode cL_law 43 = .ok (.iconst 2, 1) := by decide +kernel
theorem dL_law_44 : decode cL_law 44 = .ok (.iload 5, 2) := by decide +kernel
theorem dL_law_46 : decode cL_law 46 = .ok (.imul, 1) := by decide +kernel
theorem dL_law_47 : decode cL_law 47 = .ok (.invokestatic 143, 3) := by decide +kernel
theorem dL_law_50 : decode cL_law 50 = .ok (.istore 6, 2) := by decide +kernel
theorem dL_law_52 : decode cL_law 52 = .ok (.aload_n 0, 1) := by decide +kernel
theorem dL_law_53 : decode cL_law 53 = .ok (.iconst 2, 1) := by decide +kernel
theorem dL_law_54 : decode cL_law 54 = .ok (.iload 5, 2) := by decide +kernel
theorem dL_law_56 : decode cL_law 56 = .ok (.imul, 1) := by decide +kernel
theorem dL_law_57 : decode cL_law 57 = .ok (.iconst 1, 1) := by decide +kernel
theorem dL_law_58 : decode cL_law 58 = .ok (.iadd, 1) := by decide +kernel
theorem dL_law_59 : decode cL_law 59 = .ok (.invokestatic 143, 3) := by decide +kernel
theorem dL_law_62 : decode cL_law 62 = .ok (.istore 7, 2) := by decide +kernel
theorem dL_law_64 : decode cL_law 64 = .ok (.iload 6, 2) := by decide +kernel
theorem dL_law_66 : decode cL_law 66 = .ok (.bipush 24, 2) := by decide +kernel
theorem dL_law_68 : decode cL_law 68 = .ok (.invokestatic 123, 3) := by decide +kernel
theorem dL_law_71 : decode cL_law 71 = .ok (.istore 8, 2) := by decide +kernel
theorem dL_law_73 : decode cL_law 73 = .ok (.iload 8, 2) := by decide +kernel
theorem dL_law_75 : decode cL_law 75 = .ok (.iconst 3, 1) := by decide +kernel
theorem dL_law_76 : decode cL_law 76 = .ok (.if_icmp .lt 9, 3) := by decide +kernel
theorem dL_law_79 : decode cL_law 79 = .ok (.iload 5, 2) := by decide +kernel
theorem dL_law_81 : decode cL_law 81 = .ok (.iconst 2, 1) := by decide +kernel
theorem dL_law_82 : decode cL_law 82 = .ok (.if_icmp .ge 18, 3) := by decide +kernel
theorem dL_law_85 : decode cL_law 85 = .ok (.aload_n 1, 1) := by decide +kernel
theorem dL_law_86 : decode cL_law 86 = .ok (.aload_n 2, 1) := by decide +kernel
theorem dL_law_87 : decode cL_law 87 = .ok (.aload_n 3, 1) := by decide +kernel
theorem dL_law_88 : decode cL_law 88 = .ok (.iload 6, 2) := by decide +kernel
theorem dL_law_90 : decode cL_law 90 = .ok (.iconst 5, 1) := by decide +kernel
theorem dL_law_91 : decode cL_law 91 = .ok (.ishr, 1) := by decide +kernel
theorem dL_law_92 : decode cL_law 92 = .ok (.iload 7, 2) := by decide +kernel
theorem dL_law_94 : decode cL_law 94 = .ok (.invokestatic 147, 3) := by decide +kernel
theorem dL_law_97 : decode cL_law 97 = .ok (.goto 77, 3) := by decide +kernel
theorem dL_law_100 : decode cL_law 100 = .ok (.iload 8, 2) := by decide +kernel
theorem dL_law_102 : decode cL_law 102 = .ok (.bipush 7, 2) := by decide +kernel
theorem dL_law_104 : decode cL_law 104 = .ok (.if_icmp .ge 18, 3) := by decide +kernel
theorem dL_law_107 : decode cL_law 107 = .ok (.aload_n 1, 1) := by decide +kernel
theorem dL_law_108 : decode cL_law 108 = .ok (.aload_n 2, 1) := by decide +kernel
theorem dL_law_109 : decode cL_law 109 = .ok (.aload_n 3, 1) := by decide +kernel
theorem dL_law_110 : decode cL_law 110 = .ok (.iload 6, 2) := by decide +kernel
theorem dL_law_112 : decode cL_law 112 = .ok (.iconst 5, 1) := by decide +kernel
theorem dL_law_113 : decode cL_law 113 = .ok (.ishr, 1) := by decide +kernel
theorem dL_law_114 : decode cL_law 114 = .ok (.iload 7, 2) := by decide +kernel
theorem dL_law_116 : decode cL_law 116 = .ok (.invokestatic 151, 3) := by decide +kernel
theorem dL_law_119 : decode cL_law 119 = .ok (.goto 55, 3) := by decide +kernel
theorem dL_law_122 : decode cL_law 122 = .ok (.iload 8, 2) := by decide +kernel
theorem dL_law_124 : decode cL_law 124 = .ok (.bipush 13, 2) := by decide +kernel
theorem dL_law_126 : decode cL_law 126 = .ok (.if_icmp .ge 18, 3) := by decide +kernel
theorem dL_law_129 : decode cL_law 129 = .ok (.aload_n 1, 1) := by decide +kernel
theorem dL_law_130 : decode cL_law 130 = .ok (.aload_n 2, 1) := by decide +kernel
theorem dL_law_131 : decode cL_law 131 = .ok (.aload_n 3, 1) := by decide +kernel
theorem dL_law_132 : decode cL_law 132 = .ok (.iload 6, 2) := by decide +kernel
theorem dL_law_134 : decode cL_law 134 = .ok (.iconst 5, 1) := by decide +kernel
theorem dL_law_135 : decode cL_law 135 = .ok (.ishr, 1) := by decide +kernel
theorem dL_law_136 : decode cL_law 136 = .ok (.iload 7, 2) := by decide +kernel
theorem dL_law_138 : decode cL_law 138 = .ok (.invokestatic 154, 3) := by decide +kernel
theorem dL_law_141 : decode cL_law 141 = .ok (.goto 33, 3) := by decide +kernel
theorem dL_law_144 : decode cL_law 144 = .ok (.iload 8, 2) := by decide +kernel
theorem dL_law_146 : decode cL_law 146 = .ok (.bipush 20, 2) := by decide +kernel
theorem dL_law_148 : decode cL_law 148 = .ok (.if_icmp .ge 18, 3) := by decide +kernel
theorem dL_law_151 : decode cL_law 151 = .ok (.aload_n 1, 1) := by decide +kernel
theorem dL_law_152 : decode cL_law 152 = .ok (.aload_n 2, 1) := by decide +kernel
theorem dL_law_153 : decode cL_law 153 = .ok (.aload_n 3, 1) := by decide +kernel
theorem dL_law_154 : decode cL_law 154 = .ok (.iload 6, 2) := by decide +kernel
theorem dL_law_156 : decode cL_law 156 = .ok (.iconst 5, 1) := by decide +kernel
theorem dL_law_157 : decode cL_law 157 = .ok (.ishr, 1) := by decide +kernel
theorem dL_law_158 : decode cL_law 158 = .ok (.iload 7, 2) := by decide +kernel
theorem dL_law_160 : decode cL_law 160 = .ok (.invokestatic 157, 3) := by decide +kernel
theorem dL_law_163 : decode cL_law 163 = .ok (.goto 11, 3) := by decide +kernel
theorem dL_law_166 : decode cL_law 166 = .ok (.aload_n 1, 1) := by decide +kernel
theorem dL_law_167 : decode cL_law 167 = .ok (.aload_n 2, 1) := by decide +kernel
theorem dL_law_168 : decode cL_law 168 = .ok (.aload_n 3, 1) := by decide +kernel
theorem dL_law_169 : decode cL_law 169 = .ok (.iload 7, 2) := by decide +kernel
theorem dL_law_171 : decode cL_law 171 = .ok (.invokestatic 160, 3) := by decide +kernel
theorem dL_law_174 : decode cL_law 174 = .ok (.istore 4, 2) := by decide +kernel
theorem dL_law_176 : decode cL_law 176 = .ok (.iload 4, 2) := by decide +kernel
theorem dL_law_178 : decode cL_law 178 = .ok (.ifCond .eq 45, 3) := by decide +kernel
theorem dL_law_181 : decode cL_law 181 = .ok (.iload 5, 2) := by decide +kernel
theorem dL_law_183 : decode cL_law 183 = .ok (.bipush 12, 2) := by decide +kernel
theorem dL_law_185 : decode cL_law 185 = .ok (.irem, 1) := by decide +kernel
theorem dL_law_186 : decode cL_law 186 = .ok (.ifCond .gt 17, 3) := by decide +kernel
theorem dL_law_189 : decode cL_law 189 = .ok (.aload_n 1, 1) := by decide +kernel
theorem dL_law_190 : decode cL_law 190 = .ok (.aload_n 3, 1) := by decide +kernel
theorem dL_law_191 : decode cL_law 191 = .ok (.invokestatic 134, 3) := by decide +kernel
theorem dL_law_194 : decode cL_law 194 = .ok (.aload_n 2, 1) := by decide +kernel
theorem dL_law_195 : decode cL_law 195 = .ok (.aload_n 3, 1) := by decide +kernel
theorem dL_law_196 : decode cL_law 196 = .ok (.invokestatic 134, 3) := by decide +kernel
theorem dL_law_199 : decode cL_law 199 = .ok (.lcmp, 1) := by decide +kernel
theorem dL_law_200 : decode cL_law 200 = .ok (.ifCond .ne 23, 3) := by decide +kernel
theorem dL_law_203 : decode cL_law 203 = .ok (.iload 5, 2) := by decide +kernel
theorem dL_law_205 : decode cL_law 205 = .ok (.bipush 60, 2) := by decide +kernel
theorem dL_law_207 : decode cL_law 207 = .ok (.irem, 1) := by decide +kernel
theorem dL_law_208 : decode cL_law 208 = .ok (.ifCond .gt 11, 3) := by decide +kernel
theorem dL_law_211 : decode cL_law 211 = .ok (.aload_n 1, 1) := by decide +kernel
theorem dL_law_212 : decode cL_law 212 = .ok (.aload_n 3, 1) := by decide +kernel
theorem dL_law_213 : decode cL_law 213 = .ok (.invokestatic 139, 3) := by decide +kernel
theorem dL_law_216 : decode cL_law 216 = .ok (.ifCond .eq 7, 3) := by decide +kernel
theorem dL_law_219 : decode cL_law 219 = .ok (.iconst 1, 1) := by decide +kernel
theorem dL_law_220 : decode cL_law 220 = .ok (.goto 4, 3) := by decide +kernel
theorem dL_law_223 : decode cL_law 223 = .ok (.iconst 0, 1) := by decide +kernel
