theorem dL_files_78 : decode cL_files 78 = .ok (.iconst 3, 1) := by decide +kernel
theorem dL_files_79 : decode cL_files 79 = .ok (.if_icmp .ge 109, 3) := by decide +kernel
theorem dL_files_82 : decode cL_files 82 = .ok (.aload_n 0, 1) := by decide +kernel
theorem dL_files_83 : decode cL_files 83 = .ok (.aload_n 1, 1) := by decide +kernel
theorem dL_files_84 : decode cL_files 84 = .ok (.bipush 11, 2) := by decide +kernel
theorem dL_files_86 : decode cL_files 86 = .ok (.iload 5, 2) := by decide +kernel
theorem dL_files_88 : decode cL_files 88 = .ok (.iconst 0, 1) := by decide +kernel
theorem dL_files_89 : decode cL_files 89 = .ok (.iconst 0, 1) := by decide +kernel
theorem dL_files_90 : decode cL_files 90 = .ok (.invokestatic 126, 3) := by decide +kernel
theorem dL_files_93 : decode cL_files 93 = .ok (.istore 9, 2) := by decide +kernel
theorem dL_files_95 : decode cL_files 95 = .ok (.iload 9, 2) := by decide +kernel
theorem dL_files_97 : decode cL_files 97 = .ok (.ldc 23, 2) := by decide +kernel
theorem dL_files_99 : decode cL_files 99 = .ok (.if_icmp .ne 23, 3) := by decide +kernel
theorem dL_files_102 : decode cL_files 102 = .ok (.aload_n 0, 1) := by decide +kernel
theorem dL_files_103 : decode cL_files 103 = .ok (.iload 5, 2) := by decide +kernel
theorem dL_files_105 : decode cL_files 105 = .ok (.iconst 4, 1) := by decide +kernel
theorem dL_files_106 : decode cL_files 106 = .ok (.invokevirtual 84, 3) := by decide +kernel
theorem dL_files_109 : decode cL_files 109 = .ok (.iload 8, 2) := by decide +kernel
theorem dL_files_111 : decode cL_files 111 = .ok (.if_icmp .ne 7, 3) := by decide +kernel
theorem dL_files_114 : decode cL_files 114 = .ok (.iconst 1, 1) := by decide +kernel
theorem dL_files_115 : decode cL_files 115 = .ok (.goto 72, 3) := by decide +kernel
theorem dL_files_118 : decode cL_files 118 = .ok (.iconst 0, 1) := by decide +kernel
theorem dL_files_119 : decode cL_files 119 = .ok (.goto 68, 3) := by decide +kernel
theorem dL_files_122 : decode cL_files 122 = .ok (.iload 7, 2) := by decide +kernel
theorem dL_files_124 : decode cL_files 124 = .ok (.ifCond .ne 62, 3) := by decide +kernel
theorem dL_files_127 : decode cL_files 127 = .ok (.iload 8, 2) := by decide +kernel
theorem dL_files_129 : decode cL_files 129 = .ok (.ifCond .ne 57, 3) := by decide +kernel
theorem dL_files_132 : decode cL_files 132 = .ok (.iload 9, 2) := by decide +kernel
theorem dL_files_134 : decode cL_files 134 = .ok (.ifCond .lt 52, 3) := by decide +kernel
theorem dL_files_137 : decode cL_files 137 = .ok (.iload 9, 2) := by decide +kernel
theorem dL_files_139 : decode cL_files 139 = .ok (.aload_n 2, 1) := by decide +kernel
theorem dL_files_140 : decode cL_files 140 = .ok (.iconst 0, 1) := by decide +kernel
theorem dL_files_141 : decode cL_files 141 = .ok (.iaload, 1) := by decide +kernel
theorem dL_files_142 : decode cL_files 142 = .ok (.if_icmp .ge 44, 3) := by decide +kernel
theorem dL_files_145 : decode cL_files 145 = .ok (.aload_n 0, 1) := by decide +kernel
theorem dL_files_146 : decode cL_files 146 = .ok (.iload 5, 2) := by decide +kernel
theorem dL_files_148 : decode cL_files 148 = .ok (.iconst 4, 1) := by decide +kernel
theorem dL_files_149 : decode cL_files 149 = .ok (.invokevirtual 84, 3) := by decide +kernel
theorem dL_files_152 : decode cL_files 152 = .ok (.iconst 1, 1) := by decide +kernel
theorem dL_files_153 : decode cL_files 153 = .ok (.if_icmp .ne 33, 3) := by decide +kernel
theorem dL_files_156 : decode cL_files 156 = .ok (.aload_n 0, 1) := by decide +kernel
theorem dL_files_157 : decode cL_files 157 = .ok (.iload 5, 2) := by decide +kernel
theorem dL_files_159 : decode cL_files 159 = .ok (.invokevirtual 87, 3) := by decide +kernel
theorem dL_files_162 : decode cL_files 162 = .ok (.iload 9, 2) := by decide +kernel
theorem dL_files_164 : decode cL_files 164 = .ok (.if_icmp .ne 22, 3) := by decide +kernel
theorem dL_files_167 : decode cL_files 167 = .ok (.aload_n 0, 1) := by decide +kernel
theorem dL_files_168 : decode cL_files 168 = .ok (.bipush 13, 2) := by decide +kernel
theorem dL_files_170 : decode cL_files 170 = .ok (.iload 5, 2) := by decide +kernel
theorem dL_files_172 : decode cL_files 172 = .ok (.iconst 0, 1) := by decide +kernel
theorem dL_files_173 : decode cL_files 173 = .ok (.iconst 0, 1) := by decide +kernel
theorem dL_files_174 : decode cL_files 174 = .ok (.invokestatic 102, 3) := by decide +kernel
theorem dL_files_177 : decode cL_files 177 = .ok (.ldc 23, 2) := by decide +kernel
theorem dL_files_179 : decode cL_files 179 = .ok (.if_icmp .ne 7, 3) := by decide +kernel
theorem dL_files_182 : decode cL_files 182 = .ok (.iconst 1, 1) := by decide +kernel
theorem dL_files_183 : decode cL_files 183 = .ok (.goto 4, 3) := by decide +kernel
theorem dL_files_186 : decode cL_files 186 = .ok (.iconst 0, 1) := by decide +kernel
theorem dL_files_187 : decode cL_files 187 = .ok (.ireturn, 1) := by decide +kernel
theorem dL_files_188 : decode cL_files 188 = .ok (.iload 6, 2) := by decide +kernel
theorem dL_files_190 : decode cL_files 190 = .ok (.bipush 6, 2) := by decide +kernel
theorem dL_files_192 : decode cL_files 192 = .ok (.if_icmp .ge 81, 3) := by decide +kernel
theorem dL_files_195 : decode cL_files 195 = .ok (.aload_n 0, 1) := by decide +kernel
theorem dL_files_196 : decode cL_files 196 = .ok (.aload_n 1, 1) := by decide +kernel
theorem dL_files_197 : decode cL_files 197 = .ok (.bipush 12, 2) := by decide +kernel
theorem dL_files_199 : decode cL_files 199 = .ok (.iload 5, 2) := by decide +kernel
theorem dL_files_201 : decode cL_files 201 = .ok (.iconst 0, 1) := by decide +kernel
theorem dL_files_202 : decode cL_files 202 = .ok (.iconst 0, 1) := by decide +kernel
theorem dL_files_203 : decode cL_files 203 = .ok (.invokestatic 126, 3) := by decide +kernel
theorem dL_files_206 : decode cL_files 206 = .ok (.istore 9, 2) := by decide +kernel
theorem dL_files_208 : decode cL_files 208 = .ok (.iload 9, 2) := by decide +kernel
theorem dL_files_210 : decode cL_files 210 = .ok (.ldc 23, 2) := by decide +kernel
theorem dL_files_212 : decode cL_files 212 = .ok (.if_icmp .ne 16, 3) := by decide +kernel
theorem dL_files_215 : decode cL_files 215 = .ok (.iload 8, 2) := by decide +kernel
theorem dL_files_217 : decode cL_files 217 = .ok (.ifCond .ne 7, 3) := by decide +kernel
theorem dL_files_220 : decode cL_files 220 = .ok (.iconst 1, 1) := by decide +kernel
theorem dL_files_221 : decode cL_files 221 = .ok (.goto 51, 3) := by decide +kernel
theorem dL_files_224 : decode cL_files 224 = .ok (.iconst 0, 1) := by decide +kernel
theorem dL_files_225 : decode cL_files 225 = .ok (.goto 47, 3) := by decide +kernel
theorem dL_files_228 : decode cL_files 228 = .ok (.iload 8, 2) := by decide +kernel
theorem dL_files_230 : decode cL_files 230 = .ok (.iconst 1, 1) := by decide +kernel
theorem dL_files_231 : decode cL_files 231 = .ok (.if_icmp .ne 40, 3) := by decide +kernel
theorem dL_files_234 : decode cL_files 234 = .ok (.iload 9, 2) := by decide +kernel
theorem dL_files_236 : decode cL_files 236 = .ok (.ifCond .lt 35, 3) := by decide +kernel
theorem dL_files_239 : decode cL_files 239 = .ok (.iload 9, 2) := by decide +kernel
theorem dL_files_241 : decode cL_files 241 = .ok (.aload_n 2, 1) := by decide +kernel
theorem dL_files_242 : decode cL_files 242 = .ok (.iconst 3, 1) := by decide +kernel
theorem dL_files_243 : decode cL_files 243 = .ok (.iaload, 1) := by decide +kernel
theorem dL_files_244 : decode cL_files 244 = .ok (.if_icmp .gt 27, 3) := by decide +kernel
theorem dL_files_247 : decode cL_files 247 = .ok (.aload_n 0, 1) := by decide +kernel
theorem dL_files_248 : decode cL_files 248 = .ok (.iload 5, 2) := by decide +kernel
theorem dL_files_250 : decode cL_files 250 = .ok (.iconst 4, 1) := by decide +kernel
theorem dL_files_251 : decode cL_files 251 = .ok (.invokevirtual 84, 3) := by decide +kernel
theorem dL_files_254 : decode cL_files 254 = .ok (.ifCond .ne 17, 3) := by decide +kernel
theorem dL_files_257 : decode cL_files 257 = .ok (.aload_n 0, 1) := by decide +kernel
theorem dL_files_258 : decode cL_files 258 = .ok (.iload 5, 2) := by decide +kernel
theorem dL_files_260 : decode cL_files 260 = .ok (.invokevirtual 87, 3) := by decide +kernel
theorem dL_files_263 : decode cL_files 263 = .ok (.iconst (-1), 1) := by decide +kernel
theorem dL_files_264 : decode cL_files 264 = .ok (.if_icmp .ne 7, 3) := by decide +kernel
theorem dL_files_267 : decode cL_files 267 = .ok (.iconst 1, 1) := by decide +kernel
theorem dL_files_268 : decode cL_files 268 = .ok (.goto 4, 3) := by decide +kernel
theorem dL_files_271 : decode cL_files 271 = .ok (.iconst 0, 1) := by decide +kernel
theorem dL_files_272 : decode cL_files 272 = .ok (.ireturn, 1) := by decide +kernel
theorem dL_files_273 : decode cL_files 273 = .ok (.iload 6, 2) := by decide +kernel
theorem dL_files_275 : decode cL_files 275 = .ok (.bipush 8, 2) := by decide +kernel
theorem dL_files_277 : decode cL_files 277 = .ok (.if_icmp .ge 74, 3) := by decide +kernel
theorem dL_files_280 : decode cL_files 280 = .ok (.aload_n 0, 1) := by decide +kernel
theorem dL_files_281 : decode cL_files 281 = .ok (.aload_n 1, 1) := by decide +kernel
theorem dL_files_282 : decode cL_files 282 = .ok (.bipush 13, 2) := by decide +kernel
theorem dL_files_284 : decode cL_files 284 = .ok (.iload 5, 2) := by decide +kernel
theorem dL_files_286 : decode cL_files 286 = .ok (.iconst 0, 1) := by decide +kernel
theorem dL_files_287 : decode cL_files 287 = .ok (.iconst 0, 1) := by decide +kernel
theorem dL_files_288 : decode cL_files 288 = .ok (.invokestatic 126, 3) := by decide +kernel
theorem dL_files_291 : decode cL_files 291 = .ok (.istore 9, 2) := by decide +kernel
theorem dL_files_293 : decode cL_files 293 = .ok (.iload 9, 2) := by decide +kernel
theorem dL_files_295 : decode cL_files 295 = .ok (.ldc 23, 2) := by decide +kernel
theorem dL_files_297 : decode cL_files 297 = .ok (.if_icmp .eq 48, 3) := by decide +kernel
theorem dL_files_300 : decode cL_files 300 = .ok (.iload 9, 2) := by decide +kernel
theorem dL_files_302 : decode cL_files 302 = .ok (.ifCond .ne 47, 3) := by decide +kernel
theorem dL_files_305 : decode cL_files 305 = .ok (.iload 7, 2) := by decide +kernel
theorem dL_files_307 : decode cL_files 307 = .ok (.ifCond .ne 42, 3) := by decide +kernel
theorem dL_files_310 : decode cL_files 310 = .ok (.iload 8, 2) := by decide +kernel
theorem dL_files_312 : decode cL_files 312 = .ok (.ifCond .ne 37, 3) := by decide +kernel
theorem dL_files_315 : decode cL_files 315 = .ok (.aload_n 0, 1) := by decide +kernel
theorem dL_files_316 : decode cL_files 316 = .ok (.bipush 13, 2) := by decide +kernel
theorem dL_files_318 : decode cL_files 318 = .ok (.iload 5, 2) := by decide +kernel
theorem dL_files_320 : decode cL_files 320 = .ok (.iconst 0, 1) := by decide +kernel
theorem dL_files_321 : decode cL_files 321 = .ok (.iconst 0, 1) := by decide +kernel
theorem dL_files_322 : decode cL_files 322 = .ok (.invokestatic 102, 3) := by decide +kernel
theorem dL_files_325 : decode cL_files 325 = .ok (.ldc 23, 2) := by decide +kernel
theorem dL_files_327 : decode cL_files 327 = .ok (.if_icmp .ne 22, 3) := by decide +kernel
theorem dL_files_330 : decode cL_files 330 = .ok (.aload_n 0, 1) := by decide +kernel
theorem dL_files_331 : decode cL_files 331 = .ok (.bipush 11, 2) := by decide +kernel
theorem dL_files_333 : decode cL_files 333 = .ok (.iload 5, 2) := by decide +kernel
theorem dL_files_335 : decode cL_files 335 = .ok (.iconst 0, 1) := by decide +kernel
theorem dL_files_336 : decode cL_files 336 = .ok (.iconst 0, 1) := by decide +kernel
theorem dL_files_337 : decode cL_files 337 = .ok (.invokestatic 102, 3) := by decide +kernel
theorem dL_files_340 : decode cL_files 340 = .ok (.ldc 23, 2) := by decide +kernel
theorem dL_files_342 : decode cL_files 342 = .ok (.if_icmp .ne 7, 3) := by decide +kernel
theorem dL_files_345 : decode cL_files 345 = .ok (.iconst 1, 1) := by decide +kernel
theorem dL_files_346 : decode cL_files 346 = .ok (.goto 4, 3) := by decide +kernel
theorem dL_files_349 : decode cL_files 349 = .ok (.iconst 0, 1) := by decide +kernel
theorem dL_files_350 : decode cL_files 350 = .ok (.ireturn, 1) := by decide +kernel
theorem dL_files_351 : decode cL_files 351 = .ok (.iload 6, 2) := by decide +kernel
theorem dL_files_353 : decode cL_files 353 = .ok (.bipush 9, 2) := by decide +kernel
theorem dL_files_355 : decode cL_files 355 = .ok (.if_icmp .ge 108, 3) := by decide +kernel
theorem dL_files_358 : decode cL_files 358 = .ok (.aload_n 0, 1) := by decide +kernel
theorem dL_files_359 : decode cL_files 359 = .ok (.aload_n 1, 1) := by decide +kernel
theorem dL_files_360 : decode cL_files 360 = .ok (.bipush 14, 2) := by decide +kernel
theorem dL_files_362 : decode cL_files 362 = .ok (.iload 5, 2) := by decide +kernel
theorem dL_files_364 : decode cL_files 364 = .ok (.iconst 0, 1) := by decide +kernel
theorem dL_files_365 : decode cL_files 365 = .ok (.iconst 0, 1) := by decide +kernel
theorem dL_files_366 : decode cL_files 366 = .ok (.invokestatic 126, 3) := by decide +kernel
theorem dL_files_369 : decode cL_files 369 = .ok (.istore 9, 2) := by decide +kernel
theorem dL_files_371 : decode cL_files 371 = .ok (.iload 9, 2) := by decide +kernel
theorem dL_files_373 : decode cL_files 373 = .ok (.ldc 23, 2) := by decide +kernel
theorem dL_files_375 : decode cL_files 375 = .ok (.if_icmp .ne 23, 3) := by decide +kernel
theorem dL_files_378 : decode cL_files 378 = .ok (.aload_n 0, 1) := by decide +kernel
theorem dL_files_379 : decode cL_files 379 = .ok (.iload 5, 2) := by decide +kernel
theorem dL_files_381 : decode cL_files 381 = .ok (.iconst 0, 1) := by decide +kernel
theorem dL_files_382 : decode cL_files 382 = .ok (.invokevirtual 84, 3) := by decide +kernel
theorem dL_files_385 : decode cL_files 385 = .ok (.iload 7, 2) := by decide +kernel
theorem dL_files_387 : decode cL_files 387 = .ok (.if_icmp .ne 7, 3) := by decide +kernel
theorem dL_files_390 : decode cL_files 390 = .ok (.iconst 1, 1) := by decide +kernel
theorem dL_files_391 : decode cL_files 391 = .ok (.goto 71, 3) := by decide +kernel
theorem dL_files_394 : decode cL_files 394 = .ok (.iconst 0, 1) := by decide +kernel
theorem dL_files_395 : decode cL_files 395 = .ok (.goto 67, 3) := by decide +kernel
theorem dL_files_398 : decode cL_files 398 = .ok (.iload 7, 2) := by decide +kernel
theorem dL_files_400 : decode cL_files 400 = .ok (.ifCond .ne 61, 3) := by decide +kernel
theorem dL_files_403 : decode cL_files 403 = .ok (.iload 9, 2) := by decide +kernel
theorem dL_files_405 : decode cL_files 405 = .ok (.aload_n 0, 1) := by decide +kernel
theorem dL_files_406 : decode cL_files 406 = .ok (.aload_n 0, 1) := by decide +kernel
theorem dL_files_407 : decode cL_files 407 = .ok (.iload 5, 2) := by decide +kernel
theorem dL_files_409 : decode cL_files 409 = .ok (.iconst 1, 1) := by decide +kernel
theorem dL_files_410 : decode cL_files 410 = .ok (.invokevirtual 84, 3) := by decide +kernel
theorem dL_files_413 : decode cL_files 413 = .ok (.invokevirtual 90, 3) := by decide +kernel
theorem dL_files_416 : decode cL_files 416 = .ok (.if_icmp .ne 45, 3) := by decide +kernel
theorem dL_files_419 : decode cL_files 419 = .ok (.aload_n 0, 1) := by decide +kernel
theorem dL_files_420 : decode cL_files 420 = .ok (.iload 5, 2) := by decide +kernel
theorem dL_files_422 : decode cL_files 422 = .ok (.iconst 0, 1) := by decide +kernel
theorem dL_files_423 : decode cL_files 423 = .ok (.invokevirtual 84, 3) := by decide +kernel
theorem dL_files_426 : decode cL_files 426 = .ok (.iconst 1, 1) := by decide +kernel
theorem dL_files_427 : decode cL_files 427 = .ok (.if_icmp .ne 34, 3) := by decide +kernel
theorem dL_files_430 : decode cL_files 430 = .ok (.aload_n 0, 1) := by decide +kernel
theorem dL_files_431 : decode cL_files 431 = .ok (.iload 5, 2) := by decide +kernel
theorem dL_files_433 : decode cL_files 433 = .ok (.iconst 5, 1) := by decide +kernel
theorem dL_files_434 : decode cL_files 434 = .ok (.invokevirtual 84, 3) := by decide +kernel
theorem dL_files_437 : decode cL_files 437 = .ok (.iload 9, 2) := by decide +kernel
theorem dL_files_439 : decode cL_files 439 = .ok (.if_icmp .ne 22, 3) := by decide +kernel
theorem dL_files_442 : decode cL_files 442 = .ok (.aload_n 0, 1) := by decide +kernel
theorem dL_files_443 : decode cL_files 443 = .ok (.bipush 14, 2) := by decide +kernel
theorem dL_files_445 : decode cL_files 445 = .ok (.iload 5, 2) := by decide +kernel
theorem dL_files_447 : decode cL_files 447 = .ok (.iconst 0, 1) := by decide +kernel
theorem dL_files_448 : decode cL_files 448 = .ok (.iconst 0, 1) := by decide +kernel
theorem dL_files_449 : decode cL_files 449 = .ok (.invokestatic 102, 3) := by decide +kernel
theorem dL_files_452 : decode cL_files 452 = .ok (.ldc 23, 2) := by decide +kernel
theorem dL_files_454 : decode cL_files 454 = .ok (.if_icmp .ne 7, 3) := by decide +kernel
theorem dL_files_457 : decode cL_files 457 = .ok (.iconst 1, 1) := by decide +kernel
theorem dL_files_458 : decode cL_files 458 = .ok (.goto 4, 3) := by decide +kernel
theorem dL_files_461 : decode cL_files 461 = .ok (.iconst 0, 1) := by decide +kernel
theorem dL_files_462 : decode cL_files 462 = .ok (.ireturn, 1) := by decide +kernel
theorem dL_files_463 : decode cL_files 463 = .ok (.iload 4, 2) := by decide +kernel
theorem dL_files_465 : decode cL_files 465 = .ok (.iconst 5, 1) := by decide +kernel
theorem dL_files_466 : decode cL_files 466 = .ok (.ishr, 1) := by decide +kernel
theorem dL_files_467 : decode cL_files 467 = .ok (.bipush 101, 2) := by decide +kernel
theorem dL_files_469 : decode cL_files 469 = .ok (.invokestatic 123, 3) := by decide +kernel
theorem dL_files_472 : decode cL_files 472 = .ok (.istore 9, 2) := by decide +kernel
theorem dL_files_474 : decode cL_files 474 = .ok (.aload_n 0, 1) := by decide +kernel
theorem dL_files_475 : decode cL_files 475 = .ok (.aload_n 1, 1) := by decide +kernel
theorem dL_files_476 : decode cL_files 476 = .ok (.bipush 15, 2) := by decide +kernel
theorem dL_files_478 : decode cL_files 478 = .ok (.iload 5, 2) := by decide +kernel
theorem dL_files_480 : decode cL_files 480 = .ok (.iload 9, 2) := by decide +kernel
theorem dL_files_482 : decode cL_files 482 = .ok (.iconst 0, 1) := by decide +kernel
theorem dL_files_483 : decode cL_files 483 = .ok (.invokestatic 126, 3) := by decide +kernel
theorem dL_files_486 : decode cL_files 486 = .ok (.istore 10, 2) := by decide +kernel
theorem dL_files_488 : decode cL_files 488 = .ok (.aload_n 0, 1) := by decide +kernel
theorem dL_files_489 : decode cL_files 489 = .ok (.iload 5, 2) := by decide +kernel
theorem dL_files_491 : decode cL_files 491 = .ok (.iconst 1, 1) := by decide +kernel
theorem dL_files_492 : decode cL_files 492 = .ok (.invokevirtual 84, 3) := by decide +kernel
theorem dL_files_495 : decode cL_files 495 = .ok (.istore 11, 2) := by decide +kernel
theorem dL_files_497 : decode cL_files 497 = .ok (.aload_n 0, 1) := by decide +kernel
theorem dL_files_498 : decode cL_files 498 = .ok (.iload 11, 2) := by decide +kernel
theorem dL_files_500 : decode cL_files 500 = .ok (.invokevirtual 96, 3) := by decide +kernel
theorem dL_files_503 : decode cL_files 503 = .ok (.istore 12, 2) := by decide +kernel
theorem dL_files_505 : decode cL_files 505 = .ok (.iload 10, 2) := by decide +kernel
theorem dL_files_507 : decode cL_files 507 = .ok (.ldc 23, 2) := by decide +kernel
theorem dL_files_509 : decode cL_files 509 = .ok (.if_icmp .ne 27, 3) := by decide +kernel
theorem dL_files_512 : decode cL_files 512 = .ok (.iload 7, 2) := by decide +kernel
theorem dL_files_514 : decode cL_files 514 = .ok (.iconst 1, 1) := by decide +kernel
theorem dL_files_515 : decode cL_files 515 = .ok (.if_icmp .ne 13, 3) := by decide +kernel
theorem dL_files_518 : decode cL_files 518 = .ok (.aload_n 0, 1) := by decide +kernel
theorem dL_files_519 : decode cL_files 519 = .ok (.iload 5, 2) := by decide +kernel
theorem dL_files_521 : decode cL_files 521 = .ok (.iconst 5, 1) := by decide +kernel
theorem dL_files_522 : decode cL_files 522 = .ok (.invokevirtual 84, 3) := by decide +kernel
theorem dL_files_525 : decode cL_files 525 = .ok (.ifCond .ne 7, 3) := by decide +kernel
theorem dL_files_528 : decode cL_files 528 = .ok (.iconst 1, 1) := by decide +kernel
theorem dL_files_529 : decode cL_files 529 = .ok (.goto 62, 3) := by decide +kernel
theorem dL_files_532 : decode cL_files 532 = .ok (.iconst 0, 1) := by decide +kernel
theorem dL_files_533 : decode cL_files 533 = .ok (.goto 58, 3) := by decide +kernel
theorem dL_files_536 : decode cL_files 536 = .ok (.iload 7, 2) := by decide +kernel
theorem dL_files_538 : decode cL_files 538 = .ok (.iconst 1, 1) := by decide +kernel
theorem dL_files_539 : decode cL_files 539 = .ok (.if_icmp .ne 51, 3) := by decide +kernel
theorem dL_files_542 : decode cL_files 542 = .ok (.aload_n 0, 1) := by decide +kernel
theorem dL_files_543 : decode cL_files 543 = .ok (.iload 5, 2) := by decide +kernel
theorem dL_files_545 : decode cL_files 545 = .ok (.iconst 5, 1) := by decide +kernel
theorem dL_files_546 : decode cL_files 546 = .ok (.invokevirtual 84, 3) := by decide +kernel
theorem dL_files_549 : decode cL_files 549 = .ok (.ifCond .le 41, 3) := by decide +kernel
theorem dL_files_552 : decode cL_files 552 = .ok (.iload 10, 2) := by decide +kernel
theorem dL_files_554 : decode cL_files 554 = .ok (.iconst 1, 1) := by decide +kernel
theorem dL_files_555 : decode cL_files 555 = .ok (.if_icmp .lt 35, 3) := by decide +kernel
theorem dL_files_558 : decode cL_files 558 = .ok (.iload 10, 2) := by decide +kernel
theorem dL_files_560 : decode cL_files 560 = .ok (.iconst 1, 1) := by decide +kernel
theorem dL_files_561 : decode cL_files 561 = .ok (.aload_n 0, 1) := by decide +kernel
theorem dL_files_562 : decode cL_files 562 = .ok (.iload 11, 2) := by decide +kernel
theorem dL_files_564 : decode cL_files 564 = .ok (.invokevirtual 93, 3) := by decide +kernel
theorem dL_files_567 : decode cL_files 567 = .ok (.iadd, 1) := by decide +kernel
theorem dL_files_568 : decode cL_files 568 = .ok (.if_icmp .gt 22, 3) := by decide +kernel
theorem dL_files_571 : decode cL_files 571 = .ok (.iload 12, 2) := by decide +kernel
theorem dL_files_573 : decode cL_files 573 = .ok (.ifCond .lt 17, 3) := by decide +kernel
theorem dL_files_576 : decode cL_files 576 = .ok (.iload 12, 2) := by decide +kernel
theorem dL_files_578 : decode cL_files 578 = .ok (.bipush 10, 2) := by decide +kernel
theorem dL_files_580 : decode cL_files 580 = .ok (.iload 9, 2) := by decide +kernel
