theorem dL_acts_289 : decode cL_acts 289 = .ok (.iload 7, 2) := by decide +kernel
theorem dL_acts_291 : decode cL_acts 291 = .ok (.iconst 0, 1) := by decide +kernel
theorem dL_acts_292 : decode cL_acts 292 = .ok (.invokestatic 126, 3) := by decide +kernel
theorem dL_acts_295 : decode cL_acts 295 = .ok (.istore 8, 2) := by decide +kernel
theorem dL_acts_297 : decode cL_acts 297 = .ok (.iload 8, 2) := by decide +kernel
theorem dL_acts_299 : decode cL_acts 299 = .ok (.ifCond .eq 9, 3) := by decide +kernel
theorem dL_acts_302 : decode cL_acts 302 = .ok (.iload 8, 2) := by decide +kernel
theorem dL_acts_304 : decode cL_acts 304 = .ok (.iconst 1, 1) := by decide +kernel
theorem dL_acts_305 : decode cL_acts 305 = .ok (.if_icmp .ne 59, 3) := by decide +kernel
theorem dL_acts_308 : decode cL_acts 308 = .ok (.aload_n 0, 1) := by decide +kernel
theorem dL_acts_309 : decode cL_acts 309 = .ok (.aload_n 1, 1) := by decide +kernel
theorem dL_acts_310 : decode cL_acts 310 = .ok (.iload 5, 2) := by decide +kernel
theorem dL_acts_312 : decode cL_acts 312 = .ok (.bipush 6, 2) := by decide +kernel
theorem dL_acts_314 : decode cL_acts 314 = .ok (.if_icmp .ge 8, 3) := by decide +kernel
theorem dL_acts_317 : decode cL_acts 317 = .ok (.bipush 6, 2) := by decide +kernel
theorem dL_acts_319 : decode cL_acts 319 = .ok (.goto 5, 3) := by decide +kernel
theorem dL_acts_322 : decode cL_acts 322 = .ok (.bipush 7, 2) := by decide +kernel
theorem dL_acts_324 : decode cL_acts 324 = .ok (.iload 6, 2) := by decide +kernel
theorem dL_acts_326 : decode cL_acts 326 = .ok (.iload 7, 2) := by decide +kernel
theorem dL_acts_328 : decode cL_acts 328 = .ok (.iconst 0, 1) := by decide +kernel
theorem dL_acts_329 : decode cL_acts 329 = .ok (.invokestatic 126, 3) := by decide +kernel
theorem dL_acts_332 : decode cL_acts 332 = .ok (.iload 7, 2) := by decide +kernel
theorem dL_acts_334 : decode cL_acts 334 = .ok (.if_icmp .ne 30, 3) := by decide +kernel
theorem dL_acts_337 : decode cL_acts 337 = .ok (.iload 5, 2) := by decide +kernel
theorem dL_acts_339 : decode cL_acts 339 = .ok (.iconst 5, 1) := by decide +kernel
theorem dL_acts_340 : decode cL_acts 340 = .ok (.if_icmp .gt 20, 3) := by decide +kernel
theorem dL_acts_343 : decode cL_acts 343 = .ok (.iload 7, 2) := by decide +kernel
theorem dL_acts_345 : decode cL_acts 345 = .ok (.ifCond .eq 15, 3) := by decide +kernel
theorem dL_acts_348 : decode cL_acts 348 = .ok (.aload_n 0, 1) := by decide +kernel
theorem dL_acts_349 : decode cL_acts 349 = .ok (.bipush 9, 2) := by decide +kernel
theorem dL_acts_351 : decode cL_acts 351 = .ok (.iload 6, 2) := by decide +kernel
theorem dL_acts_353 : decode cL_acts 353 = .ok (.invokevirtual 59, 3) := by decide +kernel
theorem dL_acts_356 : decode cL_acts 356 = .ok (.iconst 1, 1) := by decide +kernel
theorem dL_acts_357 : decode cL_acts 357 = .ok (.if_icmp .ne 7, 3) := by decide +kernel
theorem dL_acts_360 : decode cL_acts 360 = .ok (.iconst 1, 1) := by decide +kernel
theorem dL_acts_361 : decode cL_acts 361 = .ok (.goto 4, 3) := by decide +kernel
theorem dL_acts_364 : decode cL_acts 364 = .ok (.iconst 0, 1) := by decide +kernel
theorem dL_acts_365 : decode cL_acts 365 = .ok (.ireturn, 1) := by decide +kernel
set_option maxRecDepth 20000 in
theorem cggL_pleas_L_call_1 : GoodIn wsL_pleas wsL_call_r1 := goodIn_r _ [7, 8, 9, 1, 10, 2, 11, 12, 5, 13, 14, 15, 16, 17, 18, 19, 20, 21, 22, 23, 24, 25, 26, 27] (by decide +kernel) (by decide +kernel)
set_option maxRecDepth 20000 in
theorem cggL_pleas_L_call_2 : GoodIn wsL_pleas wsL_call_r2 := goodIn_r _ [28, 29, 30, 31, 32, 33, 34, 35, 36, 37, 38, 39, 40, 41, 42, 43, 44, 45, 46, 47, 48, 49, 50, 51] (by decide +kernel) (by decide +kernel)
set_option maxRecDepth 20000 in
theorem cggL_pleas_L_call_3 : GoodIn wsL_pleas wsL_call_r3 := goodIn_r _ [52, 53, 54, 55, 56, 57, 58, 59, 60, 61, 62, 63, 64, 65, 66, 67, 68, 69, 70, 71, 72, 73, 74, 75] (by decide +kernel) (by decide +kernel)
set_option maxRecDepth 20000 in
theorem cggL_pleas_L_call_4 : GoodIn wsL_pleas wsL_call_r4 := goodIn_r _ [76, 77, 78, 79, 80, 81, 82, 83, 84, 85, 86, 87, 88, 89, 90, 91, 92, 93, 94, 95, 96, 97, 98, 99] (by decide +kernel) (by decide +kernel)
set_option maxRecDepth 20000 in
theorem cggL_pleas_L_call_5 : GoodIn wsL_pleas wsL_call_r5 := goodIn_r _ [100, 101, 102, 103, 104, 105, 106, 107, 108, 109, 110, 111, 112, 113, 114, 115, 116, 117, 118, 119, 120, 121, 122, 123] (by decide +kernel) (by decide +kernel)
set_option maxRecDepth 20000 in
theorem cggL_pleas_L_call_6 : GoodIn wsL_pleas wsL_call_r6 := goodIn_r _ [124, 125, 126, 127, 128, 129, 130, 131, 132, 133, 134, 135, 136, 137, 138, 139, 140, 141, 142, 143, 144, 145, 146, 147] (by decide +kernel) (by decide +kernel)
set_option maxRecDepth 20000 in
theorem cggL_pleas_L_call_7 : GoodIn wsL_pleas wsL_call_r7 := goodIn_r _ [148, 149, 150, 151, 152, 153, 154, 155, 156, 157, 158, 159, 160, 161, 162, 163, 164, 165, 166, 167, 168, 169, 170, 171] (by decide +kernel) (by decide +kernel)
set_option maxRecDepth 20000 in
theorem cggL_pleas_L_call_8 : GoodIn wsL_pleas wsL_call_r8 := goodIn_r _ [172, 173, 174, 175, 176, 177, 178, 179, 180, 181, 182, 183, 184, 185, 186, 187, 188, 189, 190, 191, 192, 193, 194, 195] (by decide +kernel) (by decide +kernel)
set_option maxRecDepth 20000 in
theorem cggL_pleas_L_call_9 : GoodIn wsL_pleas wsL_call_r9 := goodIn_r _ [196, 197, 198, 199, 200, 201, 202, 203, 204, 205, 206, 207, 208, 209, 210, 211, 212, 213, 214, 215, 216, 217, 218, 219] (by decide +kernel) (by decide +kernel)
set_option maxRecDepth 20000 in
theorem cggL_pleas_L_call_10 : GoodIn wsL_pleas wsL_call_r10 := goodIn_r _ [220, 221, 222, 223, 224, 225, 226, 227, 228, 229, 230, 231, 232, 233, 234, 235, 236, 237, 238, 239, 240, 241, 242, 243] (by decide +kernel) (by decide +kernel)
set_option maxRecDepth 20000 in
theorem cggL_pleas_L_call_11 : GoodIn wsL_pleas wsL_call_r11 := goodIn_r _ [244, 245, 246, 247, 248, 249, 250, 251, 252, 253, 254, 255, 256, 257, 258, 259, 260, 261, 262, 263, 264, 265, 266, 267] (by decide +kernel) (by decide +kernel)
set_option maxRecDepth 20000 in
theorem cggL_pleas_L_call_12 : GoodIn wsL_pleas wsL_call_r12 := goodIn_r _ [268, 269, 270, 271, 272, 273, 274, 275, 276, 277, 278, 279, 280, 281, 282, 283, 284, 285, 286, 287, 288, 289, 290, 291] (by decide +kernel) (by decide +kernel)
set_option maxRecDepth 20000 in
theorem cggL_pleas_L_call_13 : GoodIn wsL_pleas wsL_call_r13 := goodIn_r _ [292, 293, 294, 295, 296, 297, 298, 299, 300, 301, 302, 303, 304, 305, 306, 307, 308, 309, 310] (by decide +kernel) (by decide +kernel)
set_option maxRecDepth 20000 in
theorem ggL_pleas_L_call : GoodIn wsL_pleas wsL_call := goodIn_ca (goodIn_ca (goodIn_ca (goodIn_hd (goodIn_r _ [6] (by decide +kernel) (by decide +kernel)) (goodIn_app (goodIn_app (goodIn_app (goodIn_app (goodIn_app cggL_pleas_L_call_1 (goodIn_app cggL_pleas_L_call_2 (goodIn_app cggL_pleas_L_call_3 (goodIn_app cggL_pleas_L_call_4 (goodIn_app cggL_pleas_L_call_5 (goodIn_app cggL_pleas_L_call_6 (goodIn_app cggL_pleas_L_call_7 (goodIn_app cggL_pleas_L_call_8 (goodIn_app cggL_pleas_L_call_9 (goodIn_app cggL_pleas_L_call_10 (goodIn_app cggL_pleas_L_call_11 (goodIn_app cggL_pleas_L_call_12 (cggL_pleas_L_call_13))))))))))))) (goodIn_r _ [318, 319, 320, 321, 322, 323, 324, 325, 326, 327, 328] (by decide +kernel) (by decide +kernel))) (goodIn_r _ [329, 330, 331, 332] (by decide +kernel) (by decide +kernel))) (goodIn_r _ [333, 334, 335, 336, 337, 338, 339, 340, 341] (by decide +kernel) (by decide +kernel))) (goodIn_r _ [342, 343, 344, 345, 346, 347, 348, 349] (by decide +kernel) (by decide +kernel)))) (goodIn_sub (fun _ h => List.mem_cons_of_mem _ (List.mem_append_left _ (List.mem_append_left _ (List.mem_append_right _ h)))) (by decide +kernel))) (goodIn_sub (fun _ h => List.mem_cons_of_mem _ (List.mem_append_left _ (List.mem_append_right _ h))) (by decide +kernel))) (goodIn_sub (fun _ h => List.mem_cons_of_mem _ (List.mem_append_right _ h)) (by decide +kernel))
set_option maxRecDepth 20000 in
theorem gL_pleas_L_call : GoodIn wsL_pleas (va_wsS RL 102 yL_call wsL_call) := goodIn_app (goodIn_of _ (by decide +kernel)) ggL_pleas_L_call
set_option maxRecDepth 20000 in
theorem ggL_pleas_L_some : GoodIn wsL_pleas wsL_some := goodIn_r _ [313] (by decide +kernel) (by decide +kernel)
set_option maxRecDepth 20000 in
theorem gL_pleas_L_some : GoodIn wsL_pleas (va_wsS RL 123 yL_some wsL_some) := goodIn_app (goodIn_of _ (by decide +kernel)) ggL_pleas_L_some
set_option maxRecDepth 20000 in
theorem cggL_pleas_L_both_1 : GoodIn wsL_pleas wsL_both_r1 := goodIn_r _ [317, 3, 4, 5, 6, 7, 8, 9, 1, 10, 2, 11, 12, 13, 14, 15, 16, 17, 18, 19, 20, 21, 22, 23] (by decide +kernel) (by decide +kernel)
set_option maxRecDepth 20000 in
theorem cggL_pleas_L_both_2 : GoodIn wsL_pleas wsL_both_r2 := goodIn_r _ [24, 25, 26, 27, 28, 29, 30, 31, 32, 33, 34, 35, 36, 37, 38, 39, 40, 41, 42, 43, 44, 45, 46, 47] (by decide +kernel) (by decide +kernel)
set_option maxRecDepth 20000 in
theorem cggL_pleas_L_both_3 : GoodIn wsL_pleas wsL_both_r3 := goodIn_r _ [48, 49, 50, 51, 52, 53, 54, 55, 56, 57, 58, 59, 60, 61, 62, 63, 64, 65, 66, 67, 68, 69, 70, 71] (by decide +kernel) (by decide +kernel)
set_option maxRecDepth 20000 in
theorem cggL_pleas_L_both_4 : GoodIn wsL_pleas wsL_both_r4 := goodIn_r _ [72, 73, 74, 75, 76, 77, 78, 79, 80, 81, 82, 83, 84, 85, 86, 87, 88, 89, 90, 91, 92, 93, 94, 95] (by decide +kernel) (by decide +kernel)
set_option maxRecDepth 20000 in
theorem cggL_pleas_L_both_5 : GoodIn wsL_pleas wsL_both_r5 := goodIn_r _ [96, 97, 98, 99, 100, 101, 102, 103, 104, 105, 106, 107, 108, 109, 110, 111, 112, 113, 114, 115, 116, 117, 118, 119] (by decide +kernel) (by decide +kernel)
set_option maxRecDepth 20000 in
theorem cggL_pleas_L_both_6 : GoodIn wsL_pleas wsL_both_r6 := goodIn_r _ [120, 121, 122, 123, 124, 125, 126, 127, 128, 129, 130, 131, 132, 133, 134, 135, 136, 137, 138, 139, 140, 141, 142, 143] (by decide +kernel) (by decide +kernel)
set_option maxRecDepth 20000 in
theorem cggL_pleas_L_both_7 : GoodIn wsL_pleas wsL_both_r7 := goodIn_r _ [144, 145, 146, 147, 148, 149, 150, 151, 152, 153, 154, 155, 156, 157, 158, 159, 160, 161, 162, 163, 164, 165, 166, 167] (by decide +kernel) (by decide +kernel)
set_option maxRecDepth 20000 in
theorem cggL_pleas_L_both_8 : GoodIn wsL_pleas wsL_both_r8 := goodIn_r _ [168, 169, 170, 171, 172, 173, 174, 175, 176, 177, 178, 179, 180, 181, 182, 183, 184, 185, 186, 187, 188, 189, 190, 191] (by decide +kernel) (by decide +kernel)
set_option maxRecDepth 20000 in
theorem cggL_pleas_L_both_9 : GoodIn wsL_pleas wsL_both_r9 := goodIn_r _ [192, 193, 194, 195, 196, 197, 198, 199, 200, 201, 202, 203, 204, 205, 206, 207, 208, 209, 210, 211, 212, 213, 214, 215] (by decide +kernel) (by decide +kernel)
set_option maxRecDepth 20000 in
theorem cggL_pleas_L_both_10 : GoodIn wsL_pleas wsL_both_r10 := goodIn_r _ [216, 217, 218, 219, 220, 221, 222, 223, 224, 225, 226, 227, 228, 229, 230, 231, 232, 233, 234, 235, 236, 237, 238, 239] (by decide +kernel) (by decide +kernel)
set_option maxRecDepth 20000 in
theorem cggL_pleas_L_both_11 : GoodIn wsL_pleas wsL_both_r11 := goodIn_r _ [240, 241, 242, 243, 244, 245, 246, 247, 248, 249, 250, 251, 252, 253, 254, 255, 256, 257, 258, 259, 260, 261, 262, 263] (by decide +kernel) (by decide +kernel)
set_option maxRecDepth 20000 in
theorem cggL_pleas_L_both_12 : GoodIn wsL_pleas wsL_both_r12 := goodIn_r _ [264, 265, 266, 267, 268, 269, 270, 271, 272, 273, 274, 275, 276, 277, 278, 279, 280, 281, 282, 283, 284, 285, 286, 287] (by decide +kernel) (by decide +kernel)
set_option maxRecDepth 20000 in
theorem cggL_pleas_L_both_13 : GoodIn wsL_pleas wsL_both_r13 := goodIn_r _ [288, 289, 290, 291, 292, 293, 294, 295, 296, 297, 298, 299, 300, 301, 302, 303, 304, 305, 306, 307, 308, 309, 310] (by decide +kernel) (by decide +kernel)
set_option maxRecDepth 20000 in
theorem ggL_pleas_L_both : GoodIn wsL_pleas wsL_both := goodIn_ca (goodIn_ca (goodIn_ca (goodIn_hd (goodIn_r _ [316] (by decide +kernel) (by decide +kernel)) (goodIn_app (goodIn_app (goodIn_app (goodIn_app (goodIn_app cggL_pleas_L_both_1 (goodIn_app cggL_pleas_L_both_2 (goodIn_app cggL_pleas_L_both_3 (goodIn_app cggL_pleas_L_both_4 (goodIn_app cggL_pleas_L_both_5 (goodIn_app cggL_pleas_L_both_6 (goodIn_app cggL_pleas_L_both_7 (goodIn_app cggL_pleas_L_both_8 (goodIn_app cggL_pleas_L_both_9 (goodIn_app cggL_pleas_L_both_10 (goodIn_app cggL_pleas_L_both_11 (goodIn_app cggL_pleas_L_both_12 (cggL_pleas_L_both_13))))))))))))) (goodIn_r _ [318, 319, 320, 321, 322, 323, 324, 325, 326, 327, 328] (by decide +kernel) (by decide +kernel))) (goodIn_r _ [329, 330, 331, 332] (by decide +kernel) (by decide +kernel))) (goodIn_r _ [333, 334, 335, 336, 337, 338, 339, 340, 341] (by decide +kernel) (by decide +kernel))) (goodIn_r _ [342, 343, 344, 345, 346, 347, 348, 349] (by decide +kernel) (by decide +kernel)))) (goodIn_sub (fun _ h => List.mem_cons_of_mem _ (List.mem_append_left _ (List.mem_append_left _ (List.mem_append_right _ h)))) (by decide +kernel))) (goodIn_sub (fun _ h => List.mem_cons_of_mem _ (List.mem_append_left _ (List.mem_append_right _ h))) (by decide +kernel))) (goodIn_sub (fun _ h => List.mem_cons_of_mem _ (List.mem_append_right _ h)) (by decide +kernel))
set_option maxRecDepth 20000 in
theorem gL_pleas_L_both : GoodIn wsL_pleas (va_wsS RL 126 yL_both wsL_both) := goodIn_app (goodIn_of _ (by decide +kernel)) ggL_pleas_L_both
set_option maxRecDepth 20000 in
theorem ggL_pleas_X3_bar : GoodIn wsL_pleas wsX3_bar := goodIn_ca (goodIn_r _ [165, 75, 76, 41, 31, 32, 17, 33, 34, 35, 166, 167, 168, 140, 169, 170, 171, 144, 172, 318, 319, 320, 321, 322, 323, 324, 325, 326, 327, 328, 333, 334, 335, 336, 337, 338, 339, 340, 341] (by decide +kernel) (by decide +kernel)) (goodIn_sub (fun _ h => List.mem_cons_of_mem _ (List.mem_append_right _ h)) (by decide +kernel))
set_option maxRecDepth 20000 in
theorem gL_pleas_X3_bar : GoodIn wsL_pleas (wsV RL 59 RX3 yX3_bar wsX3_bar) := goodIn_app (goodIn_of _ (by decide +kernel)) ggL_pleas_X3_bar
set_option maxRecDepth 20000 in
theorem ggL_pleas_X3_about : GoodIn wsL_pleas wsX3_about := goodIn_ca (goodIn_ca (goodIn_r _ [276, 182, 177, 184, 183, 277, 278, 208, 224, 31, 32, 17, 33, 34, 35, 59, 60, 61, 19, 20, 279, 280, 281, 282, 283, 284, 285, 318, 319, 320, 321, 322, 323, 324, 325, 326, 327, 328, 342, 343, 344, 345, 346, 347, 348, 349] (by decide +kernel) (by decide +kernel)) (goodIn_sub (fun _ h => List.mem_cons_of_mem _ (List.mem_append_right _ h)) (by decide +kernel))) (goodIn_sub (fun _ h => List.mem_cons_of_mem _ (List.mem_append_left _ (List.mem_append_left _ (List.mem_append_right _ h)))) (by decide +kernel))
set_option maxRecDepth 20000 in
theorem gL_pleas_X3_about : GoodIn wsL_pleas (wsV RL 84 RX3 yX3_about wsX3_about) := goodIn_app (goodIn_of _ (by decide +kernel)) ggL_pleas_X3_about
theorem dL_pleas_0 : decode cL_pleas 0 = .ok (.aload_n 2, 1) := by decide +kernel
theorem dL_pleas_1 : decode cL_pleas 1 = .ok (.iconst 1, 1) := by decide +kernel
theorem dL_pleas_2 : decode cL_pleas 2 = .ok (.iaload, 1) := by decide +kernel
theorem dL_pleas_3 : decode cL_pleas 3 = .ok (.ifCond .ne 23, 3) := by decide +kernel
theorem dL_pleas_6 : decode cL_pleas 6 = .ok (.aload_n 0, 1) := by decide +kernel
theorem dL_pleas_7 : decode cL_pleas 7 = .ok (.bipush 10, 2) := by decide +kernel
theorem dL_pleas_9 : decode cL_pleas 9 = .ok (.iconst 0, 1) := by decide +kernel
theorem dL_pleas_10 : decode cL_pleas 10 = .ok (.iconst 0, 1) := by decide +kernel
theorem dL_pleas_11 : decode cL_pleas 11 = .ok (.iconst 0, 1) := by decide +kernel
theorem dL_pleas_12 : decode cL_pleas 12 = .ok (.invokestatic 102, 3) := by decide +kernel
theorem dL_pleas_15 : decode cL_pleas 15 = .ok (.ldc 17, 2) := by decide +kernel
theorem dL_pleas_17 : decode cL_pleas 17 = .ok (.if_icmp .ne 7, 3) := by decide +kernel
theorem dL_pleas_20 : decode cL_pleas 20 = .ok (.iconst 1, 1) := by decide +kernel
theorem dL_pleas_21 : decode cL_pleas 21 = .ok (.goto 4, 3) := by decide +kernel
theorem dL_pleas_24 : decode cL_pleas 24 = .ok (.iconst 0, 1) := by decide +kernel
theorem dL_pleas_25 : decode cL_pleas 25 = .ok (.ireturn, 1) := by decide +kernel
theorem dL_pleas_26 : decode cL_pleas 26 = .ok (.iload 4, 2) := by decide +kernel
theorem dL_pleas_28 : decode cL_pleas 28 = .ok (.iconst 3, 1) := by decide +kernel
theorem dL_pleas_29 : decode cL_pleas 29 = .ok (.invokestatic 123, 3) := by decide +kernel
theorem dL_pleas_32 : decode cL_pleas 32 = .ok (.istore 5, 2) := by decide +kernel
theorem dL_pleas_34 : decode cL_pleas 34 = .ok (.iload 4, 2) := by decide +kernel
theorem dL_pleas_36 : decode cL_pleas 36 = .ok (.iconst 3, 1) := by decide +kernel
theorem dL_pleas_37 : decode cL_pleas 37 = .ok (.ishr, 1) := by decide +kernel
theorem dL_pleas_38 : decode cL_pleas 38 = .ok (.aload_n 2, 1) := by decide +kernel
theorem dL_pleas_39 : decode cL_pleas 39 = .ok (.iconst 1, 1) := by decide +kernel
theorem dL_pleas_40 : decode cL_pleas 40 = .ok (.iaload, 1) := by decide +kernel
theorem dL_pleas_41 : decode cL_pleas 41 = .ok (.invokestatic 123, 3) := by decide +kernel
theorem dL_pleas_44 : decode cL_pleas 44 = .ok (.istore 6, 2) := by decide +kernel
theorem dL_pleas_46 : decode cL_pleas 46 = .ok (.iload_n 3, 1) := by decide +kernel
theorem dL_pleas_47 : decode cL_pleas 47 = .ok (.iconst 5, 1) := by decide +kernel
theorem dL_pleas_48 : decode cL_pleas 48 = .ok (.invokestatic 123, 3) := by decide +kernel
theorem dL_pleas_51 : decode cL_pleas 51 = .ok (.iconst 2, 1) := by decide +kernel
theorem dL_pleas_52 : decode cL_pleas 52 = .ok (.if_icmp .ge 68, 3) := by decide +kernel
theorem dL_pleas_55 : decode cL_pleas 55 = .ok (.aload_n 0, 1) := by decide +kernel
theorem dL_pleas_56 : decode cL_pleas 56 = .ok (.aload_n 1, 1) := by decide +kernel
theorem dL_pleas_57 : decode cL_pleas 57 = .ok (.bipush 8, 2) := by decide +kernel
theorem dL_pleas_59 : decode cL_pleas 59 = .ok (.iload 5, 2) := by decide +kernel
theorem dL_pleas_61 : decode cL_pleas 61 = .ok (.iload 6, 2) := by decide +kernel
theorem dL_pleas_63 : decode cL_pleas 63 = .ok (.iconst 0, 1) := by decide +kernel
theorem dL_pleas_64 : decode cL_pleas 64 = .ok (.invokestatic 126, 3) := by decide +kernel
theorem dL_pleas_67 : decode cL_pleas 67 = .ok (.istore 7, 2) := by decide +kernel
theorem dL_pleas_69 : decode cL_pleas 69 = .ok (.iload 7, 2) := by decide +kernel
theorem dL_pleas_71 : decode cL_pleas 71 = .ok (.ifCond .eq 10, 3) := by decide +kernel
theorem dL_pleas_74 : decode cL_pleas 74 = .ok (.iload 7, 2) := by decide +kernel
theorem dL_pleas_76 : decode cL_pleas 76 = .ok (.ldc 23, 2) := by decide +kernel
theorem dL_pleas_78 : decode cL_pleas 78 = .ok (.if_icmp .ne 40, 3) := by decide +kernel
theorem dL_pleas_81 : decode cL_pleas 81 = .ok (.iload 7, 2) := by decide +kernel
theorem dL_pleas_83 : decode cL_pleas 83 = .ok (.ifCond .ne 15, 3) := by decide +kernel
theorem dL_pleas_86 : decode cL_pleas 86 = .ok (.aload_n 0, 1) := by decide +kernel
theorem dL_pleas_87 : decode cL_pleas 87 = .ok (.iload 5, 2) := by decide +kernel
theorem dL_pleas_89 : decode cL_pleas 89 = .ok (.iload 6, 2) := by decide +kernel
theorem dL_pleas_91 : decode cL_pleas 91 = .ok (.invokevirtual 59, 3) := by decide +kernel
theorem dL_pleas_94 : decode cL_pleas 94 = .ok (.iconst 1, 1) := by decide +kernel
theorem dL_pleas_95 : decode cL_pleas 95 = .ok (.if_icmp .ne 23, 3) := by decide +kernel
theorem dL_pleas_98 : decode cL_pleas 98 = .ok (.aload_n 0, 1) := by decide +kernel
theorem dL_pleas_99 : decode cL_pleas 99 = .ok (.bipush 8, 2) := by decide +kernel
theorem dL_pleas_101 : decode cL_pleas 101 = .ok (.iload 5, 2) := by decide +kernel
theorem dL_pleas_103 : decode cL_pleas 103 = .ok (.iload 6, 2) := by decide +kernel
theorem dL_pleas_105 : decode cL_pleas 105 = .ok (.iconst 0, 1) := by decide +kernel
theorem dL_pleas_106 : decode cL_pleas 106 = .ok (.invokestatic 102, 3) := by decide +kernel
theorem dL_pleas_109 : decode cL_pleas 109 = .ok (.ldc 23, 2) := by decide +kernel
theorem dL_pleas_111 : decode cL_pleas 111 = .ok (.if_icmp .ne 7, 3) := by decide +kernel
theorem dL_pleas_114 : decode cL_pleas 114 = .ok (.iconst 1, 1) := by decide +kernel
theorem dL_pleas_115 : decode cL_pleas 115 = .ok (.goto 4, 3) := by decide +kernel
theorem dL_pleas_118 : decode cL_pleas 118 = .ok (.iconst 0, 1) := by decide +kernel
theorem dL_pleas_119 : decode cL_pleas 119 = .ok (.ireturn, 1) := by decide +kernel
theorem dL_pleas_120 : decode cL_pleas 120 = .ok (.aload_n 0, 1) := by decide +kernel
theorem dL_pleas_121 : decode cL_pleas 121 = .ok (.iload 5, 2) := by decide +kernel
theorem dL_pleas_123 : decode cL_pleas 123 = .ok (.iload 6, 2) := by decide +kernel
theorem dL_pleas_125 : decode cL_pleas 125 = .ok (.invokevirtual 59, 3) := by decide +kernel
theorem dL_pleas_128 : decode cL_pleas 128 = .ok (.istore 7, 2) := by decide +kernel
theorem dL_pleas_130 : decode cL_pleas 130 = .ok (.aload_n 0, 1) := by decide +kernel
theorem dL_pleas_131 : decode cL_pleas 131 = .ok (.aload_n 1, 1) := by decide +kernel
theorem dL_pleas_132 : decode cL_pleas 132 = .ok (.bipush 10, 2) := by decide +kernel
theorem dL_pleas_134 : decode cL_pleas 134 = .ok (.iload 5, 2) := by decide +kernel
theorem dL_pleas_136 : decode cL_pleas 136 = .ok (.iload 6, 2) := by decide +kernel
theorem dL_pleas_138 : decode cL_pleas 138 = .ok (.iconst 0, 1) := by decide +kernel
theorem dL_pleas_139 : decode cL_pleas 139 = .ok (.invokestatic 126, 3) := by decide +kernel
theorem dL_pleas_142 : decode cL_pleas 142 = .ok (.istore 8, 2) := by decide +kernel
theorem dL_pleas_144 : decode cL_pleas 144 = .ok (.iload 8, 2) := by decide +kernel
theorem dL_pleas_146 : decode cL_pleas 146 = .ok (.ldc 23, 2) := by decide +kernel
theorem dL_pleas_148 : decode cL_pleas 148 = .ok (.if_icmp .ne 22, 3) := by decide +kernel
theorem dL_pleas_151 : decode cL_pleas 151 = .ok (.iload 7, 2) := by decide +kernel
theorem dL_pleas_153 : decode cL_pleas 153 = .ok (.ifCond .gt 11, 3) := by decide +kernel
theorem dL_pleas_156 : decode cL_pleas 156 = .ok (.aload_n 2, 1) := by decide +kernel
theorem dL_pleas_157 : decode cL_pleas 157 = .ok (.iconst 2, 1) := by decide +kernel
theorem dL_pleas_158 : decode cL_pleas 158 = .ok (.iaload, 1) := by decide +kernel
theorem dL_pleas_159 : decode cL_pleas 159 = .ok (.bipush 16, 2) := by decide +kernel
theorem dL_pleas_161 : decode cL_pleas 161 = .ok (.if_icmp .ne 7, 3) := by decide +kernel
theorem dL_pleas_164 : decode cL_pleas 164 = .ok (.iconst 1, 1) := by decide +kernel
theorem dL_pleas_165 : decode cL_pleas 165 = .ok (.goto 4, 3) := by decide +kernel
theorem dL_pleas_168 : decode cL_pleas 168 = .ok (.iconst 0, 1) := by decide +kernel
theorem dL_pleas_169 : decode cL_pleas 169 = .ok (.ireturn, 1) := by decide +kernel
theorem dL_pleas_170 : decode cL_pleas 170 = .ok (.iload 8, 2) := by decide +kernel
theorem dL_pleas_172 : decode cL_pleas 172 = .ok (.aload_n 2, 1) := by decide +kernel
theorem dL_pleas_173 : decode cL_pleas 173 = .ok (.iconst 2, 1) := by decide +kernel
theorem dL_pleas_174 : decode cL_pleas 174 = .ok (.iaload, 1) := by decide +kernel
theorem dL_pleas_175 : decode cL_pleas 175 = .ok (.if_icmp .ne 7, 3) := by decide +kernel
theorem dL_pleas_178 : decode cL_pleas 178 = .ok (.iconst 1, 1) := by decide +kernel
theorem dL_pleas_179 : decode cL_pleas 179 = .ok (.goto 4, 3) := by decide +kernel
theorem dL_pleas_182 : decode cL_pleas 182 = .ok (.iconst 0, 1) := by decide +kernel
theorem dL_pleas_183 : decode cL_pleas 183 = .ok (.istore 9, 2) := by decide +kernel
theorem dL_pleas_185 : decode cL_pleas 185 = .ok (.aload_n 2, 1) := by decide +kernel
theorem dL_pleas_186 : decode cL_pleas 186 = .ok (.iconst 2, 1) := by decide +kernel
theorem dL_pleas_187 : decode cL_pleas 187 = .ok (.dup2, 1) := by decide +kernel
theorem dL_pleas_188 : decode cL_pleas 188 = .ok (.iaload, 1) := by decide +kernel
theorem dL_pleas_189 : decode cL_pleas 189 = .ok (.iload 9, 2) := by decide +kernel
theorem dL_pleas_191 : decode cL_pleas 191 = .ok (.ifCond .eq 7, 3) := by decide +kernel
theorem dL_pleas_194 : decode cL_pleas 194 = .ok (.iconst 1, 1) := by decide +kernel
theorem dL_pleas_195 : decode cL_pleas 195 = .ok (.goto 4, 3) := by decide +kernel
theorem dL_pleas_198 : decode cL_pleas 198 = .ok (.iconst 0, 1) := by decide +kernel
theorem dL_pleas_199 : decode cL_pleas 199 = .ok (.iadd, 1) := by decide +kernel
theorem dL_pleas_200 : decode cL_pleas 200 = .ok (.iastore, 1) := by decide +kernel
theorem dL_pleas_201 : decode cL_pleas 201 = .ok (.iload 7, 2) := by decide +kernel
theorem dL_pleas_203 : decode cL_pleas 203 = .ok (.ifCond .ne 116, 3) := by decide +kernel
theorem dL_pleas_206 : decode cL_pleas 206 = .ok (.iload 8, 2) := by decide +kernel
theorem dL_pleas_208 : decode cL_pleas 208 = .ok (.aload_n 2, 1) := by decide +kernel
theorem dL_pleas_209 : decode cL_pleas 209 = .ok (.iconst 2, 1) := by decide +kernel
theorem dL_pleas_210 : decode cL_pleas 210 = .ok (.iaload, 1) := by decide +kernel
theorem dL_pleas_211 : decode cL_pleas 211 = .ok (.if_icmp .ge 108, 3) := by decide +kernel
theorem dL_pleas_214 : decode cL_pleas 214 = .ok (.aload_n 0, 1) := by decide +kernel
theorem dL_pleas_215 : decode cL_pleas 215 = .ok (.iload 8, 2) := by decide +kernel
theorem dL_pleas_217 : decode cL_pleas 217 = .ok (.iconst 1, 1) := by decide +kernel
theorem dL_pleas_218 : decode cL_pleas 218 = .ok (.invokevirtual 84, 3) := by decide +kernel
theorem dL_pleas_221 : decode cL_pleas 221 = .ok (.iload 6, 2) := by decide +kernel
theorem dL_pleas_223 : decode cL_pleas 223 = .ok (.if_icmp .ne 96, 3) := by decide +kernel
theorem dL_pleas_226 : decode cL_pleas 226 = .ok (.aload_n 0, 1) := by decide +kernel
theorem dL_pleas_227 : decode cL_pleas 227 = .ok (.iload 8, 2) := by decide +kernel
theorem dL_pleas_229 : decode cL_pleas 229 = .ok (.iconst 0, 1) := by decide +kernel
theorem dL_pleas_230 : decode cL_pleas 230 = .ok (.invokevirtual 84, 3) := by decide +kernel
theorem dL_pleas_233 : decode cL_pleas 233 = .ok (.iconst 2, 1) := by decide +kernel
theorem dL_pleas_234 : decode cL_pleas 234 = .ok (.if_icmp .eq 85, 3) := by decide +kernel
theorem dL_pleas_237 : decode cL_pleas 237 = .ok (.aload_n 0, 1) := by decide +kernel
theorem dL_pleas_238 : decode cL_pleas 238 = .ok (.iload 8, 2) := by decide +kernel
theorem dL_pleas_240 : decode cL_pleas 240 = .ok (.iconst 3, 1) := by decide +kernel
theorem dL_pleas_241 : decode cL_pleas 241 = .ok (.invokevirtual 84, 3) := by decide +kernel
theorem dL_pleas_244 : decode cL_pleas 244 = .ok (.iconst 1, 1) := by decide +kernel
theorem dL_pleas_245 : decode cL_pleas 245 = .ok (.if_icmp .lt 74, 3) := by decide +kernel
theorem dL_pleas_248 : decode cL_pleas 248 = .ok (.aload_n 0, 1) := by decide +kernel
theorem dL_pleas_249 : decode cL_pleas 249 = .ok (.iload 8, 2) := by decide +kernel
theorem dL_pleas_251 : decode cL_pleas 251 = .ok (.iconst 3, 1) := by decide +kernel
theorem dL_pleas_252 : decode cL_pleas 252 = .ok (.invokevirtual 84, 3) := by decide +kernel
theorem dL_pleas_255 : decode cL_pleas 255 = .ok (.iconst 3, 1) := by decide +kernel
theorem dL_pleas_256 : decode cL_pleas 256 = .ok (.if_icmp .gt 63, 3) := by decide +kernel
theorem dL_pleas_259 : decode cL_pleas 259 = .ok (.iload 9, 2) := by decide +kernel
theorem dL_pleas_261 : decode cL_pleas 261 = .ok (.ifCond .eq 37, 3) := by decide +kernel
theorem dL_pleas_264 : decode cL_pleas 264 = .ok (.aload_n 0, 1) := by decide +kernel
theorem dL_pleas_265 : decode cL_pleas 265 = .ok (.iload 8, 2) := by decide +kernel
theorem dL_pleas_267 : decode cL_pleas 267 = .ok (.iconst 2, 1) := by decide +kernel
theorem dL_pleas_268 : decode cL_pleas 268 = .ok (.invokevirtual 84, 3) := by decide +kernel
theorem dL_pleas_271 : decode cL_pleas 271 = .ok (.bipush 60, 2) := by decide +kernel
theorem dL_pleas_273 : decode cL_pleas 273 = .ok (.if_icmp .ne 46, 3) := by decide +kernel
theorem dL_pleas_276 : decode cL_pleas 276 = .ok (.aload_n 0, 1) := by decide +kernel
theorem dL_pleas_277 : decode cL_pleas 277 = .ok (.iload 8, 2) := by decide +kernel
theorem dL_pleas_279 : decode cL_pleas 279 = .ok (.iconst 3, 1) := by decide +kernel
theorem dL_pleas_280 : decode cL_pleas 280 = .ok (.invokevirtual 84, 3) := by decide +kernel
theorem dL_pleas_283 : decode cL_pleas 283 = .ok (.iconst 1, 1) := by decide +kernel
theorem dL_pleas_284 : decode cL_pleas 284 = .ok (.if_icmp .ne 35, 3) := by decide +kernel
theorem dL_pleas_287 : decode cL_pleas 287 = .ok (.aload_n 0, 1) := by decide +kernel
theorem dL_pleas_288 : decode cL_pleas 288 = .ok (.iload 8, 2) := by decide +kernel
theorem dL_pleas_290 : decode cL_pleas 290 = .ok (.iconst 5, 1) := by decide +kernel
theorem dL_pleas_291 : decode cL_pleas 291 = .ok (.invokevirtual 84, 3) := by decide +kernel
theorem dL_pleas_294 : decode cL_pleas 294 = .ok (.iconst (-1), 1) := by decide +kernel
theorem dL_pleas_295 : decode cL_pleas 295 = .ok (.if_icmp .ne 24, 3) := by decide +kernel
theorem dL_pleas_298 : decode cL_pleas 298 = .ok (.aload_n 0, 1) := by decide +kernel
theorem dL_pleas_299 : decode cL_pleas 299 = .ok (.aload_n 1, 1) := by decide +kernel
theorem dL_pleas_300 : decode cL_pleas 300 = .ok (.bipush 10, 2) := by decide +kernel
theorem dL_pleas_302 : decode cL_pleas 302 = .ok (.iload 5, 2) := by decide +kernel
theorem dL_pleas_304 : decode cL_pleas 304 = .ok (.iload 6, 2) := by decide +kernel
theorem dL_pleas_306 : decode cL_pleas 306 = .ok (.iconst 0, 1) := by decide +kernel
theorem dL_pleas_307 : decode cL_pleas 307 = .ok (.invokestatic 126, 3) := by decide +kernel
theorem dL_pleas_310 : decode cL_pleas 310 = .ok (.iload 8, 2) := by decide +kernel
theorem dL_pleas_312 : decode cL_pleas 312 = .ok (.if_icmp .ne 7, 3) := by decide +kernel
theorem dL_pleas_315 : decode cL_pleas 315 = .ok (.iconst 1, 1) := by decide +kernel
theorem dL_pleas_316 : decode cL_pleas 316 = .ok (.goto 4, 3) := by decide +kernel
theorem dL_pleas_319 : decode cL_pleas 319 = .ok (.iconst 0, 1) := by decide +kernel
theorem dL_pleas_320 : decode cL_pleas 320 = .ok (.ireturn, 1) := by decide +kernel
set_option maxRecDepth 20000 in
theorem cggL_files_L_call_1 : GoodIn wsL_files wsL_call_r1 := goodIn_r _ [7, 8, 9, 1, 10, 2, 11, 12, 5, 13, 14, 15, 16, 17, 18, 19, 20, 21, 22, 23, 24, 25, 26, 27] (by decide +kernel) (by decide +kernel)
set_option maxRecDepth 20000 in
theorem cggL_files_L_call_2 : GoodIn wsL_files wsL_call_r2 := goodIn_r _ [28, 29, 30, 31, 32, 33, 34, 35, 36, 37, 38, 39, 40, 41, 42, 43, 44, 45, 46, 47, 48, 49, 50, 51] (by decide +kernel) (by decide +kernel)
set_option maxRecDepth 20000 in
theorem cggL_files_L_call_3 : GoodIn wsL_files wsL_call_r3 := goodIn_r _ [52, 53, 54, 55, 56, 57, 58, 59, 60, 61, 62, 63, 64, 65, 66, 67, 68, 69, 70, 71, 72, 73, 74, 75] (by decide +kernel) (by decide +kernel)
set_option maxRecDepth 20000 in
theorem cggL_files_L_call_4 : GoodIn wsL_files wsL_call_r4 := goodIn_r _ [76, 77, 78, 79, 80, 81, 82, 83, 84, 85, 86, 87, 88, 89, 90, 91, 92, 93, 94, 95, 96, 97, 98, 99] (by decide +kernel) (by decide +kernel)
set_option maxRecDepth 20000 in
theorem cggL_files_L_call_5 : GoodIn wsL_files wsL_call_r5 := goodIn_r _ [100, 101, 102, 103, 104, 105, 106, 107, 108, 109, 110, 111, 112, 113, 114, 115, 116, 117, 118, 119, 120, 121, 122, 123] (by decide +kernel) (by decide +kernel)
set_option maxRecDepth 20000 in
theorem cggL_files_L_call_6 : GoodIn wsL_files wsL_call_r6 := goodIn_r _ [124, 125, 126, 127, 128, 129, 130, 131, 132, 133, 134, 135, 136, 137, 138, 139, 140, 141, 142, 143, 144, 145, 146, 147] (by decide +kernel) (by decide +kernel)
set_option maxRecDepth 20000 in
theorem cggL_files_L_call_7 : GoodIn wsL_files wsL_call_r7 := goodIn_r _ [148, 149, 150, 151, 152, 153, 154, 155, 156, 157, 158, 159, 160, 161, 162, 163, 164, 165, 166, 167, 168, 169, 170, 171] (by decide +kernel) (by decide +kernel)
set_option maxRecDepth 20000 in
theorem cggL_files_L_call_8 : GoodIn wsL_files wsL_call_r8 := goodIn_r _ [172, 173, 174, 175, 176, 177, 178, 179, 180, 181, 182, 183, 184, 185, 186, 187, 188, 189, 190, 191, 192, 193, 194, 195] (by decide +kernel) (by decide +kernel)
set_option maxRecDepth 20000 in
theorem cggL_files_L_call_9 : GoodIn wsL_files wsL_call_r9 := goodIn_r _ [196, 197, 198, 199, 200, 201, 202, 203, 204, 205, 206, 207, 208, 209, 210, 211, 212, 213, 214, 215, 216, 217, 218, 219] (by decide +kernel) (by decide +kernel)
set_option maxRecDepth 20000 in
theorem cggL_files_L_call_10 : GoodIn wsL_files wsL_call_r10 := goodIn_r _ [220, 221, 222, 223, 224, 225, 226, 227, 228, 229, 230, 231, 232, 233, 234, 235, 236, 237, 238, 239, 240, 241, 242, 243] (by decide +kernel) (by decide +kernel)
set_option maxRecDepth 20000 in
theorem cggL_files_L_call_11 : GoodIn wsL_files wsL_call_r11 := goodIn_r _ [244, 245, 246, 247, 248, 249, 250, 251, 252, 253, 254, 255, 256, 257, 258, 259, 260, 261, 262, 263, 264, 265, 266, 267] (by decide +kernel) (by decide +kernel)
set_option maxRecDepth 20000 in
theorem cggL_files_L_call_12 : GoodIn wsL_files wsL_call_r12 := goodIn_r _ [268, 269, 270, 271, 272, 273, 274, 275, 276, 277, 278, 279, 280, 281, 282, 283, 284, 285, 286, 287, 288, 289, 290, 291] (by decide +kernel) (by decide +kernel)
set_option maxRecDepth 20000 in
theorem cggL_files_L_call_13 : GoodIn wsL_files wsL_call_r13 := goodIn_r _ [292, 293, 294, 295, 296, 297, 298, 299, 300, 301, 302, 303, 304, 305, 306, 307, 308, 309, 310] (by decide +kernel) (by decide +kernel)
set_option maxRecDepth 20000 in
theorem ggL_files_L_call : GoodIn wsL_files wsL_call := goodIn_ca (goodIn_ca (goodIn_ca (goodIn_hd (goodIn_r _ [6] (by decide +kernel) (by decide +kernel)) (goodIn_app (goodIn_app (goodIn_app (goodIn_app (goodIn_app cggL_files_L_call_1 (goodIn_app cggL_files_L_call_2 (goodIn_app cggL_files_L_call_3 (goodIn_app cggL_files_L_call_4 (goodIn_app cggL_files_L_call_5 (goodIn_app cggL_files_L_call_6 (goodIn_app cggL_files_L_call_7 (goodIn_app cggL_files_L_call_8 (goodIn_app cggL_files_L_call_9 (goodIn_app cggL_files_L_call_10 (goodIn_app cggL_files_L_call_11 (goodIn_app cggL_files_L_call_12 (cggL_files_L_call_13))))))))))))) (goodIn_r _ [318, 319, 320, 321, 322, 323, 324, 325, 326, 327, 328] (by decide +kernel) (by decide +kernel))) (goodIn_r _ [329, 330, 331, 332] (by decide +kernel) (by decide +kernel))) (goodIn_r _ [333, 334, 335, 336, 337, 338, 339, 340, 341] (by decide +kernel) (by decide +kernel))) (goodIn_r _ [342, 343, 344, 345, 346, 347, 348, 349] (by decide +kernel) (by decide +kernel)))) (goodIn_sub (fun _ h => List.mem_cons_of_mem _ (List.mem_append_left _ (List.mem_append_left _ (List.mem_append_right _ h)))) (by decide +kernel))) (goodIn_sub (fun _ h => List.mem_cons_of_mem _ (List.mem_append_left _ (List.mem_append_right _ h))) (by decide +kernel))) (goodIn_sub (fun _ h => List.mem_cons_of_mem _ (List.mem_append_right _ h)) (by decide +kernel))
set_option maxRecDepth 20000 in
theorem gL_files_L_call : GoodIn wsL_files (va_wsS RL 102 yL_call wsL_call) := goodIn_app (goodIn_of _ (by decide +kernel)) ggL_files_L_call
set_option maxRecDepth 20000 in
theorem ggL_files_L_some : GoodIn wsL_files wsL_some := goodIn_r _ [313] (by decide +kernel) (by decide +kernel)
set_option maxRecDepth 20000 in
theorem gL_files_L_some : GoodIn wsL_files (va_wsS RL 123 yL_some wsL_some) := goodIn_app (goodIn_of _ (by decide +kernel)) ggL_files_L_some
set_option maxRecDepth 20000 in
theorem ggL_files_X3_about : GoodIn wsL_files wsX3_about := goodIn_ca (goodIn_ca (goodIn_r _ [276, 182, 177, 184, 183, 277, 278, 208, 224, 31, 32, 17, 33, 34, 35, 59, 60, 61, 19, 20, 279, 280, 281, 282, 283, 284, 285, 318, 319, 320, 321, 322, 323, 324, 325, 326, 327, 328, 342, 343, 344, 345, 346, 347, 348, 349] (by decide +kernel) (by decide +kernel)) (goodIn_sub (fun _ h => List.mem_cons_of_mem _ (List.mem_append_right _ h)) (by decide +kernel))) (goodIn_sub (fun _ h => List.mem_cons_of_mem _ (List.mem_append_left _ (List.mem_append_left _ (List.mem_append_right _ h)))) (by decide +kernel))
set_option maxRecDepth 20000 in
theorem gL_files_X3_about : GoodIn wsL_files (wsV RL 84 RX3 yX3_about wsX3_about) := goodIn_app (goodIn_of _ (by decide +kernel)) ggL_files_X3_about
set_option maxRecDepth 20000 in
theorem cggL_files_L_both_1 : GoodIn wsL_files wsL_both_r1 := goodIn_r _ [317, 3, 4, 5, 6, 7, 8, 9, 1, 10, 2, 11, 12, 13, 14, 15, 16, 17, 18, 19, 20, 21, 22, 23] (by decide +kernel) (by decide +kernel)
set_option maxRecDepth 20000 in
theorem cggL_files_L_both_2 : GoodIn wsL_files wsL_both_r2 := goodIn_r _ [24, 25, 26, 27, 28, 29, 30, 31, 32, 33, 34, 35, 36, 37, 38, 39, 40, 41, 42, 43, 44, 45, 46, 47] (by decide +kernel) (by decide +kernel)
set_option maxRecDepth 20000 in
theorem cggL_files_L_both_3 : GoodIn wsL_files wsL_both_r3 := goodIn_r _ [48, 49, 50, 51, 52, 53, 54, 55, 56, 57, 58, 59, 60, 61, 62, 63, 64, 65, 66, 67, 68, 69, 70, 71] (by decide +kernel) (by decide +kernel)
set_option maxRecDepth 20000 in
theorem cggL_files_L_both_4 : GoodIn wsL_files wsL_both_r4 := goodIn_r _ [72, 73, 74, 75, 76, 77, 78, 79, 80, 81, 82, 83, 84, 85, 86, 87, 88, 89, 90, 91, 92, 93, 94, 95] (by decide +kernel) (by decide +kernel)
set_option maxRecDepth 20000 in
theorem cggL_files_L_both_5 : GoodIn wsL_files wsL_both_r5 := goodIn_r _ [96, 97, 98, 99, 100, 101, 102, 103, 104, 105, 106, 107, 108, 109, 110, 111, 112, 113, 114, 115, 116, 117, 118, 119] (by decide +kernel) (by decide +kernel)
set_option maxRecDepth 20000 in
theorem cggL_files_L_both_6 : GoodIn wsL_files wsL_both_r6 := goodIn_r _ [120, 121, 122, 123, 124, 125, 126, 127, 128, 129, 130, 131, 132, 133, 134, 135, 136, 137, 138, 139, 140, 141, 142, 143] (by decide +kernel) (by decide +kernel)
set_option maxRecDepth 20000 in
theorem cggL_files_L_both_7 : GoodIn wsL_files wsL_both_r7 := goodIn_r _ [144, 145, 146, 147, 148, 149, 150, 151, 152, 153, 154, 155, 156, 157, 158, 159, 160, 161, 162, 163, 164, 165, 166, 167] (by decide +kernel) (by decide +kernel)
set_option maxRecDepth 20000 in
theorem cggL_files_L_both_8 : GoodIn wsL_files wsL_both_r8 := goodIn_r _ [168, 169, 170, 171, 172, 173, 174, 175, 176, 177, 178, 179, 180, 181, 182, 183, 184, 185, 186, 187, 188, 189, 190, 191] (by decide +kernel) (by decide +kernel)
set_option maxRecDepth 20000 in
theorem cggL_files_L_both_9 : GoodIn wsL_files wsL_both_r9 := goodIn_r _ [192, 193, 194, 195, 196, 197, 198, 199, 200, 201, 202, 203, 204, 205, 206, 207, 208, 209, 210, 211, 212, 213, 214, 215] (by decide +kernel) (by decide +kernel)
set_option maxRecDepth 20000 in
theorem cggL_files_L_both_10 : GoodIn wsL_files wsL_both_r10 := goodIn_r _ [216, 217, 218, 219, 220, 221, 222, 223, 224, 225, 226, 227, 228, 229, 230, 231, 232, 233, 234, 235, 236, 237, 238, 239] (by decide +kernel) (by decide +kernel)
set_option maxRecDepth 20000 in
theorem cggL_files_L_both_11 : GoodIn wsL_files wsL_both_r11 := goodIn_r _ [240, 241, 242, 243, 244, 245, 246, 247, 248, 249, 250, 251, 252, 253, 254, 255, 256, 257, 258, 259, 260, 261, 262, 263] (by decide +kernel) (by decide +kernel)
set_option maxRecDepth 20000 in
theorem cggL_files_L_both_12 : GoodIn wsL_files wsL_both_r12 := goodIn_r _ [264, 265, 266, 267, 268, 269, 270, 271, 272, 273, 274, 275, 276, 277, 278, 279, 280, 281, 282, 283, 284, 285, 286, 287] (by decide +kernel) (by decide +kernel)
set_option maxRecDepth 20000 in
theorem cggL_files_L_both_13 : GoodIn wsL_files wsL_both_r13 := goodIn_r _ [288, 289, 290, 291, 292, 293, 294, 295, 296, 297, 298, 299, 300, 301, 302, 303, 304, 305, 306, 307, 308, 309, 310] (by decide +kernel) (by decide +kernel)
set_option maxRecDepth 20000 in
theorem ggL_files_L_both : GoodIn wsL_files wsL_both := goodIn_ca (goodIn_ca (goodIn_ca (goodIn_hd (goodIn_r _ [316] (by decide +kernel) (by decide +kernel)) (goodIn_app (goodIn_app (goodIn_app (goodIn_app (goodIn_app cggL_files_L_both_1 (goodIn_app cggL_files_L_both_2 (goodIn_app cggL_files_L_both_3 (goodIn_app cggL_files_L_both_4 (goodIn_app cggL_files_L_both_5 (goodIn_app cggL_files_L_both_6 (goodIn_app cggL_files_L_both_7 (goodIn_app cggL_files_L_both_8 (goodIn_app cggL_files_L_both_9 (goodIn_app cggL_files_L_both_10 (goodIn_app cggL_files_L_both_11 (goodIn_app cggL_files_L_both_12 (cggL_files_L_both_13))))))))))))) (goodIn_r _ [318, 319, 320, 321, 322, 323, 324, 325, 326, 327, 328] (by decide +kernel) (by decide +kernel))) (goodIn_r _ [329, 330, 331, 332] (by decide +kernel) (by decide +kernel))) (goodIn_r _ [333, 334, 335, 336, 337, 338, 339, 340, 341] (by decide +kernel) (by decide +kernel))) (goodIn_r _ [342, 343, 344, 345, 346, 347, 348, 349] (by decide +kernel) (by decide +kernel)))) (goodIn_sub (fun _ h => List.mem_cons_of_mem _ (List.mem_append_left _ (List.mem_append_left _ (List.mem_append_right _ h)))) (by decide +kernel))) (goodIn_sub (fun _ h => List.mem_cons_of_mem _ (List.mem_append_left _ (List.mem_append_right _ h))) (by decide +kernel))) (goodIn_sub (fun _ h => List.mem_cons_of_mem _ (List.mem_append_right _ h)) (by decide +kernel))
set_option maxRecDepth 20000 in
theorem gL_files_L_both : GoodIn wsL_files (va_wsS RL 126 yL_both wsL_both) := goodIn_app (goodIn_of _ (by decide +kernel)) ggL_files_L_both
set_option maxRecDepth 20000 in
theorem ggL_files_X3_reminder : GoodIn wsL_files wsX3_reminder := goodIn_ca (goodIn_r _ [289, 182, 177, 208, 76, 183, 210, 41, 209, 31, 32, 17, 33, 34, 35, 290, 291, 292, 293, 30, 318, 319, 320, 321, 322, 323, 324, 325, 326, 327, 328, 342, 343, 344, 345, 346, 347, 348, 349, 333, 334, 335, 336, 337, 338, 339, 340, 341] (by decide +kernel) (by decide +kernel)) (goodIn_sub (fun _ h => List.mem_cons_of_mem _ (List.mem_append_right _ h)) (by decide +kernel))
set_option maxRecDepth 20000 in
theorem gL_files_X3_reminder : GoodIn wsL_files (wsV RL 87 RX3 yX3_reminder wsX3_reminder) := goodIn_app (goodIn_of _ (by decide +kernel)) ggL_files_X3_reminder
set_option maxRecDepth 20000 in
theorem cggL_files_X3_fault_1 : GoodIn wsL_files wsX3_fault_r1 := goodIn_r _ [75, 31, 32, 17, 33, 34, 35, 225, 226, 227, 228, 229, 230, 231, 232, 76, 233, 70, 234, 235, 42, 43, 44, 45] (by decide +kernel) (by decide +kernel)
set_option maxRecDepth 20000 in
theorem cggL_files_X3_fault_2 : GoodIn wsL_files wsX3_fault_r2 := goodIn_r _ [46, 47, 48, 49, 50, 236, 237, 238, 239, 240, 241, 242, 243, 244, 245, 246, 247, 210, 248, 249, 250, 251] (by decide +kernel) (by decide +kernel)
set_option maxRecDepth 20000 in
theorem ggL_files_X3_fault : GoodIn wsL_files wsX3_fault := goodIn_ca (goodIn_hd (goodIn_r _ [297] (by decide +kernel) (by decide +kernel)) (goodIn_app (goodIn_app (goodIn_app (goodIn_app cggL_files_X3_fault_1 (cggL_files_X3_fault_2)) (goodIn_r _ [318, 319, 320, 321, 322, 323, 324, 325, 326, 327, 328] (by decide +kernel) (by decide +kernel))) (goodIn_r _ [333, 334, 335, 336, 337, 338, 339, 340, 341] (by decide +kernel) (by decide +kernel))) (goodIn_r _ [329, 330, 331, 332] (by decide +kernel) (by decide +kernel)))) (goodIn_sub (fun _ h => List.mem_cons_of_mem _ (List.mem_append_right _ h)) (by decide +kernel))
set_option maxRecDepth 20000 in
theorem gL_files_X3_fault : GoodIn wsL_files (wsV RL 90 RX3 yX3_fault wsX3_fault) := goodIn_app (goodIn_of _ (by decide +kernel)) ggL_files_X3_fault
set_option maxRecDepth 20000 in
theorem ggL_files_X3_remedied : GoodIn wsL_files wsX3_remedied := goodIn_ca (goodIn_r _ [305, 75, 76, 306, 31, 32, 17, 33, 34, 35, 318, 319, 320, 321, 322, 323, 324, 325, 326, 327, 328, 333, 334, 335, 336, 337, 338, 339, 340, 341] (by decide +kernel) (by decide +kernel)) (goodIn_sub (fun _ h => List.mem_cons_of_mem _ (List.mem_append_right _ h)) (by decide +kernel))
set_option maxRecDepth 20000 in
theorem gL_files_X3_remedied : GoodIn wsL_files (wsV RL 96 RX3 yX3_remedied wsX3_remedied) := goodIn_app (goodIn_of _ (by decide +kernel)) ggL_files_X3_remedied
set_option maxRecDepth 20000 in
theorem ggL_files_X3_likes : GoodIn wsL_files wsX3_likes := goodIn_ca (goodIn_r _ [301, 75, 31, 32, 17, 33, 34, 35, 240, 241, 242, 243, 244, 245, 246, 247, 76, 234, 210, 318, 319, 320, 321, 322, 323, 324, 325, 326, 327, 328, 333, 334, 335, 336, 337, 338, 339, 340, 341] (by decide +kernel) (by decide +kernel)) (goodIn_sub (fun _ h => List.mem_cons_of_mem _ (List.mem_append_right _ h)) (by decide +kernel))
set_option maxRecDepth 20000 in
theorem gL_files_X3_likes : GoodIn wsL_files (wsV RL 93 RX3 yX3_likes wsX3_likes) := goodIn_app (goodIn_of _ (by decide +kernel)) ggL_files_X3_likes
theorem dL_files_0 : decode cL_files 0 = .ok (.aload_n 2, 1) := by decide +kernel
theorem dL_files_1 : decode cL_files 1 = .ok (.iconst 2, 1) := by decide +kernel
theorem dL_files_2 : decode cL_files 2 = .ok (.iaload, 1) := by decide +kernel
theorem dL_files_3 : decode cL_files 3 = .ok (.ifCond .ne 37, 3) := by decide +kernel
theorem dL_files_6 : decode cL_files 6 = .ok (.aload_n 0, 1) := by decide +kernel
theorem dL_files_7 : decode cL_files 7 = .ok (.bipush 11, 2) := by decide +kernel
theorem dL_files_9 : decode cL_files 9 = .ok (.iconst 0, 1) := by decide +kernel
theorem dL_files_10 : decode cL_files 10 = .ok (.iconst 0, 1) := by decide +kernel
theorem dL_files_11 : decode cL_files 11 = .ok (.iconst 0, 1) := by decide +kernel
theorem dL_files_12 : decode cL_files 12 = .ok (.invokestatic 102, 3) := by decide +kernel
theorem dL_files_15 : decode cL_files 15 = .ok (.ldc 17, 2) := by decide +kernel
theorem dL_files_17 : decode cL_files 17 = .ok (.if_icmp .ne 21, 3) := by decide +kernel
theorem dL_files_20 : decode cL_files 20 = .ok (.aload_n 0, 1) := by decide +kernel
theorem dL_files_21 : decode cL_files 21 = .ok (.bipush 18, 2) := by decide +kernel
theorem dL_files_23 : decode cL_files 23 = .ok (.iconst 0, 1) := by decide +kernel
theorem dL_files_24 : decode cL_files 24 = .ok (.iconst 0, 1) := by decide +kernel
theorem dL_files_25 : decode cL_files 25 = .ok (.iconst 0, 1) := by decide +kernel
theorem dL_files_26 : decode cL_files 26 = .ok (.invokestatic 102, 3) := by decide +kernel
theorem dL_files_29 : decode cL_files 29 = .ok (.ldc 17, 2) := by decide +kernel
theorem dL_files_31 : decode cL_files 31 = .ok (.if_icmp .ne 7, 3) := by decide +kernel
theorem dL_files_34 : decode cL_files 34 = .ok (.iconst 1, 1) := by decide +kernel
theorem dL_files_35 : decode cL_files 35 = .ok (.goto 4, 3) := by decide +kernel
theorem dL_files_38 : decode cL_files 38 = .ok (.iconst 0, 1) := by decide +kernel
theorem dL_files_39 : decode cL_files 39 = .ok (.ireturn, 1) := by decide +kernel
theorem dL_files_40 : decode cL_files 40 = .ok (.iload 4, 2) := by decide +kernel
theorem dL_files_42 : decode cL_files 42 = .ok (.aload_n 2, 1) := by decide +kernel
theorem dL_files_43 : decode cL_files 43 = .ok (.iconst 2, 1) := by decide +kernel
theorem dL_files_44 : decode cL_files 44 = .ok (.iaload, 1) := by decide +kernel
theorem dL_files_45 : decode cL_files 45 = .ok (.invokestatic 123, 3) := by decide +kernel
theorem dL_files_48 : decode cL_files 48 = .ok (.istore 5, 2) := by decide +kernel
theorem dL_files_50 : decode cL_files 50 = .ok (.iload_n 3, 1) := by decide +kernel
theorem dL_files_51 : decode cL_files 51 = .ok (.bipush 10, 2) := by decide +kernel
theorem dL_files_53 : decode cL_files 53 = .ok (.invokestatic 123, 3) := by decide +kernel
theorem dL_files_56 : decode cL_files 56 = .ok (.istore 6, 2) := by decide +kernel
theorem dL_files_58 : decode cL_files 58 = .ok (.aload_n 0, 1) := by decide +kernel
theorem dL_files_59 : decode cL_files 59 = .ok (.iload 5, 2) := by decide +kernel
theorem dL_files_61 : decode cL_files 61 = .ok (.iconst 0, 1) := by decide +kernel
theorem dL_files_62 : decode cL_files 62 = .ok (.invokevirtual 84, 3) := by decide +kernel
theorem dL_files_65 : decode cL_files 65 = .ok (.istore 7, 2) := by decide +kernel
theorem dL_files_67 : decode cL_files 67 = .ok (.aload_n 0, 1) := by decide +kernel
theorem dL_files_68 : decode cL_files 68 = .ok (.iload 5, 2) := by decide +kernel
theorem dL_files_70 : decode cL_files 70 = .ok (.iconst 4, 1) := by decide +kernel
theorem dL_files_71 : decode cL_files 71 = .ok (.invokevirtual 84, 3) := by decide +kernel
theorem dL_files_74 : decode cL_files 74 = .ok (.istore 8, 2) := by decide +kernel
theorem dL_files_76 : decode cL_files 76 = .ok (.iload 6, 2) := by decide +kernel
