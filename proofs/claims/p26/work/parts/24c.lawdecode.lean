theorem dL_offices_144 : decode cL_offices 144 = .ok (.aload_n 0, 1) := by decide +kernel
theorem dL_offices_145 : decode cL_offices 145 = .ok (.aload_n 1, 1) := by decide +kernel
theorem dL_offices_146 : decode cL_offices 146 = .ok (.iconst 2, 1) := by decide +kernel
theorem dL_offices_147 : decode cL_offices 147 = .ok (.iload 6, 2) := by decide +kernel
theorem dL_offices_149 : decode cL_offices 149 = .ok (.iload 7, 2) := by decide +kernel
theorem dL_offices_151 : decode cL_offices 151 = .ok (.iconst 0, 1) := by decide +kernel
theorem dL_offices_152 : decode cL_offices 152 = .ok (.invokestatic 126, 3) := by decide +kernel
theorem dL_offices_155 : decode cL_offices 155 = .ok (.istore 8, 2) := by decide +kernel
theorem dL_offices_157 : decode cL_offices 157 = .ok (.iload 8, 2) := by decide +kernel
theorem dL_offices_159 : decode cL_offices 159 = .ok (.ldc 20, 2) := by decide +kernel
theorem dL_offices_161 : decode cL_offices 161 = .ok (.if_icmp .ne 16, 3) := by decide +kernel
theorem dL_offices_164 : decode cL_offices 164 = .ok (.iload 7, 2) := by decide +kernel
theorem dL_offices_166 : decode cL_offices 166 = .ok (.iload 6, 2) := by decide +kernel
theorem dL_offices_168 : decode cL_offices 168 = .ok (.if_icmp .ne 7, 3) := by decide +kernel
theorem dL_offices_171 : decode cL_offices 171 = .ok (.iconst 1, 1) := by decide +kernel
theorem dL_offices_172 : decode cL_offices 172 = .ok (.goto 4, 3) := by decide +kernel
theorem dL_offices_175 : decode cL_offices 175 = .ok (.iconst 0, 1) := by decide +kernel
theorem dL_offices_176 : decode cL_offices 176 = .ok (.ireturn, 1) := by decide +kernel
theorem dL_offices_177 : decode cL_offices 177 = .ok (.aload_n 0, 1) := by decide +kernel
theorem dL_offices_178 : decode cL_offices 178 = .ok (.iload 6, 2) := by decide +kernel
theorem dL_offices_180 : decode cL_offices 180 = .ok (.aload_n 2, 1) := by decide +kernel
theorem dL_offices_181 : decode cL_offices 181 = .ok (.iconst 3, 1) := by decide +kernel
theorem dL_offices_182 : decode cL_offices 182 = .ok (.iaload, 1) := by decide +kernel
theorem dL_offices_183 : decode cL_offices 183 = .ok (.invokevirtual 38, 3) := by decide +kernel
theorem dL_offices_186 : decode cL_offices 186 = .ok (.istore 9, 2) := by decide +kernel
theorem dL_offices_188 : decode cL_offices 188 = .ok (.iload 8, 2) := by decide +kernel
theorem dL_offices_190 : decode cL_offices 190 = .ok (.iconst (-1), 1) := by decide +kernel
theorem dL_offices_191 : decode cL_offices 191 = .ok (.if_icmp .lt 58, 3) := by decide +kernel
theorem dL_offices_194 : decode cL_offices 194 = .ok (.iload 8, 2) := by decide +kernel
theorem dL_offices_196 : decode cL_offices 196 = .ok (.aload_n 2, 1) := by decide +kernel
theorem dL_offices_197 : decode cL_offices 197 = .ok (.iconst 0, 1) := by decide +kernel
theorem dL_offices_198 : decode cL_offices 198 = .ok (.iaload, 1) := by decide +kernel
theorem dL_offices_199 : decode cL_offices 199 = .ok (.if_icmp .ge 50, 3) := by decide +kernel
theorem dL_offices_202 : decode cL_offices 202 = .ok (.iload 7, 2) := by decide +kernel
theorem dL_offices_204 : decode cL_offices 204 = .ok (.iconst (-1), 1) := by decide +kernel
theorem dL_offices_205 : decode cL_offices 205 = .ok (.if_icmp .ne 10, 3) := by decide +kernel
theorem dL_offices_208 : decode cL_offices 208 = .ok (.iload 9, 2) := by decide +kernel
theorem dL_offices_210 : decode cL_offices 210 = .ok (.iload 6, 2) := by decide +kernel
theorem dL_offices_212 : decode cL_offices 212 = .ok (.if_icmp .ne 37, 3) := by decide +kernel
theorem dL_offices_215 : decode cL_offices 215 = .ok (.aload_n 0, 1) := by decide +kernel
theorem dL_offices_216 : decode cL_offices 216 = .ok (.aload_n 1, 1) := by decide +kernel
theorem dL_offices_217 : decode cL_offices 217 = .ok (.iconst 2, 1) := by decide +kernel
theorem dL_offices_218 : decode cL_offices 218 = .ok (.iload 6, 2) := by decide +kernel
theorem dL_offices_220 : decode cL_offices 220 = .ok (.iload 7, 2) := by decide +kernel
theorem dL_offices_222 : decode cL_offices 222 = .ok (.iconst 0, 1) := by decide +kernel
theorem dL_offices_223 : decode cL_offices 223 = .ok (.invokestatic 126, 3) := by decide +kernel
theorem dL_offices_226 : decode cL_offices 226 = .ok (.iload 7, 2) := by decide +kernel
theorem dL_offices_228 : decode cL_offices 228 = .ok (.if_icmp .ne 21, 3) := by decide +kernel
theorem dL_offices_231 : decode cL_offices 231 = .ok (.aload_n 0, 1) := by decide +kernel
theorem dL_offices_232 : decode cL_offices 232 = .ok (.iload 6, 2) := by decide +kernel
theorem dL_offices_234 : decode cL_offices 234 = .ok (.aload_n 2, 1) := by decide +kernel
theorem dL_offices_235 : decode cL_offices 235 = .ok (.iconst 3, 1) := by decide +kernel
theorem dL_offices_236 : decode cL_offices 236 = .ok (.iaload, 1) := by decide +kernel
theorem dL_offices_237 : decode cL_offices 237 = .ok (.invokevirtual 38, 3) := by decide +kernel
theorem dL_offices_240 : decode cL_offices 240 = .ok (.iload 9, 2) := by decide +kernel
theorem dL_offices_242 : decode cL_offices 242 = .ok (.if_icmp .ne 7, 3) := by decide +kernel
theorem dL_offices_245 : decode cL_offices 245 = .ok (.iconst 1, 1) := by decide +kernel
theorem dL_offices_246 : decode cL_offices 246 = .ok (.goto 4, 3) := by decide +kernel
theorem dL_offices_249 : decode cL_offices 249 = .ok (.iconst 0, 1) := by decide +kernel
theorem dL_offices_250 : decode cL_offices 250 = .ok (.ireturn, 1) := by decide +kernel
theorem dL_offices_251 : decode cL_offices 251 = .ok (.iload 4, 2) := by decide +kernel
theorem dL_offices_253 : decode cL_offices 253 = .ok (.iconst 4, 1) := by decide +kernel
theorem dL_offices_254 : decode cL_offices 254 = .ok (.ishr, 1) := by decide +kernel
theorem dL_offices_255 : decode cL_offices 255 = .ok (.bipush 101, 2) := by decide +kernel
theorem dL_offices_257 : decode cL_offices 257 = .ok (.invokestatic 123, 3) := by decide +kernel
theorem dL_offices_260 : decode cL_offices 260 = .ok (.istore 7, 2) := by decide +kernel
theorem dL_offices_262 : decode cL_offices 262 = .ok (.iload 4, 2) := by decide +kernel
theorem dL_offices_264 : decode cL_offices 264 = .ok (.iconst 4, 1) := by decide +kernel
theorem dL_offices_265 : decode cL_offices 265 = .ok (.invokestatic 123, 3) := by decide +kernel
theorem dL_offices_268 : decode cL_offices 268 = .ok (.istore 8, 2) := by decide +kernel
theorem dL_offices_270 : decode cL_offices 270 = .ok (.aload_n 0, 1) := by decide +kernel
theorem dL_offices_271 : decode cL_offices 271 = .ok (.aload_n 1, 1) := by decide +kernel
theorem dL_offices_272 : decode cL_offices 272 = .ok (.iconst 4, 1) := by decide +kernel
theorem dL_offices_273 : decode cL_offices 273 = .ok (.iload 8, 2) := by decide +kernel
theorem dL_offices_275 : decode cL_offices 275 = .ok (.iload 7, 2) := by decide +kernel
theorem dL_offices_277 : decode cL_offices 277 = .ok (.iconst 0, 1) := by decide +kernel
theorem dL_offices_278 : decode cL_offices 278 = .ok (.invokestatic 126, 3) := by decide +kernel
theorem dL_offices_281 : decode cL_offices 281 = .ok (.istore 9, 2) := by decide +kernel
theorem dL_offices_283 : decode cL_offices 283 = .ok (.iload 9, 2) := by decide +kernel
theorem dL_offices_285 : decode cL_offices 285 = .ok (.ifCond .lt 30, 3) := by decide +kernel
theorem dL_offices_288 : decode cL_offices 288 = .ok (.iload 9, 2) := by decide +kernel
theorem dL_offices_290 : decode cL_offices 290 = .ok (.bipush 100, 2) := by decide +kernel
theorem dL_offices_292 : decode cL_offices 292 = .ok (.if_icmp .gt 23, 3) := by decide +kernel
theorem dL_offices_295 : decode cL_offices 295 = .ok (.aload_n 0, 1) := by decide +kernel
theorem dL_offices_296 : decode cL_offices 296 = .ok (.aload_n 1, 1) := by decide +kernel
theorem dL_offices_297 : decode cL_offices 297 = .ok (.iconst 4, 1) := by decide +kernel
theorem dL_offices_298 : decode cL_offices 298 = .ok (.iload 8, 2) := by decide +kernel
theorem dL_offices_300 : decode cL_offices 300 = .ok (.iload 7, 2) := by decide +kernel
theorem dL_offices_302 : decode cL_offices 302 = .ok (.iconst 0, 1) := by decide +kernel
theorem dL_offices_303 : decode cL_offices 303 = .ok (.invokestatic 126, 3) := by decide +kernel
theorem dL_offices_306 : decode cL_offices 306 = .ok (.iload 7, 2) := by decide +kernel
theorem dL_offices_308 : decode cL_offices 308 = .ok (.if_icmp .ne 7, 3) := by decide +kernel
theorem dL_offices_311 : decode cL_offices 311 = .ok (.iconst 1, 1) := by decide +kernel
theorem dL_offices_312 : decode cL_offices 312 = .ok (.goto 4, 3) := by decide +kernel
theorem dL_offices_315 : decode cL_offices 315 = .ok (.iconst 0, 1) := by decide +kernel
theorem dL_offices_316 : decode cL_offices 316 = .ok (.ireturn, 1) := by decide +kernel
set_option maxRecDepth 20000 in
theorem ggL_acts_L_some : GoodIn wsL_acts wsL_some := goodIn_r _ [7] (by decide +kernel) (by decide +kernel)
set_option maxRecDepth 20000 in
theorem gL_acts_L_some : GoodIn wsL_acts (va_wsS RL 123 yL_some wsL_some) := goodIn_app (goodIn_of _ (by decide +kernel)) ggL_acts_L_some
set_option maxRecDepth 20000 in
theorem cggL_acts_L_kind_1 : GoodIn wsL_acts wsL_kind_r1 := goodIn_r _ [11, 12, 13, 14, 15, 6, 16, 17, 18, 19, 20, 21, 22, 3, 2, 1, 23, 24, 25, 26, 27, 28, 29, 30] (by decide +kernel) (by decide +kernel)
set_option maxRecDepth 20000 in
theorem cggL_acts_L_kind_2 : GoodIn wsL_acts wsL_kind_r2 := goodIn_r _ [31, 32, 33, 34, 35, 36, 37, 38, 39, 40, 41, 42, 43, 44, 45, 46, 47, 48, 49, 50, 51, 52, 53, 54] (by decide +kernel) (by decide +kernel)
set_option maxRecDepth 20000 in
theorem cggL_acts_L_kind_3 : GoodIn wsL_acts wsL_kind_r3 := goodIn_r _ [55, 56, 57, 58, 59, 60, 61, 62, 63, 64, 65, 66, 67, 68, 69, 70, 71, 72, 73, 74, 75, 76, 77, 78] (by decide +kernel) (by decide +kernel)
set_option maxRecDepth 20000 in
theorem cggL_acts_L_kind_4 : GoodIn wsL_acts wsL_kind_r4 := goodIn_r _ [79, 80, 81, 82, 83, 84, 85, 86, 87, 88, 89, 90, 91, 92, 93, 94, 95, 96, 97, 98, 99, 100, 101, 102] (by decide +kernel) (by decide +kernel)
set_option maxRecDepth 20000 in
theorem cggL_acts_L_kind_5 : GoodIn wsL_acts wsL_kind_r5 := goodIn_r _ [103, 104, 105, 106, 107, 108, 109, 110, 111, 112, 113, 114, 115, 116, 117, 118, 119, 120, 121, 122, 123, 124, 125, 126] (by decide +kernel) (by decide +kernel)
set_option maxRecDepth 20000 in
theorem cggL_acts_L_kind_6 : GoodIn wsL_acts wsL_kind_r6 := goodIn_r _ [127, 128, 129, 130, 131, 132, 133, 134, 135, 136, 137, 138, 139, 140, 141, 142, 143, 144, 145, 146, 147, 148, 149, 150] (by decide +kernel) (by decide +kernel)
set_option maxRecDepth 20000 in
theorem cggL_acts_L_kind_7 : GoodIn wsL_acts wsL_kind_r7 := goodIn_r _ [151, 152, 153, 154, 155, 156, 157, 158, 159, 160, 161, 162, 163, 164, 165, 166, 167, 168, 169, 170, 171, 172, 173, 174] (by decide +kernel) (by decide +kernel)
set_option maxRecDepth 20000 in
theorem cggL_acts_L_kind_8 : GoodIn wsL_acts wsL_kind_r8 := goodIn_r _ [175, 176, 177, 178, 179, 180, 181, 182, 183, 184, 185, 186, 187, 188, 189, 190, 191, 192, 193, 194, 195, 196, 197, 198] (by decide +kernel) (by decide +kernel)
set_option maxRecDepth 20000 in
theorem cggL_acts_L_kind_9 : GoodIn wsL_acts wsL_kind_r9 := goodIn_r _ [199, 200, 201, 202, 203, 204, 205, 206, 207, 208, 209, 210, 211, 212, 213, 214, 215, 216, 217, 218, 219, 220, 221, 222] (by decide +kernel) (by decide +kernel)
set_option maxRecDepth 20000 in
theorem cggL_acts_L_kind_10 : GoodIn wsL_acts wsL_kind_r10 := goodIn_r _ [223, 224, 225, 226, 227, 228, 229, 230, 231, 232, 233, 234, 235, 236, 237, 238, 239, 240, 241, 242, 243, 244, 245, 246] (by decide +kernel) (by decide +kernel)
set_option maxRecDepth 20000 in
theorem cggL_acts_L_kind_11 : GoodIn wsL_acts wsL_kind_r11 := goodIn_r _ [247, 248, 249, 250, 251, 252, 253, 254, 255, 256, 257, 258, 259, 260, 261, 262, 263, 264, 265, 266, 267, 268, 269, 270] (by decide +kernel) (by decide +kernel)
set_option maxRecDepth 20000 in
theorem cggL_acts_L_kind_12 : GoodIn wsL_acts wsL_kind_r12 := goodIn_r _ [271, 272, 273, 274, 275, 276, 277, 278, 279, 280, 281, 282, 283, 284, 285, 286, 287, 288, 289, 290, 291, 292, 293, 294] (by decide +kernel) (by decide +kernel)
set_option maxRecDepth 20000 in
theorem cggL_acts_L_kind_13 : GoodIn wsL_acts wsL_kind_r13 := goodIn_r _ [295, 296, 297, 298, 299, 300, 301, 302, 303, 304, 305, 306, 307, 308, 309, 310, 311, 312, 313, 314, 315, 316, 317, 318] (by decide +kernel) (by decide +kernel)
set_option maxRecDepth 20000 in
theorem cggL_acts_L_kind_14 : GoodIn wsL_acts wsL_kind_r14 := goodIn_r _ [319, 320, 321, 322] (by decide +kernel) (by decide +kernel)
set_option maxRecDepth 20000 in
theorem ggL_acts_L_kind : GoodIn wsL_acts wsL_kind := goodIn_ca (goodIn_ca (goodIn_ca (goodIn_hd (goodIn_r _ [10] (by decide +kernel) (by decide +kernel)) (goodIn_app (goodIn_app (goodIn_app (goodIn_app (goodIn_app cggL_acts_L_kind_1 (goodIn_app cggL_acts_L_kind_2 (goodIn_app cggL_acts_L_kind_3 (goodIn_app cggL_acts_L_kind_4 (goodIn_app cggL_acts_L_kind_5 (goodIn_app cggL_acts_L_kind_6 (goodIn_app cggL_acts_L_kind_7 (goodIn_app cggL_acts_L_kind_8 (goodIn_app cggL_acts_L_kind_9 (goodIn_app cggL_acts_L_kind_10 (goodIn_app cggL_acts_L_kind_11 (goodIn_app cggL_acts_L_kind_12 (goodIn_app cggL_acts_L_kind_13 (cggL_acts_L_kind_14)))))))))))))) (goodIn_r _ [327, 328, 329, 330, 331, 332, 333, 334, 335, 336, 337] (by decide +kernel) (by decide +kernel))) (goodIn_r _ [338, 339, 340, 341] (by decide +kernel) (by decide +kernel))) (goodIn_r _ [342, 343, 344, 345, 346, 347, 348, 349, 350] (by decide +kernel) (by decide +kernel))) (goodIn_r _ [351, 352, 353, 354, 355, 356, 357, 358] (by decide +kernel) (by decide +kernel)))) (goodIn_sub (fun _ h => List.mem_cons_of_mem _ (List.mem_append_left _ (List.mem_append_left _ (List.mem_append_right _ h)))) (by decide +kernel))) (goodIn_sub (fun _ h => List.mem_cons_of_mem _ (List.mem_append_left _ (List.mem_append_right _ h))) (by decide +kernel))) (goodIn_sub (fun _ h => List.mem_cons_of_mem _ (List.mem_append_right _ h)) (by decide +kernel))
set_option maxRecDepth 20000 in
theorem gL_acts_L_kind : GoodIn wsL_acts (va_wsS RL 130 yL_kind wsL_kind) := goodIn_app (goodIn_of _ (by decide +kernel)) ggL_acts_L_kind
set_option maxRecDepth 20000 in
theorem cggL_acts_L_both_1 : GoodIn wsL_acts wsL_both_r1 := goodIn_r _ [326, 17, 18, 6, 19, 20, 21, 22, 3, 2, 1, 23, 24, 25, 26, 27, 28, 29, 30, 31, 32, 33, 34, 35] (by decide +kernel) (by decide +kernel)
set_option maxRecDepth 20000 in
theorem cggL_acts_L_both_2 : GoodIn wsL_acts wsL_both_r2 := goodIn_r _ [36, 37, 38, 39, 40, 41, 42, 43, 44, 45, 46, 47, 48, 49, 50, 51, 52, 53, 54, 55, 56, 57, 58, 59] (by decide +kernel) (by decide +kernel)
set_option maxRecDepth 20000 in
theorem cggL_acts_L_both_3 : GoodIn wsL_acts wsL_both_r3 := goodIn_r _ [60, 61, 62, 63, 64, 65, 66, 67, 68, 69, 70, 71, 72, 73, 74, 75, 76, 77, 78, 79, 80, 81, 82, 83] (by decide +kernel) (by decide +kernel)
set_option maxRecDepth 20000 in
theorem cggL_acts_L_both_4 : GoodIn wsL_acts wsL_both_r4 := goodIn_r _ [84, 85, 86, 87, 88, 89, 90, 91, 92, 93, 94, 95, 96, 97, 98, 99, 100, 101, 102, 103, 104, 105, 106, 107] (by decide +kernel) (by decide +kernel)
set_option maxRecDepth 20000 in
theorem cggL_acts_L_both_5 : GoodIn wsL_acts wsL_both_r5 := goodIn_r _ [108, 109, 110, 111, 112, 113, 114, 115, 116, 117, 118, 119, 120, 121, 122, 123, 124, 125, 126, 127, 128, 129, 130, 131] (by decide +kernel) (by decide +kernel)
set_option maxRecDepth 20000 in
theorem cggL_acts_L_both_6 : GoodIn wsL_acts wsL_both_r6 := goodIn_r _ [132, 133, 134, 135, 136, 137, 138, 139, 140, 141, 142, 143, 144, 145, 146, 147, 148, 149, 150, 151, 152, 153, 154, 155] (by decide +kernel) (by decide +kernel)
set_option maxRecDepth 20000 in
theorem cggL_acts_L_both_7 : GoodIn wsL_acts wsL_both_r7 := goodIn_r _ [156, 157, 158, 159, 160, 161, 162, 163, 164, 165, 166, 167, 168, 169, 170, 171, 172, 173, 174, 175, 176, 177, 178, 179] (by decide +kernel) (by decide +kernel)
set_option maxRecDepth 20000 in
theorem cggL_acts_L_both_8 : GoodIn wsL_acts wsL_both_r8 := goodIn_r _ [180, 181, 182, 183, 184, 185, 186, 187, 188, 189, 190, 191, 192, 193, 194, 195, 196, 197, 198, 199, 200, 201, 202, 203] (by decide +kernel) (by decide +kernel)
set_option maxRecDepth 20000 in
theorem cggL_acts_L_both_9 : GoodIn wsL_acts wsL_both_r9 := goodIn_r _ [204, 205, 206, 207, 208, 209, 210, 211, 212, 213, 214, 215, 216, 217, 218, 219, 220, 221, 222, 223, 224, 225, 226, 227] (by decide +kernel) (by decide +kernel)
set_option maxRecDepth 20000 in
theorem cggL_acts_L_both_10 : GoodIn wsL_acts wsL_both_r10 := goodIn_r _ [228, 229, 230, 231, 232, 233, 234, 235, 236, 237, 238, 239, 240, 241, 242, 243, 244, 245, 246, 247, 248, 249, 250, 251] (by decide +kernel) (by decide +kernel)
set_option maxRecDepth 20000 in
theorem cggL_acts_L_both_11 : GoodIn wsL_acts wsL_both_r11 := goodIn_r _ [252, 253, 254, 255, 256, 257, 258, 259, 260, 261, 262, 263, 264, 265, 266, 267, 268, 269, 270, 271, 272, 273, 274, 275] (by decide +kernel) (by decide +kernel)
set_option maxRecDepth 20000 in
theorem cggL_acts_L_both_12 : GoodIn wsL_acts wsL_both_r12 := goodIn_r _ [276, 277, 278, 279, 280, 281, 282, 283, 284, 285, 286, 287, 288, 289, 290, 291, 292, 293, 294, 295, 296, 297, 298, 299] (by decide +kernel) (by decide +kernel)
set_option maxRecDepth 20000 in
theorem cggL_acts_L_both_13 : GoodIn wsL_acts wsL_both_r13 := goodIn_r _ [300, 301, 302, 303, 304, 305, 306, 307, 308, 309, 310, 311, 312, 313, 314, 315, 316, 317, 318, 319, 320, 321, 322] (by decide +kernel) (by decide +kernel)
set_option maxRecDepth 20000 in
theorem ggL_acts_L_both : GoodIn wsL_acts wsL_both := goodIn_ca (goodIn_ca (goodIn_ca (goodIn_hd (goodIn_r _ [325] (by decide +kernel) (by decide +kernel)) (goodIn_app (goodIn_app (goodIn_app (goodIn_app (goodIn_app cggL_acts_L_both_1 (goodIn_app cggL_acts_L_both_2 (goodIn_app cggL_acts_L_both_3 (goodIn_app cggL_acts_L_both_4 (goodIn_app cggL_acts_L_both_5 (goodIn_app cggL_acts_L_both_6 (goodIn_app cggL_acts_L_both_7 (goodIn_app cggL_acts_L_both_8 (goodIn_app cggL_acts_L_both_9 (goodIn_app cggL_acts_L_both_10 (goodIn_app cggL_acts_L_both_11 (goodIn_app cggL_acts_L_both_12 (cggL_acts_L_both_13))))))))))))) (goodIn_r _ [327, 328, 329, 330, 331, 332, 333, 334, 335, 336, 337] (by decide +kernel) (by decide +kernel))) (goodIn_r _ [338, 339, 340, 341] (by decide +kernel) (by decide +kernel))) (goodIn_r _ [342, 343, 344, 345, 346, 347, 348, 349, 350] (by decide +kernel) (by decide +kernel))) (goodIn_r _ [351, 352, 353, 354, 355, 356, 357, 358] (by decide +kernel) (by decide +kernel)))) (goodIn_sub (fun _ h => List.mem_cons_of_mem _ (List.mem_append_left _ (List.mem_append_left _ (List.mem_append_right _ h)))) (by decide +kernel))) (goodIn_sub (fun _ h => List.mem_cons_of_mem _ (List.mem_append_left _ (List.mem_append_right _ h))) (by decide +kernel))) (goodIn_sub (fun _ h => List.mem_cons_of_mem _ (List.mem_append_right _ h)) (by decide +kernel))
set_option maxRecDepth 20000 in
theorem gL_acts_L_both : GoodIn wsL_acts (va_wsS RL 126 yL_both wsL_both) := goodIn_app (goodIn_of _ (by decide +kernel)) ggL_acts_L_both
set_option maxRecDepth 20000 in
theorem ggL_acts_X3_remedied : GoodIn wsL_acts wsX3_remedied := goodIn_ca (goodIn_r _ [317, 87, 88, 318, 43, 44, 29, 45, 46, 47, 327, 328, 329, 330, 331, 332, 333, 334, 335, 336, 337, 342, 343, 344, 345, 346, 347, 348, 349, 350] (by decide +kernel) (by decide +kernel)) (goodIn_sub (fun _ h => List.mem_cons_of_mem _ (List.mem_append_right _ h)) (by decide +kernel))
set_option maxRecDepth 20000 in
theorem gL_acts_X3_remedied : GoodIn wsL_acts (wsV RL 96 RX3 yX3_remedied wsX3_remedied) := goodIn_app (goodIn_of _ (by decide +kernel)) ggL_acts_X3_remedied
set_option maxRecDepth 20000 in
theorem ggL_acts_X3_bar : GoodIn wsL_acts wsX3_bar := goodIn_ca (goodIn_r _ [177, 87, 88, 53, 43, 44, 29, 45, 46, 47, 178, 179, 180, 152, 181, 182, 183, 156, 184, 327, 328, 329, 330, 331, 332, 333, 334, 335, 336, 337, 342, 343, 344, 345, 346, 347, 348, 349, 350] (by decide +kernel) (by decide +kernel)) (goodIn_sub (fun _ h => List.mem_cons_of_mem _ (List.mem_append_right _ h)) (by decide +kernel))
set_option maxRecDepth 20000 in
theorem gL_acts_X3_bar : GoodIn wsL_acts (wsV RL 59 RX3 yX3_bar wsX3_bar) := goodIn_app (goodIn_of _ (by decide +kernel)) ggL_acts_X3_bar
set_option maxRecDepth 20000 in
theorem cggL_acts_L_call_1 : GoodIn wsL_acts wsL_call_r1 := goodIn_r _ [20, 21, 22, 3, 2, 1, 23, 24, 6, 25, 26, 27, 28, 29, 30, 31, 32, 33, 34, 35, 36, 37, 38, 39] (by decide +kernel) (by decide +kernel)
set_option maxRecDepth 20000 in
theorem cggL_acts_L_call_2 : GoodIn wsL_acts wsL_call_r2 := goodIn_r _ [40, 41, 42, 43, 44, 45, 46, 47, 48, 49, 50, 51, 52, 53, 54, 55, 56, 57, 58, 59, 60, 61, 62, 63] (by decide +kernel) (by decide +kernel)
set_option maxRecDepth 20000 in
theorem cggL_acts_L_call_3 : GoodIn wsL_acts wsL_call_r3 := goodIn_r _ [64, 65, 66, 67, 68, 69, 70, 71, 72, 73, 74, 75, 76, 77, 78, 79, 80, 81, 82, 83, 84, 85, 86, 87] (by decide +kernel) (by decide +kernel)
set_option maxRecDepth 20000 in
theorem cggL_acts_L_call_4 : GoodIn wsL_acts wsL_call_r4 := goodIn_r _ [88, 89, 90, 91, 92, 93, 94, 95, 96, 97, 98, 99, 100, 101, 102, 103, 104, 105, 106, 107, 108, 109, 110, 111] (by decide +kernel) (by decide +kernel)
set_option maxRecDepth 20000 in
theorem cggL_acts_L_call_5 : GoodIn wsL_acts wsL_call_r5 := goodIn_r _ [112, 113, 114, 115, 116, 117, 118, 119, 120, 121, 122, 123, 124, 125, 126, 127, 128, 129, 130, 131, 132, 133, 134, 135] (by decide +kernel) (by decide +kernel)
set_option maxRecDepth 20000 in
theorem cggL_acts_L_call_6 : GoodIn wsL_acts wsL_call_r6 := goodIn_r _ [136, 137, 138, 139, 140, 141, 142, 143, 144, 145, 146, 147, 148, 149, 150, 151, 152, 153, 154, 155, 156, 157, 158, 159] (by decide +kernel) (by decide +kernel)
set_option maxRecDepth 20000 in
theorem cggL_acts_L_call_7 : GoodIn wsL_acts wsL_call_r7 := goodIn_r _ [160, 161, 162, 163, 164, 165, 166, 167, 168, 169, 170, 171, 172, 173, 174, 175, 176, 177, 178, 179, 180, 181, 182, 183] (by decide +kernel) (by decide +kernel)
set_option maxRecDepth 20000 in
theorem cggL_acts_L_call_8 : GoodIn wsL_acts wsL_call_r8 := goodIn_r _ [184, 185, 186, 187, 188, 189, 190, 191, 192, 193, 194, 195, 196, 197, 198, 199, 200, 201, 202, 203, 204, 205, 206, 207] (by decide +kernel) (by decide +kernel)
set_option maxRecDepth 20000 in
theorem cggL_acts_L_call_9 : GoodIn wsL_acts wsL_call_r9 := goodIn_r _ [208, 209, 210, 211, 212, 213, 214, 215, 216, 217, 218, 219, 220, 221, 222, 223, 224, 225, 226, 227, 228, 229, 230, 231] (by decide +kernel) (by decide +kernel)
set_option maxRecDepth 20000 in
theorem cggL_acts_L_call_10 : GoodIn wsL_acts wsL_call_r10 := goodIn_r _ [232, 233, 234, 235, 236, 237, 238, 239, 240, 241, 242, 243, 244, 245, 246, 247, 248, 249, 250, 251, 252, 253, 254, 255] (by decide +kernel) (by decide +kernel)
set_option maxRecDepth 20000 in
theorem cggL_acts_L_call_11 : GoodIn wsL_acts wsL_call_r11 := goodIn_r _ [256, 257, 258, 259, 260, 261, 262, 263, 264, 265, 266, 267, 268, 269, 270, 271, 272, 273, 274, 275, 276, 277, 278, 279] (by decide +kernel) (by decide +kernel)
set_option maxRecDepth 20000 in
theorem cggL_acts_L_call_12 : GoodIn wsL_acts wsL_call_r12 := goodIn_r _ [280, 281, 282, 283, 284, 285, 286, 287, 288, 289, 290, 291, 292, 293, 294, 295, 296, 297, 298, 299, 300, 301, 302, 303] (by decide +kernel) (by decide +kernel)
set_option maxRecDepth 20000 in
theorem cggL_acts_L_call_13 : GoodIn wsL_acts wsL_call_r13 := goodIn_r _ [304, 305, 306, 307, 308, 309, 310, 311, 312, 313, 314, 315, 316, 317, 318, 319, 320, 321, 322] (by decide +kernel) (by decide +kernel)
set_option maxRecDepth 20000 in
theorem ggL_acts_L_call : GoodIn wsL_acts wsL_call := goodIn_ca (goodIn_ca (goodIn_ca (goodIn_hd (goodIn_r _ [19] (by decide +kernel) (by decide +kernel)) (goodIn_app (goodIn_app (goodIn_app (goodIn_app (goodIn_app cggL_acts_L_call_1 (goodIn_app cggL_acts_L_call_2 (goodIn_app cggL_acts_L_call_3 (goodIn_app cggL_acts_L_call_4 (goodIn_app cggL_acts_L_call_5 (goodIn_app cggL_acts_L_call_6 (goodIn_app cggL_acts_L_call_7 (goodIn_app cggL_acts_L_call_8 (goodIn_app cggL_acts_L_call_9 (goodIn_app cggL_acts_L_call_10 (goodIn_app cggL_acts_L_call_11 (goodIn_app cggL_acts_L_call_12 (cggL_acts_L_call_13))))))))))))) (goodIn_r _ [327, 328, 329, 330, 331, 332, 333, 334, 335, 336, 337] (by decide +kernel) (by decide +kernel))) (goodIn_r _ [338, 339, 340, 341] (by decide +kernel) (by decide +kernel))) (goodIn_r _ [342, 343, 344, 345, 346, 347, 348, 349, 350] (by decide +kernel) (by decide +kernel))) (goodIn_r _ [351, 352, 353, 354, 355, 356, 357, 358] (by decide +kernel) (by decide +kernel)))) (goodIn_sub (fun _ h => List.mem_cons_of_mem _ (List.mem_append_left _ (List.mem_append_left _ (List.mem_append_right _ h)))) (by decide +kernel))) (goodIn_sub (fun _ h => List.mem_cons_of_mem _ (List.mem_append_left _ (List.mem_append_right _ h))) (by decide +kernel))) (goodIn_sub (fun _ h => List.mem_cons_of_mem _ (List.mem_append_right _ h)) (by decide +kernel))
set_option maxRecDepth 20000 in
theorem gL_acts_L_call : GoodIn wsL_acts (va_wsS RL 102 yL_call wsL_call) := goodIn_app (goodIn_of _ (by decide +kernel)) ggL_acts_L_call
theorem dL_acts_0 : decode cL_acts 0 = .ok (.iload_n 3, 1) := by decide +kernel
theorem dL_acts_1 : decode cL_acts 1 = .ok (.bipush 8, 2) := by decide +kernel
theorem dL_acts_3 : decode cL_acts 3 = .ok (.invokestatic 123, 3) := by decide +kernel
theorem dL_acts_6 : decode cL_acts 6 = .ok (.istore 5, 2) := by decide +kernel
theorem dL_acts_8 : decode cL_acts 8 = .ok (.iload 5, 2) := by decide +kernel
theorem dL_acts_10 : decode cL_acts 10 = .ok (.iconst 4, 1) := by decide +kernel
theorem dL_acts_11 : decode cL_acts 11 = .ok (.if_icmp .ge 192, 3) := by decide +kernel
theorem dL_acts_14 : decode cL_acts 14 = .ok (.aload_n 2, 1) := by decide +kernel
theorem dL_acts_15 : decode cL_acts 15 = .ok (.iconst 0, 1) := by decide +kernel
theorem dL_acts_16 : decode cL_acts 16 = .ok (.iaload, 1) := by decide +kernel
theorem dL_acts_17 : decode cL_acts 17 = .ok (.ifCond .le 186, 3) := by decide +kernel
theorem dL_acts_20 : decode cL_acts 20 = .ok (.iload 4, 2) := by decide +kernel
theorem dL_acts_22 : decode cL_acts 22 = .ok (.iconst 4, 1) := by decide +kernel
theorem dL_acts_23 : decode cL_acts 23 = .ok (.invokestatic 123, 3) := by decide +kernel
theorem dL_acts_26 : decode cL_acts 26 = .ok (.istore 6, 2) := by decide +kernel
theorem dL_acts_28 : decode cL_acts 28 = .ok (.aload_n 2, 1) := by decide +kernel
theorem dL_acts_29 : decode cL_acts 29 = .ok (.iconst 1, 1) := by decide +kernel
theorem dL_acts_30 : decode cL_acts 30 = .ok (.iaload, 1) := by decide +kernel
theorem dL_acts_31 : decode cL_acts 31 = .ok (.bipush 24, 2) := by decide +kernel
theorem dL_acts_33 : decode cL_acts 33 = .ok (.if_icmp .eq 21, 3) := by decide +kernel
theorem dL_acts_36 : decode cL_acts 36 = .ok (.aload_n 0, 1) := by decide +kernel
theorem dL_acts_37 : decode cL_acts 37 = .ok (.iload 6, 2) := by decide +kernel
theorem dL_acts_39 : decode cL_acts 39 = .ok (.invokestatic 130, 3) := by decide +kernel
theorem dL_acts_42 : decode cL_acts 42 = .ok (.ifCond .eq 16, 3) := by decide +kernel
theorem dL_acts_45 : decode cL_acts 45 = .ok (.aload_n 1, 1) := by decide +kernel
theorem dL_acts_46 : decode cL_acts 46 = .ok (.iload 6, 2) := by decide +kernel
theorem dL_acts_48 : decode cL_acts 48 = .ok (.invokestatic 130, 3) := by decide +kernel
theorem dL_acts_51 : decode cL_acts 51 = .ok (.ifCond .eq 7, 3) := by decide +kernel
theorem dL_acts_54 : decode cL_acts 54 = .ok (.iconst 1, 1) := by decide +kernel
theorem dL_acts_55 : decode cL_acts 55 = .ok (.goto 4, 3) := by decide +kernel
theorem dL_acts_58 : decode cL_acts 58 = .ok (.iconst 0, 1) := by decide +kernel
theorem dL_acts_59 : decode cL_acts 59 = .ok (.istore 7, 2) := by decide +kernel
theorem dL_acts_61 : decode cL_acts 61 = .ok (.iload 4, 2) := by decide +kernel
theorem dL_acts_63 : decode cL_acts 63 = .ok (.iconst 3, 1) := by decide +kernel
theorem dL_acts_64 : decode cL_acts 64 = .ok (.ishr, 1) := by decide +kernel
theorem dL_acts_65 : decode cL_acts 65 = .ok (.aload_n 2, 1) := by decide +kernel
theorem dL_acts_66 : decode cL_acts 66 = .ok (.iconst 0, 1) := by decide +kernel
theorem dL_acts_67 : decode cL_acts 67 = .ok (.iaload, 1) := by decide +kernel
theorem dL_acts_68 : decode cL_acts 68 = .ok (.invokestatic 123, 3) := by decide +kernel
theorem dL_acts_71 : decode cL_acts 71 = .ok (.istore 8, 2) := by decide +kernel
theorem dL_acts_73 : decode cL_acts 73 = .ok (.iload 4, 2) := by decide +kernel
theorem dL_acts_75 : decode cL_acts 75 = .ok (.bipush 6, 2) := by decide +kernel
theorem dL_acts_77 : decode cL_acts 77 = .ok (.ishr, 1) := by decide +kernel
theorem dL_acts_78 : decode cL_acts 78 = .ok (.bipush 101, 2) := by decide +kernel
theorem dL_acts_80 : decode cL_acts 80 = .ok (.invokestatic 123, 3) := by decide +kernel
theorem dL_acts_83 : decode cL_acts 83 = .ok (.istore 9, 2) := by decide +kernel
theorem dL_acts_85 : decode cL_acts 85 = .ok (.aload_n 2, 1) := by decide +kernel
theorem dL_acts_86 : decode cL_acts 86 = .ok (.iconst 1, 1) := by decide +kernel
theorem dL_acts_87 : decode cL_acts 87 = .ok (.iaload, 1) := by decide +kernel
theorem dL_acts_88 : decode cL_acts 88 = .ok (.bipush 24, 2) := by decide +kernel
theorem dL_acts_90 : decode cL_acts 90 = .ok (.if_icmp .ne 26, 3) := by decide +kernel
theorem dL_acts_93 : decode cL_acts 93 = .ok (.aload_n 0, 1) := by decide +kernel
theorem dL_acts_94 : decode cL_acts 94 = .ok (.aload_n 1, 1) := by decide +kernel
theorem dL_acts_95 : decode cL_acts 95 = .ok (.iconst 5, 1) := by decide +kernel
theorem dL_acts_96 : decode cL_acts 96 = .ok (.iload 8, 2) := by decide +kernel
theorem dL_acts_98 : decode cL_acts 98 = .ok (.iload 9, 2) := by decide +kernel
theorem dL_acts_100 : decode cL_acts 100 = .ok (.bipush 7, 2) := by decide +kernel
theorem dL_acts_102 : decode cL_acts 102 = .ok (.invokestatic 126, 3) := by decide +kernel
theorem dL_acts_105 : decode cL_acts 105 = .ok (.ldc 23, 2) := by decide +kernel
theorem dL_acts_107 : decode cL_acts 107 = .ok (.if_icmp .ne 7, 3) := by decide +kernel
theorem dL_acts_110 : decode cL_acts 110 = .ok (.iconst 1, 1) := by decide +kernel
theorem dL_acts_111 : decode cL_acts 111 = .ok (.goto 4, 3) := by decide +kernel
theorem dL_acts_114 : decode cL_acts 114 = .ok (.iconst 0, 1) := by decide +kernel
theorem dL_acts_115 : decode cL_acts 115 = .ok (.ireturn, 1) := by decide +kernel
theorem dL_acts_116 : decode cL_acts 116 = .ok (.aload_n 0, 1) := by decide +kernel
theorem dL_acts_117 : decode cL_acts 117 = .ok (.aload_n 1, 1) := by decide +kernel
theorem dL_acts_118 : decode cL_acts 118 = .ok (.iconst 5, 1) := by decide +kernel
theorem dL_acts_119 : decode cL_acts 119 = .ok (.iload 8, 2) := by decide +kernel
theorem dL_acts_121 : decode cL_acts 121 = .ok (.iload 9, 2) := by decide +kernel
theorem dL_acts_123 : decode cL_acts 123 = .ok (.iload 4, 2) := by decide +kernel
theorem dL_acts_125 : decode cL_acts 125 = .ok (.bipush 9, 2) := by decide +kernel
theorem dL_acts_127 : decode cL_acts 127 = .ok (.ishr, 1) := by decide +kernel
theorem dL_acts_128 : decode cL_acts 128 = .ok (.sipush 1001, 3) := by decide +kernel
theorem dL_acts_131 : decode cL_acts 131 = .ok (.invokestatic 123, 3) := by decide +kernel
theorem dL_acts_134 : decode cL_acts 134 = .ok (.invokestatic 126, 3) := by decide +kernel
theorem dL_acts_137 : decode cL_acts 137 = .ok (.istore 10, 2) := by decide +kernel
theorem dL_acts_139 : decode cL_acts 139 = .ok (.aload_n 2, 1) := by decide +kernel
theorem dL_acts_140 : decode cL_acts 140 = .ok (.iconst 1, 1) := by decide +kernel
theorem dL_acts_141 : decode cL_acts 141 = .ok (.dup2, 1) := by decide +kernel
theorem dL_acts_142 : decode cL_acts 142 = .ok (.iaload, 1) := by decide +kernel
theorem dL_acts_143 : decode cL_acts 143 = .ok (.iconst 1, 1) := by decide +kernel
theorem dL_acts_144 : decode cL_acts 144 = .ok (.iadd, 1) := by decide +kernel
theorem dL_acts_145 : decode cL_acts 145 = .ok (.iastore, 1) := by decide +kernel
theorem dL_acts_146 : decode cL_acts 146 = .ok (.iload 7, 2) := by decide +kernel
theorem dL_acts_148 : decode cL_acts 148 = .ok (.ifCond .eq 53, 3) := by decide +kernel
theorem dL_acts_151 : decode cL_acts 151 = .ok (.iload 10, 2) := by decide +kernel
theorem dL_acts_153 : decode cL_acts 153 = .ok (.aload_n 2, 1) := by decide +kernel
theorem dL_acts_154 : decode cL_acts 154 = .ok (.iconst 1, 1) := by decide +kernel
theorem dL_acts_155 : decode cL_acts 155 = .ok (.iaload, 1) := by decide +kernel
theorem dL_acts_156 : decode cL_acts 156 = .ok (.iconst 1, 1) := by decide +kernel
theorem dL_acts_157 : decode cL_acts 157 = .ok (.isub, 1) := by decide +kernel
theorem dL_acts_158 : decode cL_acts 158 = .ok (.if_icmp .ne 43, 3) := by decide +kernel
theorem dL_acts_161 : decode cL_acts 161 = .ok (.aload_n 0, 1) := by decide +kernel
theorem dL_acts_162 : decode cL_acts 162 = .ok (.iload 10, 2) := by decide +kernel
theorem dL_acts_164 : decode cL_acts 164 = .ok (.invokevirtual 96, 3) := by decide +kernel
theorem dL_acts_167 : decode cL_acts 167 = .ok (.iconst (-1), 1) := by decide +kernel
theorem dL_acts_168 : decode cL_acts 168 = .ok (.if_icmp .ne 33, 3) := by decide +kernel
theorem dL_acts_171 : decode cL_acts 171 = .ok (.aload_n 0, 1) := by decide +kernel
theorem dL_acts_172 : decode cL_acts 172 = .ok (.iconst 0, 1) := by decide +kernel
theorem dL_acts_173 : decode cL_acts 173 = .ok (.iload 10, 2) := by decide +kernel
theorem dL_acts_175 : decode cL_acts 175 = .ok (.invokevirtual 59, 3) := by decide +kernel
theorem dL_acts_178 : decode cL_acts 178 = .ok (.iconst 1, 1) := by decide +kernel
theorem dL_acts_179 : decode cL_acts 179 = .ok (.if_icmp .ne 22, 3) := by decide +kernel
theorem dL_acts_182 : decode cL_acts 182 = .ok (.aload_n 0, 1) := by decide +kernel
theorem dL_acts_183 : decode cL_acts 183 = .ok (.iconst 5, 1) := by decide +kernel
theorem dL_acts_184 : decode cL_acts 184 = .ok (.iload 8, 2) := by decide +kernel
theorem dL_acts_186 : decode cL_acts 186 = .ok (.bipush 101, 2) := by decide +kernel
theorem dL_acts_188 : decode cL_acts 188 = .ok (.iconst 0, 1) := by decide +kernel
theorem dL_acts_189 : decode cL_acts 189 = .ok (.invokestatic 102, 3) := by decide +kernel
theorem dL_acts_192 : decode cL_acts 192 = .ok (.ldc 20, 2) := by decide +kernel
theorem dL_acts_194 : decode cL_acts 194 = .ok (.if_icmp .ne 7, 3) := by decide +kernel
theorem dL_acts_197 : decode cL_acts 197 = .ok (.iconst 1, 1) := by decide +kernel
theorem dL_acts_198 : decode cL_acts 198 = .ok (.goto 4, 3) := by decide +kernel
theorem dL_acts_201 : decode cL_acts 201 = .ok (.iconst 0, 1) := by decide +kernel
theorem dL_acts_202 : decode cL_acts 202 = .ok (.ireturn, 1) := by decide +kernel
theorem dL_acts_203 : decode cL_acts 203 = .ok (.aload_n 2, 1) := by decide +kernel
theorem dL_acts_204 : decode cL_acts 204 = .ok (.iconst 1, 1) := by decide +kernel
theorem dL_acts_205 : decode cL_acts 205 = .ok (.iaload, 1) := by decide +kernel
theorem dL_acts_206 : decode cL_acts 206 = .ok (.ifCond .ne 37, 3) := by decide +kernel
theorem dL_acts_209 : decode cL_acts 209 = .ok (.aload_n 0, 1) := by decide +kernel
theorem dL_acts_210 : decode cL_acts 210 = .ok (.bipush 8, 2) := by decide +kernel
theorem dL_acts_212 : decode cL_acts 212 = .ok (.iconst 0, 1) := by decide +kernel
theorem dL_acts_213 : decode cL_acts 213 = .ok (.iconst 0, 1) := by decide +kernel
theorem dL_acts_214 : decode cL_acts 214 = .ok (.iconst 0, 1) := by decide +kernel
theorem dL_acts_215 : decode cL_acts 215 = .ok (.invokestatic 102, 3) := by decide +kernel
theorem dL_acts_218 : decode cL_acts 218 = .ok (.ldc 17, 2) := by decide +kernel
theorem dL_acts_220 : decode cL_acts 220 = .ok (.if_icmp .ne 21, 3) := by decide +kernel
theorem dL_acts_223 : decode cL_acts 223 = .ok (.aload_n 0, 1) := by decide +kernel
theorem dL_acts_224 : decode cL_acts 224 = .ok (.bipush 19, 2) := by decide +kernel
theorem dL_acts_226 : decode cL_acts 226 = .ok (.iconst 0, 1) := by decide +kernel
theorem dL_acts_227 : decode cL_acts 227 = .ok (.iconst 0, 1) := by decide +kernel
theorem dL_acts_228 : decode cL_acts 228 = .ok (.iconst 0, 1) := by decide +kernel
theorem dL_acts_229 : decode cL_acts 229 = .ok (.invokestatic 102, 3) := by decide +kernel
theorem dL_acts_232 : decode cL_acts 232 = .ok (.ldc 17, 2) := by decide +kernel
theorem dL_acts_234 : decode cL_acts 234 = .ok (.if_icmp .ne 7, 3) := by decide +kernel
theorem dL_acts_237 : decode cL_acts 237 = .ok (.iconst 1, 1) := by decide +kernel
theorem dL_acts_238 : decode cL_acts 238 = .ok (.goto 4, 3) := by decide +kernel
theorem dL_acts_241 : decode cL_acts 241 = .ok (.iconst 0, 1) := by decide +kernel
theorem dL_acts_242 : decode cL_acts 242 = .ok (.ireturn, 1) := by decide +kernel
theorem dL_acts_243 : decode cL_acts 243 = .ok (.iload 4, 2) := by decide +kernel
theorem dL_acts_245 : decode cL_acts 245 = .ok (.aload_n 2, 1) := by decide +kernel
theorem dL_acts_246 : decode cL_acts 246 = .ok (.iconst 1, 1) := by decide +kernel
theorem dL_acts_247 : decode cL_acts 247 = .ok (.iaload, 1) := by decide +kernel
theorem dL_acts_248 : decode cL_acts 248 = .ok (.invokestatic 123, 3) := by decide +kernel
theorem dL_acts_251 : decode cL_acts 251 = .ok (.istore 6, 2) := by decide +kernel
theorem dL_acts_253 : decode cL_acts 253 = .ok (.iload 4, 2) := by decide +kernel
theorem dL_acts_255 : decode cL_acts 255 = .ok (.iconst 5, 1) := by decide +kernel
theorem dL_acts_256 : decode cL_acts 256 = .ok (.ishr, 1) := by decide +kernel
theorem dL_acts_257 : decode cL_acts 257 = .ok (.iconst 3, 1) := by decide +kernel
theorem dL_acts_258 : decode cL_acts 258 = .ok (.invokestatic 123, 3) := by decide +kernel
theorem dL_acts_261 : decode cL_acts 261 = .ok (.ifCond .ne 7, 3) := by decide +kernel
theorem dL_acts_264 : decode cL_acts 264 = .ok (.iconst 1, 1) := by decide +kernel
theorem dL_acts_265 : decode cL_acts 265 = .ok (.goto 4, 3) := by decide +kernel
theorem dL_acts_268 : decode cL_acts 268 = .ok (.iconst 0, 1) := by decide +kernel
theorem dL_acts_269 : decode cL_acts 269 = .ok (.istore 7, 2) := by decide +kernel
theorem dL_acts_271 : decode cL_acts 271 = .ok (.aload_n 0, 1) := by decide +kernel
theorem dL_acts_272 : decode cL_acts 272 = .ok (.aload_n 1, 1) := by decide +kernel
theorem dL_acts_273 : decode cL_acts 273 = .ok (.iload 5, 2) := by decide +kernel
theorem dL_acts_275 : decode cL_acts 275 = .ok (.bipush 6, 2) := by decide +kernel
theorem dL_acts_277 : decode cL_acts 277 = .ok (.if_icmp .ge 8, 3) := by decide +kernel
theorem dL_acts_280 : decode cL_acts 280 = .ok (.bipush 6, 2) := by decide +kernel
theorem dL_acts_282 : decode cL_acts 282 = .ok (.goto 5, 3) := by decide +kernel
theorem dL_acts_285 : decode cL_acts 285 = .ok (.bipush 7, 2) := by decide +kernel
theorem dL_acts_287 : decode cL_acts 287 = .ok (.iload 6, 2) := by decide +kernel
