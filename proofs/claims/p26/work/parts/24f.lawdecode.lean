theorem dL_files_582 : decode cL_files 582 = .ok (.imul, 1) := by decide +kernel
theorem dL_files_583 : decode cL_files 583 = .ok (.if_icmp .gt 7, 3) := by decide +kernel
theorem dL_files_586 : decode cL_files 586 = .ok (.iconst 1, 1) := by decide +kernel
theorem dL_files_587 : decode cL_files 587 = .ok (.goto 4, 3) := by decide +kernel
theorem dL_files_590 : decode cL_files 590 = .ok (.iconst 0, 1) := by decide +kernel
theorem dL_files_591 : decode cL_files 591 = .ok (.ireturn, 1) := by decide +kernel
set_option maxRecDepth 20000 in
theorem ggL_passes_L_some : GoodIn wsL_passes wsL_some := goodIn_r _ [6] (by decide +kernel) (by decide +kernel)
set_option maxRecDepth 20000 in
theorem gL_passes_L_some : GoodIn wsL_passes (va_wsS RL 123 yL_some wsL_some) := goodIn_app (goodIn_of _ (by decide +kernel)) ggL_passes_L_some
set_option maxRecDepth 20000 in
theorem ggL_passes_X3_about : GoodIn wsL_passes wsX3_about := goodIn_ca (goodIn_ca (goodIn_r _ [11, 12, 13, 14, 15, 16, 17, 18, 19, 20, 21, 10, 22, 23, 24, 25, 26, 27, 28, 29, 30, 31, 32, 33, 34, 35, 36, 319, 320, 321, 322, 323, 324, 325, 326, 327, 328, 329, 330, 331, 332, 333, 334, 335, 336, 337] (by decide +kernel) (by decide +kernel)) (goodIn_sub (fun _ h => List.mem_cons_of_mem _ (List.mem_append_left _ (List.mem_append_left _ (List.mem_append_right _ h)))) (by decide +kernel))) (goodIn_sub (fun _ h => List.mem_cons_of_mem _ (List.mem_append_left _ (List.mem_append_right _ h))) (by decide +kernel))
set_option maxRecDepth 20000 in
theorem gL_passes_X3_about : GoodIn wsL_passes (wsV RL 84 RX3 yX3_about wsX3_about) := goodIn_app (goodIn_of _ (by decide +kernel)) ggL_passes_X3_about
set_option maxRecDepth 20000 in
theorem cggL_passes_L_both_1 : GoodIn wsL_passes wsL_both_r1 := goodIn_r _ [40, 41, 42, 5, 43, 44, 45, 46, 47, 48, 2, 49, 50, 51, 52, 53, 54, 10, 55, 28, 29, 56, 57, 58] (by decide +kernel) (by decide +kernel)
set_option maxRecDepth 20000 in
theorem cggL_passes_L_both_2 : GoodIn wsL_passes wsL_both_r2 := goodIn_r _ [59, 60, 61, 62, 63, 64, 65, 20, 21, 22, 23, 24, 66, 67, 68, 69, 70, 71, 72, 73, 74, 75, 76, 77] (by decide +kernel) (by decide +kernel)
set_option maxRecDepth 20000 in
theorem cggL_passes_L_both_3 : GoodIn wsL_passes wsL_both_r3 := goodIn_r _ [78, 79, 80, 81, 82, 83, 84, 85, 86, 87, 88, 25, 26, 27, 89, 90, 91, 92, 93, 94, 95, 96, 97, 98] (by decide +kernel) (by decide +kernel)
set_option maxRecDepth 20000 in
theorem cggL_passes_L_both_4 : GoodIn wsL_passes wsL_both_r4 := goodIn_r _ [99, 100, 101, 102, 103, 104, 105, 106, 107, 108, 109, 110, 111, 112, 113, 114, 115, 116, 117, 118, 119, 120, 121, 122] (by decide +kernel) (by decide +kernel)
set_option maxRecDepth 20000 in
theorem cggL_passes_L_both_5 : GoodIn wsL_passes wsL_both_r5 := goodIn_r _ [123, 124, 125, 126, 127, 128, 129, 130, 131, 132, 133, 134, 135, 136, 137, 138, 139, 140, 141, 142, 143, 144, 145, 146] (by decide +kernel) (by decide +kernel)
set_option maxRecDepth 20000 in
theorem cggL_passes_L_both_6 : GoodIn wsL_passes wsL_both_r6 := goodIn_r _ [147, 148, 149, 150, 151, 152, 153, 154, 155, 156, 157, 158, 159, 160, 161, 162, 163, 164, 165, 166, 167, 168, 169, 170] (by decide +kernel) (by decide +kernel)
set_option maxRecDepth 20000 in
theorem cggL_passes_L_both_7 : GoodIn wsL_passes wsL_both_r7 := goodIn_r _ [171, 172, 173, 174, 175, 176, 177, 178, 179, 180, 181, 182, 183, 184, 185, 186, 187, 188, 189, 190, 191, 192, 193, 194] (by decide +kernel) (by decide +kernel)
set_option maxRecDepth 20000 in
theorem cggL_passes_L_both_8 : GoodIn wsL_passes wsL_both_r8 := goodIn_r _ [195, 196, 197, 198, 199, 200, 201, 202, 203, 13, 204, 205, 206, 207, 12, 15, 14, 208, 209, 210, 211, 212, 213, 214] (by decide +kernel) (by decide +kernel)
set_option maxRecDepth 20000 in
theorem cggL_passes_L_both_9 : GoodIn wsL_passes wsL_both_r9 := goodIn_r _ [215, 216, 217, 218, 219, 220, 221, 222, 223, 224, 225, 226, 227, 228, 229, 230, 18, 231, 232, 233, 234, 235, 236, 237] (by decide +kernel) (by decide +kernel)
set_option maxRecDepth 20000 in
theorem cggL_passes_L_both_10 : GoodIn wsL_passes wsL_both_r10 := goodIn_r _ [238, 239, 240, 241, 242, 243, 244, 245, 19, 246, 247, 248, 249, 250, 251, 252, 253, 254, 255, 256, 257, 258, 259, 260] (by decide +kernel) (by decide +kernel)
set_option maxRecDepth 20000 in
theorem cggL_passes_L_both_11 : GoodIn wsL_passes wsL_both_r11 := goodIn_r _ [261, 262, 263, 264, 265, 266, 267, 268, 269, 270, 271, 272, 273, 274, 275, 276, 277, 278, 279, 280, 281, 282, 283, 284] (by decide +kernel) (by decide +kernel)
set_option maxRecDepth 20000 in
theorem cggL_passes_L_both_12 : GoodIn wsL_passes wsL_both_r12 := goodIn_r _ [285, 286, 287, 288, 289, 290, 291, 292, 293, 7, 8, 9, 11, 16, 17, 30, 31, 32, 33, 34, 35, 36, 294, 295] (by decide +kernel) (by decide +kernel)
set_option maxRecDepth 20000 in
theorem cggL_passes_L_both_13 : GoodIn wsL_passes wsL_both_r13 := goodIn_r _ [296, 297, 298, 299, 300, 301, 302, 303, 304, 305, 306, 307, 308, 309, 310, 311, 312, 313, 314, 315, 316, 317, 318] (by decide +kernel) (by decide +kernel)
set_option maxRecDepth 20000 in
theorem ggL_passes_L_both : GoodIn wsL_passes wsL_both := goodIn_ca (goodIn_ca (goodIn_ca (goodIn_hd (goodIn_r _ [39] (by decide +kernel) (by decide +kernel)) (goodIn_app (goodIn_app (goodIn_app (goodIn_app (goodIn_app cggL_passes_L_both_1 (goodIn_app cggL_passes_L_both_2 (goodIn_app cggL_passes_L_both_3 (goodIn_app cggL_passes_L_both_4 (goodIn_app cggL_passes_L_both_5 (goodIn_app cggL_passes_L_both_6 (goodIn_app cggL_passes_L_both_7 (goodIn_app cggL_passes_L_both_8 (goodIn_app cggL_passes_L_both_9 (goodIn_app cggL_passes_L_both_10 (goodIn_app cggL_passes_L_both_11 (goodIn_app cggL_passes_L_both_12 (cggL_passes_L_both_13))))))))))))) (goodIn_r _ [319, 320, 321, 322, 323, 324, 325, 326, 327, 328, 329] (by decide +kernel) (by decide +kernel))) (goodIn_r _ [338, 339, 340, 341] (by decide +kernel) (by decide +kernel))) (goodIn_r _ [342, 343, 344, 345, 346, 347, 348, 349, 350] (by decide +kernel) (by decide +kernel))) (goodIn_r _ [330, 331, 332, 333, 334, 335, 336, 337] (by decide +kernel) (by decide +kernel)))) (goodIn_sub (fun _ h => List.mem_cons_of_mem _ (List.mem_append_left _ (List.mem_append_right _ h))) (by decide +kernel))) (goodIn_sub (fun _ h => List.mem_cons_of_mem _ (List.mem_append_right _ h)) (by decide +kernel))) (goodIn_sub (fun _ h => List.mem_cons_of_mem _ (List.mem_append_left _ (List.mem_append_left _ (List.mem_append_right _ h)))) (by decide +kernel))
set_option maxRecDepth 20000 in
theorem gL_passes_L_both : GoodIn wsL_passes (va_wsS RL 126 yL_both wsL_both) := goodIn_app (goodIn_of _ (by decide +kernel)) ggL_passes_L_both
theorem dL_passes_0 : decode cL_passes 0 = .ok (.iload_n 3, 1) := by decide +kernel
theorem dL_passes_1 : decode cL_passes 1 = .ok (.iconst 3, 1) := by decide +kernel
theorem dL_passes_2 : decode cL_passes 2 = .ok (.invokestatic 123, 3) := by decide +kernel
theorem dL_passes_5 : decode cL_passes 5 = .ok (.ifCond .ne 16, 3) := by decide +kernel
theorem dL_passes_8 : decode cL_passes 8 = .ok (.iconst 1, 1) := by decide +kernel
theorem dL_passes_9 : decode cL_passes 9 = .ok (.iload_n 3, 1) := by decide +kernel
theorem dL_passes_10 : decode cL_passes 10 = .ok (.iconst 3, 1) := by decide +kernel
theorem dL_passes_11 : decode cL_passes 11 = .ok (.ishr, 1) := by decide +kernel
theorem dL_passes_12 : decode cL_passes 12 = .ok (.bipush 100, 2) := by decide +kernel
theorem dL_passes_14 : decode cL_passes 14 = .ok (.invokestatic 123, 3) := by decide +kernel
theorem dL_passes_17 : decode cL_passes 17 = .ok (.iadd, 1) := by decide +kernel
theorem dL_passes_18 : decode cL_passes 18 = .ok (.goto 13, 3) := by decide +kernel
theorem dL_passes_21 : decode cL_passes 21 = .ok (.iconst 1, 1) := by decide +kernel
theorem dL_passes_22 : decode cL_passes 22 = .ok (.iload_n 3, 1) := by decide +kernel
theorem dL_passes_23 : decode cL_passes 23 = .ok (.iconst 3, 1) := by decide +kernel
theorem dL_passes_24 : decode cL_passes 24 = .ok (.ishr, 1) := by decide +kernel
theorem dL_passes_25 : decode cL_passes 25 = .ok (.bipush 12, 2) := by decide +kernel
theorem dL_passes_27 : decode cL_passes 27 = .ok (.invokestatic 123, 3) := by decide +kernel
theorem dL_passes_30 : decode cL_passes 30 = .ok (.iadd, 1) := by decide +kernel
theorem dL_passes_31 : decode cL_passes 31 = .ok (.istore 4, 2) := by decide +kernel
theorem dL_passes_33 : decode cL_passes 33 = .ok (.bipush 16, 2) := by decide +kernel
theorem dL_passes_35 : decode cL_passes 35 = .ok (.newarray .int, 2) := by decide +kernel
theorem dL_passes_37 : decode cL_passes 37 = .ok (.astore 5, 2) := by decide +kernel
theorem dL_passes_39 : decode cL_passes 39 = .ok (.bipush 16, 2) := by decide +kernel
theorem dL_passes_41 : decode cL_passes 41 = .ok (.newarray .int, 2) := by decide +kernel
theorem dL_passes_43 : decode cL_passes 43 = .ok (.astore 6, 2) := by decide +kernel
theorem dL_passes_45 : decode cL_passes 45 = .ok (.iconst 0, 1) := by decide +kernel
theorem dL_passes_46 : decode cL_passes 46 = .ok (.istore 7, 2) := by decide +kernel
theorem dL_passes_48 : decode cL_passes 48 = .ok (.iload 7, 2) := by decide +kernel
theorem dL_passes_50 : decode cL_passes 50 = .ok (.aload_n 2, 1) := by decide +kernel
theorem dL_passes_51 : decode cL_passes 51 = .ok (.iconst 2, 1) := by decide +kernel
theorem dL_passes_52 : decode cL_passes 52 = .ok (.iaload, 1) := by decide +kernel
theorem dL_passes_53 : decode cL_passes 53 = .ok (.if_icmp .ge 44, 3) := by decide +kernel
theorem dL_passes_56 : decode cL_passes 56 = .ok (.aload 5, 2) := by decide +kernel
theorem dL_passes_58 : decode cL_passes 58 = .ok (.iload 7, 2) := by decide +kernel
theorem dL_passes_60 : decode cL_passes 60 = .ok (.aload_n 0, 1) := by decide +kernel
theorem dL_passes_61 : decode cL_passes 61 = .ok (.iload 7, 2) := by decide +kernel
theorem dL_passes_63 : decode cL_passes 63 = .ok (.iconst 2, 1) := by decide +kernel
theorem dL_passes_64 : decode cL_passes 64 = .ok (.invokevirtual 84, 3) := by decide +kernel
theorem dL_passes_67 : decode cL_passes 67 = .ok (.iastore, 1) := by decide +kernel
theorem dL_passes_68 : decode cL_passes 68 = .ok (.aload 6, 2) := by decide +kernel
theorem dL_passes_70 : decode cL_passes 70 = .ok (.iload 7, 2) := by decide +kernel
theorem dL_passes_72 : decode cL_passes 72 = .ok (.aload_n 0, 1) := by decide +kernel
theorem dL_passes_73 : decode cL_passes 73 = .ok (.iload 7, 2) := by decide +kernel
theorem dL_passes_75 : decode cL_passes 75 = .ok (.iconst 0, 1) := by decide +kernel
theorem dL_passes_76 : decode cL_passes 76 = .ok (.invokevirtual 84, 3) := by decide +kernel
theorem dL_passes_79 : decode cL_passes 79 = .ok (.bipush 10, 2) := by decide +kernel
theorem dL_passes_81 : decode cL_passes 81 = .ok (.aload_n 0, 1) := by decide +kernel
theorem dL_passes_82 : decode cL_passes 82 = .ok (.iload 7, 2) := by decide +kernel
theorem dL_passes_84 : decode cL_passes 84 = .ok (.iconst 4, 1) := by decide +kernel
theorem dL_passes_85 : decode cL_passes 85 = .ok (.invokevirtual 84, 3) := by decide +kernel
theorem dL_passes_88 : decode cL_passes 88 = .ok (.imul, 1) := by decide +kernel
theorem dL_passes_89 : decode cL_passes 89 = .ok (.iadd, 1) := by decide +kernel
theorem dL_passes_90 : decode cL_passes 90 = .ok (.iastore, 1) := by decide +kernel
theorem dL_passes_91 : decode cL_passes 91 = .ok (.iinc 7 1, 3) := by decide +kernel
theorem dL_passes_94 : decode cL_passes 94 = .ok (.goto (-46), 3) := by decide +kernel
theorem dL_passes_97 : decode cL_passes 97 = .ok (.aload_n 0, 1) := by decide +kernel
theorem dL_passes_98 : decode cL_passes 98 = .ok (.aload_n 1, 1) := by decide +kernel
theorem dL_passes_99 : decode cL_passes 99 = .ok (.bipush 16, 2) := by decide +kernel
theorem dL_passes_101 : decode cL_passes 101 = .ok (.iload 4, 2) := by decide +kernel
theorem dL_passes_103 : decode cL_passes 103 = .ok (.iconst 0, 1) := by decide +kernel
theorem dL_passes_104 : decode cL_passes 104 = .ok (.iconst 0, 1) := by decide +kernel
theorem dL_passes_105 : decode cL_passes 105 = .ok (.invokestatic 126, 3) := by decide +kernel
theorem dL_passes_108 : decode cL_passes 108 = .ok (.istore 7, 2) := by decide +kernel
theorem dL_passes_110 : decode cL_passes 110 = .ok (.iload 7, 2) := by decide +kernel
theorem dL_passes_112 : decode cL_passes 112 = .ok (.ldc 23, 2) := by decide +kernel
theorem dL_passes_114 : decode cL_passes 114 = .ok (.if_icmp .ne 21, 3) := by decide +kernel
theorem dL_passes_117 : decode cL_passes 117 = .ok (.aload_n 2, 1) := by decide +kernel
theorem dL_passes_118 : decode cL_passes 118 = .ok (.iconst 3, 1) := by decide +kernel
theorem dL_passes_119 : decode cL_passes 119 = .ok (.iaload, 1) := by decide +kernel
theorem dL_passes_120 : decode cL_passes 120 = .ok (.iload 4, 2) := by decide +kernel
theorem dL_passes_122 : decode cL_passes 122 = .ok (.iadd, 1) := by decide +kernel
theorem dL_passes_123 : decode cL_passes 123 = .ok (.sipush 5000, 3) := by decide +kernel
theorem dL_passes_126 : decode cL_passes 126 = .ok (.if_icmp .le 7, 3) := by decide +kernel
theorem dL_passes_129 : decode cL_passes 129 = .ok (.iconst 1, 1) := by decide +kernel
theorem dL_passes_130 : decode cL_passes 130 = .ok (.goto 4, 3) := by decide +kernel
theorem dL_passes_133 : decode cL_passes 133 = .ok (.iconst 0, 1) := by decide +kernel
theorem dL_passes_134 : decode cL_passes 134 = .ok (.ireturn, 1) := by decide +kernel
theorem dL_passes_135 : decode cL_passes 135 = .ok (.aload_n 2, 1) := by decide +kernel
theorem dL_passes_136 : decode cL_passes 136 = .ok (.iconst 3, 1) := by decide +kernel
theorem dL_passes_137 : decode cL_passes 137 = .ok (.dup2, 1) := by decide +kernel
theorem dL_passes_138 : decode cL_passes 138 = .ok (.iaload, 1) := by decide +kernel
theorem dL_passes_139 : decode cL_passes 139 = .ok (.iload 4, 2) := by decide +kernel
theorem dL_passes_141 : decode cL_passes 141 = .ok (.iadd, 1) := by decide +kernel
theorem dL_passes_142 : decode cL_passes 142 = .ok (.iastore, 1) := by decide +kernel
theorem dL_passes_143 : decode cL_passes 143 = .ok (.iload 7, 2) := by decide +kernel
theorem dL_passes_145 : decode cL_passes 145 = .ok (.aload_n 2, 1) := by decide +kernel
theorem dL_passes_146 : decode cL_passes 146 = .ok (.iconst 3, 1) := by decide +kernel
theorem dL_passes_147 : decode cL_passes 147 = .ok (.iaload, 1) := by decide +kernel
theorem dL_passes_148 : decode cL_passes 148 = .ok (.if_icmp .ne 7, 3) := by decide +kernel
theorem dL_passes_151 : decode cL_passes 151 = .ok (.iconst 1, 1) := by decide +kernel
theorem dL_passes_152 : decode cL_passes 152 = .ok (.goto 4, 3) := by decide +kernel
theorem dL_passes_155 : decode cL_passes 155 = .ok (.iconst 0, 1) := by decide +kernel
theorem dL_passes_156 : decode cL_passes 156 = .ok (.istore 8, 2) := by decide +kernel
theorem dL_passes_158 : decode cL_passes 158 = .ok (.iconst 0, 1) := by decide +kernel
theorem dL_passes_159 : decode cL_passes 159 = .ok (.istore 9, 2) := by decide +kernel
theorem dL_passes_161 : decode cL_passes 161 = .ok (.iload 9, 2) := by decide +kernel
theorem dL_passes_163 : decode cL_passes 163 = .ok (.aload_n 2, 1) := by decide +kernel
theorem dL_passes_164 : decode cL_passes 164 = .ok (.iconst 2, 1) := by decide +kernel
theorem dL_passes_165 : decode cL_passes 165 = .ok (.iaload, 1) := by decide +kernel
theorem dL_passes_166 : decode cL_passes 166 = .ok (.if_icmp .ge 108, 3) := by decide +kernel
theorem dL_passes_169 : decode cL_passes 169 = .ok (.iload 8, 2) := by decide +kernel
theorem dL_passes_171 : decode cL_passes 171 = .ok (.ifCond .eq 103, 3) := by decide +kernel
theorem dL_passes_174 : decode cL_passes 174 = .ok (.aload 6, 2) := by decide +kernel
theorem dL_passes_176 : decode cL_passes 176 = .ok (.iload 9, 2) := by decide +kernel
theorem dL_passes_178 : decode cL_passes 178 = .ok (.iaload, 1) := by decide +kernel
theorem dL_passes_179 : decode cL_passes 179 = .ok (.ifCond .ne 28, 3) := by decide +kernel
theorem dL_passes_182 : decode cL_passes 182 = .ok (.aload 5, 2) := by decide +kernel
theorem dL_passes_184 : decode cL_passes 184 = .ok (.iload 9, 2) := by decide +kernel
theorem dL_passes_186 : decode cL_passes 186 = .ok (.iaload, 1) := by decide +kernel
theorem dL_passes_187 : decode cL_passes 187 = .ok (.iload 4, 2) := by decide +kernel
theorem dL_passes_189 : decode cL_passes 189 = .ok (.if_icmp .ge 7, 3) := by decide +kernel
theorem dL_passes_192 : decode cL_passes 192 = .ok (.iconst 0, 1) := by decide +kernel
theorem dL_passes_193 : decode cL_passes 193 = .ok (.goto 19, 3) := by decide +kernel
theorem dL_passes_196 : decode cL_passes 196 = .ok (.aload 5, 2) := by decide +kernel
theorem dL_passes_198 : decode cL_passes 198 = .ok (.iload 9, 2) := by decide +kernel
theorem dL_passes_200 : decode cL_passes 200 = .ok (.iaload, 1) := by decide +kernel
theorem dL_passes_201 : decode cL_passes 201 = .ok (.iload 4, 2) := by decide +kernel
theorem dL_passes_203 : decode cL_passes 203 = .ok (.isub, 1) := by decide +kernel
theorem dL_passes_204 : decode cL_passes 204 = .ok (.goto 8, 3) := by decide +kernel
theorem dL_passes_207 : decode cL_passes 207 = .ok (.aload 5, 2) := by decide +kernel
theorem dL_passes_209 : decode cL_passes 209 = .ok (.iload 9, 2) := by decide +kernel
theorem dL_passes_211 : decode cL_passes 211 = .ok (.iaload, 1) := by decide +kernel
theorem dL_passes_212 : decode cL_passes 212 = .ok (.istore 10, 2) := by decide +kernel
theorem dL_passes_214 : decode cL_passes 214 = .ok (.aload_n 0, 1) := by decide +kernel
theorem dL_passes_215 : decode cL_passes 215 = .ok (.iload 9, 2) := by decide +kernel
theorem dL_passes_217 : decode cL_passes 217 = .ok (.iconst 2, 1) := by decide +kernel
theorem dL_passes_218 : decode cL_passes 218 = .ok (.invokevirtual 84, 3) := by decide +kernel
theorem dL_passes_221 : decode cL_passes 221 = .ok (.iload 10, 2) := by decide +kernel
theorem dL_passes_223 : decode cL_passes 223 = .ok (.if_icmp .ne 42, 3) := by decide +kernel
theorem dL_passes_226 : decode cL_passes 226 = .ok (.aload_n 0, 1) := by decide +kernel
theorem dL_passes_227 : decode cL_passes 227 = .ok (.iload 9, 2) := by decide +kernel
theorem dL_passes_229 : decode cL_passes 229 = .ok (.iconst 0, 1) := by decide +kernel
theorem dL_passes_230 : decode cL_passes 230 = .ok (.invokevirtual 84, 3) := by decide +kernel
theorem dL_passes_233 : decode cL_passes 233 = .ok (.aload 6, 2) := by decide +kernel
theorem dL_passes_235 : decode cL_passes 235 = .ok (.iload 9, 2) := by decide +kernel
theorem dL_passes_237 : decode cL_passes 237 = .ok (.iaload, 1) := by decide +kernel
theorem dL_passes_238 : decode cL_passes 238 = .ok (.ifCond .ne 12, 3) := by decide +kernel
theorem dL_passes_241 : decode cL_passes 241 = .ok (.iload 10, 2) := by decide +kernel
theorem dL_passes_243 : decode cL_passes 243 = .ok (.ifCond .ne 7, 3) := by decide +kernel
theorem dL_passes_246 : decode cL_passes 246 = .ok (.iconst 2, 1) := by decide +kernel
theorem dL_passes_247 : decode cL_passes 247 = .ok (.goto 11, 3) := by decide +kernel
theorem dL_passes_250 : decode cL_passes 250 = .ok (.aload 6, 2) := by decide +kernel
theorem dL_passes_252 : decode cL_passes 252 = .ok (.iload 9, 2) := by decide +kernel
theorem dL_passes_254 : decode cL_passes 254 = .ok (.iaload, 1) := by decide +kernel
theorem dL_passes_255 : decode cL_passes 255 = .ok (.bipush 10, 2) := by decide +kernel
theorem dL_passes_257 : decode cL_passes 257 = .ok (.irem, 1) := by decide +kernel
theorem dL_passes_258 : decode cL_passes 258 = .ok (.if_icmp .ne 7, 3) := by decide +kernel
theorem dL_passes_261 : decode cL_passes 261 = .ok (.iconst 1, 1) := by decide +kernel
theorem dL_passes_262 : decode cL_passes 262 = .ok (.goto 4, 3) := by decide +kernel
theorem dL_passes_265 : decode cL_passes 265 = .ok (.iconst 0, 1) := by decide +kernel
theorem dL_passes_266 : decode cL_passes 266 = .ok (.istore 8, 2) := by decide +kernel
theorem dL_passes_268 : decode cL_passes 268 = .ok (.iinc 9 1, 3) := by decide +kernel
theorem dL_passes_271 : decode cL_passes 271 = .ok (.goto (-110), 3) := by decide +kernel
theorem dL_passes_274 : decode cL_passes 274 = .ok (.iload 8, 2) := by decide +kernel
theorem dL_passes_276 : decode cL_passes 276 = .ok (.ireturn, 1) := by decide +kernel
set_option maxRecDepth 20000 in
theorem cggL_refused_L_all_1 : GoodIn wsL_refused wsL_all_r1 := goodIn_r _ [7, 8, 9, 10, 11, 12, 13, 14, 15, 16, 17, 18, 19, 20, 21, 22, 23, 24, 25, 26, 27, 28, 29, 30] (by decide +kernel) (by decide +kernel)
set_option maxRecDepth 20000 in
theorem cggL_refused_L_all_2 : GoodIn wsL_refused wsL_all_r2 := goodIn_r _ [31, 32, 33, 34, 35, 36, 37, 38, 39, 40, 41, 42, 43, 44, 45, 46, 47, 48, 49, 50, 51, 52, 53, 54] (by decide +kernel) (by decide +kernel)
set_option maxRecDepth 20000 in
theorem cggL_refused_L_all_3 : GoodIn wsL_refused wsL_all_r3 := goodIn_r _ [55, 56, 57, 58, 59, 60, 61, 62, 63, 64, 65, 66, 67, 68, 69, 70, 71, 72, 73, 74, 75, 76, 77, 78] (by decide +kernel) (by decide +kernel)
set_option maxRecDepth 20000 in
theorem cggL_refused_L_all_4 : GoodIn wsL_refused wsL_all_r4 := goodIn_r _ [79, 80, 81, 82, 83, 84, 85, 86, 87, 88, 89, 90, 91, 92, 93, 94, 95, 96, 97, 98, 99, 100, 101, 102] (by decide +kernel) (by decide +kernel)
set_option maxRecDepth 20000 in
theorem cggL_refused_L_all_5 : GoodIn wsL_refused wsL_all_r5 := goodIn_r _ [103, 104, 105, 106, 107, 108, 109, 110, 111, 112, 113, 114, 115, 116, 117, 118, 119, 120, 121, 122, 123, 124, 125, 126] (by decide +kernel) (by decide +kernel)
set_option maxRecDepth 20000 in
theorem cggL_refused_L_all_6 : GoodIn wsL_refused wsL_all_r6 := goodIn_r _ [127, 128, 129, 130, 131, 132] (by decide +kernel) (by decide +kernel)
set_option maxRecDepth 20000 in
theorem ggL_refused_L_all : GoodIn wsL_refused wsL_all := goodIn_ca (goodIn_ca (goodIn_hd (goodIn_r _ [6] (by decide +kernel) (by decide +kernel)) (goodIn_app (goodIn_app (goodIn_app (goodIn_app (goodIn_app cggL_refused_L_all_1 (goodIn_app cggL_refused_L_all_2 (goodIn_app cggL_refused_L_all_3 (goodIn_app cggL_refused_L_all_4 (goodIn_app cggL_refused_L_all_5 (cggL_refused_L_all_6)))))) (goodIn_r _ [319, 320, 321, 322, 323, 324, 325, 326, 327, 328, 329] (by decide +kernel) (by decide +kernel))) (goodIn_r _ [330, 331, 332, 333] (by decide +kernel) (by decide +kernel))) (goodIn_r _ [334, 335, 336, 337, 338, 339, 340, 341, 342] (by decide +kernel) (by decide +kernel))) (goodIn_r _ [343, 344, 345, 346, 347, 348, 349, 350] (by decide +kernel) (by decide +kernel)))) (goodIn_sub (fun _ h => List.mem_cons_of_mem _ (List.mem_append_left _ (List.mem_append_left _ (List.mem_append_right _ h)))) (by decide +kernel))) (goodIn_sub (fun _ h => List.mem_cons_of_mem _ (List.mem_append_left _ (List.mem_append_right _ h))) (by decide +kernel))
set_option maxRecDepth 20000 in
theorem gL_refused_L_all : GoodIn wsL_refused (va_wsS RL 134 yL_all wsL_all) := goodIn_app (goodIn_of _ (by decide +kernel)) ggL_refused_L_all
set_option maxRecDepth 20000 in
theorem cggL_refused_L_call_1 : GoodIn wsL_refused wsL_call_r1 := goodIn_r _ [136, 137, 138, 2, 1, 139, 140, 141, 5, 142, 143, 144, 145, 15, 146, 27, 28, 147, 148, 149, 150, 151, 152, 153] (by decide +kernel) (by decide +kernel)
set_option maxRecDepth 20000 in
theorem cggL_refused_L_call_2 : GoodIn wsL_refused wsL_call_r2 := goodIn_r _ [154, 17, 128, 19, 20, 21, 22, 23, 155, 156, 157, 158, 33, 18, 34, 35, 36, 37, 38, 39, 40, 41, 42, 159] (by decide +kernel) (by decide +kernel)
set_option maxRecDepth 20000 in
theorem cggL_refused_L_call_3 : GoodIn wsL_refused wsL_call_r3 := goodIn_r _ [160, 161, 162, 12, 13, 14, 16, 24, 25, 26, 29, 30, 31, 32, 163, 164, 165, 166, 58, 167, 168, 169, 170, 47] (by decide +kernel) (by decide +kernel)
set_option maxRecDepth 20000 in
theorem cggL_refused_L_call_4 : GoodIn wsL_refused wsL_call_r4 := goodIn_r _ [56, 171, 172, 173, 174, 175, 176, 177, 178, 179, 180, 181, 182, 183, 184, 185, 186, 187, 188, 189, 190, 191, 192, 193] (by decide +kernel) (by decide +kernel)
set_option maxRecDepth 20000 in
theorem cggL_refused_L_call_5 : GoodIn wsL_refused wsL_call_r5 := goodIn_r _ [194, 195, 196, 197, 198, 199, 200, 201, 202, 203, 204, 205, 206, 207, 208, 209, 210, 211, 212, 213, 214, 215, 216, 217] (by decide +kernel) (by decide +kernel)
set_option maxRecDepth 20000 in
theorem cggL_refused_L_call_6 : GoodIn wsL_refused wsL_call_r6 := goodIn_r _ [218, 219, 220, 221, 222, 223, 224, 225, 226, 227, 228, 229, 230, 231, 232, 233, 94, 234, 235, 236, 98, 237, 238, 239] (by decide +kernel) (by decide +kernel)
set_option maxRecDepth 20000 in
theorem cggL_refused_L_call_7 : GoodIn wsL_refused wsL_call_r7 := goodIn_r _ [240, 241, 242, 243, 244, 245, 246, 247, 248, 249, 250, 251, 252, 253, 87, 88, 89, 90, 91, 92, 93, 95, 96, 97] (by decide +kernel) (by decide +kernel)
set_option maxRecDepth 20000 in
theorem cggL_refused_L_call_8 : GoodIn wsL_refused wsL_call_r8 := goodIn_r _ [99, 254, 255, 256, 257, 105, 258, 259, 260, 261, 104, 107, 106, 262, 263, 264, 265, 266, 267, 268, 269, 270, 271, 272] (by decide +kernel) (by decide +kernel)
set_option maxRecDepth 20000 in
theorem cggL_refused_L_call_9 : GoodIn wsL_refused wsL_call_r9 := goodIn_r _ [273, 274, 275, 276, 277, 278, 279, 280, 281, 282, 283, 284, 110, 123, 73, 285, 286, 287, 288, 289, 290, 291, 292, 293] (by decide +kernel) (by decide +kernel)
set_option maxRecDepth 20000 in
theorem cggL_refused_L_call_10 : GoodIn wsL_refused wsL_call_r10 := goodIn_r _ [294, 295, 296, 297, 111, 48, 49, 50, 51, 52, 53, 54, 55, 57, 59, 60, 61, 62, 63, 64, 65, 66, 67, 68] (by decide +kernel) (by decide +kernel)
set_option maxRecDepth 20000 in
theorem cggL_refused_L_call_11 : GoodIn wsL_refused wsL_call_r11 := goodIn_r _ [69, 70, 71, 72, 74, 75, 76, 77, 298, 299, 300, 301, 302, 303, 304, 305, 306, 307, 308, 309, 310, 311, 312, 313] (by decide +kernel) (by decide +kernel)
set_option maxRecDepth 20000 in
theorem cggL_refused_L_call_12 : GoodIn wsL_refused wsL_call_r12 := goodIn_r _ [314, 315, 316, 317, 318, 100, 101, 102, 103, 108, 109, 112, 113, 114, 115, 116, 117, 118, 119, 120, 121, 122, 124, 125] (by decide +kernel) (by decide +kernel)
set_option maxRecDepth 20000 in
theorem cggL_refused_L_call_13 : GoodIn wsL_refused wsL_call_r13 := goodIn_r _ [126, 127, 43, 44, 45, 46, 78, 79, 80, 81, 82, 83, 84, 85, 86, 129, 130, 131, 132] (by decide +kernel) (by decide +kernel)
set_option maxRecDepth 20000 in
theorem ggL_refused_L_call : GoodIn wsL_refused wsL_call := goodIn_ca (goodIn_ca (goodIn_ca (goodIn_hd (goodIn_r _ [135] (by decide +kernel) (by decide +kernel)) (goodIn_app (goodIn_app (goodIn_app (goodIn_app (goodIn_app cggL_refused_L_call_1 (goodIn_app cggL_refused_L_call_2 (goodIn_app cggL_refused_L_call_3 (goodIn_app cggL_refused_L_call_4 (goodIn_app cggL_refused_L_call_5 (goodIn_app cggL_refused_L_call_6 (goodIn_app cggL_refused_L_call_7 (goodIn_app cggL_refused_L_call_8 (goodIn_app cggL_refused_L_call_9 (goodIn_app cggL_refused_L_call_10 (goodIn_app cggL_refused_L_call_11 (goodIn_app cggL_refused_L_call_12 (cggL_refused_L_call_13))))))))))))) (goodIn_r _ [319, 320, 321, 322, 323, 324, 325, 326, 327, 328, 329] (by decide +kernel) (by decide +kernel))) (goodIn_r _ [330, 331, 332, 333] (by decide +kernel) (by decide +kernel))) (goodIn_r _ [334, 335, 336, 337, 338, 339, 340, 341, 342] (by decide +kernel) (by decide +kernel))) (goodIn_r _ [343, 344, 345, 346, 347, 348, 349, 350] (by decide +kernel) (by decide +kernel)))) (goodIn_sub (fun _ h => List.mem_cons_of_mem _ (List.mem_append_left _ (List.mem_append_right _ h))) (by decide +kernel))) (goodIn_sub (fun _ h => List.mem_cons_of_mem _ (List.mem_append_right _ h)) (by decide +kernel))) (goodIn_sub (fun _ h => List.mem_cons_of_mem _ (List.mem_append_left _ (List.mem_append_left _ (List.mem_append_right _ h)))) (by decide +kernel))
set_option maxRecDepth 20000 in
theorem gL_refused_L_call : GoodIn wsL_refused (va_wsS RL 102 yL_call wsL_call) := goodIn_app (goodIn_of _ (by decide +kernel)) ggL_refused_L_call
theorem dL_refused_0 : decode cL_refused 0 = .ok (.aload_n 0, 1) := by decide +kernel
theorem dL_refused_1 : decode cL_refused 1 = .ok (.aload_n 1, 1) := by decide +kernel
theorem dL_refused_2 : decode cL_refused 2 = .ok (.invokestatic 134, 3) := by decide +kernel
theorem dL_refused_5 : decode cL_refused 5 = .ok (.lstore_n 2, 1) := by decide +kernel
theorem dL_refused_6 : decode cL_refused 6 = .ok (.aload_n 0, 1) := by decide +kernel
theorem dL_refused_7 : decode cL_refused 7 = .ok (.iconst 0, 1) := by decide +kernel
theorem dL_refused_8 : decode cL_refused 8 = .ok (.bipush 65, 2) := by decide +kernel
theorem dL_refused_10 : decode cL_refused 10 = .ok (.iconst 0, 1) := by decide +kernel
theorem dL_refused_11 : decode cL_refused 11 = .ok (.iconst 0, 1) := by decide +kernel
theorem dL_refused_12 : decode cL_refused 12 = .ok (.invokestatic 102, 3) := by decide +kernel
theorem dL_refused_15 : decode cL_refused 15 = .ok (.ldc 20, 2) := by decide +kernel
theorem dL_refused_17 : decode cL_refused 17 = .ok (.if_icmp .ne 190, 3) := by decide +kernel
theorem dL_refused_20 : decode cL_refused 20 = .ok (.aload_n 0, 1) := by decide +kernel
theorem dL_refused_21 : decode cL_refused 21 = .ok (.iconst 1, 1) := by decide +kernel
theorem dL_refused_22 : decode cL_refused 22 = .ok (.bipush 10, 2) := by decide +kernel
theorem dL_refused_24 : decode cL_refused 24 = .ok (.iconst 0, 1) := by decide +kernel
theorem dL_refused_25 : decode cL_refused 25 = .ok (.iconst 0, 1) := by decide +kernel
theorem dL_refused_26 : decode cL_refused 26 = .ok (.invokestatic 102, 3) := by decide +kernel
theorem dL_refused_29 : decode cL_refused 29 = .ok (.ldc 17, 2) := by decide +kernel
theorem dL_refused_31 : decode cL_refused 31 = .ok (.if_icmp .ne 176, 3) := by decide +kernel
theorem dL_refused_34 : decode cL_refused 34 = .ok (.aload_n 0, 1) := by decide +kernel
theorem dL_refused_35 : decode cL_refused 35 = .ok (.iconst 2, 1) := by decide +kernel
theorem dL_refused_36 : decode cL_refused 36 = .ok (.bipush 10, 2) := by decide +kernel
theorem dL_refused_38 : decode cL_refused 38 = .ok (.iconst 0, 1) := by decide +kernel
theorem dL_refused_39 : decode cL_refused 39 = .ok (.iconst 0, 1) := by decide +kernel
theorem dL_refused_40 : decode cL_refused 40 = .ok (.invokestatic 102, 3) := by decide +kernel
theorem dL_refused_43 : decode cL_refused 43 = .ok (.ldc 17, 2) := by decide +kernel
theorem dL_refused_45 : decode cL_refused 45 = .ok (.if_icmp .ne 162, 3) := by decide +kernel
theorem dL_refused_48 : decode cL_refused 48 = .ok (.aload_n 0, 1) := by decide +kernel
theorem dL_refused_49 : decode cL_refused 49 = .ok (.iconst 2, 1) := by decide +kernel
theorem dL_refused_50 : decode cL_refused 50 = .ok (.iconst (-1), 1) := by decide +kernel
theorem dL_refused_51 : decode cL_refused 51 = .ok (.iconst 0, 1) := by decide +kernel
theorem dL_refused_52 : decode cL_refused 52 = .ok (.iconst 0, 1) := by decide +kernel
theorem dL_refused_53 : decode cL_refused 53 = .ok (.invokestatic 102, 3) := by decide +kernel
theorem dL_refused_56 : decode cL_refused 56 = .ok (.ldc 17, 2) := by decide +kernel
theorem dL_refused_58 : decode cL_refused 58 = .ok (.if_icmp .ne 149, 3) := by decide +kernel
theorem dL_refused_61 : decode cL_refused 61 = .ok (.aload_n 0, 1) := by decide +kernel
theorem dL_refused_62 : decode cL_refused 62 = .ok (.iconst 3, 1) := by decide +kernel
theorem dL_refused_63 : decode cL_refused 63 = .ok (.bipush 10, 2) := by decide +kernel
theorem dL_refused_65 : decode cL_refused 65 = .ok (.iconst 0, 1) := by decide +kernel
theorem dL_refused_66 : decode cL_refused 66 = .ok (.iconst 0, 1) := by decide +kernel
theorem dL_refused_67 : decode cL_refused 67 = .ok (.invokestatic 102, 3) := by decide +kernel
theorem dL_refused_70 : decode cL_refused 70 = .ok (.ldc 17, 2) := by decide +kernel
theorem dL_refused_72 : decode cL_refused 72 = .ok (.if_icmp .ne 135, 3) := by decide +kernel
theorem dL_refused_75 : decode cL_refused 75 = .ok (.aload_n 0, 1) := by decide +kernel
theorem dL_refused_76 : decode cL_refused 76 = .ok (.iconst 4, 1) := by decide +kernel
theorem dL_refused_77 : decode cL_refused 77 = .ok (.iconst (-1), 1) := by decide +kernel
theorem dL_refused_78 : decode cL_refused 78 = .ok (.iconst 0, 1) := by decide +kernel
theorem dL_refused_79 : decode cL_refused 79 = .ok (.iconst 0, 1) := by decide +kernel
theorem dL_refused_80 : decode cL_refused 80 = .ok (.invokestatic 102, 3) := by decide +kernel
theorem dL_refused_83 : decode cL_refused 83 = .ok (.ldc 17, 2) := by decide +kernel
theorem dL_refused_85 : decode cL_refused 85 = .ok (.if_icmp .ne 122, 3) := by decide +kernel
theorem dL_refused_88 : decode cL_refused 88 = .ok (.aload_n 0, 1) := by decide +kernel
theorem dL_refused_89 : decode cL_refused 89 = .ok (.iconst 4, 1) := by decide +kernel
theorem dL_refused_90 : decode cL_refused 90 = .ok (.iconst 0, 1) := by decide +kernel
theorem dL_refused_91 : decode cL_refused 91 = .ok (.iconst (-1), 1) := by decide +kernel
theorem dL_refused_92 : decode cL_refused 92 = .ok (.iconst 0, 1) := by decide +kernel
theorem dL_refused_93 : decode cL_refused 93 = .ok (.invokestatic 102, 3) := by decide +kernel
theorem dL_refused_96 : decode cL_refused 96 = .ok (.ldc 20, 2) := by decide +kernel
theorem dL_refused_98 : decode cL_refused 98 = .ok (.if_icmp .ne 109, 3) := by decide +kernel
theorem dL_refused_101 : decode cL_refused 101 = .ok (.aload_n 0, 1) := by decide +kernel
theorem dL_refused_102 : decode cL_refused 102 = .ok (.iconst 5, 1) := by decide +kernel
theorem dL_refused_103 : decode cL_refused 103 = .ok (.bipush 10, 2) := by decide +kernel
theorem dL_refused_105 : decode cL_refused 105 = .ok (.iconst 0, 1) := by decide +kernel
theorem dL_refused_106 : decode cL_refused 106 = .ok (.iconst 0, 1) := by decide +kernel
theorem dL_refused_107 : decode cL_refused 107 = .ok (.invokestatic 102, 3) := by decide +kernel
theorem dL_refused_110 : decode cL_refused 110 = .ok (.ldc 17, 2) := by decide +kernel
theorem dL_refused_112 : decode cL_refused 112 = .ok (.if_icmp .ne 95, 3) := by decide +kernel
theorem dL_refused_115 : decode cL_refused 115 = .ok (.aload_n 0, 1) := by decide +kernel
theorem dL_refused_116 : decode cL_refused 116 = .ok (.bipush 6, 2) := by decide +kernel
theorem dL_refused_118 : decode cL_refused 118 = .ok (.bipush 24, 2) := by decide +kernel
theorem dL_refused_120 : decode cL_refused 120 = .ok (.iconst 0, 1) := by decide +kernel
theorem dL_refused_121 : decode cL_refused 121 = .ok (.iconst 0, 1) := by decide +kernel
theorem dL_refused_122 : decode cL_refused 122 = .ok (.invokestatic 102, 3) := by decide +kernel
theorem dL_refused_125 : decode cL_refused 125 = .ok (.ldc 17, 2) := by decide +kernel
theorem dL_refused_127 : decode cL_refused 127 = .ok (.if_icmp .ne 80, 3) := by decide +kernel
theorem dL_refused_130 : decode cL_refused 130 = .ok (.aload_n 0, 1) := by decide +kernel
theorem dL_refused_131 : decode cL_refused 131 = .ok (.bipush 7, 2) := by decide +kernel
theorem dL_refused_133 : decode cL_refused 133 = .ok (.iconst (-1), 1) := by decide +kernel
theorem dL_refused_134 : decode cL_refused 134 = .ok (.iconst 0, 1) := by decide +kernel
theorem dL_refused_135 : decode cL_refused 135 = .ok (.iconst 0, 1) := by decide +kernel
theorem dL_refused_136 : decode cL_refused 136 = .ok (.invokestatic 102, 3) := by decide +kernel
theorem dL_refused_139 : decode cL_refused 139 = .ok (.ldc 17, 2) := by decide +kernel
theorem dL_refused_141 : decode cL_refused 141 = .ok (.if_icmp .ne 66, 3) := by decide +kernel
theorem dL_refused_144 : decode cL_refused 144 = .ok (.aload_n 0, 1) := by decide +kernel
theorem dL_refused_145 : decode cL_refused 145 = .ok (.bipush 8, 2) := by decide +kernel
theorem dL_refused_147 : decode cL_refused 147 = .ok (.bipush 10, 2) := by decide +kernel
theorem dL_refused_149 : decode cL_refused 149 = .ok (.iconst 0, 1) := by decide +kernel
theorem dL_refused_150 : decode cL_refused 150 = .ok (.iconst 0, 1) := by decide +kernel
theorem dL_refused_151 : decode cL_refused 151 = .ok (.invokestatic 102, 3) := by decide +kernel
theorem dL_refused_154 : decode cL_refused 154 = .ok (.ldc 17, 2) := by decide +kernel
theorem dL_refused_156 : decode cL_refused 156 = .ok (.if_icmp .ne 51, 3) := by decide +kernel
theorem dL_refused_159 : decode cL_refused 159 = .ok (.aload_n 0, 1) := by decide +kernel
theorem dL_refused_160 : decode cL_refused 160 = .ok (.bipush 8, 2) := by decide +kernel
theorem dL_refused_162 : decode cL_refused 162 = .ok (.iconst 0, 1) := by decide +kernel
theorem dL_refused_163 : decode cL_refused 163 = .ok (.bipush 24, 2) := by decide +kernel
theorem dL_refused_165 : decode cL_refused 165 = .ok (.iconst 0, 1) := by decide +kernel
theorem dL_refused_166 : decode cL_refused 166 = .ok (.invokestatic 102, 3) := by decide +kernel
