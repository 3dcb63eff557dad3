theorem goodIn_hd {big a : List Cond} {c : Cond} (h0 : GoodIn big [c]) (ha : GoodIn big a) : GoodIn big (c :: a) := fun w h => (List.mem_cons.mp h).elim (fun e => h0 w (List.mem_singleton.mpr e)) (ha w)
theorem dL_cell_0 : decode cL_cell 0 = .ok (.iload_n 1, 1) := by decide +kernel
theorem dL_cell_1 : decode cL_cell 1 = .ok (.aload_n 0, 1) := by decide +kernel
theorem dL_cell_2 : decode cL_cell 2 = .ok (.arraylength, 1) := by decide +kernel
theorem dL_cell_3 : decode cL_cell 3 = .ok (.if_icmp .ge 9, 3) := by decide +kernel
theorem dL_cell_6 : decode cL_cell 6 = .ok (.aload_n 0, 1) := by decide +kernel
theorem dL_cell_7 : decode cL_cell 7 = .ok (.iload_n 1, 1) := by decide +kernel
theorem dL_cell_8 : decode cL_cell 8 = .ok (.iaload, 1) := by decide +kernel
theorem dL_cell_9 : decode cL_cell 9 = .ok (.goto 10, 3) := by decide +kernel
theorem dL_cell_12 : decode cL_cell 12 = .ok (.ldc 7, 2) := by decide +kernel
theorem dL_cell_14 : decode cL_cell 14 = .ok (.iload_n 1, 1) := by decide +kernel
theorem dL_cell_15 : decode cL_cell 15 = .ok (.bipush 113, 2) := by decide +kernel
theorem dL_cell_17 : decode cL_cell 17 = .ok (.iadd, 1) := by decide +kernel
theorem dL_cell_18 : decode cL_cell 18 = .ok (.imul, 1) := by decide +kernel
theorem dL_cell_19 : decode cL_cell 19 = .ok (.istore_n 2, 1) := by decide +kernel
theorem dL_cell_20 : decode cL_cell 20 = .ok (.iload_n 2, 1) := by decide +kernel
theorem dL_cell_21 : decode cL_cell 21 = .ok (.iload_n 2, 1) := by decide +kernel
theorem dL_cell_22 : decode cL_cell 22 = .ok (.bipush 16, 2) := by decide +kernel
theorem dL_cell_24 : decode cL_cell 24 = .ok (.iushr, 1) := by decide +kernel
theorem dL_cell_25 : decode cL_cell 25 = .ok (.ixor, 1) := by decide +kernel
theorem dL_cell_26 : decode cL_cell 26 = .ok (.ldc 8, 2) := by decide +kernel
theorem dL_cell_28 : decode cL_cell 28 = .ok (.imul, 1) := by decide +kernel
theorem dL_cell_29 : decode cL_cell 29 = .ok (.sipush 341, 3) := by decide +kernel
theorem dL_cell_32 : decode cL_cell 32 = .ok (.iload_n 1, 1) := by decide +kernel
theorem dL_cell_33 : decode cL_cell 33 = .ok (.imul, 1) := by decide +kernel
theorem dL_cell_34 : decode cL_cell 34 = .ok (.iadd, 1) := by decide +kernel
theorem dL_cell_35 : decode cL_cell 35 = .ok (.ireturn, 1) := by decide +kernel
theorem dL_some_0 : decode cL_some 0 = .ok (.iload_n 0, 1) := by decide +kernel
theorem dL_some_1 : decode cL_some 1 = .ok (.iconst 1, 1) := by decide +kernel
theorem dL_some_2 : decode cL_some 2 = .ok (.iushr, 1) := by decide +kernel
theorem dL_some_3 : decode cL_some 3 = .ok (.iload_n 1, 1) := by decide +kernel
theorem dL_some_4 : decode cL_some 4 = .ok (.irem, 1) := by decide +kernel
theorem dL_some_5 : decode cL_some 5 = .ok (.ireturn, 1) := by decide +kernel
set_option maxRecDepth 20000 in
theorem cggL_call_L_does_1 : GoodIn wsL_call wsL_does_r1 := goodIn_r _ [11, 12, 13, 14, 15, 16, 17, 18, 19, 20, 21, 22, 23, 24, 25, 26, 27, 28, 29, 30, 31, 32, 33, 34] (by decide +kernel) (by decide +kernel)
set_option maxRecDepth 20000 in
theorem cggL_call_L_does_2 : GoodIn wsL_call wsL_does_r2 := goodIn_r _ [35, 36, 37, 38, 39, 40, 41, 42, 43, 44, 45, 46, 47, 48, 49, 50, 51, 52, 53, 54, 55, 56, 57, 58] (by decide +kernel) (by decide +kernel)
set_option maxRecDepth 20000 in
theorem cggL_call_L_does_3 : GoodIn wsL_call wsL_does_r3 := goodIn_r _ [59, 60, 61, 62, 63, 64, 65, 66, 67, 68, 69, 70, 71, 72, 73, 74, 75, 76, 77, 78, 79, 80, 81, 82] (by decide +kernel) (by decide +kernel)
set_option maxRecDepth 20000 in
theorem cggL_call_L_does_4 : GoodIn wsL_call wsL_does_r4 := goodIn_r _ [83, 84, 85, 86, 87, 88, 89, 90, 91, 92, 93, 94, 95, 96, 97, 98, 99, 100, 101, 102, 103, 104, 105, 106] (by decide +kernel) (by decide +kernel)
set_option maxRecDepth 20000 in
theorem cggL_call_L_does_5 : GoodIn wsL_call wsL_does_r5 := goodIn_r _ [107, 108, 109, 110, 111, 112, 113, 114, 115, 116, 117, 118, 119, 120, 121, 122, 123, 124, 125, 126, 127, 128, 129, 130] (by decide +kernel) (by decide +kernel)
set_option maxRecDepth 20000 in
theorem cggL_call_L_does_6 : GoodIn wsL_call wsL_does_r6 := goodIn_r _ [131, 132, 133, 134, 135, 136, 137, 138, 139, 140, 141, 142, 143, 144, 145, 146, 147, 148, 149, 150, 151, 152, 153, 154] (by decide +kernel) (by decide +kernel)
set_option maxRecDepth 20000 in
theorem cggL_call_L_does_7 : GoodIn wsL_call wsL_does_r7 := goodIn_r _ [155, 156, 157, 158, 159, 160, 161, 162, 163, 164, 165, 166, 167, 168, 169, 170, 171, 172, 173, 174, 175, 176, 177, 178] (by decide +kernel) (by decide +kernel)
set_option maxRecDepth 20000 in
theorem cggL_call_L_does_8 : GoodIn wsL_call wsL_does_r8 := goodIn_r _ [179, 180, 181, 182, 183, 184, 185, 186, 187, 188, 189, 190, 191, 192, 193, 194, 195, 196, 197, 198, 199, 200, 201, 202] (by decide +kernel) (by decide +kernel)
set_option maxRecDepth 20000 in
theorem cggL_call_L_does_9 : GoodIn wsL_call wsL_does_r9 := goodIn_r _ [203, 204, 205, 206, 207, 208, 209, 210, 211, 212, 213, 214, 215, 216, 217, 218, 219, 220, 221, 222, 223, 224, 225, 226] (by decide +kernel) (by decide +kernel)
set_option maxRecDepth 20000 in
theorem cggL_call_L_does_10 : GoodIn wsL_call wsL_does_r10 := goodIn_r _ [227, 228, 229, 230, 231, 232, 233, 234, 235, 236, 237, 238, 239, 240, 241, 242, 243, 244, 245, 246, 247, 248, 249, 250] (by decide +kernel) (by decide +kernel)
set_option maxRecDepth 20000 in
theorem cggL_call_L_does_11 : GoodIn wsL_call wsL_does_r11 := goodIn_r _ [251, 252, 253, 254, 255, 256, 257, 258, 259, 260, 261, 262, 263, 264, 265, 266, 267, 268, 269, 270, 271, 272, 273, 274] (by decide +kernel) (by decide +kernel)
set_option maxRecDepth 20000 in
theorem cggL_call_L_does_12 : GoodIn wsL_call wsL_does_r12 := goodIn_r _ [275, 276, 277, 278, 279, 280, 281, 282, 283, 284, 285, 286, 287, 288, 289, 290, 291, 292, 293, 294, 295, 296, 297, 298] (by decide +kernel) (by decide +kernel)
set_option maxRecDepth 20000 in
theorem cggL_call_L_does_13 : GoodIn wsL_call wsL_does_r13 := goodIn_r _ [299, 300, 301, 302, 303, 304, 305, 306, 307] (by decide +kernel) (by decide +kernel)
set_option maxRecDepth 20000 in
theorem ggL_call_L_does : GoodIn wsL_call wsL_does := goodIn_ca (goodIn_ca (goodIn_ca (goodIn_hd (goodIn_r _ [10] (by decide +kernel) (by decide +kernel)) (goodIn_app (goodIn_app (goodIn_app (goodIn_app (goodIn_app cggL_call_L_does_1 (goodIn_app cggL_call_L_does_2 (goodIn_app cggL_call_L_does_3 (goodIn_app cggL_call_L_does_4 (goodIn_app cggL_call_L_does_5 (goodIn_app cggL_call_L_does_6 (goodIn_app cggL_call_L_does_7 (goodIn_app cggL_call_L_does_8 (goodIn_app cggL_call_L_does_9 (goodIn_app cggL_call_L_does_10 (goodIn_app cggL_call_L_does_11 (goodIn_app cggL_call_L_does_12 (cggL_call_L_does_13))))))))))))) (goodIn_r _ [308, 309, 310, 311, 312, 313, 314, 315, 316, 317, 318] (by decide +kernel) (by decide +kernel))) (goodIn_r _ [319, 320, 321, 322] (by decide +kernel) (by decide +kernel))) (goodIn_r _ [323, 324, 325, 326, 327, 328, 329, 330, 331] (by decide +kernel) (by decide +kernel))) (goodIn_r _ [332, 333, 334, 335, 336, 337, 338, 339] (by decide +kernel) (by decide +kernel)))) (goodIn_sub (fun _ h => List.mem_cons_of_mem _ (List.mem_append_left _ (List.mem_append_left _ (List.mem_append_right _ h)))) (by decide +kernel))) (goodIn_sub (fun _ h => List.mem_cons_of_mem _ (List.mem_append_left _ (List.mem_append_right _ h))) (by decide +kernel))) (goodIn_sub (fun _ h => List.mem_cons_of_mem _ (List.mem_append_right _ h)) (by decide +kernel))
set_option maxRecDepth 20000 in
theorem gL_call_L_does : GoodIn wsL_call (va_wsS RL 9 yL_does wsL_does) := goodIn_app (goodIn_of _ (by decide +kernel)) ggL_call_L_does
theorem dL_call_0 : decode cL_call 0 = .ok (.aload_n 0, 1) := by decide +kernel
theorem dL_call_1 : decode cL_call 1 = .ok (.iload_n 1, 1) := by decide +kernel
theorem dL_call_2 : decode cL_call 2 = .ok (.iload_n 2, 1) := by decide +kernel
theorem dL_call_3 : decode cL_call 3 = .ok (.iload_n 3, 1) := by decide +kernel
theorem dL_call_4 : decode cL_call 4 = .ok (.iload 4, 2) := by decide +kernel
theorem dL_call_6 : decode cL_call 6 = .ok (.invokestatic 9, 3) := by decide +kernel
theorem dL_call_9 : decode cL_call 9 = .ok (.ireturn, 1) := by decide +kernel
theorem dL_call_10 : decode cL_call 10 = .ok (.astore 5, 2) := by decide +kernel
theorem dL_call_12 : decode cL_call 12 = .ok (.ldc 17, 2) := by decide +kernel
theorem dL_call_14 : decode cL_call 14 = .ok (.ireturn, 1) := by decide +kernel
theorem dL_call_15 : decode cL_call 15 = .ok (.astore 5, 2) := by decide +kernel
theorem dL_call_17 : decode cL_call 17 = .ok (.ldc 20, 2) := by decide +kernel
theorem dL_call_19 : decode cL_call 19 = .ok (.ireturn, 1) := by decide +kernel
theorem dL_call_20 : decode cL_call 20 = .ok (.astore 5, 2) := by decide +kernel
theorem dL_call_22 : decode cL_call 22 = .ok (.ldc 23, 2) := by decide +kernel
theorem dL_call_24 : decode cL_call 24 = .ok (.ireturn, 1) := by decide +kernel
set_option maxRecDepth 20000 in
theorem ggL_does_X3_letter : GoodIn wsL_does wsX3_letter := goodIn_ca (goodIn_ca (goodIn_r _ [5, 6, 7, 8, 9, 10, 11, 298, 299, 300, 301, 302, 303, 304, 305, 306, 307, 308] (by decide +kernel) (by decide +kernel)) (goodIn_sub (fun _ h => List.mem_cons_of_mem _ (List.mem_append_left _ (List.mem_append_left _ (List.mem_append_right _ h)))) (by decide +kernel))) (goodIn_sub (fun _ h => List.mem_cons_of_mem _ (List.mem_append_left _ (List.mem_append_right _ h))) (by decide +kernel))
set_option maxRecDepth 20000 in
theorem gL_does_X3_letter : GoodIn wsL_does (wsV RL 24 RX3 yX3_letter wsX3_letter) := goodIn_app (goodIn_of _ (by decide +kernel)) ggL_does_X3_letter
set_option maxRecDepth 20000 in
theorem ggL_does_X3_office : GoodIn wsL_does wsX3_office := goodIn_ca (goodIn_ca (goodIn_r _ [15, 8, 9, 16, 17, 18, 19, 4, 20, 21, 22, 298, 299, 300, 301, 302, 303, 304, 305, 306, 307, 308] (by decide +kernel) (by decide +kernel)) (goodIn_sub (fun _ h => List.mem_cons_of_mem _ (List.mem_append_left _ (List.mem_append_right _ h))) (by decide +kernel))) (goodIn_sub (fun _ h => List.mem_cons_of_mem _ (List.mem_append_right _ h)) (by decide +kernel))
set_option maxRecDepth 20000 in
theorem gL_does_X3_office : GoodIn wsL_does (wsV RL 30 RX3 yX3_office wsX3_office) := goodIn_app (goodIn_of _ (by decide +kernel)) ggL_does_X3_office
set_option maxRecDepth 20000 in
theorem ggL_does_X3_delegate : GoodIn wsL_does wsX3_delegate := goodIn_ca (goodIn_ca (goodIn_r _ [26, 6, 7, 16, 27, 28, 18, 19, 4, 20, 21, 22, 29, 30, 31, 32, 33, 34, 35, 36, 37, 38, 39, 40, 41, 298, 299, 300, 301, 302, 303, 304, 305, 306, 307, 308, 309, 310, 311, 312] (by decide +kernel) (by decide +kernel)) (goodIn_sub (fun _ h => List.mem_cons_of_mem _ (List.mem_append_left _ (List.mem_append_left _ (List.mem_append_right _ h)))) (by decide +kernel))) (goodIn_sub (fun _ h => List.mem_cons_of_mem _ (List.mem_append_right _ h)) (by decide +kernel))
set_option maxRecDepth 20000 in
theorem gL_does_X3_delegate : GoodIn wsL_does (wsV RL 34 RX3 yX3_delegate wsX3_delegate) := goodIn_app (goodIn_of _ (by decide +kernel)) ggL_does_X3_delegate
set_option maxRecDepth 20000 in
theorem ggL_does_X3_whose : GoodIn wsL_does wsX3_whose := goodIn_ca (goodIn_ca (goodIn_r _ [45, 16, 28, 18, 19, 4, 20, 21, 22, 46, 47, 48, 6, 7, 49, 50, 51, 52, 27, 29, 30, 31, 32, 33, 34, 35, 36, 37, 298, 299, 300, 301, 302, 303, 304, 305, 306, 307, 308, 309, 310, 311, 312] (by decide +kernel) (by decide +kernel)) (goodIn_sub (fun _ h => List.mem_cons_of_mem _ (List.mem_append_right _ h)) (by decide +kernel))) (goodIn_sub (fun _ h => List.mem_cons_of_mem _ (List.mem_append_left _ (List.mem_append_left _ (List.mem_append_right _ h)))) (by decide +kernel))
set_option maxRecDepth 20000 in
theorem gL_does_X3_whose : GoodIn wsL_does (wsV RL 38 RX3 yX3_whose wsX3_whose) := goodIn_app (goodIn_of _ (by decide +kernel)) ggL_does_X3_whose
set_option maxRecDepth 20000 in
theorem ggL_does_X3_limit : GoodIn wsL_does wsX3_limit := goodIn_ca (goodIn_ca (goodIn_r _ [56, 57, 28, 18, 19, 4, 20, 21, 22, 46, 47, 48, 6, 7, 29, 30, 31, 32, 33, 34, 35, 36, 37, 38, 39, 40, 41, 298, 299, 300, 301, 302, 303, 304, 305, 306, 307, 308, 309, 310, 311, 312] (by decide +kernel) (by decide +kernel)) (goodIn_sub (fun _ h => List.mem_cons_of_mem _ (List.mem_append_right _ h)) (by decide +kernel))) (goodIn_sub (fun _ h => List.mem_cons_of_mem _ (List.mem_append_left _ (List.mem_append_left _ (List.mem_append_right _ h)))) (by decide +kernel))
set_option maxRecDepth 20000 in
theorem gL_does_X3_limit : GoodIn wsL_does (wsV RL 41 RX3 yX3_limit wsX3_limit) := goodIn_app (goodIn_of _ (by decide +kernel)) ggL_does_X3_limit
set_option maxRecDepth 20000 in
theorem cggL_does_X3_act_1 : GoodIn wsL_does wsX3_act_r1 := goodIn_r _ [8, 9, 16, 62, 10, 63, 28, 18, 19, 4, 20, 21, 22, 46, 47, 48, 6, 7, 64, 65, 66, 67, 68, 69] (by decide +kernel) (by decide +kernel)
set_option maxRecDepth 20000 in
theorem cggL_does_X3_act_2 : GoodIn wsL_does wsX3_act_r2 := goodIn_r _ [70, 71, 72, 73, 74, 11, 75, 76, 77, 78, 79, 80, 81, 82, 83, 84, 85, 86, 87, 88, 89, 90, 91, 92] (by decide +kernel) (by decide +kernel)
set_option maxRecDepth 20000 in
theorem cggL_does_X3_act_3 : GoodIn wsL_does wsX3_act_r3 := goodIn_r _ [93, 94, 95, 96, 97, 98, 99, 100, 101, 102, 103, 104, 105, 106, 107, 108, 109, 110, 111, 112, 113, 114, 115, 116] (by decide +kernel) (by decide +kernel)
set_option maxRecDepth 20000 in
theorem cggL_does_X3_act_4 : GoodIn wsL_does wsX3_act_r4 := goodIn_r _ [117, 118, 119, 120, 121, 122, 123, 49, 50, 51, 52, 27, 29, 30, 31, 32, 33, 34, 35, 36, 37, 124, 125, 126] (by decide +kernel) (by decide +kernel)
set_option maxRecDepth 20000 in
theorem cggL_does_X3_act_5 : GoodIn wsL_does wsX3_act_r5 := goodIn_r _ [127, 128, 129, 130, 131, 132, 133] (by decide +kernel) (by decide +kernel)
set_option maxRecDepth 20000 in
theorem ggL_does_X3_act : GoodIn wsL_does wsX3_act := goodIn_ca (goodIn_ca (goodIn_ca (goodIn_hd (goodIn_r _ [61] (by decide +kernel) (by decide +kernel)) (goodIn_app (goodIn_app (goodIn_app (goodIn_app cggL_does_X3_act_1 (goodIn_app cggL_does_X3_act_2 (goodIn_app cggL_does_X3_act_3 (goodIn_app cggL_does_X3_act_4 (cggL_does_X3_act_5))))) (goodIn_r _ [298, 299, 300, 301, 302, 303, 304, 305, 306, 307, 308] (by decide +kernel) (by decide +kernel))) (goodIn_r _ [309, 310, 311, 312] (by decide +kernel) (by decide +kernel))) (goodIn_r _ [313, 314, 315, 316, 317, 318, 319, 320, 321] (by decide +kernel) (by decide +kernel)))) (goodIn_sub (fun _ h => List.mem_cons_of_mem _ (List.mem_append_left _ (List.mem_append_right _ h))) (by decide +kernel))) (goodIn_sub (fun _ h => List.mem_cons_of_mem _ (List.mem_append_right _ h)) (by decide +kernel))) (goodIn_sub (fun _ h => List.mem_cons_of_mem _ (List.mem_append_left _ (List.mem_append_left _ (List.mem_append_right _ h)))) (by decide +kernel))
set_option maxRecDepth 20000 in
theorem gL_does_X3_act : GoodIn wsL_does (wsV RL 44 RX3 yX3_act wsX3_act) := goodIn_app (goodIn_of _ (by decide +kernel)) ggL_does_X3_act
set_option maxRecDepth 20000 in
theorem ggL_does_X3_court : GoodIn wsL_does wsX3_court := goodIn_ca (goodIn_r _ [137, 62, 63, 138, 18, 19, 4, 20, 21, 22, 298, 299, 300, 301, 302, 303, 304, 305, 306, 307, 308, 313, 314, 315, 316, 317, 318, 319, 320, 321] (by decide +kernel) (by decide +kernel)) (goodIn_sub (fun _ h => List.mem_cons_of_mem _ (List.mem_append_right _ h)) (by decide +kernel))
set_option maxRecDepth 20000 in
theorem gL_does_X3_court : GoodIn wsL_does (wsV RL 48 RX3 yX3_court wsX3_court) := goodIn_app (goodIn_of _ (by decide +kernel)) ggL_does_X3_court
set_option maxRecDepth 20000 in
theorem ggL_does_X3_waive : GoodIn wsL_does wsX3_waive := goodIn_ca (goodIn_r _ [142, 62, 63, 143, 18, 19, 4, 20, 21, 22, 298, 299, 300, 301, 302, 303, 304, 305, 306, 307, 308, 313, 314, 315, 316, 317, 318, 319, 320, 321] (by decide +kernel) (by decide +kernel)) (goodIn_sub (fun _ h => List.mem_cons_of_mem _ (List.mem_append_right _ h)) (by decide +kernel))
set_option maxRecDepth 20000 in
theorem gL_does_X3_waive : GoodIn wsL_does (wsV RL 52 RX3 yX3_waive wsX3_waive) := goodIn_app (goodIn_of _ (by decide +kernel)) ggL_does_X3_waive
set_option maxRecDepth 20000 in
theorem ggL_does_X3_plea : GoodIn wsL_does wsX3_plea := goodIn_ca (goodIn_ca (goodIn_r _ [147, 8, 9, 62, 63, 148, 28, 18, 19, 4, 20, 21, 22, 298, 299, 300, 301, 302, 303, 304, 305, 306, 307, 308, 313, 314, 315, 316, 317, 318, 319, 320, 321] (by decide +kernel) (by decide +kernel)) (goodIn_sub (fun _ h => List.mem_cons_of_mem _ (List.mem_append_left _ (List.mem_append_right _ h))) (by decide +kernel))) (goodIn_sub (fun _ h => List.mem_cons_of_mem _ (List.mem_append_right _ h)) (by decide +kernel))
set_option maxRecDepth 20000 in
theorem gL_does_X3_plea : GoodIn wsL_does (wsV RL 55 RX3 yX3_plea wsX3_plea) := goodIn_app (goodIn_of _ (by decide +kernel)) ggL_does_X3_plea
set_option maxRecDepth 20000 in
theorem ggL_does_X3_bar : GoodIn wsL_does wsX3_bar := goodIn_ca (goodIn_r _ [152, 62, 63, 28, 18, 19, 4, 20, 21, 22, 153, 154, 155, 127, 156, 157, 158, 131, 159, 298, 299, 300, 301, 302, 303, 304, 305, 306, 307, 308, 313, 314, 315, 316, 317, 318, 319, 320, 321] (by decide +kernel) (by decide +kernel)) (goodIn_sub (fun _ h => List.mem_cons_of_mem _ (List.mem_append_right _ h)) (by decide +kernel))
set_option maxRecDepth 20000 in
theorem gL_does_X3_bar : GoodIn wsL_does (wsV RL 59 RX3 yX3_bar wsX3_bar) := goodIn_app (goodIn_of _ (by decide +kernel)) ggL_does_X3_bar
set_option maxRecDepth 20000 in
theorem cggL_does_X3_complain_1 : GoodIn wsL_does wsX3_complain_r1 := goodIn_r _ [8, 9, 62, 63, 28, 164, 18, 19, 4, 20, 21, 22, 153, 154, 155, 127, 156, 157, 158, 131, 159, 165, 166, 167] (by decide +kernel) (by decide +kernel)
set_option maxRecDepth 20000 in
theorem cggL_does_X3_complain_2 : GoodIn wsL_does wsX3_complain_r2 := goodIn_r _ [168, 169, 170, 171, 172, 173, 174, 175, 176, 177, 178, 179, 180, 181, 182, 183, 184, 185, 186, 187, 188, 189, 190] (by decide +kernel) (by decide +kernel)
set_option maxRecDepth 20000 in
theorem ggL_does_X3_complain : GoodIn wsL_does wsX3_complain := goodIn_ca (goodIn_ca (goodIn_hd (goodIn_r _ [163] (by decide +kernel) (by decide +kernel)) (goodIn_app (goodIn_app (goodIn_app (goodIn_app cggL_does_X3_complain_1 (cggL_does_X3_complain_2)) (goodIn_r _ [298, 299, 300, 301, 302, 303, 304, 305, 306, 307, 308] (by decide +kernel) (by decide +kernel))) (goodIn_r _ [313, 314, 315, 316, 317, 318, 319, 320, 321] (by decide +kernel) (by decide +kernel))) (goodIn_r _ [322, 323, 324, 325, 326, 327, 328, 329] (by decide +kernel) (by decide +kernel)))) (goodIn_sub (fun _ h => List.mem_cons_of_mem _ (List.mem_append_left _ (List.mem_append_right _ h))) (by decide +kernel))) (goodIn_sub (fun _ h => List.mem_cons_of_mem _ (List.mem_append_right _ h)) (by decide +kernel))
set_option maxRecDepth 20000 in
theorem gL_does_X3_complain : GoodIn wsL_does (wsV RL 62 RX3 yX3_complain wsX3_complain) := goodIn_app (goodIn_of _ (by decide +kernel)) ggL_does_X3_complain
set_option maxRecDepth 20000 in
theorem ggL_does_X3_ask : GoodIn wsL_does wsX3_ask := goodIn_ca (goodIn_ca (goodIn_r _ [194, 8, 9, 169, 164, 171, 195, 28, 196, 63, 170, 197, 18, 19, 4, 20, 21, 22, 298, 299, 300, 301, 302, 303, 304, 305, 306, 307, 308, 322, 323, 324, 325, 326, 327, 328, 329, 313, 314, 315, 316, 317, 318, 319, 320, 321] (by decide +kernel) (by decide +kernel)) (goodIn_sub (fun _ h => List.mem_cons_of_mem _ (List.mem_append_left _ (List.mem_append_right _ h))) (by decide +kernel))) (goodIn_sub (fun _ h => List.mem_cons_of_mem _ (List.mem_append_right _ h)) (by decide +kernel))
set_option maxRecDepth 20000 in
theorem gL_does_X3_ask : GoodIn wsL_does (wsV RL 65 RX3 yX3_ask wsX3_ask) := goodIn_app (goodIn_of _ (by decide +kernel)) ggL_does_X3_ask
set_option maxRecDepth 20000 in
theorem ggL_does_X3_answer : GoodIn wsL_does wsX3_answer := goodIn_ca (goodIn_ca (goodIn_r _ [201, 8, 9, 169, 164, 195, 28, 196, 18, 19, 4, 20, 21, 22, 298, 299, 300, 301, 302, 303, 304, 305, 306, 307, 308, 322, 323, 324, 325, 326, 327, 328, 329] (by decide +kernel) (by decide +kernel)) (goodIn_sub (fun _ h => List.mem_cons_of_mem _ (List.mem_append_left _ (List.mem_append_right _ h))) (by decide +kernel))) (goodIn_sub (fun _ h => List.mem_cons_of_mem _ (List.mem_append_right _ h)) (by decide +kernel))
set_option maxRecDepth 20000 in
theorem gL_does_X3_answer : GoodIn wsL_does (wsV RL 68 RX3 yX3_answer wsX3_answer) := goodIn_app (goodIn_of _ (by decide +kernel)) ggL_does_X3_answer
set_option maxRecDepth 20000 in
theorem ggL_does_X3_hear : GoodIn wsL_does wsX3_hear := goodIn_ca (goodIn_ca (goodIn_r _ [205, 8, 9, 169, 164, 171, 195, 206, 18, 19, 4, 20, 21, 22, 298, 299, 300, 301, 302, 303, 304, 305, 306, 307, 308, 322, 323, 324, 325, 326, 327, 328, 329] (by decide +kernel) (by decide +kernel)) (goodIn_sub (fun _ h => List.mem_cons_of_mem _ (List.mem_append_left _ (List.mem_append_right _ h))) (by decide +kernel))) (goodIn_sub (fun _ h => List.mem_cons_of_mem _ (List.mem_append_right _ h)) (by decide +kernel))
set_option maxRecDepth 20000 in
theorem gL_does_X3_hear : GoodIn wsL_does (wsV RL 71 RX3 yX3_hear wsX3_hear) := goodIn_app (goodIn_of _ (by decide +kernel)) ggL_does_X3_hear
set_option maxRecDepth 20000 in
theorem cggL_does_X3_find_1 : GoodIn wsL_does wsX3_find_r1 := goodIn_r _ [8, 9, 169, 164, 171, 206, 170, 211, 18, 19, 4, 20, 21, 22, 212, 213, 214, 215, 216, 217, 218, 219, 63, 220] (by decide +kernel) (by decide +kernel)
set_option maxRecDepth 20000 in
theorem cggL_does_X3_find_2 : GoodIn wsL_does wsX3_find_r2 := goodIn_r _ [57, 221, 222, 29, 30, 31, 32, 33, 34, 35, 36, 37, 223, 224, 225, 226, 227, 228, 229, 230, 62, 231, 232, 233] (by decide +kernel) (by decide +kernel)
set_option maxRecDepth 20000 in
theorem cggL_does_X3_find_3 : GoodIn wsL_does wsX3_find_r3 := goodIn_r _ [234, 197, 235, 236, 237, 238] (by decide +kernel) (by decide +kernel)
set_option maxRecDepth 20000 in
theorem ggL_does_X3_find : GoodIn wsL_does wsX3_find := goodIn_ca (goodIn_ca (goodIn_hd (goodIn_r _ [210] (by decide +kernel) (by decide +kernel)) (goodIn_app (goodIn_app (goodIn_app (goodIn_app (goodIn_app cggL_does_X3_find_1 (goodIn_app cggL_does_X3_find_2 (cggL_does_X3_find_3))) (goodIn_r _ [298, 299, 300, 301, 302, 303, 304, 305, 306, 307, 308] (by decide +kernel) (by decide +kernel))) (goodIn_r _ [322, 323, 324, 325, 326, 327, 328, 329] (by decide +kernel) (by decide +kernel))) (goodIn_r _ [313, 314, 315, 316, 317, 318, 319, 320, 321] (by decide +kernel) (by decide +kernel))) (goodIn_r _ [309, 310, 311, 312] (by decide +kernel) (by decide +kernel)))) (goodIn_sub (fun _ h => List.mem_cons_of_mem _ (List.mem_append_left _ (List.mem_append_right _ h))) (by decide +kernel))) (goodIn_sub (fun _ h => List.mem_cons_of_mem _ (List.mem_append_right _ h)) (by decide +kernel))
set_option maxRecDepth 20000 in
theorem gL_does_X3_find : GoodIn wsL_does (wsV RL 75 RX3 yX3_find wsX3_find) := goodIn_app (goodIn_of _ (by decide +kernel)) ggL_does_X3_find
set_option maxRecDepth 20000 in
theorem cggL_does_X3_remedy_1 : GoodIn wsL_does wsX3_remedy_r1 := goodIn_r _ [8, 9, 169, 164, 171, 211, 62, 170, 63, 18, 19, 4, 20, 21, 22, 46, 47, 48, 6, 7, 231, 232, 233, 234] (by decide +kernel) (by decide +kernel)
set_option maxRecDepth 20000 in
theorem cggL_does_X3_remedy_2 : GoodIn wsL_does wsX3_remedy_r2 := goodIn_r _ [221, 197, 212, 213, 214, 215, 216, 217, 218, 219, 220, 57, 222, 29, 30, 31, 32, 33, 34, 35, 36, 37, 223, 224] (by decide +kernel) (by decide +kernel)
set_option maxRecDepth 20000 in
theorem cggL_does_X3_remedy_3 : GoodIn wsL_does wsX3_remedy_r3 := goodIn_r _ [225, 226, 227, 228, 229, 230, 235, 236, 237, 238, 243, 244, 245, 127, 246, 133, 247] (by decide +kernel) (by decide +kernel)
set_option maxRecDepth 20000 in
theorem ggL_does_X3_remedy : GoodIn wsL_does wsX3_remedy := goodIn_ca (goodIn_ca (goodIn_ca (goodIn_hd (goodIn_r _ [242] (by decide +kernel) (by decide +kernel)) (goodIn_app (goodIn_app (goodIn_app (goodIn_app (goodIn_app cggL_does_X3_remedy_1 (goodIn_app cggL_does_X3_remedy_2 (cggL_does_X3_remedy_3))) (goodIn_r _ [298, 299, 300, 301, 302, 303, 304, 305, 306, 307, 308] (by decide +kernel) (by decide +kernel))) (goodIn_r _ [322, 323, 324, 325, 326, 327, 328, 329] (by decide +kernel) (by decide +kernel))) (goodIn_r _ [313, 314, 315, 316, 317, 318, 319, 320, 321] (by decide +kernel) (by decide +kernel))) (goodIn_r _ [309, 310, 311, 312] (by decide +kernel) (by decide +kernel)))) (goodIn_sub (fun _ h => List.mem_cons_of_mem _ (List.mem_append_left _ (List.mem_append_right _ h))) (by decide +kernel))) (goodIn_sub (fun _ h => List.mem_cons_of_mem _ (List.mem_append_right _ h)) (by decide +kernel))) (goodIn_sub (fun _ h => List.mem_cons_of_mem _ (List.mem_append_left _ (List.mem_append_left _ (List.mem_append_right _ h)))) (by decide +kernel))
set_option maxRecDepth 20000 in
theorem gL_does_X3_remedy : GoodIn wsL_does (wsV RL 78 RX3 yX3_remedy wsX3_remedy) := goodIn_app (goodIn_of _ (by decide +kernel)) ggL_does_X3_remedy
set_option maxRecDepth 20000 in
theorem ggL_does_X3_pass : GoodIn wsL_does wsX3_pass := goodIn_ca (goodIn_ca (goodIn_r _ [251, 8, 9, 28, 169, 164, 46, 47, 4, 48, 6, 7, 252, 253, 254, 179, 255, 182, 184, 183, 256, 257, 258, 259, 298, 299, 300, 301, 302, 303, 304, 305, 306, 307, 308, 322, 323, 324, 325, 326, 327, 328, 329] (by decide +kernel) (by decide +kernel)) (goodIn_sub (fun _ h => List.mem_cons_of_mem _ (List.mem_append_left _ (List.mem_append_right _ h))) (by decide +kernel))) (goodIn_sub (fun _ h => List.mem_cons_of_mem _ (List.mem_append_left _ (List.mem_append_left _ (List.mem_append_right _ h)))) (by decide +kernel))
set_option maxRecDepth 20000 in
theorem gL_does_X3_pass : GoodIn wsL_does (wsV RL 81 RX3 yX3_pass wsX3_pass) := goodIn_app (goodIn_of _ (by decide +kernel)) ggL_does_X3_pass
set_option maxRecDepth 20000 in
theorem ggL_does_X3_about : GoodIn wsL_does wsX3_about := goodIn_ca (goodIn_ca (goodIn_r _ [263, 169, 164, 171, 170, 264, 265, 195, 211, 18, 19, 4, 20, 21, 22, 46, 47, 48, 6, 7, 266, 267, 268, 269, 270, 271, 272, 298, 299, 300, 301, 302, 303, 304, 305, 306, 307, 308, 322, 323, 324, 325, 326, 327, 328, 329] (by decide +kernel) (by decide +kernel)) (goodIn_sub (fun _ h => List.mem_cons_of_mem _ (List.mem_append_right _ h)) (by decide +kernel))) (goodIn_sub (fun _ h => List.mem_cons_of_mem _ (List.mem_append_left _ (List.mem_append_left _ (List.mem_append_right _ h)))) (by decide +kernel))
set_option maxRecDepth 20000 in
theorem gL_does_X3_about : GoodIn wsL_does (wsV RL 84 RX3 yX3_about wsX3_about) := goodIn_app (goodIn_of _ (by decide +kernel)) ggL_does_X3_about
set_option maxRecDepth 20000 in
theorem ggL_does_X3_reminder : GoodIn wsL_does wsX3_reminder := goodIn_ca (goodIn_r _ [276, 169, 164, 195, 63, 170, 197, 28, 196, 18, 19, 4, 20, 21, 22, 277, 278, 279, 280, 17, 298, 299, 300, 301, 302, 303, 304, 305, 306, 307, 308, 322, 323, 324, 325, 326, 327, 328, 329, 313, 314, 315, 316, 317, 318, 319, 320, 321] (by decide +kernel) (by decide +kernel)) (goodIn_sub (fun _ h => List.mem_cons_of_mem _ (List.mem_append_right _ h)) (by decide +kernel))
set_option maxRecDepth 20000 in
theorem gL_does_X3_reminder : GoodIn wsL_does (wsV RL 87 RX3 yX3_reminder wsX3_reminder) := goodIn_app (goodIn_of _ (by decide +kernel)) ggL_does_X3_reminder
set_option maxRecDepth 20000 in
theorem cggL_does_X3_fault_1 : GoodIn wsL_does wsX3_fault_r1 := goodIn_r _ [62, 18, 19, 4, 20, 21, 22, 212, 213, 214, 215, 216, 217, 218, 219, 63, 220, 57, 221, 222, 29, 30, 31, 32] (by decide +kernel) (by decide +kernel)
set_option maxRecDepth 20000 in
theorem cggL_does_X3_fault_2 : GoodIn wsL_does wsX3_fault_r2 := goodIn_r _ [33, 34, 35, 36, 37, 223, 224, 225, 226, 227, 228, 229, 230, 231, 232, 233, 234, 197, 235, 236, 237, 238] (by decide +kernel) (by decide +kernel)
set_option maxRecDepth 20000 in
theorem ggL_does_X3_fault : GoodIn wsL_does wsX3_fault := goodIn_ca (goodIn_hd (goodIn_r _ [284] (by decide +kernel) (by decide +kernel)) (goodIn_app (goodIn_app (goodIn_app (goodIn_app cggL_does_X3_fault_1 (cggL_does_X3_fault_2)) (goodIn_r _ [298, 299, 300, 301, 302, 303, 304, 305, 306, 307, 308] (by decide +kernel) (by decide +kernel))) (goodIn_r _ [313, 314, 315, 316, 317, 318, 319, 320, 321] (by decide +kernel) (by decide +kernel))) (goodIn_r _ [309, 310, 311, 312] (by decide +kernel) (by decide +kernel)))) (goodIn_sub (fun _ h => List.mem_cons_of_mem _ (List.mem_append_right _ h)) (by decide +kernel))
set_option maxRecDepth 20000 in
theorem gL_does_X3_fault : GoodIn wsL_does (wsV RL 90 RX3 yX3_fault wsX3_fault) := goodIn_app (goodIn_of _ (by decide +kernel)) ggL_does_X3_fault
set_option maxRecDepth 20000 in
theorem ggL_does_X3_likes : GoodIn wsL_does wsX3_likes := goodIn_ca (goodIn_r _ [288, 62, 18, 19, 4, 20, 21, 22, 227, 228, 229, 230, 231, 232, 233, 234, 63, 221, 197, 298, 299, 300, 301, 302, 303, 304, 305, 306, 307, 308, 313, 314, 315, 316, 317, 318, 319, 320, 321] (by decide +kernel) (by decide +kernel)) (goodIn_sub (fun _ h => List.mem_cons_of_mem _ (List.mem_append_right _ h)) (by decide +kernel))
set_option maxRecDepth 20000 in
theorem gL_does_X3_likes : GoodIn wsL_does (wsV RL 93 RX3 yX3_likes wsX3_likes) := goodIn_app (goodIn_of _ (by decide +kernel)) ggL_does_X3_likes
set_option maxRecDepth 20000 in
theorem ggL_does_X3_remedied : GoodIn wsL_does wsX3_remedied := goodIn_ca (goodIn_r _ [292, 62, 63, 293, 18, 19, 4, 20, 21, 22, 298, 299, 300, 301, 302, 303, 304, 305, 306, 307, 308, 313, 314, 315, 316, 317, 318, 319, 320, 321] (by decide +kernel) (by decide +kernel)) (goodIn_sub (fun _ h => List.mem_cons_of_mem _ (List.mem_append_right _ h)) (by decide +kernel))
set_option maxRecDepth 20000 in
theorem gL_does_X3_remedied : GoodIn wsL_does (wsV RL 96 RX3 yX3_remedied wsX3_remedied) := goodIn_app (goodIn_of _ (by decide +kernel)) ggL_does_X3_remedied
set_option maxRecDepth 20000 in
theorem ggL_does_X3_gains : GoodIn wsL_does wsX3_gains := goodIn_ca (goodIn_ca (goodIn_r _ [297, 62, 63, 221, 220, 18, 19, 4, 20, 21, 22, 46, 47, 48, 6, 7, 216, 217, 218, 219, 57, 222, 29, 30, 31, 32, 33, 34, 35, 36, 37, 298, 299, 300, 301, 302, 303, 304, 305, 306, 307, 308, 313, 314, 315, 316, 317, 318, 319, 320, 321, 309, 310, 311, 312] (by decide +kernel) (by decide +kernel)) (goodIn_sub (fun _ h => List.mem_cons_of_mem _ (List.mem_append_right _ h)) (by decide +kernel))) (goodIn_sub (fun _ h => List.mem_cons_of_mem _ (List.mem_append_left _ (List.mem_append_left _ (List.mem_append_right _ h)))) (by decide +kernel))
set_option maxRecDepth 20000 in
theorem gL_does_X3_gains : GoodIn wsL_does (wsV RL 99 RX3 yX3_gains wsX3_gains) := goodIn_app (goodIn_of _ (by decide +kernel)) ggL_does_X3_gains
theorem dL_does_0 : decode cL_does 0 = .ok (.iload_n 1, 1) := by decide +kernel
theorem dL_does_1 : decode cL_does 1 = .ok (.tableswitch 285 0 21 #[103, 110, 116, 123, 130, 137, 146, 170, 194, 202, 209, 216, 222, 228, 235, 241, 248, 254, 261, 267, 273, 279], 103) := by decide +kernel
theorem dL_does_104 : decode cL_does 104 = .ok (.aload_n 0, 1) := by decide +kernel
theorem dL_does_105 : decode cL_does 105 = .ok (.iload_n 2, 1) := by decide +kernel
theorem dL_does_106 : decode cL_does 106 = .ok (.i2c, 1) := by decide +kernel
theorem dL_does_107 : decode cL_does 107 = .ok (.invokevirtual 24, 3) := by decide +kernel
theorem dL_does_110 : decode cL_does 110 = .ok (.ireturn, 1) := by decide +kernel
theorem dL_does_111 : decode cL_does 111 = .ok (.aload_n 0, 1) := by decide +kernel
theorem dL_does_112 : decode cL_does 112 = .ok (.iload_n 2, 1) := by decide +kernel
theorem dL_does_113 : decode cL_does 113 = .ok (.invokevirtual 30, 3) := by decide +kernel
theorem dL_does_116 : decode cL_does 116 = .ok (.ireturn, 1) := by decide +kernel
theorem dL_does_117 : decode cL_does 117 = .ok (.aload_n 0, 1) := by decide +kernel
theorem dL_does_118 : decode cL_does 118 = .ok (.iload_n 2, 1) := by decide +kernel
theorem dL_does_119 : decode cL_does 119 = .ok (.iload_n 3, 1) := by decide +kernel
theorem dL_does_120 : decode cL_does 120 = .ok (.invokevirtual 34, 3) := by decide +kernel
theorem dL_does_123 : decode cL_does 123 = .ok (.ireturn, 1) := by decide +kernel
theorem dL_does_124 : decode cL_does 124 = .ok (.aload_n 0, 1) := by decide +kernel
theorem dL_does_125 : decode cL_does 125 = .ok (.iload_n 2, 1) := by decide +kernel
theorem dL_does_126 : decode cL_does 126 = .ok (.iload_n 3, 1) := by decide +kernel
theorem dL_does_127 : decode cL_does 127 = .ok (.invokevirtual 38, 3) := by decide +kernel
theorem dL_does_130 : decode cL_does 130 = .ok (.ireturn, 1) := by decide +kernel
theorem dL_does_131 : decode cL_does 131 = .ok (.aload_n 0, 1) := by decide +kernel
theorem dL_does_132 : decode cL_does 132 = .ok (.iload_n 2, 1) := by decide +kernel
theorem dL_does_133 : decode cL_does 133 = .ok (.iload_n 3, 1) := by decide +kernel
theorem dL_does_134 : decode cL_does 134 = .ok (.invokevirtual 41, 3) := by decide +kernel
theorem dL_does_137 : decode cL_does 137 = .ok (.ireturn, 1) := by decide +kernel
theorem dL_does_138 : decode cL_does 138 = .ok (.aload_n 0, 1) := by decide +kernel
theorem dL_does_139 : decode cL_does 139 = .ok (.iload_n 2, 1) := by decide +kernel
theorem dL_does_140 : decode cL_does 140 = .ok (.iload_n 3, 1) := by decide +kernel
theorem dL_does_141 : decode cL_does 141 = .ok (.iload 4, 2) := by decide +kernel
theorem dL_does_143 : decode cL_does 143 = .ok (.invokevirtual 44, 3) := by decide +kernel
theorem dL_does_146 : decode cL_does 146 = .ok (.ireturn, 1) := by decide +kernel
theorem dL_does_147 : decode cL_does 147 = .ok (.aload_n 0, 1) := by decide +kernel
theorem dL_does_148 : decode cL_does 148 = .ok (.iload_n 2, 1) := by decide +kernel
theorem dL_does_149 : decode cL_does 149 = .ok (.iload_n 3, 1) := by decide +kernel
theorem dL_does_150 : decode cL_does 150 = .ok (.iconst 1, 1) := by decide +kernel
theorem dL_does_151 : decode cL_does 151 = .ok (.if_icmp .ne 7, 3) := by decide +kernel
theorem dL_does_154 : decode cL_does 154 = .ok (.iconst 1, 1) := by decide +kernel
theorem dL_does_155 : decode cL_does 155 = .ok (.goto 4, 3) := by decide +kernel
theorem dL_does_158 : decode cL_does 158 = .ok (.iconst 0, 1) := by decide +kernel
theorem dL_does_159 : decode cL_does 159 = .ok (.invokevirtual 48, 3) := by decide +kernel
theorem dL_does_162 : decode cL_does 162 = .ok (.ifCond .eq 7, 3) := by decide +kernel
theorem dL_does_165 : decode cL_does 165 = .ok (.iconst 1, 1) := by decide +kernel
theorem dL_does_166 : decode cL_does 166 = .ok (.goto 4, 3) := by decide +kernel
theorem dL_does_169 : decode cL_does 169 = .ok (.iconst 0, 1) := by decide +kernel
theorem dL_does_170 : decode cL_does 170 = .ok (.ireturn, 1) := by decide +kernel
theorem dL_does_171 : decode cL_does 171 = .ok (.aload_n 0, 1) := by decide +kernel
theorem dL_does_172 : decode cL_does 172 = .ok (.iload_n 2, 1) := by decide +kernel
theorem dL_does_173 : decode cL_does 173 = .ok (.iload_n 3, 1) := by decide +kernel
theorem dL_does_174 : decode cL_does 174 = .ok (.iconst 1, 1) := by decide +kernel
theorem dL_does_175 : decode cL_does 175 = .ok (.if_icmp .ne 7, 3) := by decide +kernel
theorem dL_does_178 : decode cL_does 178 = .ok (.iconst 1, 1) := by decide +kernel
theorem dL_does_179 : decode cL_does 179 = .ok (.goto 4, 3) := by decide +kernel
theorem dL_does_182 : decode cL_does 182 = .ok (.iconst 0, 1) := by decide +kernel
theorem dL_does_183 : decode cL_does 183 = .ok (.invokevirtual 52, 3) := by decide +kernel
theorem dL_does_186 : decode cL_does 186 = .ok (.ifCond .eq 7, 3) := by decide +kernel
theorem dL_does_189 : decode cL_does 189 = .ok (.iconst 1, 1) := by decide +kernel
theorem dL_does_190 : decode cL_does 190 = .ok (.goto 4, 3) := by decide +kernel
theorem dL_does_193 : decode cL_does 193 = .ok (.iconst 0, 1) := by decide +kernel
theorem dL_does_194 : decode cL_does 194 = .ok (.ireturn, 1) := by decide +kernel
theorem dL_does_195 : decode cL_does 195 = .ok (.aload_n 0, 1) := by decide +kernel
theorem dL_does_196 : decode cL_does 196 = .ok (.iload_n 2, 1) := by decide +kernel
theorem dL_does_197 : decode cL_does 197 = .ok (.iload_n 3, 1) := by decide +kernel
theorem dL_does_198 : decode cL_does 198 = .ok (.invokevirtual 55, 3) := by decide +kernel
theorem dL_does_201 : decode cL_does 201 = .ok (.iconst 0, 1) := by decide +kernel
theorem dL_does_202 : decode cL_does 202 = .ok (.ireturn, 1) := by decide +kernel
theorem dL_does_203 : decode cL_does 203 = .ok (.aload_n 0, 1) := by decide +kernel
theorem dL_does_204 : decode cL_does 204 = .ok (.iload_n 2, 1) := by decide +kernel
theorem dL_does_205 : decode cL_does 205 = .ok (.iload_n 3, 1) := by decide +kernel
theorem dL_does_206 : decode cL_does 206 = .ok (.invokevirtual 59, 3) := by decide +kernel
theorem dL_does_209 : decode cL_does 209 = .ok (.ireturn, 1) := by decide +kernel
theorem dL_does_210 : decode cL_does 210 = .ok (.aload_n 0, 1) := by decide +kernel
theorem dL_does_211 : decode cL_does 211 = .ok (.iload_n 2, 1) := by decide +kernel
theorem dL_does_212 : decode cL_does 212 = .ok (.iload_n 3, 1) := by decide +kernel
theorem dL_does_213 : decode cL_does 213 = .ok (.invokevirtual 62, 3) := by decide +kernel
theorem dL_does_216 : decode cL_does 216 = .ok (.ireturn, 1) := by decide +kernel
theorem dL_does_217 : decode cL_does 217 = .ok (.aload_n 0, 1) := by decide +kernel
theorem dL_does_218 : decode cL_does 218 = .ok (.iload_n 2, 1) := by decide +kernel
theorem dL_does_219 : decode cL_does 219 = .ok (.invokevirtual 65, 3) := by decide +kernel
theorem dL_does_222 : decode cL_does 222 = .ok (.ireturn, 1) := by decide +kernel
theorem dL_does_223 : decode cL_does 223 = .ok (.aload_n 0, 1) := by decide +kernel
theorem dL_does_224 : decode cL_does 224 = .ok (.iload_n 2, 1) := by decide +kernel
theorem dL_does_225 : decode cL_does 225 = .ok (.invokevirtual 68, 3) := by decide +kernel
theorem dL_does_228 : decode cL_does 228 = .ok (.ireturn, 1) := by decide +kernel
theorem dL_does_229 : decode cL_does 229 = .ok (.aload_n 0, 1) := by decide +kernel
theorem dL_does_230 : decode cL_does 230 = .ok (.iload_n 2, 1) := by decide +kernel
theorem dL_does_231 : decode cL_does 231 = .ok (.invokevirtual 71, 3) := by decide +kernel
theorem dL_does_234 : decode cL_does 234 = .ok (.iconst 0, 1) := by decide +kernel
theorem dL_does_235 : decode cL_does 235 = .ok (.ireturn, 1) := by decide +kernel
theorem dL_does_236 : decode cL_does 236 = .ok (.aload_n 0, 1) := by decide +kernel
theorem dL_does_237 : decode cL_does 237 = .ok (.iload_n 2, 1) := by decide +kernel
theorem dL_does_238 : decode cL_does 238 = .ok (.invokevirtual 75, 3) := by decide +kernel
theorem dL_does_241 : decode cL_does 241 = .ok (.ireturn, 1) := by decide +kernel
theorem dL_does_242 : decode cL_does 242 = .ok (.aload_n 0, 1) := by decide +kernel
theorem dL_does_243 : decode cL_does 243 = .ok (.iload_n 2, 1) := by decide +kernel
theorem dL_does_244 : decode cL_does 244 = .ok (.iload_n 3, 1) := by decide +kernel
theorem dL_does_245 : decode cL_does 245 = .ok (.invokevirtual 78, 3) := by decide +kernel
theorem dL_does_248 : decode cL_does 248 = .ok (.ireturn, 1) := by decide +kernel
theorem dL_does_249 : decode cL_does 249 = .ok (.aload_n 0, 1) := by decide +kernel
theorem dL_does_250 : decode cL_does 250 = .ok (.iload_n 2, 1) := by decide +kernel
theorem dL_does_251 : decode cL_does 251 = .ok (.invokevirtual 81, 3) := by decide +kernel
theorem dL_does_254 : decode cL_does 254 = .ok (.ireturn, 1) := by decide +kernel
theorem dL_does_255 : decode cL_does 255 = .ok (.aload_n 0, 1) := by decide +kernel
theorem dL_does_256 : decode cL_does 256 = .ok (.iload_n 2, 1) := by decide +kernel
theorem dL_does_257 : decode cL_does 257 = .ok (.iload_n 3, 1) := by decide +kernel
theorem dL_does_258 : decode cL_does 258 = .ok (.invokevirtual 84, 3) := by decide +kernel
theorem dL_does_261 : decode cL_does 261 = .ok (.ireturn, 1) := by decide +kernel
theorem dL_does_262 : decode cL_does 262 = .ok (.aload_n 0, 1) := by decide +kernel
theorem dL_does_263 : decode cL_does 263 = .ok (.iload_n 2, 1) := by decide +kernel
theorem dL_does_264 : decode cL_does 264 = .ok (.invokevirtual 87, 3) := by decide +kernel
theorem dL_does_267 : decode cL_does 267 = .ok (.ireturn, 1) := by decide +kernel
theorem dL_does_268 : decode cL_does 268 = .ok (.aload_n 0, 1) := by decide +kernel
theorem dL_does_269 : decode cL_does 269 = .ok (.iload_n 2, 1) := by decide +kernel
theorem dL_does_270 : decode cL_does 270 = .ok (.invokevirtual 90, 3) := by decide +kernel
theorem dL_does_273 : decode cL_does 273 = .ok (.ireturn, 1) := by decide +kernel
theorem dL_does_274 : decode cL_does 274 = .ok (.aload_n 0, 1) := by decide +kernel
theorem dL_does_275 : decode cL_does 275 = .ok (.iload_n 2, 1) := by decide +kernel
theorem dL_does_276 : decode cL_does 276 = .ok (.invokevirtual 93, 3) := by decide +kernel
theorem dL_does_279 : decode cL_does 279 = .ok (.ireturn, 1) := by decide +kernel
theorem dL_does_280 : decode cL_does 280 = .ok (.aload_n 0, 1) := by decide +kernel
theorem dL_does_281 : decode cL_does 281 = .ok (.iload_n 2, 1) := by decide +kernel
theorem dL_does_282 : decode cL_does 282 = .ok (.invokevirtual 96, 3) := by decide +kernel
theorem dL_does_285 : decode cL_does 285 = .ok (.ireturn, 1) := by decide +kernel
theorem dL_does_286 : decode cL_does 286 = .ok (.aload_n 0, 1) := by decide +kernel
theorem dL_does_287 : decode cL_does 287 = .ok (.iload_n 2, 1) := by decide +kernel
theorem dL_does_288 : decode cL_does 288 = .ok (.iload_n 3, 1) := by decide +kernel
theorem dL_does_289 : decode cL_does 289 = .ok (.invokevirtual 99, 3) := by decide +kernel
theorem dL_does_292 : decode cL_does 292 = .ok (.ireturn, 1) := by decide +kernel
set_option maxRecDepth 20000 in
theorem cggL_types_L_call_1 : GoodIn wsL_types wsL_call_r1 := goodIn_r _ [5, 6, 7, 8, 9, 10, 11, 12, 3, 13, 14, 15, 16, 17, 18, 19, 20, 21, 22, 23, 24, 25, 26, 27] (by decide +kernel) (by decide +kernel)
set_option maxRecDepth 20000 in
theorem cggL_types_L_call_2 : GoodIn wsL_types wsL_call_r2 := goodIn_r _ [28, 29, 30, 31, 32, 33, 34, 35, 36, 37, 38, 39, 40, 41, 42, 43, 44, 45, 46, 47, 48, 49, 50, 51] (by decide +kernel) (by decide +kernel)
set_option maxRecDepth 20000 in
theorem cggL_types_L_call_3 : GoodIn wsL_types wsL_call_r3 := goodIn_r _ [52, 53, 54, 55, 56, 57, 58, 59, 60, 61, 62, 63, 64, 65, 66, 67, 68, 69, 70, 71, 72, 73, 74, 75] (by decide +kernel) (by decide +kernel)
set_option maxRecDepth 20000 in
theorem cggL_types_L_call_4 : GoodIn wsL_types wsL_call_r4 := goodIn_r _ [76, 77, 78, 79, 80, 81, 82, 83, 84, 85, 86, 87, 88, 89, 90, 91, 92, 93, 94, 95, 96, 97, 98, 99] (by decide +kernel) (by decide +kernel)
set_option maxRecDepth 20000 in
theorem cggL_types_L_call_5 : GoodIn wsL_types wsL_call_r5 := goodIn_r _ [100, 101, 102, 103, 104, 105, 106, 107, 108, 109, 110, 111, 112, 113, 114, 115, 116, 117, 118, 119, 120, 121, 122, 123] (by decide +kernel) (by decide +kernel)
set_option maxRecDepth 20000 in
theorem cggL_types_L_call_6 : GoodIn wsL_types wsL_call_r6 := goodIn_r _ [124, 125, 126, 127, 128, 129, 130, 131, 132, 133, 134, 135, 136, 137, 138, 139, 140, 141, 142, 143, 144, 145, 146, 147] (by decide +kernel) (by decide +kernel)
set_option maxRecDepth 20000 in
theorem cggL_types_L_call_7 : GoodIn wsL_types wsL_call_r7 := goodIn_r _ [148, 149, 150, 151, 152, 153, 154, 155, 156, 157, 158, 159, 160, 161, 162, 163, 164, 165, 166, 167, 168, 169, 170, 171] (by decide +kernel) (by decide +kernel)
set_option maxRecDepth 20000 in
theorem cggL_types_L_call_8 : GoodIn wsL_types wsL_call_r8 := goodIn_r _ [172, 173, 174, 175, 176, 177, 178, 179, 180, 181, 182, 183, 184, 185, 186, 187, 188, 189, 190, 191, 192, 193, 194, 195] (by decide +kernel) (by decide +kernel)
set_option maxRecDepth 20000 in
theorem cggL_types_L_call_9 : GoodIn wsL_types wsL_call_r9 := goodIn_r _ [196, 197, 198, 199, 200, 201, 202, 203, 204, 205, 206, 207, 208, 209, 210, 211, 212, 213, 214, 215, 216, 217, 218, 219] (by decide +kernel) (by decide +kernel)
set_option maxRecDepth 20000 in
theorem cggL_types_L_call_10 : GoodIn wsL_types wsL_call_r10 := goodIn_r _ [220, 221, 222, 223, 224, 225, 226, 227, 228, 229, 230, 231, 232, 233, 234, 235, 236, 237, 238, 239, 240, 241, 242, 243] (by decide +kernel) (by decide +kernel)
set_option maxRecDepth 20000 in
theorem cggL_types_L_call_11 : GoodIn wsL_types wsL_call_r11 := goodIn_r _ [244, 245, 246, 247, 248, 249, 250, 251, 252, 253, 254, 255, 256, 257, 258, 259, 260, 261, 262, 263, 264, 265, 266, 267] (by decide +kernel) (by decide +kernel)
set_option maxRecDepth 20000 in
theorem cggL_types_L_call_12 : GoodIn wsL_types wsL_call_r12 := goodIn_r _ [268, 269, 270, 271, 272, 273, 274, 275, 276, 277, 278, 279, 280, 281, 282, 283, 284, 285, 286, 287, 288, 289, 290, 291] (by decide +kernel) (by decide +kernel)
set_option maxRecDepth 20000 in
theorem cggL_types_L_call_13 : GoodIn wsL_types wsL_call_r13 := goodIn_r _ [292, 293, 294, 295, 296, 297, 298, 299, 300, 301, 302, 303, 304, 305, 306, 307, 308, 309, 310] (by decide +kernel) (by decide +kernel)
set_option maxRecDepth 20000 in
theorem ggL_types_L_call : GoodIn wsL_types wsL_call := goodIn_ca (goodIn_ca (goodIn_ca (goodIn_hd (goodIn_r _ [4] (by decide +kernel) (by decide +kernel)) (goodIn_app (goodIn_app (goodIn_app (goodIn_app (goodIn_app cggL_types_L_call_1 (goodIn_app cggL_types_L_call_2 (goodIn_app cggL_types_L_call_3 (goodIn_app cggL_types_L_call_4 (goodIn_app cggL_types_L_call_5 (goodIn_app cggL_types_L_call_6 (goodIn_app cggL_types_L_call_7 (goodIn_app cggL_types_L_call_8 (goodIn_app cggL_types_L_call_9 (goodIn_app cggL_types_L_call_10 (goodIn_app cggL_types_L_call_11 (goodIn_app cggL_types_L_call_12 (cggL_types_L_call_13))))))))))))) (goodIn_r _ [311, 312, 313, 314, 315, 316, 317, 318, 319, 320, 321] (by decide +kernel) (by decide +kernel))) (goodIn_r _ [322, 323, 324, 325] (by decide +kernel) (by decide +kernel))) (goodIn_r _ [326, 327, 328, 329, 330, 331, 332, 333, 334] (by decide +kernel) (by decide +kernel))) (goodIn_r _ [335, 336, 337, 338, 339, 340, 341, 342] (by decide +kernel) (by decide +kernel)))) (goodIn_sub (fun _ h => List.mem_cons_of_mem _ (List.mem_append_left _ (List.mem_append_left _ (List.mem_append_right _ h)))) (by decide +kernel))) (goodIn_sub (fun _ h => List.mem_cons_of_mem _ (List.mem_append_left _ (List.mem_append_right _ h))) (by decide +kernel))) (goodIn_sub (fun _ h => List.mem_cons_of_mem _ (List.mem_append_right _ h)) (by decide +kernel))
set_option maxRecDepth 20000 in
theorem gL_types_L_call : GoodIn wsL_types (va_wsS RL 102 yL_call wsL_call) := goodIn_app (goodIn_of _ (by decide +kernel)) ggL_types_L_call
theorem dL_types_0 : decode cL_types 0 = .ok (.iconst 1, 1) := by decide +kernel
theorem dL_types_1 : decode cL_types 1 = .ok (.istore 4, 2) := by decide +kernel
theorem dL_types_3 : decode cL_types 3 = .ok (.iconst 0, 1) := by decide +kernel
theorem dL_types_4 : decode cL_types 4 = .ok (.istore 5, 2) := by decide +kernel
theorem dL_types_6 : decode cL_types 6 = .ok (.iload 5, 2) := by decide +kernel
theorem dL_types_8 : decode cL_types 8 = .ok (.iload_n 3, 1) := by decide +kernel
theorem dL_types_9 : decode cL_types 9 = .ok (.if_icmp .ge 83, 3) := by decide +kernel
theorem dL_types_12 : decode cL_types 12 = .ok (.iload 5, 2) := by decide +kernel
theorem dL_types_14 : decode cL_types 14 = .ok (.iconst 4, 1) := by decide +kernel
theorem dL_types_15 : decode cL_types 15 = .ok (.if_icmp .ge 12, 3) := by decide +kernel
theorem dL_types_18 : decode cL_types 18 = .ok (.iload_n 1, 1) := by decide +kernel
theorem dL_types_19 : decode cL_types 19 = .ok (.iconst 5, 1) := by decide +kernel
theorem dL_types_20 : decode cL_types 20 = .ok (.iload 5, 2) := by decide +kernel
theorem dL_types_22 : decode cL_types 22 = .ok (.imul, 1) := by decide +kernel
theorem dL_types_23 : decode cL_types 23 = .ok (.ishr, 1) := by decide +kernel
theorem dL_types_24 : decode cL_types 24 = .ok (.goto 11, 3) := by decide +kernel
theorem dL_types_27 : decode cL_types 27 = .ok (.iload_n 2, 1) := by decide +kernel
theorem dL_types_28 : decode cL_types 28 = .ok (.iconst 5, 1) := by decide +kernel
theorem dL_types_29 : decode cL_types 29 = .ok (.iload 5, 2) := by decide +kernel
theorem dL_types_31 : decode cL_types 31 = .ok (.iconst 4, 1) := by decide +kernel
theorem dL_types_32 : decode cL_types 32 = .ok (.isub, 1) := by decide +kernel
theorem dL_types_33 : decode cL_types 33 = .ok (.imul, 1) := by decide +kernel
theorem dL_types_34 : decode cL_types 34 = .ok (.ishr, 1) := by decide +kernel
theorem dL_types_35 : decode cL_types 35 = .ok (.bipush 31, 2) := by decide +kernel
theorem dL_types_37 : decode cL_types 37 = .ok (.iand, 1) := by decide +kernel
theorem dL_types_38 : decode cL_types 38 = .ok (.istore 6, 2) := by decide +kernel
theorem dL_types_40 : decode cL_types 40 = .ok (.iload 4, 2) := by decide +kernel
theorem dL_types_42 : decode cL_types 42 = .ok (.ifCond .eq 41, 3) := by decide +kernel
theorem dL_types_45 : decode cL_types 45 = .ok (.aload_n 0, 1) := by decide +kernel
theorem dL_types_46 : decode cL_types 46 = .ok (.iconst 0, 1) := by decide +kernel
theorem dL_types_47 : decode cL_types 47 = .ok (.bipush 97, 2) := by decide +kernel
theorem dL_types_49 : decode cL_types 49 = .ok (.iload 6, 2) := by decide +kernel
theorem dL_types_51 : decode cL_types 51 = .ok (.bipush 25, 2) := by decide +kernel
theorem dL_types_53 : decode cL_types 53 = .ok (.if_icmp .le 11, 3) := by decide +kernel
theorem dL_types_56 : decode cL_types 56 = .ok (.iload 6, 2) := by decide +kernel
theorem dL_types_58 : decode cL_types 58 = .ok (.bipush 26, 2) := by decide +kernel
theorem dL_types_60 : decode cL_types 60 = .ok (.isub, 1) := by decide +kernel
theorem dL_types_61 : decode cL_types 61 = .ok (.goto 5, 3) := by decide +kernel
theorem dL_types_64 : decode cL_types 64 = .ok (.iload 6, 2) := by decide +kernel
theorem dL_types_66 : decode cL_types 66 = .ok (.iadd, 1) := by decide +kernel
theorem dL_types_67 : decode cL_types 67 = .ok (.iconst 0, 1) := by decide +kernel
theorem dL_types_68 : decode cL_types 68 = .ok (.iconst 0, 1) := by decide +kernel
theorem dL_types_69 : decode cL_types 69 = .ok (.invokestatic 102, 3) := by decide +kernel
theorem dL_types_72 : decode cL_types 72 = .ok (.iload 5, 2) := by decide +kernel
theorem dL_types_74 : decode cL_types 74 = .ok (.iconst 1, 1) := by decide +kernel
theorem dL_types_75 : decode cL_types 75 = .ok (.iadd, 1) := by decide +kernel
theorem dL_types_76 : decode cL_types 76 = .ok (.if_icmp .ne 7, 3) := by decide +kernel
theorem dL_types_79 : decode cL_types 79 = .ok (.iconst 1, 1) := by decide +kernel
theorem dL_types_80 : decode cL_types 80 = .ok (.goto 4, 3) := by decide +kernel
theorem dL_types_83 : decode cL_types 83 = .ok (.iconst 0, 1) := by decide +kernel
theorem dL_types_84 : decode cL_types 84 = .ok (.istore 4, 2) := by decide +kernel
theorem dL_types_86 : decode cL_types 86 = .ok (.iinc 5 1, 3) := by decide +kernel
theorem dL_types_89 : decode cL_types 89 = .ok (.goto (-83), 3) := by decide +kernel
theorem dL_types_92 : decode cL_types 92 = .ok (.iload 4, 2) := by decide +kernel
theorem dL_types_94 : decode cL_types 94 = .ok (.ireturn, 1) := by decide +kernel
set_option maxRecDepth 20000 in
theorem cggL_kind_L_types_1 : GoodIn wsL_kind wsL_types_r1 := goodIn_r _ [8, 9, 6, 10, 11, 12, 13, 14, 15, 16, 17, 18, 19, 20, 21, 22, 23, 24, 25, 26, 27, 28, 29, 30] (by decide +kernel) (by decide +kernel)
set_option maxRecDepth 20000 in
theorem cggL_kind_L_types_2 : GoodIn wsL_kind wsL_types_r2 := goodIn_r _ [31, 32, 33, 34, 35, 36, 37, 38, 39, 40, 41, 42, 43, 44, 45, 46, 47, 48, 49, 50, 51, 52, 53, 54] (by decide +kernel) (by decide +kernel)
set_option maxRecDepth 20000 in
theorem cggL_kind_L_types_3 : GoodIn wsL_kind wsL_types_r3 := goodIn_r _ [55, 56, 57, 58, 59, 60, 61, 62, 63, 64, 65, 66, 67, 68, 69, 70, 71, 72, 73, 74, 75, 76, 77, 78] (by decide +kernel) (by decide +kernel)
set_option maxRecDepth 20000 in
theorem cggL_kind_L_types_4 : GoodIn wsL_kind wsL_types_r4 := goodIn_r _ [79, 80, 81, 82, 83, 84, 85, 86, 87, 88, 89, 90, 91, 92, 93, 94, 95, 96, 97, 98, 99, 100, 101, 102] (by decide +kernel) (by decide +kernel)
set_option maxRecDepth 20000 in
theorem cggL_kind_L_types_5 : GoodIn wsL_kind wsL_types_r5 := goodIn_r _ [103, 104, 105, 106, 107, 108, 109, 110, 111, 112, 113, 114, 115, 116, 117, 118, 119, 120, 121, 122, 123, 124, 125, 126] (by decide +kernel) (by decide +kernel)
set_option maxRecDepth 20000 in
theorem cggL_kind_L_types_6 : GoodIn wsL_kind wsL_types_r6 := goodIn_r _ [127, 128, 129, 130, 131, 132, 133, 134, 135, 136, 137, 138, 139, 140, 141, 142, 143, 144, 145, 146, 147, 148, 149, 150] (by decide +kernel) (by decide +kernel)
set_option maxRecDepth 20000 in
theorem cggL_kind_L_types_7 : GoodIn wsL_kind wsL_types_r7 := goodIn_r _ [151, 152, 153, 154, 155, 156, 157, 158, 159, 160, 161, 162, 163, 164, 165, 166, 167, 168, 169, 170, 171, 172, 173, 174] (by decide +kernel) (by decide +kernel)
set_option maxRecDepth 20000 in
theorem cggL_kind_L_types_8 : GoodIn wsL_kind wsL_types_r8 := goodIn_r _ [175, 176, 177, 178, 179, 180, 181, 182, 183, 184, 185, 186, 187, 188, 189, 190, 191, 192, 193, 194, 195, 196, 197, 198] (by decide +kernel) (by decide +kernel)
set_option maxRecDepth 20000 in
theorem cggL_kind_L_types_9 : GoodIn wsL_kind wsL_types_r9 := goodIn_r _ [199, 200, 201, 202, 203, 204, 205, 206, 207, 208, 209, 210, 211, 212, 213, 214, 215, 216, 217, 218, 219, 220, 221, 222] (by decide +kernel) (by decide +kernel)
set_option maxRecDepth 20000 in
theorem cggL_kind_L_types_10 : GoodIn wsL_kind wsL_types_r10 := goodIn_r _ [223, 224, 225, 226, 227, 228, 229, 230, 231, 232, 233, 234, 235, 236, 237, 238, 239, 240, 241, 242, 243, 244, 245, 246] (by decide +kernel) (by decide +kernel)
set_option maxRecDepth 20000 in
theorem cggL_kind_L_types_11 : GoodIn wsL_kind wsL_types_r11 := goodIn_r _ [247, 248, 249, 250, 251, 252, 253, 254, 255, 256, 257, 258, 259, 260, 261, 262, 263, 264, 265, 266, 267, 268, 269, 270] (by decide +kernel) (by decide +kernel)
set_option maxRecDepth 20000 in
theorem cggL_kind_L_types_12 : GoodIn wsL_kind wsL_types_r12 := goodIn_r _ [271, 272, 273, 274, 275, 276, 277, 278, 279, 280, 281, 282, 283, 284, 285, 286, 287, 288, 289, 290, 291, 292, 293, 294] (by decide +kernel) (by decide +kernel)
set_option maxRecDepth 20000 in
theorem cggL_kind_L_types_13 : GoodIn wsL_kind wsL_types_r13 := goodIn_r _ [295, 296, 297, 298, 299, 300, 301, 302, 303, 304, 305, 306, 307, 308, 309, 310, 311, 312, 313, 314, 315, 316] (by decide +kernel) (by decide +kernel)
set_option maxRecDepth 20000 in
theorem ggL_kind_L_types : GoodIn wsL_kind wsL_types := goodIn_ca (goodIn_ca (goodIn_ca (goodIn_hd (goodIn_r _ [7] (by decide +kernel) (by decide +kernel)) (goodIn_app (goodIn_app (goodIn_app (goodIn_app (goodIn_app cggL_kind_L_types_1 (goodIn_app cggL_kind_L_types_2 (goodIn_app cggL_kind_L_types_3 (goodIn_app cggL_kind_L_types_4 (goodIn_app cggL_kind_L_types_5 (goodIn_app cggL_kind_L_types_6 (goodIn_app cggL_kind_L_types_7 (goodIn_app cggL_kind_L_types_8 (goodIn_app cggL_kind_L_types_9 (goodIn_app cggL_kind_L_types_10 (goodIn_app cggL_kind_L_types_11 (goodIn_app cggL_kind_L_types_12 (cggL_kind_L_types_13))))))))))))) (goodIn_r _ [317, 318, 319, 320, 321, 322, 323, 324, 325, 326, 327] (by decide +kernel) (by decide +kernel))) (goodIn_r _ [328, 329, 330, 331] (by decide +kernel) (by decide +kernel))) (goodIn_r _ [332, 333, 334, 335, 336, 337, 338, 339, 340] (by decide +kernel) (by decide +kernel))) (goodIn_r _ [341, 342, 343, 344, 345, 346, 347, 348] (by decide +kernel) (by decide +kernel)))) (goodIn_sub (fun _ h => List.mem_cons_of_mem _ (List.mem_append_left _ (List.mem_append_left _ (List.mem_append_right _ h)))) (by decide +kernel))) (goodIn_sub (fun _ h => List.mem_cons_of_mem _ (List.mem_append_left _ (List.mem_append_right _ h))) (by decide +kernel))) (goodIn_sub (fun _ h => List.mem_cons_of_mem _ (List.mem_append_right _ h)) (by decide +kernel))
set_option maxRecDepth 20000 in
theorem gL_kind_L_types : GoodIn wsL_kind (va_wsS RL 108 yL_types wsL_types) := goodIn_app (goodIn_of _ (by decide +kernel)) ggL_kind_L_types
theorem dL_kind_0 : decode cL_kind 0 = .ok (.sipush 11395, 3) := by decide +kernel
theorem dL_kind_3 : decode cL_kind 3 = .ok (.istore_n 2, 1) := by decide +kernel
theorem dL_kind_4 : decode cL_kind 4 = .ok (.ldc 105, 2) := by decide +kernel
theorem dL_kind_6 : decode cL_kind 6 = .ok (.istore_n 3, 1) := by decide +kernel
theorem dL_kind_7 : decode cL_kind 7 = .ok (.ldc 106, 2) := by decide +kernel
theorem dL_kind_9 : decode cL_kind 9 = .ok (.istore 4, 2) := by decide +kernel
theorem dL_kind_11 : decode cL_kind 11 = .ok (.ldc 107, 2) := by decide +kernel
theorem dL_kind_13 : decode cL_kind 13 = .ok (.istore 5, 2) := by decide +kernel
theorem dL_kind_15 : decode cL_kind 15 = .ok (.iload_n 1, 1) := by decide +kernel
theorem dL_kind_16 : decode cL_kind 16 = .ok (.iconst 2, 1) := by decide +kernel
theorem dL_kind_17 : decode cL_kind 17 = .ok (.if_icmp .ge 29, 3) := by decide +kernel
theorem dL_kind_20 : decode cL_kind 20 = .ok (.iload_n 1, 1) := by decide +kernel
theorem dL_kind_21 : decode cL_kind 21 = .ok (.ifCond .ne 14, 3) := by decide +kernel
theorem dL_kind_24 : decode cL_kind 24 = .ok (.aload_n 0, 1) := by decide +kernel
theorem dL_kind_25 : decode cL_kind 25 = .ok (.iload_n 2, 1) := by decide +kernel
theorem dL_kind_26 : decode cL_kind 26 = .ok (.bipush 24, 2) := by decide +kernel
theorem dL_kind_28 : decode cL_kind 28 = .ok (.iconst 5, 1) := by decide +kernel
theorem dL_kind_29 : decode cL_kind 29 = .ok (.invokestatic 108, 3) := by decide +kernel
theorem dL_kind_32 : decode cL_kind 32 = .ok (.goto 13, 3) := by decide +kernel
theorem dL_kind_35 : decode cL_kind 35 = .ok (.aload_n 0, 1) := by decide +kernel
theorem dL_kind_36 : decode cL_kind 36 = .ok (.iload_n 3, 1) := by decide +kernel
theorem dL_kind_37 : decode cL_kind 37 = .ok (.sipush 4680, 3) := by decide +kernel
theorem dL_kind_40 : decode cL_kind 40 = .ok (.bipush 7, 2) := by decide +kernel
theorem dL_kind_42 : decode cL_kind 42 = .ok (.invokestatic 108, 3) := by decide +kernel
theorem dL_kind_45 : decode cL_kind 45 = .ok (.ireturn, 1) := by decide +kernel
theorem dL_kind_46 : decode cL_kind 46 = .ok (.iload_n 1, 1) := by decide +kernel
theorem dL_kind_47 : decode cL_kind 47 = .ok (.iconst 2, 1) := by decide +kernel
theorem dL_kind_48 : decode cL_kind 48 = .ok (.if_icmp .ne 14, 3) := by decide +kernel
theorem dL_kind_51 : decode cL_kind 51 = .ok (.aload_n 0, 1) := by decide +kernel
