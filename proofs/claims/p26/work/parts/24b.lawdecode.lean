theorem dL_kind_52 : decode cL_kind 52 = .ok (.iload 4, 2) := by decide +kernel
theorem dL_kind_54 : decode cL_kind 54 = .ok (.iconst 0, 1) := by decide +kernel
theorem dL_kind_55 : decode cL_kind 55 = .ok (.iconst 4, 1) := by decide +kernel
theorem dL_kind_56 : decode cL_kind 56 = .ok (.invokestatic 108, 3) := by decide +kernel
theorem dL_kind_59 : decode cL_kind 59 = .ok (.goto 14, 3) := by decide +kernel
theorem dL_kind_62 : decode cL_kind 62 = .ok (.aload_n 0, 1) := by decide +kernel
theorem dL_kind_63 : decode cL_kind 63 = .ok (.iload 5, 2) := by decide +kernel
theorem dL_kind_65 : decode cL_kind 65 = .ok (.sipush 548, 3) := by decide +kernel
theorem dL_kind_68 : decode cL_kind 68 = .ok (.bipush 6, 2) := by decide +kernel
theorem dL_kind_70 : decode cL_kind 70 = .ok (.invokestatic 108, 3) := by decide +kernel
theorem dL_kind_73 : decode cL_kind 73 = .ok (.ireturn, 1) := by decide +kernel
set_option maxRecDepth 20000 in
theorem ggL_all_X3_whose : GoodIn wsL_all wsX3_whose := goodIn_ca (goodIn_ca (goodIn_r _ [10, 11, 12, 13, 14, 9, 15, 16, 17, 18, 19, 20, 21, 22, 23, 24, 25, 26, 27, 28, 29, 30, 31, 32, 33, 34, 35, 36, 127, 128, 129, 130, 131, 132, 133, 134, 135, 136, 137, 138, 139, 140, 141] (by decide +kernel) (by decide +kernel)) (goodIn_sub (fun _ h => List.mem_cons_of_mem _ (List.mem_append_left _ (List.mem_append_right _ h))) (by decide +kernel))) (goodIn_sub (fun _ h => List.mem_cons_of_mem _ (List.mem_append_right _ h)) (by decide +kernel))
set_option maxRecDepth 20000 in
theorem gL_all_X3_whose : GoodIn wsL_all (wsV RL 38 RX3 yX3_whose wsX3_whose) := goodIn_app (goodIn_of _ (by decide +kernel)) ggL_all_X3_whose
set_option maxRecDepth 20000 in
theorem cggL_all_X3_fault_1 : GoodIn wsL_all wsX3_fault_r1 := goodIn_r _ [41, 13, 14, 9, 15, 16, 17, 42, 43, 44, 45, 46, 47, 48, 49, 50, 51, 52, 53, 54, 28, 29, 30, 31] (by decide +kernel) (by decide +kernel)
set_option maxRecDepth 20000 in
theorem cggL_all_X3_fault_2 : GoodIn wsL_all wsX3_fault_r2 := goodIn_r _ [32, 33, 34, 35, 36, 55, 56, 57, 58, 59, 60, 61, 62, 63, 64, 65, 66, 67, 68, 69, 70, 71] (by decide +kernel) (by decide +kernel)
set_option maxRecDepth 20000 in
theorem ggL_all_X3_fault : GoodIn wsL_all wsX3_fault := goodIn_ca (goodIn_hd (goodIn_r _ [40] (by decide +kernel) (by decide +kernel)) (goodIn_app (goodIn_app (goodIn_app (goodIn_app cggL_all_X3_fault_1 (cggL_all_X3_fault_2)) (goodIn_r _ [127, 128, 129, 130, 131, 132, 133, 134, 135, 136, 137] (by decide +kernel) (by decide +kernel))) (goodIn_r _ [142, 143, 144, 145, 146, 147, 148, 149, 150] (by decide +kernel) (by decide +kernel))) (goodIn_r _ [138, 139, 140, 141] (by decide +kernel) (by decide +kernel)))) (goodIn_sub (fun _ h => List.mem_cons_of_mem _ (List.mem_append_left _ (List.mem_append_right _ h))) (by decide +kernel))
set_option maxRecDepth 20000 in
theorem gL_all_X3_fault : GoodIn wsL_all (wsV RL 90 RX3 yX3_fault wsX3_fault) := goodIn_app (goodIn_of _ (by decide +kernel)) ggL_all_X3_fault
set_option maxRecDepth 20000 in
theorem ggL_all_X3_likes : GoodIn wsL_all wsX3_likes := goodIn_ca (goodIn_r _ [75, 41, 13, 14, 9, 15, 16, 17, 59, 60, 61, 62, 63, 64, 65, 66, 50, 53, 67, 127, 128, 129, 130, 131, 132, 133, 134, 135, 136, 137, 142, 143, 144, 145, 146, 147, 148, 149, 150] (by decide +kernel) (by decide +kernel)) (goodIn_sub (fun _ h => List.mem_cons_of_mem _ (List.mem_append_left _ (List.mem_append_right _ h))) (by decide +kernel))
set_option maxRecDepth 20000 in
theorem gL_all_X3_likes : GoodIn wsL_all (wsV RL 93 RX3 yX3_likes wsX3_likes) := goodIn_app (goodIn_of _ (by decide +kernel)) ggL_all_X3_likes
set_option maxRecDepth 20000 in
theorem ggL_all_X3_remedied : GoodIn wsL_all wsX3_remedied := goodIn_ca (goodIn_r _ [79, 41, 50, 80, 13, 14, 9, 15, 16, 17, 127, 128, 129, 130, 131, 132, 133, 134, 135, 136, 137, 142, 143, 144, 145, 146, 147, 148, 149, 150] (by decide +kernel) (by decide +kernel)) (goodIn_sub (fun _ h => List.mem_cons_of_mem _ (List.mem_append_left _ (List.mem_append_right _ h))) (by decide +kernel))
set_option maxRecDepth 20000 in
theorem gL_all_X3_remedied : GoodIn wsL_all (wsV RL 96 RX3 yX3_remedied wsX3_remedied) := goodIn_app (goodIn_of _ (by decide +kernel)) ggL_all_X3_remedied
set_option maxRecDepth 20000 in
theorem ggL_all_X3_bar : GoodIn wsL_all wsX3_bar := goodIn_ca (goodIn_r _ [84, 41, 50, 12, 13, 14, 9, 15, 16, 17, 85, 86, 87, 88, 89, 90, 91, 92, 93, 127, 128, 129, 130, 131, 132, 133, 134, 135, 136, 137, 142, 143, 144, 145, 146, 147, 148, 149, 150] (by decide +kernel) (by decide +kernel)) (goodIn_sub (fun _ h => List.mem_cons_of_mem _ (List.mem_append_left _ (List.mem_append_right _ h))) (by decide +kernel))
set_option maxRecDepth 20000 in
theorem gL_all_X3_bar : GoodIn wsL_all (wsV RL 59 RX3 yX3_bar wsX3_bar) := goodIn_app (goodIn_of _ (by decide +kernel)) ggL_all_X3_bar
set_option maxRecDepth 20000 in
theorem ggL_all_X3_about : GoodIn wsL_all wsX3_about := goodIn_ca (goodIn_ca (goodIn_r _ [97, 98, 99, 100, 101, 102, 103, 104, 105, 13, 14, 9, 15, 16, 17, 18, 19, 20, 21, 22, 106, 107, 108, 109, 110, 111, 112, 127, 128, 129, 130, 131, 132, 133, 134, 135, 136, 137, 151, 152, 153, 154, 155, 156, 157, 158] (by decide +kernel) (by decide +kernel)) (goodIn_sub (fun _ h => List.mem_cons_of_mem _ (List.mem_append_left _ (List.mem_append_right _ h))) (by decide +kernel))) (goodIn_sub (fun _ h => List.mem_cons_of_mem _ (List.mem_append_right _ h)) (by decide +kernel))
set_option maxRecDepth 20000 in
theorem gL_all_X3_about : GoodIn wsL_all (wsV RL 84 RX3 yX3_about wsX3_about) := goodIn_app (goodIn_of _ (by decide +kernel)) ggL_all_X3_about
set_option maxRecDepth 20000 in
theorem ggL_all_X3_reminder : GoodIn wsL_all wsX3_reminder := goodIn_ca (goodIn_r _ [116, 98, 99, 104, 50, 101, 67, 12, 117, 13, 14, 9, 15, 16, 17, 118, 119, 120, 121, 122, 127, 128, 129, 130, 131, 132, 133, 134, 135, 136, 137, 151, 152, 153, 154, 155, 156, 157, 158, 142, 143, 144, 145, 146, 147, 148, 149, 150] (by decide +kernel) (by decide +kernel)) (goodIn_sub (fun _ h => List.mem_cons_of_mem _ (List.mem_append_left _ (List.mem_append_right _ h))) (by decide +kernel))
set_option maxRecDepth 20000 in
theorem gL_all_X3_reminder : GoodIn wsL_all (wsV RL 87 RX3 yX3_reminder wsX3_reminder) := goodIn_app (goodIn_of _ (by decide +kernel)) ggL_all_X3_reminder
set_option maxRecDepth 20000 in
theorem ggL_all_X3_gains : GoodIn wsL_all wsX3_gains := goodIn_ca (goodIn_ca (goodIn_r _ [126, 41, 50, 53, 51, 13, 14, 9, 15, 16, 17, 18, 19, 20, 21, 22, 46, 47, 48, 49, 52, 54, 28, 29, 30, 31, 32, 33, 34, 35, 36, 127, 128, 129, 130, 131, 132, 133, 134, 135, 136, 137, 142, 143, 144, 145, 146, 147, 148, 149, 150, 138, 139, 140, 141] (by decide +kernel) (by decide +kernel)) (goodIn_sub (fun _ h => List.mem_cons_of_mem _ (List.mem_append_left _ (List.mem_append_right _ h))) (by decide +kernel))) (goodIn_sub (fun _ h => List.mem_cons_of_mem _ (List.mem_append_right _ h)) (by decide +kernel))
set_option maxRecDepth 20000 in
theorem gL_all_X3_gains : GoodIn wsL_all (wsV RL 99 RX3 yX3_gains wsX3_gains) := goodIn_app (goodIn_of _ (by decide +kernel)) ggL_all_X3_gains
theorem dL_all_0 : decode cL_all 0 = .ok (.ldc2_w 112, 3) := by decide +kernel
theorem dL_all_3 : decode cL_all 3 = .ok (.lstore_n 2, 1) := by decide +kernel
theorem dL_all_4 : decode cL_all 4 = .ok (.iconst 0, 1) := by decide +kernel
theorem dL_all_5 : decode cL_all 5 = .ok (.istore 4, 2) := by decide +kernel
theorem dL_all_7 : decode cL_all 7 = .ok (.iload 4, 2) := by decide +kernel
theorem dL_all_9 : decode cL_all 9 = .ok (.aload_n 1, 1) := by decide +kernel
theorem dL_all_10 : decode cL_all 10 = .ok (.iconst 0, 1) := by decide +kernel
theorem dL_all_11 : decode cL_all 11 = .ok (.iaload, 1) := by decide +kernel
theorem dL_all_12 : decode cL_all 12 = .ok (.if_icmp .ge 43, 3) := by decide +kernel
theorem dL_all_15 : decode cL_all 15 = .ok (.lload_n 2, 1) := by decide +kernel
theorem dL_all_16 : decode cL_all 16 = .ok (.ldc2_w 114, 3) := by decide +kernel
theorem dL_all_19 : decode cL_all 19 = .ok (.lmul, 1) := by decide +kernel
theorem dL_all_20 : decode cL_all 20 = .ok (.aload_n 0, 1) := by decide +kernel
theorem dL_all_21 : decode cL_all 21 = .ok (.iload 4, 2) := by decide +kernel
theorem dL_all_23 : decode cL_all 23 = .ok (.aload_n 1, 1) := by decide +kernel
theorem dL_all_24 : decode cL_all 24 = .ok (.iconst 3, 1) := by decide +kernel
theorem dL_all_25 : decode cL_all 25 = .ok (.iaload, 1) := by decide +kernel
theorem dL_all_26 : decode cL_all 26 = .ok (.invokevirtual 38, 3) := by decide +kernel
theorem dL_all_29 : decode cL_all 29 = .ok (.i2l, 1) := by decide +kernel
theorem dL_all_30 : decode cL_all 30 = .ok (.ladd, 1) := by decide +kernel
theorem dL_all_31 : decode cL_all 31 = .ok (.ldc2_w 114, 3) := by decide +kernel
theorem dL_all_34 : decode cL_all 34 = .ok (.aload_n 0, 1) := by decide +kernel
theorem dL_all_35 : decode cL_all 35 = .ok (.iload 4, 2) := by decide +kernel
theorem dL_all_37 : decode cL_all 37 = .ok (.aload_n 1, 1) := by decide +kernel
theorem dL_all_38 : decode cL_all 38 = .ok (.iconst 3, 1) := by decide +kernel
theorem dL_all_39 : decode cL_all 39 = .ok (.iaload, 1) := by decide +kernel
theorem dL_all_40 : decode cL_all 40 = .ok (.iconst 2, 1) := by decide +kernel
theorem dL_all_41 : decode cL_all 41 = .ok (.idiv, 1) := by decide +kernel
theorem dL_all_42 : decode cL_all 42 = .ok (.invokevirtual 38, 3) := by decide +kernel
theorem dL_all_45 : decode cL_all 45 = .ok (.i2l, 1) := by decide +kernel
theorem dL_all_46 : decode cL_all 46 = .ok (.lmul, 1) := by decide +kernel
theorem dL_all_47 : decode cL_all 47 = .ok (.ladd, 1) := by decide +kernel
theorem dL_all_48 : decode cL_all 48 = .ok (.lstore_n 2, 1) := by decide +kernel
theorem dL_all_49 : decode cL_all 49 = .ok (.iinc 4 1, 3) := by decide +kernel
theorem dL_all_52 : decode cL_all 52 = .ok (.goto (-45), 3) := by decide +kernel
theorem dL_all_55 : decode cL_all 55 = .ok (.iconst 0, 1) := by decide +kernel
theorem dL_all_56 : decode cL_all 56 = .ok (.istore 4, 2) := by decide +kernel
theorem dL_all_58 : decode cL_all 58 = .ok (.iload 4, 2) := by decide +kernel
theorem dL_all_60 : decode cL_all 60 = .ok (.aload_n 1, 1) := by decide +kernel
theorem dL_all_61 : decode cL_all 61 = .ok (.iconst 1, 1) := by decide +kernel
theorem dL_all_62 : decode cL_all 62 = .ok (.iaload, 1) := by decide +kernel
theorem dL_all_63 : decode cL_all 63 = .ok (.if_icmp .ge 78, 3) := by decide +kernel
theorem dL_all_66 : decode cL_all 66 = .ok (.lload_n 2, 1) := by decide +kernel
theorem dL_all_67 : decode cL_all 67 = .ok (.ldc2_w 114, 3) := by decide +kernel
theorem dL_all_70 : decode cL_all 70 = .ok (.lmul, 1) := by decide +kernel
theorem dL_all_71 : decode cL_all 71 = .ok (.aload_n 0, 1) := by decide +kernel
theorem dL_all_72 : decode cL_all 72 = .ok (.iload 4, 2) := by decide +kernel
theorem dL_all_74 : decode cL_all 74 = .ok (.invokevirtual 90, 3) := by decide +kernel
theorem dL_all_77 : decode cL_all 77 = .ok (.i2l, 1) := by decide +kernel
theorem dL_all_78 : decode cL_all 78 = .ok (.ladd, 1) := by decide +kernel
theorem dL_all_79 : decode cL_all 79 = .ok (.ldc2_w 114, 3) := by decide +kernel
theorem dL_all_82 : decode cL_all 82 = .ok (.lmul, 1) := by decide +kernel
theorem dL_all_83 : decode cL_all 83 = .ok (.aload_n 0, 1) := by decide +kernel
theorem dL_all_84 : decode cL_all 84 = .ok (.iload 4, 2) := by decide +kernel
theorem dL_all_86 : decode cL_all 86 = .ok (.invokevirtual 93, 3) := by decide +kernel
theorem dL_all_89 : decode cL_all 89 = .ok (.i2l, 1) := by decide +kernel
theorem dL_all_90 : decode cL_all 90 = .ok (.ladd, 1) := by decide +kernel
theorem dL_all_91 : decode cL_all 91 = .ok (.ldc2_w 116, 3) := by decide +kernel
theorem dL_all_94 : decode cL_all 94 = .ok (.lmul, 1) := by decide +kernel
theorem dL_all_95 : decode cL_all 95 = .ok (.aload_n 0, 1) := by decide +kernel
theorem dL_all_96 : decode cL_all 96 = .ok (.iload 4, 2) := by decide +kernel
theorem dL_all_98 : decode cL_all 98 = .ok (.invokevirtual 96, 3) := by decide +kernel
theorem dL_all_101 : decode cL_all 101 = .ok (.i2l, 1) := by decide +kernel
theorem dL_all_102 : decode cL_all 102 = .ok (.ladd, 1) := by decide +kernel
theorem dL_all_103 : decode cL_all 103 = .ok (.lstore_n 2, 1) := by decide +kernel
theorem dL_all_104 : decode cL_all 104 = .ok (.iconst 0, 1) := by decide +kernel
theorem dL_all_105 : decode cL_all 105 = .ok (.istore 5, 2) := by decide +kernel
theorem dL_all_107 : decode cL_all 107 = .ok (.iload 5, 2) := by decide +kernel
theorem dL_all_109 : decode cL_all 109 = .ok (.iconst 3, 1) := by decide +kernel
theorem dL_all_110 : decode cL_all 110 = .ok (.if_icmp .ge 25, 3) := by decide +kernel
theorem dL_all_113 : decode cL_all 113 = .ok (.lload_n 2, 1) := by decide +kernel
theorem dL_all_114 : decode cL_all 114 = .ok (.ldc2_w 118, 3) := by decide +kernel
theorem dL_all_117 : decode cL_all 117 = .ok (.lmul, 1) := by decide +kernel
theorem dL_all_118 : decode cL_all 118 = .ok (.aload_n 0, 1) := by decide +kernel
theorem dL_all_119 : decode cL_all 119 = .ok (.iload 5, 2) := by decide +kernel
theorem dL_all_121 : decode cL_all 121 = .ok (.iload 4, 2) := by decide +kernel
theorem dL_all_123 : decode cL_all 123 = .ok (.invokevirtual 59, 3) := by decide +kernel
theorem dL_all_126 : decode cL_all 126 = .ok (.i2l, 1) := by decide +kernel
theorem dL_all_127 : decode cL_all 127 = .ok (.ladd, 1) := by decide +kernel
theorem dL_all_128 : decode cL_all 128 = .ok (.lstore_n 2, 1) := by decide +kernel
theorem dL_all_129 : decode cL_all 129 = .ok (.iinc 5 1, 3) := by decide +kernel
theorem dL_all_132 : decode cL_all 132 = .ok (.goto (-25), 3) := by decide +kernel
theorem dL_all_135 : decode cL_all 135 = .ok (.iinc 4 1, 3) := by decide +kernel
theorem dL_all_138 : decode cL_all 138 = .ok (.goto (-80), 3) := by decide +kernel
theorem dL_all_141 : decode cL_all 141 = .ok (.iconst 0, 1) := by decide +kernel
theorem dL_all_142 : decode cL_all 142 = .ok (.istore 4, 2) := by decide +kernel
theorem dL_all_144 : decode cL_all 144 = .ok (.iload 4, 2) := by decide +kernel
theorem dL_all_146 : decode cL_all 146 = .ok (.aload_n 1, 1) := by decide +kernel
theorem dL_all_147 : decode cL_all 147 = .ok (.iconst 2, 1) := by decide +kernel
theorem dL_all_148 : decode cL_all 148 = .ok (.iaload, 1) := by decide +kernel
theorem dL_all_149 : decode cL_all 149 = .ok (.if_icmp .ge 55, 3) := by decide +kernel
theorem dL_all_152 : decode cL_all 152 = .ok (.iconst 0, 1) := by decide +kernel
theorem dL_all_153 : decode cL_all 153 = .ok (.istore 5, 2) := by decide +kernel
theorem dL_all_155 : decode cL_all 155 = .ok (.iload 5, 2) := by decide +kernel
theorem dL_all_157 : decode cL_all 157 = .ok (.bipush 6, 2) := by decide +kernel
theorem dL_all_159 : decode cL_all 159 = .ok (.if_icmp .ge 25, 3) := by decide +kernel
theorem dL_all_162 : decode cL_all 162 = .ok (.lload_n 2, 1) := by decide +kernel
theorem dL_all_163 : decode cL_all 163 = .ok (.ldc2_w 120, 3) := by decide +kernel
theorem dL_all_166 : decode cL_all 166 = .ok (.lmul, 1) := by decide +kernel
theorem dL_all_167 : decode cL_all 167 = .ok (.aload_n 0, 1) := by decide +kernel
theorem dL_all_168 : decode cL_all 168 = .ok (.iload 4, 2) := by decide +kernel
theorem dL_all_170 : decode cL_all 170 = .ok (.iload 5, 2) := by decide +kernel
theorem dL_all_172 : decode cL_all 172 = .ok (.invokevirtual 84, 3) := by decide +kernel
theorem dL_all_175 : decode cL_all 175 = .ok (.i2l, 1) := by decide +kernel
theorem dL_all_176 : decode cL_all 176 = .ok (.ladd, 1) := by decide +kernel
theorem dL_all_177 : decode cL_all 177 = .ok (.lstore_n 2, 1) := by decide +kernel
theorem dL_all_178 : decode cL_all 178 = .ok (.iinc 5 1, 3) := by decide +kernel
theorem dL_all_181 : decode cL_all 181 = .ok (.goto (-26), 3) := by decide +kernel
theorem dL_all_184 : decode cL_all 184 = .ok (.lload_n 2, 1) := by decide +kernel
theorem dL_all_185 : decode cL_all 185 = .ok (.ldc2_w 114, 3) := by decide +kernel
theorem dL_all_188 : decode cL_all 188 = .ok (.lmul, 1) := by decide +kernel
theorem dL_all_189 : decode cL_all 189 = .ok (.aload_n 0, 1) := by decide +kernel
theorem dL_all_190 : decode cL_all 190 = .ok (.iload 4, 2) := by decide +kernel
theorem dL_all_192 : decode cL_all 192 = .ok (.invokevirtual 87, 3) := by decide +kernel
theorem dL_all_195 : decode cL_all 195 = .ok (.i2l, 1) := by decide +kernel
theorem dL_all_196 : decode cL_all 196 = .ok (.ladd, 1) := by decide +kernel
theorem dL_all_197 : decode cL_all 197 = .ok (.lstore_n 2, 1) := by decide +kernel
theorem dL_all_198 : decode cL_all 198 = .ok (.iinc 4 1, 3) := by decide +kernel
theorem dL_all_201 : decode cL_all 201 = .ok (.goto (-57), 3) := by decide +kernel
theorem dL_all_204 : decode cL_all 204 = .ok (.iconst 0, 1) := by decide +kernel
theorem dL_all_205 : decode cL_all 205 = .ok (.istore 4, 2) := by decide +kernel
theorem dL_all_207 : decode cL_all 207 = .ok (.iload 4, 2) := by decide +kernel
theorem dL_all_209 : decode cL_all 209 = .ok (.iconst 4, 1) := by decide +kernel
theorem dL_all_210 : decode cL_all 210 = .ok (.if_icmp .ge 28, 3) := by decide +kernel
theorem dL_all_213 : decode cL_all 213 = .ok (.lload_n 2, 1) := by decide +kernel
theorem dL_all_214 : decode cL_all 214 = .ok (.ldc2_w 120, 3) := by decide +kernel
theorem dL_all_217 : decode cL_all 217 = .ok (.lmul, 1) := by decide +kernel
theorem dL_all_218 : decode cL_all 218 = .ok (.aload_n 0, 1) := by decide +kernel
theorem dL_all_219 : decode cL_all 219 = .ok (.iload 4, 2) := by decide +kernel
theorem dL_all_221 : decode cL_all 221 = .ok (.bipush 17, 2) := by decide +kernel
theorem dL_all_223 : decode cL_all 223 = .ok (.iload 4, 2) := by decide +kernel
theorem dL_all_225 : decode cL_all 225 = .ok (.imul, 1) := by decide +kernel
theorem dL_all_226 : decode cL_all 226 = .ok (.invokevirtual 99, 3) := by decide +kernel
theorem dL_all_229 : decode cL_all 229 = .ok (.i2l, 1) := by decide +kernel
theorem dL_all_230 : decode cL_all 230 = .ok (.ladd, 1) := by decide +kernel
theorem dL_all_231 : decode cL_all 231 = .ok (.lstore_n 2, 1) := by decide +kernel
theorem dL_all_232 : decode cL_all 232 = .ok (.iinc 4 1, 3) := by decide +kernel
theorem dL_all_235 : decode cL_all 235 = .ok (.goto (-28), 3) := by decide +kernel
theorem dL_all_238 : decode cL_all 238 = .ok (.lload_n 2, 1) := by decide +kernel
theorem dL_all_239 : decode cL_all 239 = .ok (.lreturn, 1) := by decide +kernel
set_option maxRecDepth 20000 in
theorem cggL_both_L_call_1 : GoodIn wsL_both wsL_call_r1 := goodIn_r _ [6, 7, 8, 9, 10, 11, 12, 13, 4, 14, 15, 16, 17, 18, 19, 20, 21, 22, 23, 24, 25, 26, 27, 28] (by decide +kernel) (by decide +kernel)
set_option maxRecDepth 20000 in
theorem cggL_both_L_call_2 : GoodIn wsL_both wsL_call_r2 := goodIn_r _ [29, 30, 31, 32, 33, 34, 35, 36, 37, 38, 39, 40, 41, 42, 43, 44, 45, 46, 47, 48, 49, 50, 51, 52] (by decide +kernel) (by decide +kernel)
set_option maxRecDepth 20000 in
theorem cggL_both_L_call_3 : GoodIn wsL_both wsL_call_r3 := goodIn_r _ [53, 54, 55, 56, 57, 58, 59, 60, 61, 62, 63, 64, 65, 66, 67, 68, 69, 70, 71, 72, 73, 74, 75, 76] (by decide +kernel) (by decide +kernel)
set_option maxRecDepth 20000 in
theorem cggL_both_L_call_4 : GoodIn wsL_both wsL_call_r4 := goodIn_r _ [77, 78, 79, 80, 81, 82, 83, 84, 85, 86, 87, 88, 89, 90, 91, 92, 93, 94, 95, 96, 97, 98, 99, 100] (by decide +kernel) (by decide +kernel)
set_option maxRecDepth 20000 in
theorem cggL_both_L_call_5 : GoodIn wsL_both wsL_call_r5 := goodIn_r _ [101, 102, 103, 104, 105, 106, 107, 108, 109, 110, 111, 112, 113, 114, 115, 116, 117, 118, 119, 120, 121, 122, 123, 124] (by decide +kernel) (by decide +kernel)
set_option maxRecDepth 20000 in
theorem cggL_both_L_call_6 : GoodIn wsL_both wsL_call_r6 := goodIn_r _ [125, 126, 127, 128, 129, 130, 131, 132, 133, 134, 135, 136, 137, 138, 139, 140, 141, 142, 143, 144, 145, 146, 147, 148] (by decide +kernel) (by decide +kernel)
set_option maxRecDepth 20000 in
theorem cggL_both_L_call_7 : GoodIn wsL_both wsL_call_r7 := goodIn_r _ [149, 150, 151, 152, 153, 154, 155, 156, 157, 158, 159, 160, 161, 162, 163, 164, 165, 166, 167, 168, 169, 170, 171, 172] (by decide +kernel) (by decide +kernel)
set_option maxRecDepth 20000 in
theorem cggL_both_L_call_8 : GoodIn wsL_both wsL_call_r8 := goodIn_r _ [173, 174, 175, 176, 177, 178, 179, 180, 181, 182, 183, 184, 185, 186, 187, 188, 189, 190, 191, 192, 193, 194, 195, 196] (by decide +kernel) (by decide +kernel)
set_option maxRecDepth 20000 in
theorem cggL_both_L_call_9 : GoodIn wsL_both wsL_call_r9 := goodIn_r _ [197, 198, 199, 200, 201, 202, 203, 204, 205, 206, 207, 208, 209, 210, 211, 212, 213, 214, 215, 216, 217, 218, 219, 220] (by decide +kernel) (by decide +kernel)
set_option maxRecDepth 20000 in
theorem cggL_both_L_call_10 : GoodIn wsL_both wsL_call_r10 := goodIn_r _ [221, 222, 223, 224, 225, 226, 227, 228, 229, 230, 231, 232, 233, 234, 235, 236, 237, 238, 239, 240, 241, 242, 243, 244] (by decide +kernel) (by decide +kernel)
set_option maxRecDepth 20000 in
theorem cggL_both_L_call_11 : GoodIn wsL_both wsL_call_r11 := goodIn_r _ [245, 246, 247, 248, 249, 250, 251, 252, 253, 254, 255, 256, 257, 258, 259, 260, 261, 262, 263, 264, 265, 266, 267, 268] (by decide +kernel) (by decide +kernel)
set_option maxRecDepth 20000 in
theorem cggL_both_L_call_12 : GoodIn wsL_both wsL_call_r12 := goodIn_r _ [269, 270, 271, 272, 273, 274, 275, 276, 277, 278, 279, 280, 281, 282, 283, 284, 285, 286, 287, 288, 289, 290, 291, 292] (by decide +kernel) (by decide +kernel)
set_option maxRecDepth 20000 in
theorem cggL_both_L_call_13 : GoodIn wsL_both wsL_call_r13 := goodIn_r _ [293, 294, 295, 296, 297, 298, 299, 300, 301, 302, 303, 304, 305, 306, 307, 308, 309, 310, 311] (by decide +kernel) (by decide +kernel)
set_option maxRecDepth 20000 in
theorem ggL_both_L_call : GoodIn wsL_both wsL_call := goodIn_ca (goodIn_ca (goodIn_ca (goodIn_hd (goodIn_r _ [5] (by decide +kernel) (by decide +kernel)) (goodIn_app (goodIn_app (goodIn_app (goodIn_app (goodIn_app cggL_both_L_call_1 (goodIn_app cggL_both_L_call_2 (goodIn_app cggL_both_L_call_3 (goodIn_app cggL_both_L_call_4 (goodIn_app cggL_both_L_call_5 (goodIn_app cggL_both_L_call_6 (goodIn_app cggL_both_L_call_7 (goodIn_app cggL_both_L_call_8 (goodIn_app cggL_both_L_call_9 (goodIn_app cggL_both_L_call_10 (goodIn_app cggL_both_L_call_11 (goodIn_app cggL_both_L_call_12 (cggL_both_L_call_13))))))))))))) (goodIn_r _ [312, 313, 314, 315, 316, 317, 318, 319, 320, 321, 322] (by decide +kernel) (by decide +kernel))) (goodIn_r _ [323, 324, 325, 326] (by decide +kernel) (by decide +kernel))) (goodIn_r _ [327, 328, 329, 330, 331, 332, 333, 334, 335] (by decide +kernel) (by decide +kernel))) (goodIn_r _ [336, 337, 338, 339, 340, 341, 342, 343] (by decide +kernel) (by decide +kernel)))) (goodIn_sub (fun _ h => List.mem_cons_of_mem _ (List.mem_append_left _ (List.mem_append_left _ (List.mem_append_right _ h)))) (by decide +kernel))) (goodIn_sub (fun _ h => List.mem_cons_of_mem _ (List.mem_append_left _ (List.mem_append_right _ h))) (by decide +kernel))) (goodIn_sub (fun _ h => List.mem_cons_of_mem _ (List.mem_append_right _ h)) (by decide +kernel))
set_option maxRecDepth 20000 in
theorem gL_both_L_call : GoodIn wsL_both (va_wsS RL 102 yL_call wsL_call) := goodIn_app (goodIn_of _ (by decide +kernel)) ggL_both_L_call
theorem dL_both_0 : decode cL_both 0 = .ok (.aload_n 0, 1) := by decide +kernel
theorem dL_both_1 : decode cL_both 1 = .ok (.iload_n 2, 1) := by decide +kernel
theorem dL_both_2 : decode cL_both 2 = .ok (.iload_n 3, 1) := by decide +kernel
theorem dL_both_3 : decode cL_both 3 = .ok (.iload 4, 2) := by decide +kernel
theorem dL_both_5 : decode cL_both 5 = .ok (.iload 5, 2) := by decide +kernel
theorem dL_both_7 : decode cL_both 7 = .ok (.invokestatic 102, 3) := by decide +kernel
theorem dL_both_10 : decode cL_both 10 = .ok (.istore 6, 2) := by decide +kernel
theorem dL_both_12 : decode cL_both 12 = .ok (.iload 6, 2) := by decide +kernel
theorem dL_both_14 : decode cL_both 14 = .ok (.aload_n 1, 1) := by decide +kernel
theorem dL_both_15 : decode cL_both 15 = .ok (.iload_n 2, 1) := by decide +kernel
theorem dL_both_16 : decode cL_both 16 = .ok (.iload_n 3, 1) := by decide +kernel
theorem dL_both_17 : decode cL_both 17 = .ok (.iload 4, 2) := by decide +kernel
theorem dL_both_19 : decode cL_both 19 = .ok (.iload 5, 2) := by decide +kernel
theorem dL_both_21 : decode cL_both 21 = .ok (.invokestatic 102, 3) := by decide +kernel
theorem dL_both_24 : decode cL_both 24 = .ok (.if_icmp .ne 8, 3) := by decide +kernel
theorem dL_both_27 : decode cL_both 27 = .ok (.iload 6, 2) := by decide +kernel
theorem dL_both_29 : decode cL_both 29 = .ok (.goto 5, 3) := by decide +kernel
theorem dL_both_32 : decode cL_both 32 = .ok (.ldc 122, 2) := by decide +kernel
theorem dL_both_34 : decode cL_both 34 = .ok (.ireturn, 1) := by decide +kernel
set_option maxRecDepth 20000 in
theorem ggL_offices_L_some : GoodIn wsL_offices wsL_some := goodIn_r _ [6] (by decide +kernel) (by decide +kernel)
set_option maxRecDepth 20000 in
theorem gL_offices_L_some : GoodIn wsL_offices (va_wsS RL 123 yL_some wsL_some) := goodIn_app (goodIn_of _ (by decide +kernel)) ggL_offices_L_some
set_option maxRecDepth 20000 in
theorem cggL_offices_L_both_1 : GoodIn wsL_offices wsL_both_r1 := goodIn_r _ [10, 11, 12, 5, 13, 14, 15, 16, 17, 2, 1, 18, 19, 20, 21, 22, 23, 24, 25, 26, 27, 28, 29, 30] (by decide +kernel) (by decide +kernel)
set_option maxRecDepth 20000 in
theorem cggL_offices_L_both_2 : GoodIn wsL_offices wsL_both_r2 := goodIn_r _ [31, 32, 33, 34, 35, 36, 37, 38, 39, 40, 41, 42, 43, 44, 45, 46, 47, 48, 49, 50, 51, 52, 53, 54] (by decide +kernel) (by decide +kernel)
set_option maxRecDepth 20000 in
theorem cggL_offices_L_both_3 : GoodIn wsL_offices wsL_both_r3 := goodIn_r _ [55, 56, 57, 58, 59, 60, 61, 62, 63, 64, 65, 66, 67, 68, 69, 70, 71, 72, 73, 74, 75, 76, 77, 78] (by decide +kernel) (by decide +kernel)
set_option maxRecDepth 20000 in
theorem cggL_offices_L_both_4 : GoodIn wsL_offices wsL_both_r4 := goodIn_r _ [79, 80, 81, 82, 83, 84, 85, 86, 87, 88, 89, 90, 91, 92, 93, 94, 95, 96, 97, 98, 99, 100, 101, 102] (by decide +kernel) (by decide +kernel)
set_option maxRecDepth 20000 in
theorem cggL_offices_L_both_5 : GoodIn wsL_offices wsL_both_r5 := goodIn_r _ [103, 104, 105, 106, 107, 108, 109, 110, 111, 112, 113, 114, 115, 116, 117, 118, 119, 120, 121, 122, 123, 124, 125, 126] (by decide +kernel) (by decide +kernel)
set_option maxRecDepth 20000 in
theorem cggL_offices_L_both_6 : GoodIn wsL_offices wsL_both_r6 := goodIn_r _ [127, 128, 129, 130, 131, 132, 133, 134, 135, 136, 137, 138, 139, 140, 141, 142, 143, 144, 145, 146, 147, 148, 149, 150] (by decide +kernel) (by decide +kernel)
set_option maxRecDepth 20000 in
theorem cggL_offices_L_both_7 : GoodIn wsL_offices wsL_both_r7 := goodIn_r _ [151, 152, 153, 154, 155, 156, 157, 158, 159, 160, 161, 162, 163, 164, 165, 166, 167, 168, 169, 170, 171, 172, 173, 174] (by decide +kernel) (by decide +kernel)
set_option maxRecDepth 20000 in
theorem cggL_offices_L_both_8 : GoodIn wsL_offices wsL_both_r8 := goodIn_r _ [175, 176, 177, 178, 179, 180, 181, 182, 183, 184, 185, 186, 187, 188, 189, 190, 191, 192, 193, 194, 195, 196, 197, 198] (by decide +kernel) (by decide +kernel)
set_option maxRecDepth 20000 in
theorem cggL_offices_L_both_9 : GoodIn wsL_offices wsL_both_r9 := goodIn_r _ [199, 200, 201, 202, 203, 204, 205, 206, 207, 208, 209, 210, 211, 212, 213, 214, 215, 216, 217, 218, 219, 220, 221, 222] (by decide +kernel) (by decide +kernel)
set_option maxRecDepth 20000 in
theorem cggL_offices_L_both_10 : GoodIn wsL_offices wsL_both_r10 := goodIn_r _ [223, 224, 225, 226, 227, 228, 229, 230, 231, 232, 233, 234, 235, 236, 237, 238, 239, 240, 241, 242, 243, 244, 245, 246] (by decide +kernel) (by decide +kernel)
set_option maxRecDepth 20000 in
theorem cggL_offices_L_both_11 : GoodIn wsL_offices wsL_both_r11 := goodIn_r _ [247, 248, 249, 250, 251, 252, 253, 254, 255, 256, 257, 258, 259, 260, 261, 262, 263, 264, 265, 266, 267, 268, 269, 270] (by decide +kernel) (by decide +kernel)
set_option maxRecDepth 20000 in
theorem cggL_offices_L_both_12 : GoodIn wsL_offices wsL_both_r12 := goodIn_r _ [271, 272, 273, 274, 275, 276, 277, 278, 279, 280, 281, 282, 283, 284, 285, 286, 287, 288, 289, 290, 291, 292, 293, 294] (by decide +kernel) (by decide +kernel)
set_option maxRecDepth 20000 in
theorem cggL_offices_L_both_13 : GoodIn wsL_offices wsL_both_r13 := goodIn_r _ [295, 296, 297, 298, 299, 300, 301, 302, 303, 304, 305, 306, 307, 308, 309, 310, 311, 312, 313, 314, 315, 316, 317] (by decide +kernel) (by decide +kernel)
set_option maxRecDepth 20000 in
theorem ggL_offices_L_both : GoodIn wsL_offices wsL_both := goodIn_ca (goodIn_ca (goodIn_ca (goodIn_hd (goodIn_r _ [9] (by decide +kernel) (by decide +kernel)) (goodIn_app (goodIn_app (goodIn_app (goodIn_app (goodIn_app cggL_offices_L_both_1 (goodIn_app cggL_offices_L_both_2 (goodIn_app cggL_offices_L_both_3 (goodIn_app cggL_offices_L_both_4 (goodIn_app cggL_offices_L_both_5 (goodIn_app cggL_offices_L_both_6 (goodIn_app cggL_offices_L_both_7 (goodIn_app cggL_offices_L_both_8 (goodIn_app cggL_offices_L_both_9 (goodIn_app cggL_offices_L_both_10 (goodIn_app cggL_offices_L_both_11 (goodIn_app cggL_offices_L_both_12 (cggL_offices_L_both_13))))))))))))) (goodIn_r _ [318, 319, 320, 321, 322, 323, 324, 325, 326, 327, 328] (by decide +kernel) (by decide +kernel))) (goodIn_r _ [329, 330, 331, 332] (by decide +kernel) (by decide +kernel))) (goodIn_r _ [333, 334, 335, 336, 337, 338, 339, 340, 341] (by decide +kernel) (by decide +kernel))) (goodIn_r _ [342, 343, 344, 345, 346, 347, 348, 349] (by decide +kernel) (by decide +kernel)))) (goodIn_sub (fun _ h => List.mem_cons_of_mem _ (List.mem_append_left _ (List.mem_append_left _ (List.mem_append_right _ h)))) (by decide +kernel))) (goodIn_sub (fun _ h => List.mem_cons_of_mem _ (List.mem_append_left _ (List.mem_append_right _ h))) (by decide +kernel))) (goodIn_sub (fun _ h => List.mem_cons_of_mem _ (List.mem_append_right _ h)) (by decide +kernel))
set_option maxRecDepth 20000 in
theorem gL_offices_L_both : GoodIn wsL_offices (va_wsS RL 126 yL_both wsL_both) := goodIn_app (goodIn_of _ (by decide +kernel)) ggL_offices_L_both
set_option maxRecDepth 20000 in
theorem ggL_offices_X3_whose : GoodIn wsL_offices wsX3_whose := goodIn_ca (goodIn_ca (goodIn_r _ [65, 36, 48, 38, 39, 24, 40, 41, 42, 66, 67, 68, 26, 27, 69, 70, 71, 72, 47, 49, 50, 51, 52, 53, 54, 55, 56, 57, 318, 319, 320, 321, 322, 323, 324, 325, 326, 327, 328, 329, 330, 331, 332] (by decide +kernel) (by decide +kernel)) (goodIn_sub (fun _ h => List.mem_cons_of_mem _ (List.mem_append_right _ h)) (by decide +kernel))) (goodIn_sub (fun _ h => List.mem_cons_of_mem _ (List.mem_append_left _ (List.mem_append_left _ (List.mem_append_right _ h)))) (by decide +kernel))
set_option maxRecDepth 20000 in
theorem gL_offices_X3_whose : GoodIn wsL_offices (wsV RL 38 RX3 yX3_whose wsX3_whose) := goodIn_app (goodIn_of _ (by decide +kernel)) ggL_offices_X3_whose
theorem dL_offices_0 : decode cL_offices 0 = .ok (.iload_n 3, 1) := by decide +kernel
theorem dL_offices_1 : decode cL_offices 1 = .ok (.bipush 10, 2) := by decide +kernel
theorem dL_offices_3 : decode cL_offices 3 = .ok (.invokestatic 123, 3) := by decide +kernel
theorem dL_offices_6 : decode cL_offices 6 = .ok (.istore 5, 2) := by decide +kernel
theorem dL_offices_8 : decode cL_offices 8 = .ok (.iload 5, 2) := by decide +kernel
theorem dL_offices_10 : decode cL_offices 10 = .ok (.iconst 3, 1) := by decide +kernel
theorem dL_offices_11 : decode cL_offices 11 = .ok (.if_icmp .lt 9, 3) := by decide +kernel
theorem dL_offices_14 : decode cL_offices 14 = .ok (.aload_n 2, 1) := by decide +kernel
theorem dL_offices_15 : decode cL_offices 15 = .ok (.iconst 0, 1) := by decide +kernel
theorem dL_offices_16 : decode cL_offices 16 = .ok (.iaload, 1) := by decide +kernel
theorem dL_offices_17 : decode cL_offices 17 = .ok (.ifCond .ne 94, 3) := by decide +kernel
theorem dL_offices_20 : decode cL_offices 20 = .ok (.aload_n 0, 1) := by decide +kernel
theorem dL_offices_21 : decode cL_offices 21 = .ok (.aload_n 1, 1) := by decide +kernel
theorem dL_offices_22 : decode cL_offices 22 = .ok (.iconst 1, 1) := by decide +kernel
theorem dL_offices_23 : decode cL_offices 23 = .ok (.iload 4, 2) := by decide +kernel
theorem dL_offices_25 : decode cL_offices 25 = .ok (.aload_n 2, 1) := by decide +kernel
theorem dL_offices_26 : decode cL_offices 26 = .ok (.iconst 0, 1) := by decide +kernel
theorem dL_offices_27 : decode cL_offices 27 = .ok (.iaload, 1) := by decide +kernel
theorem dL_offices_28 : decode cL_offices 28 = .ok (.iconst 1, 1) := by decide +kernel
theorem dL_offices_29 : decode cL_offices 29 = .ok (.iadd, 1) := by decide +kernel
theorem dL_offices_30 : decode cL_offices 30 = .ok (.invokestatic 123, 3) := by decide +kernel
theorem dL_offices_33 : decode cL_offices 33 = .ok (.iconst 1, 1) := by decide +kernel
theorem dL_offices_34 : decode cL_offices 34 = .ok (.isub, 1) := by decide +kernel
theorem dL_offices_35 : decode cL_offices 35 = .ok (.iconst 0, 1) := by decide +kernel
theorem dL_offices_36 : decode cL_offices 36 = .ok (.iconst 0, 1) := by decide +kernel
theorem dL_offices_37 : decode cL_offices 37 = .ok (.invokestatic 126, 3) := by decide +kernel
theorem dL_offices_40 : decode cL_offices 40 = .ok (.istore 6, 2) := by decide +kernel
theorem dL_offices_42 : decode cL_offices 42 = .ok (.aload_n 2, 1) := by decide +kernel
theorem dL_offices_43 : decode cL_offices 43 = .ok (.iconst 0, 1) := by decide +kernel
theorem dL_offices_44 : decode cL_offices 44 = .ok (.dup2, 1) := by decide +kernel
theorem dL_offices_45 : decode cL_offices 45 = .ok (.iaload, 1) := by decide +kernel
theorem dL_offices_46 : decode cL_offices 46 = .ok (.iload 6, 2) := by decide +kernel
theorem dL_offices_48 : decode cL_offices 48 = .ok (.ifCond .lt 7, 3) := by decide +kernel
theorem dL_offices_51 : decode cL_offices 51 = .ok (.iconst 1, 1) := by decide +kernel
theorem dL_offices_52 : decode cL_offices 52 = .ok (.goto 4, 3) := by decide +kernel
theorem dL_offices_55 : decode cL_offices 55 = .ok (.iconst 0, 1) := by decide +kernel
theorem dL_offices_56 : decode cL_offices 56 = .ok (.iadd, 1) := by decide +kernel
theorem dL_offices_57 : decode cL_offices 57 = .ok (.iastore, 1) := by decide +kernel
theorem dL_offices_58 : decode cL_offices 58 = .ok (.iload 6, 2) := by decide +kernel
theorem dL_offices_60 : decode cL_offices 60 = .ok (.ldc 23, 2) := by decide +kernel
theorem dL_offices_62 : decode cL_offices 62 = .ok (.if_icmp .ne 19, 3) := by decide +kernel
theorem dL_offices_65 : decode cL_offices 65 = .ok (.aload_n 2, 1) := by decide +kernel
theorem dL_offices_66 : decode cL_offices 66 = .ok (.iconst 0, 1) := by decide +kernel
theorem dL_offices_67 : decode cL_offices 67 = .ok (.iaload, 1) := by decide +kernel
theorem dL_offices_68 : decode cL_offices 68 = .ok (.bipush 10, 2) := by decide +kernel
theorem dL_offices_70 : decode cL_offices 70 = .ok (.if_icmp .ne 7, 3) := by decide +kernel
theorem dL_offices_73 : decode cL_offices 73 = .ok (.iconst 1, 1) := by decide +kernel
theorem dL_offices_74 : decode cL_offices 74 = .ok (.goto 36, 3) := by decide +kernel
theorem dL_offices_77 : decode cL_offices 77 = .ok (.iconst 0, 1) := by decide +kernel
theorem dL_offices_78 : decode cL_offices 78 = .ok (.goto 32, 3) := by decide +kernel
theorem dL_offices_81 : decode cL_offices 81 = .ok (.iload 6, 2) := by decide +kernel
theorem dL_offices_83 : decode cL_offices 83 = .ok (.aload_n 2, 1) := by decide +kernel
theorem dL_offices_84 : decode cL_offices 84 = .ok (.iconst 0, 1) := by decide +kernel
theorem dL_offices_85 : decode cL_offices 85 = .ok (.iaload, 1) := by decide +kernel
theorem dL_offices_86 : decode cL_offices 86 = .ok (.iconst 1, 1) := by decide +kernel
theorem dL_offices_87 : decode cL_offices 87 = .ok (.isub, 1) := by decide +kernel
theorem dL_offices_88 : decode cL_offices 88 = .ok (.if_icmp .ne 21, 3) := by decide +kernel
theorem dL_offices_91 : decode cL_offices 91 = .ok (.aload_n 0, 1) := by decide +kernel
theorem dL_offices_92 : decode cL_offices 92 = .ok (.iload 6, 2) := by decide +kernel
theorem dL_offices_94 : decode cL_offices 94 = .ok (.aload_n 2, 1) := by decide +kernel
theorem dL_offices_95 : decode cL_offices 95 = .ok (.iconst 3, 1) := by decide +kernel
theorem dL_offices_96 : decode cL_offices 96 = .ok (.iaload, 1) := by decide +kernel
theorem dL_offices_97 : decode cL_offices 97 = .ok (.invokevirtual 38, 3) := by decide +kernel
theorem dL_offices_100 : decode cL_offices 100 = .ok (.iload 6, 2) := by decide +kernel
theorem dL_offices_102 : decode cL_offices 102 = .ok (.if_icmp .ne 7, 3) := by decide +kernel
theorem dL_offices_105 : decode cL_offices 105 = .ok (.iconst 1, 1) := by decide +kernel
theorem dL_offices_106 : decode cL_offices 106 = .ok (.goto 4, 3) := by decide +kernel
theorem dL_offices_109 : decode cL_offices 109 = .ok (.iconst 0, 1) := by decide +kernel
theorem dL_offices_110 : decode cL_offices 110 = .ok (.ireturn, 1) := by decide +kernel
theorem dL_offices_111 : decode cL_offices 111 = .ok (.iload 4, 2) := by decide +kernel
theorem dL_offices_113 : decode cL_offices 113 = .ok (.aload_n 2, 1) := by decide +kernel
theorem dL_offices_114 : decode cL_offices 114 = .ok (.iconst 0, 1) := by decide +kernel
theorem dL_offices_115 : decode cL_offices 115 = .ok (.iaload, 1) := by decide +kernel
theorem dL_offices_116 : decode cL_offices 116 = .ok (.invokestatic 123, 3) := by decide +kernel
theorem dL_offices_119 : decode cL_offices 119 = .ok (.istore 6, 2) := by decide +kernel
theorem dL_offices_121 : decode cL_offices 121 = .ok (.iload 5, 2) := by decide +kernel
theorem dL_offices_123 : decode cL_offices 123 = .ok (.bipush 7, 2) := by decide +kernel
theorem dL_offices_125 : decode cL_offices 125 = .ok (.if_icmp .ge 126, 3) := by decide +kernel
theorem dL_offices_128 : decode cL_offices 128 = .ok (.iload 4, 2) := by decide +kernel
theorem dL_offices_130 : decode cL_offices 130 = .ok (.iconst 4, 1) := by decide +kernel
theorem dL_offices_131 : decode cL_offices 131 = .ok (.ishr, 1) := by decide +kernel
theorem dL_offices_132 : decode cL_offices 132 = .ok (.aload_n 2, 1) := by decide +kernel
theorem dL_offices_133 : decode cL_offices 133 = .ok (.iconst 0, 1) := by decide +kernel
theorem dL_offices_134 : decode cL_offices 134 = .ok (.iaload, 1) := by decide +kernel
theorem dL_offices_135 : decode cL_offices 135 = .ok (.iconst 1, 1) := by decide +kernel
theorem dL_offices_136 : decode cL_offices 136 = .ok (.iadd, 1) := by decide +kernel
theorem dL_offices_137 : decode cL_offices 137 = .ok (.invokestatic 123, 3) := by decide +kernel
theorem dL_offices_140 : decode cL_offices 140 = .ok (.iconst 1, 1) := by decide +kernel
theorem dL_offices_141 : decode cL_offices 141 = .ok (.isub, 1) := by decide +kernel
theorem dL_offices_142 : decode cL_offices 142 = .ok (.istore 7, 2) := by decide +kernel
