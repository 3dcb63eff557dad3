theorem dX4_init_0 : decode cX4_init 0 = .ok (.aload_n 0, 1) := by decide +kernel
theorem dX4_init_1 : decode cX4_init 1 = .ok (.invokespecial 1, 3) := by decide +kernel
theorem dX4_init_4 : decode cX4_init 4 = .ok (.aload_n 0, 1) := by decide +kernel
theorem dX4_init_5 : decode cX4_init 5 = .ok (.bipush 7, 2) := by decide +kernel
theorem dX4_init_7 : decode cX4_init 7 = .ok (.newarray .int, 2) := by decide +kernel
theorem dX4_init_9 : decode cX4_init 9 = .ok (.putfield 7, 3) := by decide +kernel
theorem dX4_init_12 : decode cX4_init 12 = .ok (.aload_n 0, 1) := by decide +kernel
theorem dX4_init_13 : decode cX4_init 13 = .ok (.bipush 10, 2) := by decide +kernel
theorem dX4_init_15 : decode cX4_init 15 = .ok (.newarray .int, 2) := by decide +kernel
theorem dX4_init_17 : decode cX4_init 17 = .ok (.putfield 13, 3) := by decide +kernel
theorem dX4_init_20 : decode cX4_init 20 = .ok (.aload_n 0, 1) := by decide +kernel
theorem dX4_init_21 : decode cX4_init 21 = .ok (.ldc 16, 2) := by decide +kernel
theorem dX4_init_23 : decode cX4_init 23 = .ok (.newarray .int, 2) := by decide +kernel
theorem dX4_init_25 : decode cX4_init 25 = .ok (.putfield 17, 3) := by decide +kernel
theorem dX4_init_28 : decode cX4_init 28 = .ok (.aload_n 0, 1) := by decide +kernel
theorem dX4_init_29 : decode cX4_init 29 = .ok (.sipush 20004, 3) := by decide +kernel
theorem dX4_init_32 : decode cX4_init 32 = .ok (.newarray .int, 2) := by decide +kernel
theorem dX4_init_34 : decode cX4_init 34 = .ok (.putfield 20, 3) := by decide +kernel
theorem dX4_init_37 : decode cX4_init 37 = .ok (.aload_n 0, 1) := by decide +kernel
theorem dX4_init_38 : decode cX4_init 38 = .ok (.bipush 24, 2) := by decide +kernel
theorem dX4_init_40 : decode cX4_init 40 = .ok (.newarray .int, 2) := by decide +kernel
theorem dX4_init_42 : decode cX4_init 42 = .ok (.putfield 23, 3) := by decide +kernel
theorem dX4_init_45 : decode cX4_init 45 = .ok (.aload_n 0, 1) := by decide +kernel
theorem dX4_init_46 : decode cX4_init 46 = .ok (.bipush 24, 2) := by decide +kernel
theorem dX4_init_48 : decode cX4_init 48 = .ok (.newarray .int, 2) := by decide +kernel
theorem dX4_init_50 : decode cX4_init 50 = .ok (.putfield 26, 3) := by decide +kernel
theorem dX4_init_53 : decode cX4_init 53 = .ok (.aload_n 0, 1) := by decide +kernel
theorem dX4_init_54 : decode cX4_init 54 = .ok (.bipush 24, 2) := by decide +kernel
theorem dX4_init_56 : decode cX4_init 56 = .ok (.newarray .int, 2) := by decide +kernel
theorem dX4_init_58 : decode cX4_init 58 = .ok (.putfield 29, 3) := by decide +kernel
theorem dX4_init_61 : decode cX4_init 61 = .ok (.aload_n 0, 1) := by decide +kernel
theorem dX4_init_62 : decode cX4_init 62 = .ok (.bipush 24, 2) := by decide +kernel
theorem dX4_init_64 : decode cX4_init 64 = .ok (.newarray .int, 2) := by decide +kernel
theorem dX4_init_66 : decode cX4_init 66 = .ok (.putfield 32, 3) := by decide +kernel
theorem dX4_init_69 : decode cX4_init 69 = .ok (.aload_n 0, 1) := by decide +kernel
theorem dX4_init_70 : decode cX4_init 70 = .ok (.bipush 24, 2) := by decide +kernel
theorem dX4_init_72 : decode cX4_init 72 = .ok (.newarray .int, 2) := by decide +kernel
theorem dX4_init_74 : decode cX4_init 74 = .ok (.putfield 35, 3) := by decide +kernel
theorem dX4_init_77 : decode cX4_init 77 = .ok (.aload_n 0, 1) := by decide +kernel
theorem dX4_init_78 : decode cX4_init 78 = .ok (.bipush 24, 2) := by decide +kernel
theorem dX4_init_80 : decode cX4_init 80 = .ok (.newarray .boolean, 2) := by decide +kernel
theorem dX4_init_82 : decode cX4_init 82 = .ok (.putfield 38, 3) := by decide +kernel
theorem dX4_init_85 : decode cX4_init 85 = .ok (.aload_n 0, 1) := by decide +kernel
theorem dX4_init_86 : decode cX4_init 86 = .ok (.bipush 24, 2) := by decide +kernel
theorem dX4_init_88 : decode cX4_init 88 = .ok (.newarray .boolean, 2) := by decide +kernel
theorem dX4_init_90 : decode cX4_init 90 = .ok (.putfield 42, 3) := by decide +kernel
theorem dX4_init_93 : decode cX4_init 93 = .ok (.aload_n 0, 1) := by decide +kernel
theorem dX4_init_94 : decode cX4_init 94 = .ok (.bipush 24, 2) := by decide +kernel
theorem dX4_init_96 : decode cX4_init 96 = .ok (.newarray .int, 2) := by decide +kernel
theorem dX4_init_98 : decode cX4_init 98 = .ok (.putfield 45, 3) := by decide +kernel
theorem dX4_init_101 : decode cX4_init 101 = .ok (.aload_n 0, 1) := by decide +kernel
theorem dX4_init_102 : decode cX4_init 102 = .ok (.sipush 240, 3) := by decide +kernel
theorem dX4_init_105 : decode cX4_init 105 = .ok (.newarray .int, 2) := by decide +kernel
theorem dX4_init_107 : decode cX4_init 107 = .ok (.putfield 48, 3) := by decide +kernel
theorem dX4_init_110 : decode cX4_init 110 = .ok (.aload_n 0, 1) := by decide +kernel
theorem dX4_init_111 : decode cX4_init 111 = .ok (.bipush 16, 2) := by decide +kernel
theorem dX4_init_113 : decode cX4_init 113 = .ok (.newarray .int, 2) := by decide +kernel
theorem dX4_init_115 : decode cX4_init 115 = .ok (.putfield 51, 3) := by decide +kernel
theorem dX4_init_118 : decode cX4_init 118 = .ok (.aload_n 0, 1) := by decide +kernel
theorem dX4_init_119 : decode cX4_init 119 = .ok (.bipush 16, 2) := by decide +kernel
theorem dX4_init_121 : decode cX4_init 121 = .ok (.newarray .int, 2) := by decide +kernel
theorem dX4_init_123 : decode cX4_init 123 = .ok (.putfield 54, 3) := by decide +kernel
theorem dX4_init_126 : decode cX4_init 126 = .ok (.aload_n 0, 1) := by decide +kernel
theorem dX4_init_127 : decode cX4_init 127 = .ok (.bipush 16, 2) := by decide +kernel
theorem dX4_init_129 : decode cX4_init 129 = .ok (.newarray .int, 2) := by decide +kernel
theorem dX4_init_131 : decode cX4_init 131 = .ok (.putfield 57, 3) := by decide +kernel
theorem dX4_init_134 : decode cX4_init 134 = .ok (.aload_n 0, 1) := by decide +kernel
theorem dX4_init_135 : decode cX4_init 135 = .ok (.bipush 16, 2) := by decide +kernel
theorem dX4_init_137 : decode cX4_init 137 = .ok (.newarray .int, 2) := by decide +kernel
theorem dX4_init_139 : decode cX4_init 139 = .ok (.putfield 60, 3) := by decide +kernel
theorem dX4_init_142 : decode cX4_init 142 = .ok (.aload_n 0, 1) := by decide +kernel
theorem dX4_init_143 : decode cX4_init 143 = .ok (.bipush 16, 2) := by decide +kernel
theorem dX4_init_145 : decode cX4_init 145 = .ok (.newarray .int, 2) := by decide +kernel
theorem dX4_init_147 : decode cX4_init 147 = .ok (.putfield 63, 3) := by decide +kernel
theorem dX4_init_150 : decode cX4_init 150 = .ok (.aload_n 0, 1) := by decide +kernel
theorem dX4_init_151 : decode cX4_init 151 = .ok (.bipush 16, 2) := by decide +kernel
theorem dX4_init_153 : decode cX4_init 153 = .ok (.newarray .boolean, 2) := by decide +kernel
theorem dX4_init_155 : decode cX4_init 155 = .ok (.putfield 66, 3) := by decide +kernel
theorem dX4_init_158 : decode cX4_init 158 = .ok (.aload_n 0, 1) := by decide +kernel
theorem dX4_init_159 : decode cX4_init 159 = .ok (.bipush 16, 2) := by decide +kernel
theorem dX4_init_161 : decode cX4_init 161 = .ok (.newarray .boolean, 2) := by decide +kernel
theorem dX4_init_163 : decode cX4_init 163 = .ok (.putfield 69, 3) := by decide +kernel
theorem dX4_init_166 : decode cX4_init 166 = .ok (.aload_n 0, 1) := by decide +kernel
theorem dX4_init_167 : decode cX4_init 167 = .ok (.bipush 16, 2) := by decide +kernel
theorem dX4_init_169 : decode cX4_init 169 = .ok (.newarray .int, 2) := by decide +kernel
theorem dX4_init_171 : decode cX4_init 171 = .ok (.putfield 72, 3) := by decide +kernel
theorem dX4_init_174 : decode cX4_init 174 = .ok (.iconst 0, 1) := by decide +kernel
theorem dX4_init_175 : decode cX4_init 175 = .ok (.istore_n 1, 1) := by decide +kernel
theorem dX4_init_176 : decode cX4_init 176 = .ok (.iload_n 1, 1) := by decide +kernel
theorem dX4_init_177 : decode cX4_init 177 = .ok (.sipush 20004, 3) := by decide +kernel
theorem dX4_init_180 : decode cX4_init 180 = .ok (.if_icmp .ge 17, 3) := by decide +kernel
theorem dX4_init_183 : decode cX4_init 183 = .ok (.aload_n 0, 1) := by decide +kernel
theorem dX4_init_184 : decode cX4_init 184 = .ok (.getfield 20, 3) := by decide +kernel
theorem dX4_init_187 : decode cX4_init 187 = .ok (.iload_n 1, 1) := by decide +kernel
theorem dX4_init_188 : decode cX4_init 188 = .ok (.bipush 30, 2) := by decide +kernel
theorem dX4_init_190 : decode cX4_init 190 = .ok (.iastore, 1) := by decide +kernel
theorem dX4_init_191 : decode cX4_init 191 = .ok (.iinc 1 1, 3) := by decide +kernel
theorem dX4_init_194 : decode cX4_init 194 = .ok (.goto (-18), 3) := by decide +kernel
theorem dX4_init_197 : decode cX4_init 197 = .ok (.iconst 0, 1) := by decide +kernel
theorem dX4_init_198 : decode cX4_init 198 = .ok (.istore_n 1, 1) := by decide +kernel
theorem dX4_init_199 : decode cX4_init 199 = .ok (.iload_n 1, 1) := by decide +kernel
theorem dX4_init_200 : decode cX4_init 200 = .ok (.bipush 24, 2) := by decide +kernel
theorem dX4_init_202 : decode cX4_init 202 = .ok (.if_icmp .ge 16, 3) := by decide +kernel
theorem dX4_init_205 : decode cX4_init 205 = .ok (.aload_n 0, 1) := by decide +kernel
theorem dX4_init_206 : decode cX4_init 206 = .ok (.getfield 45, 3) := by decide +kernel
theorem dX4_init_209 : decode cX4_init 209 = .ok (.iload_n 1, 1) := by decide +kernel
theorem dX4_init_210 : decode cX4_init 210 = .ok (.iconst (-1), 1) := by decide +kernel
theorem dX4_init_211 : decode cX4_init 211 = .ok (.iastore, 1) := by decide +kernel
theorem dX4_init_212 : decode cX4_init 212 = .ok (.iinc 1 1, 3) := by decide +kernel
theorem dX4_init_215 : decode cX4_init 215 = .ok (.goto (-16), 3) := by decide +kernel
theorem dX4_init_218 : decode cX4_init 218 = .ok (.iconst 0, 1) := by decide +kernel
theorem dX4_init_219 : decode cX4_init 219 = .ok (.istore_n 1, 1) := by decide +kernel
theorem dX4_init_220 : decode cX4_init 220 = .ok (.iload_n 1, 1) := by decide +kernel
theorem dX4_init_221 : decode cX4_init 221 = .ok (.sipush 240, 3) := by decide +kernel
theorem dX4_init_224 : decode cX4_init 224 = .ok (.if_icmp .ge 16, 3) := by decide +kernel
theorem dX4_init_227 : decode cX4_init 227 = .ok (.aload_n 0, 1) := by decide +kernel
theorem dX4_init_228 : decode cX4_init 228 = .ok (.getfield 48, 3) := by decide +kernel
theorem dX4_init_231 : decode cX4_init 231 = .ok (.iload_n 1, 1) := by decide +kernel
theorem dX4_init_232 : decode cX4_init 232 = .ok (.iconst (-1), 1) := by decide +kernel
theorem dX4_init_233 : decode cX4_init 233 = .ok (.iastore, 1) := by decide +kernel
theorem dX4_init_234 : decode cX4_init 234 = .ok (.iinc 1 1, 3) := by decide +kernel
theorem dX4_init_237 : decode cX4_init 237 = .ok (.goto (-17), 3) := by decide +kernel
theorem dX4_init_240 : decode cX4_init 240 = .ok (.return_, 1) := by decide +kernel
theorem dX4_thrown_0 : decode cX4_thrown 0 = .ok (.aload_n 0, 1) := by decide +kernel
theorem dX4_thrown_1 : decode cX4_thrown 1 = .ok (.getfield 75, 3) := by decide +kernel
theorem dX4_thrown_4 : decode cX4_thrown 4 = .ok (.ireturn, 1) := by decide +kernel
theorem dX4_fails_0 : decode cX4_fails 0 = .ok (.aload_n 0, 1) := by decide +kernel
theorem dX4_fails_1 : decode cX4_fails 1 = .ok (.iload_n 1, 1) := by decide +kernel
theorem dX4_fails_2 : decode cX4_fails 2 = .ok (.putfield 75, 3) := by decide +kernel
theorem dX4_fails_5 : decode cX4_fails 5 = .ok (.iconst 0, 1) := by decide +kernel
theorem dX4_fails_6 : decode cX4_fails 6 = .ok (.ireturn, 1) := by decide +kernel
theorem dX4_asks_0 : decode cX4_asks 0 = .ok (.aload_n 0, 1) := by decide +kernel
theorem dX4_asks_1 : decode cX4_asks 1 = .ok (.iload_n 1, 1) := by decide +kernel
theorem dX4_asks_2 : decode cX4_asks 2 = .ok (.ifCond .eq 7, 3) := by decide +kernel
theorem dX4_asks_5 : decode cX4_asks 5 = .ok (.iconst 0, 1) := by decide +kernel
theorem dX4_asks_6 : decode cX4_asks 6 = .ok (.goto 4, 3) := by decide +kernel
theorem dX4_asks_9 : decode cX4_asks 9 = .ok (.iconst 1, 1) := by decide +kernel
theorem dX4_asks_10 : decode cX4_asks 10 = .ok (.putfield 75, 3) := by decide +kernel
theorem dX4_asks_13 : decode cX4_asks 13 = .ok (.iload_n 1, 1) := by decide +kernel
theorem dX4_asks_14 : decode cX4_asks 14 = .ok (.ireturn, 1) := by decide +kernel
theorem dX4_in_0 : decode cX4_in 0 = .ok (.iload_n 0, 1) := by decide +kernel
theorem dX4_in_1 : decode cX4_in 1 = .ok (.iload_n 1, 1) := by decide +kernel
theorem dX4_in_2 : decode cX4_in 2 = .ok (.if_icmp .lt 12, 3) := by decide +kernel
theorem dX4_in_5 : decode cX4_in 5 = .ok (.iload_n 0, 1) := by decide +kernel
theorem dX4_in_6 : decode cX4_in 6 = .ok (.iload_n 2, 1) := by decide +kernel
theorem dX4_in_7 : decode cX4_in 7 = .ok (.if_icmp .gt 7, 3) := by decide +kernel
theorem dX4_in_10 : decode cX4_in 10 = .ok (.iconst 1, 1) := by decide +kernel
theorem dX4_in_11 : decode cX4_in 11 = .ok (.goto 4, 3) := by decide +kernel
theorem dX4_in_14 : decode cX4_in 14 = .ok (.iconst 0, 1) := by decide +kernel
theorem dX4_in_15 : decode cX4_in 15 = .ok (.ireturn, 1) := by decide +kernel
set_option maxRecDepth 20000 in
theorem ggX4_isOffice_X4_in : GoodIn wsX4_isOffice wsX4_in := goodIn_r _ [5] (by decide +kernel) (by decide +kernel)
set_option maxRecDepth 20000 in
theorem gX4_isOffice_X4_in : GoodIn wsX4_isOffice (va_wsS RX4 82 yX4_in wsX4_in) := goodIn_app (goodIn_of _ (by decide +kernel)) ggX4_isOffice_X4_in
theorem dX4_isOffice_0 : decode cX4_isOffice 0 = .ok (.iload_n 1, 1) := by decide +kernel
theorem dX4_isOffice_1 : decode cX4_isOffice 1 = .ok (.iconst 0, 1) := by decide +kernel
theorem dX4_isOffice_2 : decode cX4_isOffice 2 = .ok (.aload_n 0, 1) := by decide +kernel
theorem dX4_isOffice_3 : decode cX4_isOffice 3 = .ok (.getfield 79, 3) := by decide +kernel
theorem dX4_isOffice_6 : decode cX4_isOffice 6 = .ok (.iconst 1, 1) := by decide +kernel
theorem dX4_isOffice_7 : decode cX4_isOffice 7 = .ok (.isub, 1) := by decide +kernel
theorem dX4_isOffice_8 : decode cX4_isOffice 8 = .ok (.invokestatic 82, 3) := by decide +kernel
theorem dX4_isOffice_11 : decode cX4_isOffice 11 = .ok (.ireturn, 1) := by decide +kernel
set_option maxRecDepth 20000 in
theorem ggX4_isAct_X4_in : GoodIn wsX4_isAct wsX4_in := goodIn_r _ [5] (by decide +kernel) (by decide +kernel)
set_option maxRecDepth 20000 in
theorem gX4_isAct_X4_in : GoodIn wsX4_isAct (va_wsS RX4 82 yX4_in wsX4_in) := goodIn_app (goodIn_of _ (by decide +kernel)) ggX4_isAct_X4_in
theorem dX4_isAct_0 : decode cX4_isAct 0 = .ok (.iload_n 1, 1) := by decide +kernel
theorem dX4_isAct_1 : decode cX4_isAct 1 = .ok (.iconst 0, 1) := by decide +kernel
theorem dX4_isAct_2 : decode cX4_isAct 2 = .ok (.aload_n 0, 1) := by decide +kernel
theorem dX4_isAct_3 : decode cX4_isAct 3 = .ok (.getfield 86, 3) := by decide +kernel
theorem dX4_isAct_6 : decode cX4_isAct 6 = .ok (.iconst 1, 1) := by decide +kernel
theorem dX4_isAct_7 : decode cX4_isAct 7 = .ok (.isub, 1) := by decide +kernel
theorem dX4_isAct_8 : decode cX4_isAct 8 = .ok (.invokestatic 82, 3) := by decide +kernel
theorem dX4_isAct_11 : decode cX4_isAct 11 = .ok (.ireturn, 1) := by decide +kernel
set_option maxRecDepth 20000 in
theorem ggX4_isKind_X4_in : GoodIn wsX4_isKind wsX4_in := goodIn_r _ [4] (by decide +kernel) (by decide +kernel)
set_option maxRecDepth 20000 in
theorem gX4_isKind_X4_in : GoodIn wsX4_isKind (va_wsS RX4 82 yX4_in wsX4_in) := goodIn_app (goodIn_of _ (by decide +kernel)) ggX4_isKind_X4_in
theorem dX4_isKind_0 : decode cX4_isKind 0 = .ok (.iload_n 0, 1) := by decide +kernel
theorem dX4_isKind_1 : decode cX4_isKind 1 = .ok (.iconst 0, 1) := by decide +kernel
theorem dX4_isKind_2 : decode cX4_isKind 2 = .ok (.iconst 3, 1) := by decide +kernel
theorem dX4_isKind_3 : decode cX4_isKind 3 = .ok (.invokestatic 82, 3) := by decide +kernel
theorem dX4_isKind_6 : decode cX4_isKind 6 = .ok (.ireturn, 1) := by decide +kernel
set_option maxRecDepth 20000 in
theorem ggX4_isComplaint_X4_in : GoodIn wsX4_isComplaint wsX4_in := goodIn_r _ [5] (by decide +kernel) (by decide +kernel)
set_option maxRecDepth 20000 in
theorem gX4_isComplaint_X4_in : GoodIn wsX4_isComplaint (va_wsS RX4 82 yX4_in wsX4_in) := goodIn_app (goodIn_of _ (by decide +kernel)) ggX4_isComplaint_X4_in
theorem dX4_isComplaint_0 : decode cX4_isComplaint 0 = .ok (.iload_n 1, 1) := by decide +kernel
theorem dX4_isComplaint_1 : decode cX4_isComplaint 1 = .ok (.iconst 0, 1) := by decide +kernel
theorem dX4_isComplaint_2 : decode cX4_isComplaint 2 = .ok (.aload_n 0, 1) := by decide +kernel
theorem dX4_isComplaint_3 : decode cX4_isComplaint 3 = .ok (.getfield 89, 3) := by decide +kernel
theorem dX4_isComplaint_6 : decode cX4_isComplaint 6 = .ok (.iconst 1, 1) := by decide +kernel
theorem dX4_isComplaint_7 : decode cX4_isComplaint 7 = .ok (.isub, 1) := by decide +kernel
theorem dX4_isComplaint_8 : decode cX4_isComplaint 8 = .ok (.invokestatic 82, 3) := by decide +kernel
theorem dX4_isComplaint_11 : decode cX4_isComplaint 11 = .ok (.ireturn, 1) := by decide +kernel
set_option maxRecDepth 20000 in
theorem ggX4_letter_X4_in : GoodIn wsX4_letter wsX4_in := goodIn_r _ [6] (by decide +kernel) (by decide +kernel)
set_option maxRecDepth 20000 in
theorem gX4_letter_X4_in : GoodIn wsX4_letter (va_wsS RX4 82 yX4_in wsX4_in) := goodIn_app (goodIn_of _ (by decide +kernel)) ggX4_letter_X4_in
set_option maxRecDepth 20000 in
theorem ggX4_letter_X4_asks : GoodIn wsX4_letter wsX4_asks := goodIn_r _ [10, 11, 16, 17, 18, 19, 20, 21, 22, 23, 24, 25, 26, 27, 28, 29, 30, 31, 32, 33, 34, 35, 36, 37, 38, 39, 40, 41, 42] (by decide +kernel) (by decide +kernel)
set_option maxRecDepth 20000 in
theorem gX4_letter_X4_asks : GoodIn wsX4_letter (wsV RX4 92 RX4 yX4_asks wsX4_asks) := goodIn_app (goodIn_of _ (by decide +kernel)) ggX4_letter_X4_asks
set_option maxRecDepth 20000 in
theorem ggX4_letter_X4_fails : GoodIn wsX4_letter wsX4_fails := goodIn_r _ [15, 11, 16, 17, 18, 19, 20, 21, 22, 23, 24, 25, 26, 27, 28, 29, 30, 31, 32, 33, 34, 35, 36, 37, 38, 39, 40, 41, 42] (by decide +kernel) (by decide +kernel)
set_option maxRecDepth 20000 in
theorem gX4_letter_X4_fails : GoodIn wsX4_letter (wsV RX4 99 RX4 yX4_fails wsX4_fails) := goodIn_app (goodIn_of _ (by decide +kernel)) ggX4_letter_X4_fails
theorem dX4_letter_0 : decode cX4_letter 0 = .ok (.aload_n 0, 1) := by decide +kernel
theorem dX4_letter_1 : decode cX4_letter 1 = .ok (.iload_n 1, 1) := by decide +kernel
theorem dX4_letter_2 : decode cX4_letter 2 = .ok (.bipush 97, 2) := by decide +kernel
theorem dX4_letter_4 : decode cX4_letter 4 = .ok (.bipush 122, 2) := by decide +kernel
theorem dX4_letter_6 : decode cX4_letter 6 = .ok (.invokestatic 82, 3) := by decide +kernel
theorem dX4_letter_9 : decode cX4_letter 9 = .ok (.invokevirtual 92, 3) := by decide +kernel
theorem dX4_letter_12 : decode cX4_letter 12 = .ok (.ifCond .ne 5, 3) := by decide +kernel
theorem dX4_letter_15 : decode cX4_letter 15 = .ok (.iconst 0, 1) := by decide +kernel
theorem dX4_letter_16 : decode cX4_letter 16 = .ok (.ireturn, 1) := by decide +kernel
theorem dX4_letter_17 : decode cX4_letter 17 = .ok (.aload_n 0, 1) := by decide +kernel
theorem dX4_letter_18 : decode cX4_letter 18 = .ok (.getfield 96, 3) := by decide +kernel
theorem dX4_letter_21 : decode cX4_letter 21 = .ok (.bipush 7, 2) := by decide +kernel
theorem dX4_letter_23 : decode cX4_letter 23 = .ok (.if_icmp .ne 9, 3) := by decide +kernel
theorem dX4_letter_26 : decode cX4_letter 26 = .ok (.aload_n 0, 1) := by decide +kernel
theorem dX4_letter_27 : decode cX4_letter 27 = .ok (.iconst 2, 1) := by decide +kernel
theorem dX4_letter_28 : decode cX4_letter 28 = .ok (.invokevirtual 99, 3) := by decide +kernel
theorem dX4_letter_31 : decode cX4_letter 31 = .ok (.ireturn, 1) := by decide +kernel
theorem dX4_letter_32 : decode cX4_letter 32 = .ok (.aload_n 0, 1) := by decide +kernel
theorem dX4_letter_33 : decode cX4_letter 33 = .ok (.getfield 7, 3) := by decide +kernel
theorem dX4_letter_36 : decode cX4_letter 36 = .ok (.aload_n 0, 1) := by decide +kernel
theorem dX4_letter_37 : decode cX4_letter 37 = .ok (.getfield 96, 3) := by decide +kernel
theorem dX4_letter_40 : decode cX4_letter 40 = .ok (.iload_n 1, 1) := by decide +kernel
theorem dX4_letter_41 : decode cX4_letter 41 = .ok (.iastore, 1) := by decide +kernel
theorem dX4_letter_42 : decode cX4_letter 42 = .ok (.aload_n 0, 1) := by decide +kernel
theorem dX4_letter_43 : decode cX4_letter 43 = .ok (.dup, 1) := by decide +kernel
theorem dX4_letter_44 : decode cX4_letter 44 = .ok (.getfield 96, 3) := by decide +kernel
theorem dX4_letter_47 : decode cX4_letter 47 = .ok (.iconst 1, 1) := by decide +kernel
theorem dX4_letter_48 : decode cX4_letter 48 = .ok (.iadd, 1) := by decide +kernel
theorem dX4_letter_49 : decode cX4_letter 49 = .ok (.putfield 96, 3) := by decide +kernel
theorem dX4_letter_52 : decode cX4_letter 52 = .ok (.aload_n 0, 1) := by decide +kernel
theorem dX4_letter_53 : decode cX4_letter 53 = .ok (.getfield 96, 3) := by decide +kernel
theorem dX4_letter_56 : decode cX4_letter 56 = .ok (.ireturn, 1) := by decide +kernel
theorem dX4_isTyped_0 : decode cX4_isTyped 0 = .ok (.iload_n 1, 1) := by decide +kernel
theorem dX4_isTyped_1 : decode cX4_isTyped 1 = .ok (.tableswitch 247 0 2 #[27, 96, 189], 27) := by decide +kernel
theorem dX4_isTyped_28 : decode cX4_isTyped 28 = .ok (.aload_n 0, 1) := by decide +kernel
theorem dX4_isTyped_29 : decode cX4_isTyped 29 = .ok (.getfield 96, 3) := by decide +kernel
theorem dX4_isTyped_32 : decode cX4_isTyped 32 = .ok (.iconst 5, 1) := by decide +kernel
theorem dX4_isTyped_33 : decode cX4_isTyped 33 = .ok (.if_icmp .ne 62, 3) := by decide +kernel
theorem dX4_isTyped_36 : decode cX4_isTyped 36 = .ok (.aload_n 0, 1) := by decide +kernel
theorem dX4_isTyped_37 : decode cX4_isTyped 37 = .ok (.getfield 7, 3) := by decide +kernel
theorem dX4_isTyped_40 : decode cX4_isTyped 40 = .ok (.iconst 0, 1) := by decide +kernel
theorem dX4_isTyped_41 : decode cX4_isTyped 41 = .ok (.iaload, 1) := by decide +kernel
theorem dX4_isTyped_42 : decode cX4_isTyped 42 = .ok (.bipush 100, 2) := by decide +kernel
theorem dX4_isTyped_44 : decode cX4_isTyped 44 = .ok (.if_icmp .ne 51, 3) := by decide +kernel
theorem dX4_isTyped_47 : decode cX4_isTyped 47 = .ok (.aload_n 0, 1) := by decide +kernel
theorem dX4_isTyped_48 : decode cX4_isTyped 48 = .ok (.getfield 7, 3) := by decide +kernel
theorem dX4_isTyped_51 : decode cX4_isTyped 51 = .ok (.iconst 1, 1) := by decide +kernel
theorem dX4_isTyped_52 : decode cX4_isTyped 52 = .ok (.iaload, 1) := by decide +kernel
theorem dX4_isTyped_53 : decode cX4_isTyped 53 = .ok (.bipush 101, 2) := by decide +kernel
theorem dX4_isTyped_55 : decode cX4_isTyped 55 = .ok (.if_icmp .ne 40, 3) := by decide +kernel
theorem dX4_isTyped_58 : decode cX4_isTyped 58 = .ok (.aload_n 0, 1) := by decide +kernel
theorem dX4_isTyped_59 : decode cX4_isTyped 59 = .ok (.getfield 7, 3) := by decide +kernel
theorem dX4_isTyped_62 : decode cX4_isTyped 62 = .ok (.iconst 2, 1) := by decide +kernel
theorem dX4_isTyped_63 : decode cX4_isTyped 63 = .ok (.iaload, 1) := by decide +kernel
theorem dX4_isTyped_64 : decode cX4_isTyped 64 = .ok (.bipush 108, 2) := by decide +kernel
theorem dX4_isTyped_66 : decode cX4_isTyped 66 = .ok (.if_icmp .ne 29, 3) := by decide +kernel
theorem dX4_isTyped_69 : decode cX4_isTyped 69 = .ok (.aload_n 0, 1) := by decide +kernel
theorem dX4_isTyped_70 : decode cX4_isTyped 70 = .ok (.getfield 7, 3) := by decide +kernel
theorem dX4_isTyped_73 : decode cX4_isTyped 73 = .ok (.iconst 3, 1) := by decide +kernel
theorem dX4_isTyped_74 : decode cX4_isTyped 74 = .ok (.iaload, 1) := by decide +kernel
theorem dX4_isTyped_75 : decode cX4_isTyped 75 = .ok (.bipush 97, 2) := by decide +kernel
theorem dX4_isTyped_77 : decode cX4_isTyped 77 = .ok (.if_icmp .ne 18, 3) := by decide +kernel
theorem dX4_isTyped_80 : decode cX4_isTyped 80 = .ok (.aload_n 0, 1) := by decide +kernel
theorem dX4_isTyped_81 : decode cX4_isTyped 81 = .ok (.getfield 7, 3) := by decide +kernel
theorem dX4_isTyped_84 : decode cX4_isTyped 84 = .ok (.iconst 4, 1) := by decide +kernel
theorem dX4_isTyped_85 : decode cX4_isTyped 85 = .ok (.iaload, 1) := by decide +kernel
theorem dX4_isTyped_86 : decode cX4_isTyped 86 = .ok (.bipush 121, 2) := by decide +kernel
theorem dX4_isTyped_88 : decode cX4_isTyped 88 = .ok (.if_icmp .ne 7, 3) := by decide +kernel
theorem dX4_isTyped_91 : decode cX4_isTyped 91 = .ok (.iconst 1, 1) := by decide +kernel
theorem dX4_isTyped_92 : decode cX4_isTyped 92 = .ok (.goto 4, 3) := by decide +kernel
theorem dX4_isTyped_95 : decode cX4_isTyped 95 = .ok (.iconst 0, 1) := by decide +kernel
theorem dX4_isTyped_96 : decode cX4_isTyped 96 = .ok (.ireturn, 1) := by decide +kernel
theorem dX4_isTyped_97 : decode cX4_isTyped 97 = .ok (.aload_n 0, 1) := by decide +kernel
theorem dX4_isTyped_98 : decode cX4_isTyped 98 = .ok (.getfield 96, 3) := by decide +kernel
theorem dX4_isTyped_101 : decode cX4_isTyped 101 = .ok (.bipush 7, 2) := by decide +kernel
theorem dX4_isTyped_103 : decode cX4_isTyped 103 = .ok (.if_icmp .ne 85, 3) := by decide +kernel
theorem dX4_isTyped_106 : decode cX4_isTyped 106 = .ok (.aload_n 0, 1) := by decide +kernel
theorem dX4_isTyped_107 : decode cX4_isTyped 107 = .ok (.getfield 7, 3) := by decide +kernel
theorem dX4_isTyped_110 : decode cX4_isTyped 110 = .ok (.iconst 0, 1) := by decide +kernel
theorem dX4_isTyped_111 : decode cX4_isTyped 111 = .ok (.iaload, 1) := by decide +kernel
theorem dX4_isTyped_112 : decode cX4_isTyped 112 = .ok (.bipush 112, 2) := by decide +kernel
theorem dX4_isTyped_114 : decode cX4_isTyped 114 = .ok (.if_icmp .ne 74, 3) := by decide +kernel
theorem dX4_isTyped_117 : decode cX4_isTyped 117 = .ok (.aload_n 0, 1) := by decide +kernel
theorem dX4_isTyped_118 : decode cX4_isTyped 118 = .ok (.getfield 7, 3) := by decide +kernel
theorem dX4_isTyped_121 : decode cX4_isTyped 121 = .ok (.iconst 1, 1) := by decide +kernel
theorem dX4_isTyped_122 : decode cX4_isTyped 122 = .ok (.iaload, 1) := by decide +kernel
theorem dX4_isTyped_123 : decode cX4_isTyped 123 = .ok (.bipush 114, 2) := by decide +kernel
theorem dX4_isTyped_125 : decode cX4_isTyped 125 = .ok (.if_icmp .ne 63, 3) := by decide +kernel
theorem dX4_isTyped_128 : decode cX4_isTyped 128 = .ok (.aload_n 0, 1) := by decide +kernel
theorem dX4_isTyped_129 : decode cX4_isTyped 129 = .ok (.getfield 7, 3) := by decide +kernel
theorem dX4_isTyped_132 : decode cX4_isTyped 132 = .ok (.iconst 2, 1) := by decide +kernel
theorem dX4_isTyped_133 : decode cX4_isTyped 133 = .ok (.iaload, 1) := by decide +kernel
theorem dX4_isTyped_134 : decode cX4_isTyped 134 = .ok (.bipush 111, 2) := by decide +kernel
theorem dX4_isTyped_136 : decode cX4_isTyped 136 = .ok (.if_icmp .ne 52, 3) := by decide +kernel
theorem dX4_isTyped_139 : decode cX4_isTyped 139 = .ok (.aload_n 0, 1) := by decide +kernel
theorem dX4_isTyped_140 : decode cX4_isTyped 140 = .ok (.getfield 7, 3) := by decide +kernel
theorem dX4_isTyped_143 : decode cX4_isTyped 143 = .ok (.iconst 3, 1) := by decide +kernel
theorem dX4_isTyped_144 : decode cX4_isTyped 144 = .ok (.iaload, 1) := by decide +kernel
theorem dX4_isTyped_145 : decode cX4_isTyped 145 = .ok (.bipush 109, 2) := by decide +kernel
theorem dX4_isTyped_147 : decode cX4_isTyped 147 = .ok (.if_icmp .ne 41, 3) := by decide +kernel
theorem dX4_isTyped_150 : decode cX4_isTyped 150 = .ok (.aload_n 0, 1) := by decide +kernel
theorem dX4_isTyped_151 : decode cX4_isTyped 151 = .ok (.getfield 7, 3) := by decide +kernel
theorem dX4_isTyped_154 : decode cX4_isTyped 154 = .ok (.iconst 4, 1) := by decide +kernel
theorem dX4_isTyped_155 : decode cX4_isTyped 155 = .ok (.iaload, 1) := by decide +kernel
theorem dX4_isTyped_156 : decode cX4_isTyped 156 = .ok (.bipush 105, 2) := by decide +kernel
theorem dX4_isTyped_158 : decode cX4_isTyped 158 = .ok (.if_icmp .ne 30, 3) := by decide +kernel
theorem dX4_isTyped_161 : decode cX4_isTyped 161 = .ok (.aload_n 0, 1) := by decide +kernel
theorem dX4_isTyped_162 : decode cX4_isTyped 162 = .ok (.getfield 7, 3) := by decide +kernel
theorem dX4_isTyped_165 : decode cX4_isTyped 165 = .ok (.iconst 5, 1) := by decide +kernel
theorem dX4_isTyped_166 : decode cX4_isTyped 166 = .ok (.iaload, 1) := by decide +kernel
theorem dX4_isTyped_167 : decode cX4_isTyped 167 = .ok (.bipush 115, 2) := by decide +kernel
theorem dX4_isTyped_169 : decode cX4_isTyped 169 = .ok (.if_icmp .ne 19, 3) := by decide +kernel
theorem dX4_isTyped_172 : decode cX4_isTyped 172 = .ok (.aload_n 0, 1) := by decide +kernel
theorem dX4_isTyped_173 : decode cX4_isTyped 173 = .ok (.getfield 7, 3) := by decide +kernel
theorem dX4_isTyped_176 : decode cX4_isTyped 176 = .ok (.bipush 6, 2) := by decide +kernel
theorem dX4_isTyped_178 : decode cX4_isTyped 178 = .ok (.iaload, 1) := by decide +kernel
theorem dX4_isTyped_179 : decode cX4_isTyped 179 = .ok (.bipush 101, 2) := by decide +kernel
theorem dX4_isTyped_181 : decode cX4_isTyped 181 = .ok (.if_icmp .ne 7, 3) := by decide +kernel
theorem dX4_isTyped_184 : decode cX4_isTyped 184 = .ok (.iconst 1, 1) := by decide +kernel
theorem dX4_isTyped_185 : decode cX4_isTyped 185 = .ok (.goto 4, 3) := by decide +kernel
theorem dX4_isTyped_188 : decode cX4_isTyped 188 = .ok (.iconst 0, 1) := by decide +kernel
theorem dX4_isTyped_189 : decode cX4_isTyped 189 = .ok (.ireturn, 1) := by decide +kernel
theorem dX4_isTyped_190 : decode cX4_isTyped 190 = .ok (.aload_n 0, 1) := by decide +kernel
theorem dX4_isTyped_191 : decode cX4_isTyped 191 = .ok (.getfield 96, 3) := by decide +kernel
theorem dX4_isTyped_194 : decode cX4_isTyped 194 = .ok (.iconst 4, 1) := by decide +kernel
theorem dX4_isTyped_195 : decode cX4_isTyped 195 = .ok (.if_icmp .ne 51, 3) := by decide +kernel
theorem dX4_isTyped_198 : decode cX4_isTyped 198 = .ok (.aload_n 0, 1) := by decide +kernel
theorem dX4_isTyped_199 : decode cX4_isTyped 199 = .ok (.getfield 7, 3) := by decide +kernel
theorem dX4_isTyped_202 : decode cX4_isTyped 202 = .ok (.iconst 0, 1) := by decide +kernel
theorem dX4_isTyped_203 : decode cX4_isTyped 203 = .ok (.iaload, 1) := by decide +kernel
theorem dX4_isTyped_204 : decode cX4_isTyped 204 = .ok (.bipush 114, 2) := by decide +kernel
theorem dX4_isTyped_206 : decode cX4_isTyped 206 = .ok (.if_icmp .ne 40, 3) := by decide +kernel
theorem dX4_isTyped_209 : decode cX4_isTyped 209 = .ok (.aload_n 0, 1) := by decide +kernel
theorem dX4_isTyped_210 : decode cX4_isTyped 210 = .ok (.getfield 7, 3) := by decide +kernel
theorem dX4_isTyped_213 : decode cX4_isTyped 213 = .ok (.iconst 1, 1) := by decide +kernel
theorem dX4_isTyped_214 : decode cX4_isTyped 214 = .ok (.iaload, 1) := by decide +kernel
theorem dX4_isTyped_215 : decode cX4_isTyped 215 = .ok (.bipush 117, 2) := by decide +kernel
theorem dX4_isTyped_217 : decode cX4_isTyped 217 = .ok (.if_icmp .ne 29, 3) := by decide +kernel
theorem dX4_isTyped_220 : decode cX4_isTyped 220 = .ok (.aload_n 0, 1) := by decide +kernel
theorem dX4_isTyped_221 : decode cX4_isTyped 221 = .ok (.getfield 7, 3) := by decide +kernel
theorem dX4_isTyped_224 : decode cX4_isTyped 224 = .ok (.iconst 2, 1) := by decide +kernel
theorem dX4_isTyped_225 : decode cX4_isTyped 225 = .ok (.iaload, 1) := by decide +kernel
theorem dX4_isTyped_226 : decode cX4_isTyped 226 = .ok (.bipush 108, 2) := by decide +kernel
theorem dX4_isTyped_228 : decode cX4_isTyped 228 = .ok (.if_icmp .ne 18, 3) := by decide +kernel
theorem dX4_isTyped_231 : decode cX4_isTyped 231 = .ok (.aload_n 0, 1) := by decide +kernel
theorem dX4_isTyped_232 : decode cX4_isTyped 232 = .ok (.getfield 7, 3) := by decide +kernel
theorem dX4_isTyped_235 : decode cX4_isTyped 235 = .ok (.iconst 3, 1) := by decide +kernel
theorem dX4_isTyped_236 : decode cX4_isTyped 236 = .ok (.iaload, 1) := by decide +kernel
theorem dX4_isTyped_237 : decode cX4_isTyped 237 = .ok (.bipush 101, 2) := by decide +kernel
theorem dX4_isTyped_239 : decode cX4_isTyped 239 = .ok (.if_icmp .ne 7, 3) := by decide +kernel
theorem dX4_isTyped_242 : decode cX4_isTyped 242 = .ok (.iconst 1, 1) := by decide +kernel
theorem dX4_isTyped_243 : decode cX4_isTyped 243 = .ok (.goto 4, 3) := by decide +kernel
theorem dX4_isTyped_246 : decode cX4_isTyped 246 = .ok (.iconst 0, 1) := by decide +kernel
theorem dX4_isTyped_247 : decode cX4_isTyped 247 = .ok (.ireturn, 1) := by decide +kernel
theorem dX4_isTyped_248 : decode cX4_isTyped 248 = .ok (.aload_n 0, 1) := by decide +kernel
theorem dX4_isTyped_249 : decode cX4_isTyped 249 = .ok (.getfield 96, 3) := by decide +kernel
theorem dX4_isTyped_252 : decode cX4_isTyped 252 = .ok (.bipush 6, 2) := by decide +kernel
theorem dX4_isTyped_254 : decode cX4_isTyped 254 = .ok (.if_icmp .ne 73, 3) := by decide +kernel
theorem dX4_isTyped_257 : decode cX4_isTyped 257 = .ok (.aload_n 0, 1) := by decide +kernel
theorem dX4_isTyped_258 : decode cX4_isTyped 258 = .ok (.getfield 7, 3) := by decide +kernel
theorem dX4_isTyped_261 : decode cX4_isTyped 261 = .ok (.iconst 0, 1) := by decide +kernel
theorem dX4_isTyped_262 : decode cX4_isTyped 262 = .ok (.iaload, 1) := by decide +kernel
theorem dX4_isTyped_263 : decode cX4_isTyped 263 = .ok (.bipush 97, 2) := by decide +kernel
theorem dX4_isTyped_265 : decode cX4_isTyped 265 = .ok (.if_icmp .ne 62, 3) := by decide +kernel
theorem dX4_isTyped_268 : decode cX4_isTyped 268 = .ok (.aload_n 0, 1) := by decide +kernel
theorem dX4_isTyped_269 : decode cX4_isTyped 269 = .ok (.getfield 7, 3) := by decide +kernel
theorem dX4_isTyped_272 : decode cX4_isTyped 272 = .ok (.iconst 1, 1) := by decide +kernel
theorem dX4_isTyped_273 : decode cX4_isTyped 273 = .ok (.iaload, 1) := by decide +kernel
theorem dX4_isTyped_274 : decode cX4_isTyped 274 = .ok (.bipush 110, 2) := by decide +kernel
theorem dX4_isTyped_276 : decode cX4_isTyped 276 = .ok (.if_icmp .ne 51, 3) := by decide +kernel
theorem dX4_isTyped_279 : decode cX4_isTyped 279 = .ok (.aload_n 0, 1) := by decide +kernel
theorem dX4_isTyped_280 : decode cX4_isTyped 280 = .ok (.getfield 7, 3) := by decide +kernel
theorem dX4_isTyped_283 : decode cX4_isTyped 283 = .ok (.iconst 2, 1) := by decide +kernel
theorem dX4_isTyped_284 : decode cX4_isTyped 284 = .ok (.iaload, 1) := by decide +kernel
theorem dX4_isTyped_285 : decode cX4_isTyped 285 = .ok (.bipush 115, 2) := by decide +kernel
theorem dX4_isTyped_287 : decode cX4_isTyped 287 = .ok (.if_icmp .ne 40, 3) := by decide +kernel
theorem dX4_isTyped_290 : decode cX4_isTyped 290 = .ok (.aload_n 0, 1) := by decide +kernel
theorem dX4_isTyped_291 : decode cX4_isTyped 291 = .ok (.getfield 7, 3) := by decide +kernel
theorem dX4_isTyped_294 : decode cX4_isTyped 294 = .ok (.iconst 3, 1) := by decide +kernel
theorem dX4_isTyped_295 : decode cX4_isTyped 295 = .ok (.iaload, 1) := by decide +kernel
theorem dX4_isTyped_296 : decode cX4_isTyped 296 = .ok (.bipush 119, 2) := by decide +kernel
theorem dX4_isTyped_298 : decode cX4_isTyped 298 = .ok (.if_icmp .ne 29, 3) := by decide +kernel
theorem dX4_isTyped_301 : decode cX4_isTyped 301 = .ok (.aload_n 0, 1) := by decide +kernel
theorem dX4_isTyped_302 : decode cX4_isTyped 302 = .ok (.getfield 7, 3) := by decide +kernel
theorem dX4_isTyped_305 : decode cX4_isTyped 305 = .ok (.iconst 4, 1) := by decide +kernel
theorem dX4_isTyped_306 : decode cX4_isTyped 306 = .ok (.iaload, 1) := by decide +kernel
theorem dX4_isTyped_307 : decode cX4_isTyped 307 = .ok (.bipush 101, 2) := by decide +kernel
theorem dX4_isTyped_309 : decode cX4_isTyped 309 = .ok (.if_icmp .ne 18, 3) := by decide +kernel
theorem dX4_isTyped_312 : decode cX4_isTyped 312 = .ok (.aload_n 0, 1) := by decide +kernel
theorem dX4_isTyped_313 : decode cX4_isTyped 313 = .ok (.getfield 7, 3) := by decide +kernel
theorem dX4_isTyped_316 : decode cX4_isTyped 316 = .ok (.iconst 5, 1) := by decide +kernel
theorem dX4_isTyped_317 : decode cX4_isTyped 317 = .ok (.iaload, 1) := by decide +kernel
theorem dX4_isTyped_318 : decode cX4_isTyped 318 = .ok (.bipush 114, 2) := by decide +kernel
theorem dX4_isTyped_320 : decode cX4_isTyped 320 = .ok (.if_icmp .ne 7, 3) := by decide +kernel
theorem dX4_isTyped_323 : decode cX4_isTyped 323 = .ok (.iconst 1, 1) := by decide +kernel
theorem dX4_isTyped_324 : decode cX4_isTyped 324 = .ok (.goto 4, 3) := by decide +kernel
theorem dX4_isTyped_327 : decode cX4_isTyped 327 = .ok (.iconst 0, 1) := by decide +kernel
theorem dX4_isTyped_328 : decode cX4_isTyped 328 = .ok (.ireturn, 1) := by decide +kernel
set_option maxRecDepth 20000 in
theorem ggX4_office_X4_isOffice : GoodIn wsX4_office wsX4_isOffice := goodIn_r _ [7, 1, 8, 9, 6, 10, 20, 21, 22, 23, 24, 25, 26, 27, 28, 29, 30, 31, 32, 33, 34, 35, 36, 37, 38, 39, 40, 41, 42, 43, 44, 45, 46] (by decide +kernel) (by decide +kernel)
set_option maxRecDepth 20000 in
theorem gX4_office_X4_isOffice : GoodIn wsX4_office (wsV RX4 103 RX4 yX4_isOffice wsX4_isOffice) := goodIn_app (goodIn_of _ (by decide +kernel)) ggX4_office_X4_isOffice
set_option maxRecDepth 20000 in
theorem ggX4_office_X4_asks : GoodIn wsX4_office wsX4_asks := goodIn_r _ [14, 15, 20, 21, 22, 23, 24, 25, 26, 27, 28, 29, 30, 31, 32, 33, 34, 35, 36, 37, 38, 39, 40, 41, 42, 43, 44, 45, 46] (by decide +kernel) (by decide +kernel)
set_option maxRecDepth 20000 in
theorem gX4_office_X4_asks : GoodIn wsX4_office (wsV RX4 92 RX4 yX4_asks wsX4_asks) := goodIn_app (goodIn_of _ (by decide +kernel)) ggX4_office_X4_asks
set_option maxRecDepth 20000 in
theorem ggX4_office_X4_fails : GoodIn wsX4_office wsX4_fails := goodIn_r _ [19, 15, 20, 21, 22, 23, 24, 25, 26, 27, 28, 29, 30, 31, 32, 33, 34, 35, 36, 37, 38, 39, 40, 41, 42, 43, 44, 45, 46] (by decide +kernel) (by decide +kernel)
set_option maxRecDepth 20000 in
theorem gX4_office_X4_fails : GoodIn wsX4_office (wsV RX4 99 RX4 yX4_fails wsX4_fails) := goodIn_app (goodIn_of _ (by decide +kernel)) ggX4_office_X4_fails
theorem dX4_office_0 : decode cX4_office 0 = .ok (.aload_n 0, 1) := by decide +kernel
theorem dX4_office_1 : decode cX4_office 1 = .ok (.iload_n 1, 1) := by decide +kernel
theorem dX4_office_2 : decode cX4_office 2 = .ok (.iconst (-1), 1) := by decide +kernel
theorem dX4_office_3 : decode cX4_office 3 = .ok (.if_icmp .eq 11, 3) := by decide +kernel
theorem dX4_office_6 : decode cX4_office 6 = .ok (.aload_n 0, 1) := by decide +kernel
theorem dX4_office_7 : decode cX4_office 7 = .ok (.iload_n 1, 1) := by decide +kernel
theorem dX4_office_8 : decode cX4_office 8 = .ok (.invokevirtual 103, 3) := by decide +kernel
theorem dX4_office_11 : decode cX4_office 11 = .ok (.ifCond .eq 7, 3) := by decide +kernel
theorem dX4_office_14 : decode cX4_office 14 = .ok (.iconst 1, 1) := by decide +kernel
theorem dX4_office_15 : decode cX4_office 15 = .ok (.goto 4, 3) := by decide +kernel
theorem dX4_office_18 : decode cX4_office 18 = .ok (.iconst 0, 1) := by decide +kernel
theorem dX4_office_19 : decode cX4_office 19 = .ok (.invokevirtual 92, 3) := by decide +kernel
theorem dX4_office_22 : decode cX4_office 22 = .ok (.ifCond .ne 5, 3) := by decide +kernel
theorem dX4_office_25 : decode cX4_office 25 = .ok (.iconst 0, 1) := by decide +kernel
theorem dX4_office_26 : decode cX4_office 26 = .ok (.ireturn, 1) := by decide +kernel
theorem dX4_office_27 : decode cX4_office 27 = .ok (.aload_n 0, 1) := by decide +kernel
theorem dX4_office_28 : decode cX4_office 28 = .ok (.getfield 79, 3) := by decide +kernel
theorem dX4_office_31 : decode cX4_office 31 = .ok (.bipush 10, 2) := by decide +kernel
theorem dX4_office_33 : decode cX4_office 33 = .ok (.if_icmp .ne 9, 3) := by decide +kernel
theorem dX4_office_36 : decode cX4_office 36 = .ok (.aload_n 0, 1) := by decide +kernel
theorem dX4_office_37 : decode cX4_office 37 = .ok (.iconst 2, 1) := by decide +kernel
theorem dX4_office_38 : decode cX4_office 38 = .ok (.invokevirtual 99, 3) := by decide +kernel
theorem dX4_office_41 : decode cX4_office 41 = .ok (.ireturn, 1) := by decide +kernel
theorem dX4_office_42 : decode cX4_office 42 = .ok (.aload_n 0, 1) := by decide +kernel
theorem dX4_office_43 : decode cX4_office 43 = .ok (.getfield 13, 3) := by decide +kernel
theorem dX4_office_46 : decode cX4_office 46 = .ok (.aload_n 0, 1) := by decide +kernel
theorem dX4_office_47 : decode cX4_office 47 = .ok (.getfield 79, 3) := by decide +kernel
theorem dX4_office_50 : decode cX4_office 50 = .ok (.iload_n 1, 1) := by decide +kernel
theorem dX4_office_51 : decode cX4_office 51 = .ok (.iastore, 1) := by decide +kernel
theorem dX4_office_52 : decode cX4_office 52 = .ok (.aload_n 0, 1) := by decide +kernel
theorem dX4_office_53 : decode cX4_office 53 = .ok (.dup, 1) := by decide +kernel
theorem dX4_office_54 : decode cX4_office 54 = .ok (.getfield 79, 3) := by decide +kernel
theorem dX4_office_57 : decode cX4_office 57 = .ok (.iconst 1, 1) := by decide +kernel
theorem dX4_office_58 : decode cX4_office 58 = .ok (.iadd, 1) := by decide +kernel
theorem dX4_office_59 : decode cX4_office 59 = .ok (.putfield 79, 3) := by decide +kernel
theorem dX4_office_62 : decode cX4_office 62 = .ok (.aload_n 0, 1) := by decide +kernel
theorem dX4_office_63 : decode cX4_office 63 = .ok (.getfield 79, 3) := by decide +kernel
theorem dX4_office_66 : decode cX4_office 66 = .ok (.iconst 1, 1) := by decide +kernel
theorem dX4_office_67 : decode cX4_office 67 = .ok (.isub, 1) := by decide +kernel
theorem dX4_office_68 : decode cX4_office 68 = .ok (.ireturn, 1) := by decide +kernel
set_option maxRecDepth 20000 in
theorem ggX4_delegate_X4_isOffice : GoodIn wsX4_delegate wsX4_isOffice := goodIn_r _ [7, 8, 9, 10, 6, 11, 21, 22, 23, 24, 25, 26, 27, 28, 29, 30, 31, 32, 33, 34, 35, 36, 37, 38, 39, 40, 41, 42, 43, 44, 45, 46, 47] (by decide +kernel) (by decide +kernel)
set_option maxRecDepth 20000 in
theorem gX4_delegate_X4_isOffice : GoodIn wsX4_delegate (wsV RX4 103 RX4 yX4_isOffice wsX4_isOffice) := goodIn_app (goodIn_of _ (by decide +kernel)) ggX4_delegate_X4_isOffice
set_option maxRecDepth 20000 in
theorem ggX4_delegate_X4_asks : GoodIn wsX4_delegate wsX4_asks := goodIn_r _ [15, 16, 21, 22, 23, 24, 25, 26, 27, 28, 29, 30, 31, 32, 33, 34, 35, 36, 37, 38, 39, 40, 41, 42, 43, 44, 45, 46, 47] (by decide +kernel) (by decide +kernel)
set_option maxRecDepth 20000 in
theorem gX4_delegate_X4_asks : GoodIn wsX4_delegate (wsV RX4 92 RX4 yX4_asks wsX4_asks) := goodIn_app (goodIn_of _ (by decide +kernel)) ggX4_delegate_X4_asks
set_option maxRecDepth 20000 in
theorem ggX4_delegate_X4_fails : GoodIn wsX4_delegate wsX4_fails := goodIn_r _ [20, 16, 21, 22, 23, 24, 25, 26, 27, 28, 29, 30, 31, 32, 33, 34, 35, 36, 37, 38, 39, 40, 41, 42, 43, 44, 45, 46, 47] (by decide +kernel) (by decide +kernel)
set_option maxRecDepth 20000 in
theorem gX4_delegate_X4_fails : GoodIn wsX4_delegate (wsV RX4 99 RX4 yX4_fails wsX4_fails) := goodIn_app (goodIn_of _ (by decide +kernel)) ggX4_delegate_X4_fails
theorem dX4_delegate_0 : decode cX4_delegate 0 = .ok (.aload_n 0, 1) := by decide +kernel
theorem dX4_delegate_1 : decode cX4_delegate 1 = .ok (.aload_n 0, 1) := by decide +kernel
theorem dX4_delegate_2 : decode cX4_delegate 2 = .ok (.iload_n 1, 1) := by decide +kernel
theorem dX4_delegate_3 : decode cX4_delegate 3 = .ok (.invokevirtual 103, 3) := by decide +kernel
theorem dX4_delegate_6 : decode cX4_delegate 6 = .ok (.ifCond .eq 20, 3) := by decide +kernel
theorem dX4_delegate_9 : decode cX4_delegate 9 = .ok (.iload_n 2, 1) := by decide +kernel
theorem dX4_delegate_10 : decode cX4_delegate 10 = .ok (.iconst (-1), 1) := by decide +kernel
theorem dX4_delegate_11 : decode cX4_delegate 11 = .ok (.if_icmp .eq 11, 3) := by decide +kernel
theorem dX4_delegate_14 : decode cX4_delegate 14 = .ok (.aload_n 0, 1) := by decide +kernel
theorem dX4_delegate_15 : decode cX4_delegate 15 = .ok (.iload_n 2, 1) := by decide +kernel
theorem dX4_delegate_16 : decode cX4_delegate 16 = .ok (.invokevirtual 103, 3) := by decide +kernel
theorem dX4_delegate_19 : decode cX4_delegate 19 = .ok (.ifCond .eq 7, 3) := by decide +kernel
theorem dX4_delegate_22 : decode cX4_delegate 22 = .ok (.iconst 1, 1) := by decide +kernel
theorem dX4_delegate_23 : decode cX4_delegate 23 = .ok (.goto 4, 3) := by decide +kernel
theorem dX4_delegate_26 : decode cX4_delegate 26 = .ok (.iconst 0, 1) := by decide +kernel
theorem dX4_delegate_27 : decode cX4_delegate 27 = .ok (.invokevirtual 92, 3) := by decide +kernel
theorem dX4_delegate_30 : decode cX4_delegate 30 = .ok (.ifCond .ne 5, 3) := by decide +kernel
theorem dX4_delegate_33 : decode cX4_delegate 33 = .ok (.iconst 0, 1) := by decide +kernel
theorem dX4_delegate_34 : decode cX4_delegate 34 = .ok (.ireturn, 1) := by decide +kernel
theorem dX4_delegate_35 : decode cX4_delegate 35 = .ok (.iload_n 1, 1) := by decide +kernel
theorem dX4_delegate_36 : decode cX4_delegate 36 = .ok (.iload_n 2, 1) := by decide +kernel
theorem dX4_delegate_37 : decode cX4_delegate 37 = .ok (.if_icmp .ne 9, 3) := by decide +kernel
theorem dX4_delegate_40 : decode cX4_delegate 40 = .ok (.aload_n 0, 1) := by decide +kernel
theorem dX4_delegate_41 : decode cX4_delegate 41 = .ok (.iconst 2, 1) := by decide +kernel
theorem dX4_delegate_42 : decode cX4_delegate 42 = .ok (.invokevirtual 99, 3) := by decide +kernel
theorem dX4_delegate_45 : decode cX4_delegate 45 = .ok (.ireturn, 1) := by decide +kernel
theorem dX4_delegate_46 : decode cX4_delegate 46 = .ok (.aload_n 0, 1) := by decide +kernel
theorem dX4_delegate_47 : decode cX4_delegate 47 = .ok (.getfield 17, 3) := by decide +kernel
theorem dX4_delegate_50 : decode cX4_delegate 50 = .ok (.sipush 5001, 3) := by decide +kernel
theorem dX4_delegate_53 : decode cX4_delegate 53 = .ok (.iload_n 1, 1) := by decide +kernel
theorem dX4_delegate_54 : decode cX4_delegate 54 = .ok (.imul, 1) := by decide +kernel
theorem dX4_delegate_55 : decode cX4_delegate 55 = .ok (.aload_n 0, 1) := by decide +kernel
theorem dX4_delegate_56 : decode cX4_delegate 56 = .ok (.getfield 107, 3) := by decide +kernel
theorem dX4_delegate_59 : decode cX4_delegate 59 = .ok (.iadd, 1) := by decide +kernel
theorem dX4_delegate_60 : decode cX4_delegate 60 = .ok (.iaload, 1) := by decide +kernel
theorem dX4_delegate_61 : decode cX4_delegate 61 = .ok (.iconst 1, 1) := by decide +kernel
theorem dX4_delegate_62 : decode cX4_delegate 62 = .ok (.isub, 1) := by decide +kernel
theorem dX4_delegate_63 : decode cX4_delegate 63 = .ok (.istore_n 3, 1) := by decide +kernel
theorem dX4_delegate_64 : decode cX4_delegate 64 = .ok (.aload_n 0, 1) := by decide +kernel
theorem dX4_delegate_65 : decode cX4_delegate 65 = .ok (.getfield 107, 3) := by decide +kernel
theorem dX4_delegate_68 : decode cX4_delegate 68 = .ok (.istore 4, 2) := by decide +kernel
theorem dX4_delegate_70 : decode cX4_delegate 70 = .ok (.iload 4, 2) := by decide +kernel
theorem dX4_delegate_72 : decode cX4_delegate 72 = .ok (.sipush 5000, 3) := by decide +kernel
theorem dX4_delegate_75 : decode cX4_delegate 75 = .ok (.if_icmp .gt 25, 3) := by decide +kernel
theorem dX4_delegate_78 : decode cX4_delegate 78 = .ok (.aload_n 0, 1) := by decide +kernel
theorem dX4_delegate_79 : decode cX4_delegate 79 = .ok (.getfield 17, 3) := by decide +kernel
theorem dX4_delegate_82 : decode cX4_delegate 82 = .ok (.sipush 5001, 3) := by decide +kernel
theorem dX4_delegate_85 : decode cX4_delegate 85 = .ok (.iload_n 1, 1) := by decide +kernel
theorem dX4_delegate_86 : decode cX4_delegate 86 = .ok (.imul, 1) := by decide +kernel
theorem dX4_delegate_87 : decode cX4_delegate 87 = .ok (.iload 4, 2) := by decide +kernel
theorem dX4_delegate_89 : decode cX4_delegate 89 = .ok (.iadd, 1) := by decide +kernel
theorem dX4_delegate_90 : decode cX4_delegate 90 = .ok (.iload_n 2, 1) := by decide +kernel
theorem dX4_delegate_91 : decode cX4_delegate 91 = .ok (.iconst 1, 1) := by decide +kernel
theorem dX4_delegate_92 : decode cX4_delegate 92 = .ok (.iadd, 1) := by decide +kernel
theorem dX4_delegate_93 : decode cX4_delegate 93 = .ok (.iastore, 1) := by decide +kernel
theorem dX4_delegate_94 : decode cX4_delegate 94 = .ok (.iinc 4 1, 3) := by decide +kernel
theorem dX4_delegate_97 : decode cX4_delegate 97 = .ok (.goto (-27), 3) := by decide +kernel
theorem dX4_delegate_100 : decode cX4_delegate 100 = .ok (.iload_n 3, 1) := by decide +kernel
theorem dX4_delegate_101 : decode cX4_delegate 101 = .ok (.ireturn, 1) := by decide +kernel
theorem dX4_whoseOn_0 : decode cX4_whoseOn 0 = .ok (.iload_n 1, 1) := by decide +kernel
theorem dX4_whoseOn_1 : decode cX4_whoseOn 1 = .ok (.istore_n 3, 1) := by decide +kernel
theorem dX4_whoseOn_2 : decode cX4_whoseOn 2 = .ok (.iconst 0, 1) := by decide +kernel
theorem dX4_whoseOn_3 : decode cX4_whoseOn 3 = .ok (.istore 4, 2) := by decide +kernel
theorem dX4_whoseOn_5 : decode cX4_whoseOn 5 = .ok (.iload 4, 2) := by decide +kernel
theorem dX4_whoseOn_7 : decode cX4_whoseOn 7 = .ok (.bipush 10, 2) := by decide +kernel
theorem dX4_whoseOn_9 : decode cX4_whoseOn 9 = .ok (.if_icmp .ge 39, 3) := by decide +kernel
theorem dX4_whoseOn_12 : decode cX4_whoseOn 12 = .ok (.aload_n 0, 1) := by decide +kernel
theorem dX4_whoseOn_13 : decode cX4_whoseOn 13 = .ok (.getfield 17, 3) := by decide +kernel
theorem dX4_whoseOn_16 : decode cX4_whoseOn 16 = .ok (.sipush 5001, 3) := by decide +kernel
theorem dX4_whoseOn_19 : decode cX4_whoseOn 19 = .ok (.iload_n 3, 1) := by decide +kernel
theorem dX4_whoseOn_20 : decode cX4_whoseOn 20 = .ok (.imul, 1) := by decide +kernel
theorem dX4_whoseOn_21 : decode cX4_whoseOn 21 = .ok (.iload_n 2, 1) := by decide +kernel
theorem dX4_whoseOn_22 : decode cX4_whoseOn 22 = .ok (.iadd, 1) := by decide +kernel
theorem dX4_whoseOn_23 : decode cX4_whoseOn 23 = .ok (.iaload, 1) := by decide +kernel
theorem dX4_whoseOn_24 : decode cX4_whoseOn 24 = .ok (.ifCond .le 24, 3) := by decide +kernel
theorem dX4_whoseOn_27 : decode cX4_whoseOn 27 = .ok (.aload_n 0, 1) := by decide +kernel
theorem dX4_whoseOn_28 : decode cX4_whoseOn 28 = .ok (.getfield 17, 3) := by decide +kernel
theorem dX4_whoseOn_31 : decode cX4_whoseOn 31 = .ok (.sipush 5001, 3) := by decide +kernel
theorem dX4_whoseOn_34 : decode cX4_whoseOn 34 = .ok (.iload_n 3, 1) := by decide +kernel
theorem dX4_whoseOn_35 : decode cX4_whoseOn 35 = .ok (.imul, 1) := by decide +kernel
theorem dX4_whoseOn_36 : decode cX4_whoseOn 36 = .ok (.iload_n 2, 1) := by decide +kernel
theorem dX4_whoseOn_37 : decode cX4_whoseOn 37 = .ok (.iadd, 1) := by decide +kernel
theorem dX4_whoseOn_38 : decode cX4_whoseOn 38 = .ok (.iaload, 1) := by decide +kernel
theorem dX4_whoseOn_39 : decode cX4_whoseOn 39 = .ok (.iconst 1, 1) := by decide +kernel
theorem dX4_whoseOn_40 : decode cX4_whoseOn 40 = .ok (.isub, 1) := by decide +kernel
theorem dX4_whoseOn_41 : decode cX4_whoseOn 41 = .ok (.istore_n 3, 1) := by decide +kernel
theorem dX4_whoseOn_42 : decode cX4_whoseOn 42 = .ok (.iinc 4 1, 3) := by decide +kernel
theorem dX4_whoseOn_45 : decode cX4_whoseOn 45 = .ok (.goto (-40), 3) := by decide +kernel
theorem dX4_whoseOn_48 : decode cX4_whoseOn 48 = .ok (.iload_n 3, 1) := by decide +kernel
theorem dX4_whoseOn_49 : decode cX4_whoseOn 49 = .ok (.ireturn, 1) := by decide +kernel
set_option maxRecDepth 20000 in
theorem ggX4_whose_X4_isOffice : GoodIn wsX4_whose wsX4_isOffice := goodIn_r _ [6, 7, 8, 9, 5, 10, 25, 26, 27, 28, 29, 30, 31, 32, 33, 34, 35, 36, 37, 38, 39, 40, 41, 42, 43, 44, 45, 46, 47, 48, 49, 50, 51] (by decide +kernel) (by decide +kernel)
set_option maxRecDepth 20000 in
theorem gX4_whose_X4_isOffice : GoodIn wsX4_whose (wsV RX4 103 RX4 yX4_isOffice wsX4_isOffice) := goodIn_app (goodIn_of _ (by decide +kernel)) ggX4_whose_X4_isOffice
set_option maxRecDepth 20000 in
theorem ggX4_whose_X4_asks : GoodIn wsX4_whose wsX4_asks := goodIn_r _ [14, 15, 25, 26, 27, 28, 29, 30, 31, 32, 33, 34, 35, 36, 37, 38, 39, 40, 41, 42, 43, 44, 45, 46, 47, 48, 49, 50, 51] (by decide +kernel) (by decide +kernel)
set_option maxRecDepth 20000 in
theorem gX4_whose_X4_asks : GoodIn wsX4_whose (wsV RX4 92 RX4 yX4_asks wsX4_asks) := goodIn_app (goodIn_of _ (by decide +kernel)) ggX4_whose_X4_asks
set_option maxRecDepth 20000 in
theorem ggX4_whose_X4_in : GoodIn wsX4_whose wsX4_in := goodIn_r _ [10] (by decide +kernel) (by decide +kernel)
set_option maxRecDepth 20000 in
theorem gX4_whose_X4_in : GoodIn wsX4_whose (va_wsS RX4 82 yX4_in wsX4_in) := goodIn_app (goodIn_of _ (by decide +kernel)) ggX4_whose_X4_in
set_option maxRecDepth 20000 in
theorem ggX4_whose_X4_whoseOn : GoodIn wsX4_whose wsX4_whoseOn := goodIn_r _ [19, 20, 25, 26, 27, 28, 29, 30, 31, 32, 33, 34, 35, 36, 37, 38, 39, 40, 41, 42, 43, 44, 45, 46, 47, 48, 49, 50, 51] (by decide +kernel) (by decide +kernel)
set_option maxRecDepth 20000 in
theorem gX4_whose_X4_whoseOn : GoodIn wsX4_whose (wsV RX4 110 RX4 yX4_whoseOn wsX4_whoseOn) := goodIn_app (goodIn_of _ (by decide +kernel)) ggX4_whose_X4_whoseOn
set_option maxRecDepth 20000 in
theorem ggX4_whose_X4_fails : GoodIn wsX4_whose wsX4_fails := goodIn_r _ [24, 15, 25, 26, 27, 28, 29, 30, 31, 32, 33, 34, 35, 36, 37, 38, 39, 40, 41, 42, 43, 44, 45, 46, 47, 48, 49, 50, 51] (by decide +kernel) (by decide +kernel)
set_option maxRecDepth 20000 in
theorem gX4_whose_X4_fails : GoodIn wsX4_whose (wsV RX4 99 RX4 yX4_fails wsX4_fails) := goodIn_app (goodIn_of _ (by decide +kernel)) ggX4_whose_X4_fails
theorem dX4_whose_0 : decode cX4_whose 0 = .ok (.aload_n 0, 1) := by decide +kernel
theorem dX4_whose_1 : decode cX4_whose 1 = .ok (.aload_n 0, 1) := by decide +kernel
theorem dX4_whose_2 : decode cX4_whose 2 = .ok (.iload_n 1, 1) := by decide +kernel
theorem dX4_whose_3 : decode cX4_whose 3 = .ok (.invokevirtual 103, 3) := by decide +kernel
theorem dX4_whose_6 : decode cX4_whose 6 = .ok (.invokevirtual 92, 3) := by decide +kernel
theorem dX4_whose_9 : decode cX4_whose 9 = .ok (.ifCond .ne 5, 3) := by decide +kernel
theorem dX4_whose_12 : decode cX4_whose 12 = .ok (.iconst 0, 1) := by decide +kernel
theorem dX4_whose_13 : decode cX4_whose 13 = .ok (.ireturn, 1) := by decide +kernel
theorem dX4_whose_14 : decode cX4_whose 14 = .ok (.iload_n 2, 1) := by decide +kernel
theorem dX4_whose_15 : decode cX4_whose 15 = .ok (.iconst 0, 1) := by decide +kernel
theorem dX4_whose_16 : decode cX4_whose 16 = .ok (.aload_n 0, 1) := by decide +kernel
theorem dX4_whose_17 : decode cX4_whose 17 = .ok (.getfield 107, 3) := by decide +kernel
theorem dX4_whose_20 : decode cX4_whose 20 = .ok (.invokestatic 82, 3) := by decide +kernel
theorem dX4_whose_23 : decode cX4_whose 23 = .ok (.ifCond .eq 12, 3) := by decide +kernel
theorem dX4_whose_26 : decode cX4_whose 26 = .ok (.aload_n 0, 1) := by decide +kernel
theorem dX4_whose_27 : decode cX4_whose 27 = .ok (.iload_n 1, 1) := by decide +kernel
theorem dX4_whose_28 : decode cX4_whose 28 = .ok (.iload_n 2, 1) := by decide +kernel
theorem dX4_whose_29 : decode cX4_whose 29 = .ok (.invokevirtual 110, 3) := by decide +kernel
theorem dX4_whose_32 : decode cX4_whose 32 = .ok (.goto 8, 3) := by decide +kernel
theorem dX4_whose_35 : decode cX4_whose 35 = .ok (.aload_n 0, 1) := by decide +kernel
theorem dX4_whose_36 : decode cX4_whose 36 = .ok (.iconst 2, 1) := by decide +kernel
theorem dX4_whose_37 : decode cX4_whose 37 = .ok (.invokevirtual 99, 3) := by decide +kernel
theorem dX4_whose_40 : decode cX4_whose 40 = .ok (.ireturn, 1) := by decide +kernel
set_option maxRecDepth 20000 in
theorem ggX4_limit_X4_isKind : GoodIn wsX4_limit wsX4_isKind := goodIn_r _ [6, 7, 8, 5, 9] (by decide +kernel) (by decide +kernel)
set_option maxRecDepth 20000 in
theorem gX4_limit_X4_isKind : GoodIn wsX4_limit (va_wsS RX4 114 yX4_isKind wsX4_isKind) := goodIn_app (goodIn_of _ (by decide +kernel)) ggX4_limit_X4_isKind
set_option maxRecDepth 20000 in
theorem ggX4_limit_X4_asks : GoodIn wsX4_limit wsX4_asks := goodIn_r _ [13, 14, 19, 20, 21, 22, 23, 24, 25, 26, 27, 28, 29, 30, 31, 32, 33, 34, 35, 36, 37, 38, 39, 40, 41, 42, 43, 44, 45] (by decide +kernel) (by decide +kernel)
set_option maxRecDepth 20000 in
theorem gX4_limit_X4_asks : GoodIn wsX4_limit (wsV RX4 92 RX4 yX4_asks wsX4_asks) := goodIn_app (goodIn_of _ (by decide +kernel)) ggX4_limit_X4_asks
set_option maxRecDepth 20000 in
theorem ggX4_limit_X4_in : GoodIn wsX4_limit wsX4_in := goodIn_r _ [9] (by decide +kernel) (by decide +kernel)
set_option maxRecDepth 20000 in
theorem gX4_limit_X4_in : GoodIn wsX4_limit (va_wsS RX4 82 yX4_in wsX4_in) := goodIn_app (goodIn_of _ (by decide +kernel)) ggX4_limit_X4_in
set_option maxRecDepth 20000 in
theorem ggX4_limit_X4_fails : GoodIn wsX4_limit wsX4_fails := goodIn_r _ [18, 14, 19, 20, 21, 22, 23, 24, 25, 26, 27, 28, 29, 30, 31, 32, 33, 34, 35, 36, 37, 38, 39, 40, 41, 42, 43, 44, 45] (by decide +kernel) (by decide +kernel)
set_option maxRecDepth 20000 in
theorem gX4_limit_X4_fails : GoodIn wsX4_limit (wsV RX4 99 RX4 yX4_fails wsX4_fails) := goodIn_app (goodIn_of _ (by decide +kernel)) ggX4_limit_X4_fails
theorem dX4_limit_0 : decode cX4_limit 0 = .ok (.aload_n 0, 1) := by decide +kernel
theorem dX4_limit_1 : decode cX4_limit 1 = .ok (.iload_n 1, 1) := by decide +kernel
theorem dX4_limit_2 : decode cX4_limit 2 = .ok (.invokestatic 114, 3) := by decide +kernel
theorem dX4_limit_5 : decode cX4_limit 5 = .ok (.invokevirtual 92, 3) := by decide +kernel
theorem dX4_limit_8 : decode cX4_limit 8 = .ok (.ifCond .ne 5, 3) := by decide +kernel
theorem dX4_limit_11 : decode cX4_limit 11 = .ok (.iconst 0, 1) := by decide +kernel
theorem dX4_limit_12 : decode cX4_limit 12 = .ok (.ireturn, 1) := by decide +kernel
theorem dX4_limit_13 : decode cX4_limit 13 = .ok (.iload_n 2, 1) := by decide +kernel
theorem dX4_limit_14 : decode cX4_limit 14 = .ok (.iconst 0, 1) := by decide +kernel
theorem dX4_limit_15 : decode cX4_limit 15 = .ok (.bipush 100, 2) := by decide +kernel
theorem dX4_limit_17 : decode cX4_limit 17 = .ok (.invokestatic 82, 3) := by decide +kernel
theorem dX4_limit_20 : decode cX4_limit 20 = .ok (.ifCond .ne 9, 3) := by decide +kernel
theorem dX4_limit_23 : decode cX4_limit 23 = .ok (.aload_n 0, 1) := by decide +kernel
theorem dX4_limit_24 : decode cX4_limit 24 = .ok (.iconst 2, 1) := by decide +kernel
theorem dX4_limit_25 : decode cX4_limit 25 = .ok (.invokevirtual 99, 3) := by decide +kernel
theorem dX4_limit_28 : decode cX4_limit 28 = .ok (.ireturn, 1) := by decide +kernel
theorem dX4_limit_29 : decode cX4_limit 29 = .ok (.aload_n 0, 1) := by decide +kernel
theorem dX4_limit_30 : decode cX4_limit 30 = .ok (.getfield 20, 3) := by decide +kernel
theorem dX4_limit_33 : decode cX4_limit 33 = .ok (.sipush 5001, 3) := by decide +kernel
theorem dX4_limit_36 : decode cX4_limit 36 = .ok (.iload_n 1, 1) := by decide +kernel
theorem dX4_limit_37 : decode cX4_limit 37 = .ok (.imul, 1) := by decide +kernel
theorem dX4_limit_38 : decode cX4_limit 38 = .ok (.aload_n 0, 1) := by decide +kernel
theorem dX4_limit_39 : decode cX4_limit 39 = .ok (.getfield 107, 3) := by decide +kernel
theorem dX4_limit_42 : decode cX4_limit 42 = .ok (.iadd, 1) := by decide +kernel
theorem dX4_limit_43 : decode cX4_limit 43 = .ok (.iaload, 1) := by decide +kernel
theorem dX4_limit_44 : decode cX4_limit 44 = .ok (.istore_n 3, 1) := by decide +kernel
theorem dX4_limit_45 : decode cX4_limit 45 = .ok (.aload_n 0, 1) := by decide +kernel
theorem dX4_limit_46 : decode cX4_limit 46 = .ok (.getfield 107, 3) := by decide +kernel
theorem dX4_limit_49 : decode cX4_limit 49 = .ok (.istore 4, 2) := by decide +kernel
theorem dX4_limit_51 : decode cX4_limit 51 = .ok (.iload 4, 2) := by decide +kernel
theorem dX4_limit_53 : decode cX4_limit 53 = .ok (.sipush 5000, 3) := by decide +kernel
theorem dX4_limit_56 : decode cX4_limit 56 = .ok (.if_icmp .gt 23, 3) := by decide +kernel
theorem dX4_limit_59 : decode cX4_limit 59 = .ok (.aload_n 0, 1) := by decide +kernel
theorem dX4_limit_60 : decode cX4_limit 60 = .ok (.getfield 20, 3) := by decide +kernel
theorem dX4_limit_63 : decode cX4_limit 63 = .ok (.sipush 5001, 3) := by decide +kernel
theorem dX4_limit_66 : decode cX4_limit 66 = .ok (.iload_n 1, 1) := by decide +kernel
theorem dX4_limit_67 : decode cX4_limit 67 = .ok (.imul, 1) := by decide +kernel
theorem dX4_limit_68 : decode cX4_limit 68 = .ok (.iload 4, 2) := by decide +kernel
theorem dX4_limit_70 : decode cX4_limit 70 = .ok (.iadd, 1) := by decide +kernel
theorem dX4_limit_71 : decode cX4_limit 71 = .ok (.iload_n 2, 1) := by decide +kernel
theorem dX4_limit_72 : decode cX4_limit 72 = .ok (.iastore, 1) := by decide +kernel
theorem dX4_limit_73 : decode cX4_limit 73 = .ok (.iinc 4 1, 3) := by decide +kernel
theorem dX4_limit_76 : decode cX4_limit 76 = .ok (.goto (-25), 3) := by decide +kernel
theorem dX4_limit_79 : decode cX4_limit 79 = .ok (.iload_n 3, 1) := by decide +kernel
theorem dX4_limit_80 : decode cX4_limit 80 = .ok (.ireturn, 1) := by decide +kernel
set_option maxRecDepth 20000 in
theorem ggX4_act_X4_isOffice : GoodIn wsX4_act wsX4_isOffice := goodIn_r _ [13, 14, 15, 16, 12, 17, 37, 38, 39, 40, 41, 42, 43, 44, 45, 46, 47, 48, 49, 50, 51, 52, 53, 54, 55, 56, 57, 58, 59, 60, 61, 62, 63] (by decide +kernel) (by decide +kernel)
set_option maxRecDepth 20000 in
theorem gX4_act_X4_isOffice : GoodIn wsX4_act (wsV RX4 103 RX4 yX4_isOffice wsX4_isOffice) := goodIn_app (goodIn_of _ (by decide +kernel)) ggX4_act_X4_isOffice
set_option maxRecDepth 20000 in
theorem ggX4_act_X4_asks : GoodIn wsX4_act wsX4_asks := goodIn_r _ [21, 22, 37, 38, 39, 40, 41, 42, 43, 44, 45, 46, 47, 48, 49, 50, 51, 52, 53, 54, 55, 56, 57, 58, 59, 60, 61, 62, 63] (by decide +kernel) (by decide +kernel)
set_option maxRecDepth 20000 in
theorem gX4_act_X4_asks : GoodIn wsX4_act (wsV RX4 92 RX4 yX4_asks wsX4_asks) := goodIn_app (goodIn_of _ (by decide +kernel)) ggX4_act_X4_asks
set_option maxRecDepth 20000 in
theorem ggX4_act_X4_in : GoodIn wsX4_act wsX4_in := goodIn_r _ [17] (by decide +kernel) (by decide +kernel)
set_option maxRecDepth 20000 in
theorem gX4_act_X4_in : GoodIn wsX4_act (va_wsS RX4 82 yX4_in wsX4_in) := goodIn_app (goodIn_of _ (by decide +kernel)) ggX4_act_X4_in
set_option maxRecDepth 20000 in
theorem ggX4_act_X4_fails : GoodIn wsX4_act wsX4_fails := goodIn_r _ [26, 22, 37, 38, 39, 40, 41, 42, 43, 44, 45, 46, 47, 48, 49, 50, 51, 52, 53, 54, 55, 56, 57, 58, 59, 60, 61, 62, 63] (by decide +kernel) (by decide +kernel)
set_option maxRecDepth 20000 in
theorem gX4_act_X4_fails : GoodIn wsX4_act (wsV RX4 99 RX4 yX4_fails wsX4_fails) := goodIn_app (goodIn_of _ (by decide +kernel)) ggX4_act_X4_fails
set_option maxRecDepth 20000 in
theorem ggX4_act_X4_isTyped : GoodIn wsX4_act wsX4_isTyped := goodIn_r _ [30, 2, 31, 37, 38, 39, 40, 41, 42, 43, 44, 45, 46, 47, 48, 49, 50, 51, 52, 53, 54, 55, 56, 57, 58, 59, 60, 61, 62, 63] (by decide +kernel) (by decide +kernel)
set_option maxRecDepth 20000 in
theorem gX4_act_X4_isTyped : GoodIn wsX4_act (wsV RX4 117 RX4 yX4_isTyped wsX4_isTyped) := goodIn_app (goodIn_of _ (by decide +kernel)) ggX4_act_X4_isTyped
set_option maxRecDepth 20000 in
theorem ggX4_act_X4_whoseOn : GoodIn wsX4_act wsX4_whoseOn := goodIn_r _ [35, 36, 37, 38, 39, 40, 41, 42, 43, 44, 45, 46, 47, 48, 49, 50, 51, 52, 53, 54, 55, 56, 57, 58, 59, 60, 61, 62, 63] (by decide +kernel) (by decide +kernel)
set_option maxRecDepth 20000 in
theorem gX4_act_X4_whoseOn : GoodIn wsX4_act (wsV RX4 110 RX4 yX4_whoseOn wsX4_whoseOn) := goodIn_app (goodIn_of _ (by decide +kernel)) ggX4_act_X4_whoseOn
theorem dX4_act_0 : decode cX4_act 0 = .ok (.aload_n 0, 1) := by decide +kernel
theorem dX4_act_1 : decode cX4_act 1 = .ok (.aload_n 0, 1) := by decide +kernel
theorem dX4_act_2 : decode cX4_act 2 = .ok (.iload_n 1, 1) := by decide +kernel
theorem dX4_act_3 : decode cX4_act 3 = .ok (.invokevirtual 103, 3) := by decide +kernel
theorem dX4_act_6 : decode cX4_act 6 = .ok (.invokevirtual 92, 3) := by decide +kernel
theorem dX4_act_9 : decode cX4_act 9 = .ok (.ifCond .ne 5, 3) := by decide +kernel
theorem dX4_act_12 : decode cX4_act 12 = .ok (.iconst 0, 1) := by decide +kernel
theorem dX4_act_13 : decode cX4_act 13 = .ok (.ireturn, 1) := by decide +kernel
theorem dX4_act_14 : decode cX4_act 14 = .ok (.iload_n 2, 1) := by decide +kernel
theorem dX4_act_15 : decode cX4_act 15 = .ok (.iconst 0, 1) := by decide +kernel
theorem dX4_act_16 : decode cX4_act 16 = .ok (.bipush 100, 2) := by decide +kernel
theorem dX4_act_18 : decode cX4_act 18 = .ok (.invokestatic 82, 3) := by decide +kernel
theorem dX4_act_21 : decode cX4_act 21 = .ok (.ifCond .eq 14, 3) := by decide +kernel
theorem dX4_act_24 : decode cX4_act 24 = .ok (.iload_n 3, 1) := by decide +kernel
theorem dX4_act_25 : decode cX4_act 25 = .ok (.iconst 0, 1) := by decide +kernel
theorem dX4_act_26 : decode cX4_act 26 = .ok (.sipush 1000, 3) := by decide +kernel
theorem dX4_act_29 : decode cX4_act 29 = .ok (.invokestatic 82, 3) := by decide +kernel
theorem dX4_act_32 : decode cX4_act 32 = .ok (.ifCond .ne 9, 3) := by decide +kernel
theorem dX4_act_35 : decode cX4_act 35 = .ok (.aload_n 0, 1) := by decide +kernel
theorem dX4_act_36 : decode cX4_act 36 = .ok (.iconst 2, 1) := by decide +kernel
theorem dX4_act_37 : decode cX4_act 37 = .ok (.invokevirtual 99, 3) := by decide +kernel
theorem dX4_act_40 : decode cX4_act 40 = .ok (.ireturn, 1) := by decide +kernel
theorem dX4_act_41 : decode cX4_act 41 = .ok (.aload_n 0, 1) := by decide +kernel
theorem dX4_act_42 : decode cX4_act 42 = .ok (.getfield 86, 3) := by decide +kernel
theorem dX4_act_45 : decode cX4_act 45 = .ok (.bipush 24, 2) := by decide +kernel
theorem dX4_act_47 : decode cX4_act 47 = .ok (.if_icmp .ne 9, 3) := by decide +kernel
theorem dX4_act_50 : decode cX4_act 50 = .ok (.aload_n 0, 1) := by decide +kernel
theorem dX4_act_51 : decode cX4_act 51 = .ok (.iconst 3, 1) := by decide +kernel
theorem dX4_act_52 : decode cX4_act 52 = .ok (.invokevirtual 99, 3) := by decide +kernel
theorem dX4_act_55 : decode cX4_act 55 = .ok (.ireturn, 1) := by decide +kernel
theorem dX4_act_56 : decode cX4_act 56 = .ok (.iconst (-1), 1) := by decide +kernel
theorem dX4_act_57 : decode cX4_act 57 = .ok (.istore 4, 2) := by decide +kernel
theorem dX4_act_59 : decode cX4_act 59 = .ok (.iconst 0, 1) := by decide +kernel
theorem dX4_act_60 : decode cX4_act 60 = .ok (.istore 5, 2) := by decide +kernel
theorem dX4_act_62 : decode cX4_act 62 = .ok (.iload 5, 2) := by decide +kernel
theorem dX4_act_64 : decode cX4_act 64 = .ok (.iconst 4, 1) := by decide +kernel
theorem dX4_act_65 : decode cX4_act 65 = .ok (.if_icmp .ge 27, 3) := by decide +kernel
theorem dX4_act_68 : decode cX4_act 68 = .ok (.aload_n 0, 1) := by decide +kernel
theorem dX4_act_69 : decode cX4_act 69 = .ok (.iload 5, 2) := by decide +kernel
theorem dX4_act_71 : decode cX4_act 71 = .ok (.invokevirtual 117, 3) := by decide +kernel
theorem dX4_act_74 : decode cX4_act 74 = .ok (.ifCond .eq 8, 3) := by decide +kernel
theorem dX4_act_77 : decode cX4_act 77 = .ok (.iload 5, 2) := by decide +kernel
theorem dX4_act_79 : decode cX4_act 79 = .ok (.goto 5, 3) := by decide +kernel
theorem dX4_act_82 : decode cX4_act 82 = .ok (.iload 4, 2) := by decide +kernel
theorem dX4_act_84 : decode cX4_act 84 = .ok (.istore 4, 2) := by decide +kernel
theorem dX4_act_86 : decode cX4_act 86 = .ok (.iinc 5 1, 3) := by decide +kernel
theorem dX4_act_89 : decode cX4_act 89 = .ok (.goto (-27), 3) := by decide +kernel
theorem dX4_act_92 : decode cX4_act 92 = .ok (.aload_n 0, 1) := by decide +kernel
theorem dX4_act_93 : decode cX4_act 93 = .ok (.iconst 0, 1) := by decide +kernel
theorem dX4_act_94 : decode cX4_act 94 = .ok (.putfield 96, 3) := by decide +kernel
theorem dX4_act_97 : decode cX4_act 97 = .ok (.iload 4, 2) := by decide +kernel
theorem dX4_act_99 : decode cX4_act 99 = .ok (.iconst (-1), 1) := by decide +kernel
theorem dX4_act_100 : decode cX4_act 100 = .ok (.if_icmp .ne 5, 3) := by decide +kernel
theorem dX4_act_103 : decode cX4_act 103 = .ok (.iconst (-1), 1) := by decide +kernel
theorem dX4_act_104 : decode cX4_act 104 = .ok (.ireturn, 1) := by decide +kernel
theorem dX4_act_105 : decode cX4_act 105 = .ok (.aload_n 0, 1) := by decide +kernel
theorem dX4_act_106 : decode cX4_act 106 = .ok (.getfield 23, 3) := by decide +kernel
theorem dX4_act_109 : decode cX4_act 109 = .ok (.aload_n 0, 1) := by decide +kernel
theorem dX4_act_110 : decode cX4_act 110 = .ok (.getfield 86, 3) := by decide +kernel
theorem dX4_act_113 : decode cX4_act 113 = .ok (.aload_n 0, 1) := by decide +kernel
theorem dX4_act_114 : decode cX4_act 114 = .ok (.iload_n 1, 1) := by decide +kernel
theorem dX4_act_115 : decode cX4_act 115 = .ok (.aload_n 0, 1) := by decide +kernel
theorem dX4_act_116 : decode cX4_act 116 = .ok (.getfield 107, 3) := by decide +kernel
theorem dX4_act_119 : decode cX4_act 119 = .ok (.invokevirtual 110, 3) := by decide +kernel
theorem dX4_act_122 : decode cX4_act 122 = .ok (.iastore, 1) := by decide +kernel
theorem dX4_act_123 : decode cX4_act 123 = .ok (.aload_n 0, 1) := by decide +kernel
theorem dX4_act_124 : decode cX4_act 124 = .ok (.getfield 26, 3) := by decide +kernel
theorem dX4_act_127 : decode cX4_act 127 = .ok (.aload_n 0, 1) := by decide +kernel
theorem dX4_act_128 : decode cX4_act 128 = .ok (.getfield 86, 3) := by decide +kernel
theorem dX4_act_131 : decode cX4_act 131 = .ok (.iload 4, 2) := by decide +kernel
theorem dX4_act_133 : decode cX4_act 133 = .ok (.iastore, 1) := by decide +kernel
theorem dX4_act_134 : decode cX4_act 134 = .ok (.aload_n 0, 1) := by decide +kernel
theorem dX4_act_135 : decode cX4_act 135 = .ok (.getfield 29, 3) := by decide +kernel
theorem dX4_act_138 : decode cX4_act 138 = .ok (.aload_n 0, 1) := by decide +kernel
theorem dX4_act_139 : decode cX4_act 139 = .ok (.getfield 86, 3) := by decide +kernel
theorem dX4_act_142 : decode cX4_act 142 = .ok (.aload_n 0, 1) := by decide +kernel
theorem dX4_act_143 : decode cX4_act 143 = .ok (.getfield 107, 3) := by decide +kernel
theorem dX4_act_146 : decode cX4_act 146 = .ok (.iastore, 1) := by decide +kernel
theorem dX4_act_147 : decode cX4_act 147 = .ok (.aload_n 0, 1) := by decide +kernel
theorem dX4_act_148 : decode cX4_act 148 = .ok (.getfield 32, 3) := by decide +kernel
theorem dX4_act_151 : decode cX4_act 151 = .ok (.aload_n 0, 1) := by decide +kernel
theorem dX4_act_152 : decode cX4_act 152 = .ok (.getfield 86, 3) := by decide +kernel
theorem dX4_act_155 : decode cX4_act 155 = .ok (.iload_n 2, 1) := by decide +kernel
theorem dX4_act_156 : decode cX4_act 156 = .ok (.iastore, 1) := by decide +kernel
theorem dX4_act_157 : decode cX4_act 157 = .ok (.aload_n 0, 1) := by decide +kernel
theorem dX4_act_158 : decode cX4_act 158 = .ok (.getfield 35, 3) := by decide +kernel
theorem dX4_act_161 : decode cX4_act 161 = .ok (.aload_n 0, 1) := by decide +kernel
theorem dX4_act_162 : decode cX4_act 162 = .ok (.getfield 86, 3) := by decide +kernel
theorem dX4_act_165 : decode cX4_act 165 = .ok (.iload_n 3, 1) := by decide +kernel
theorem dX4_act_166 : decode cX4_act 166 = .ok (.iastore, 1) := by decide +kernel
theorem dX4_act_167 : decode cX4_act 167 = .ok (.aload_n 0, 1) := by decide +kernel
theorem dX4_act_168 : decode cX4_act 168 = .ok (.dup, 1) := by decide +kernel
theorem dX4_act_169 : decode cX4_act 169 = .ok (.getfield 86, 3) := by decide +kernel
theorem dX4_act_172 : decode cX4_act 172 = .ok (.iconst 1, 1) := by decide +kernel
theorem dX4_act_173 : decode cX4_act 173 = .ok (.iadd, 1) := by decide +kernel
theorem dX4_act_174 : decode cX4_act 174 = .ok (.putfield 86, 3) := by decide +kernel
theorem dX4_act_177 : decode cX4_act 177 = .ok (.aload_n 0, 1) := by decide +kernel
theorem dX4_act_178 : decode cX4_act 178 = .ok (.getfield 86, 3) := by decide +kernel
theorem dX4_act_181 : decode cX4_act 181 = .ok (.iconst 1, 1) := by decide +kernel
theorem dX4_act_182 : decode cX4_act 182 = .ok (.isub, 1) := by decide +kernel
theorem dX4_act_183 : decode cX4_act 183 = .ok (.ireturn, 1) := by decide +kernel
set_option maxRecDepth 20000 in
theorem ggX4_court_X4_isAct : GoodIn wsX4_court wsX4_isAct := goodIn_r _ [6, 7, 8, 9, 5, 10, 16, 17, 18, 19, 20, 21, 22, 23, 24, 25, 26, 27, 28, 29, 30, 31, 32, 33, 34, 35, 36, 37, 38, 39, 40, 41, 42] (by decide +kernel) (by decide +kernel)
set_option maxRecDepth 20000 in
theorem gX4_court_X4_isAct : GoodIn wsX4_court (wsV RX4 120 RX4 yX4_isAct wsX4_isAct) := goodIn_app (goodIn_of _ (by decide +kernel)) ggX4_court_X4_isAct
set_option maxRecDepth 20000 in
theorem ggX4_court_X4_asks : GoodIn wsX4_court wsX4_asks := goodIn_r _ [14, 15, 16, 17, 18, 19, 20, 21, 22, 23, 24, 25, 26, 27, 28, 29, 30, 31, 32, 33, 34, 35, 36, 37, 38, 39, 40, 41, 42] (by decide +kernel) (by decide +kernel)
set_option maxRecDepth 20000 in
theorem gX4_court_X4_asks : GoodIn wsX4_court (wsV RX4 92 RX4 yX4_asks wsX4_asks) := goodIn_app (goodIn_of _ (by decide +kernel)) ggX4_court_X4_asks
theorem dX4_court_0 : decode cX4_court 0 = .ok (.aload_n 0, 1) := by decide +kernel
theorem dX4_court_1 : decode cX4_court 1 = .ok (.aload_n 0, 1) := by decide +kernel
theorem dX4_court_2 : decode cX4_court 2 = .ok (.iload_n 1, 1) := by decide +kernel
theorem dX4_court_3 : decode cX4_court 3 = .ok (.invokevirtual 120, 3) := by decide +kernel
theorem dX4_court_6 : decode cX4_court 6 = .ok (.invokevirtual 92, 3) := by decide +kernel
theorem dX4_court_9 : decode cX4_court 9 = .ok (.ifCond .ne 5, 3) := by decide +kernel
theorem dX4_court_12 : decode cX4_court 12 = .ok (.iconst 0, 1) := by decide +kernel
theorem dX4_court_13 : decode cX4_court 13 = .ok (.ireturn, 1) := by decide +kernel
theorem dX4_court_14 : decode cX4_court 14 = .ok (.aload_n 0, 1) := by decide +kernel
theorem dX4_court_15 : decode cX4_court 15 = .ok (.getfield 38, 3) := by decide +kernel
theorem dX4_court_18 : decode cX4_court 18 = .ok (.iload_n 1, 1) := by decide +kernel
theorem dX4_court_19 : decode cX4_court 19 = .ok (.baload, 1) := by decide +kernel
theorem dX4_court_20 : decode cX4_court 20 = .ok (.istore_n 3, 1) := by decide +kernel
theorem dX4_court_21 : decode cX4_court 21 = .ok (.aload_n 0, 1) := by decide +kernel
theorem dX4_court_22 : decode cX4_court 22 = .ok (.getfield 38, 3) := by decide +kernel
theorem dX4_court_25 : decode cX4_court 25 = .ok (.iload_n 1, 1) := by decide +kernel
theorem dX4_court_26 : decode cX4_court 26 = .ok (.iload_n 2, 1) := by decide +kernel
theorem dX4_court_27 : decode cX4_court 27 = .ok (.bastore, 1) := by decide +kernel
theorem dX4_court_28 : decode cX4_court 28 = .ok (.iload_n 3, 1) := by decide +kernel
theorem dX4_court_29 : decode cX4_court 29 = .ok (.ireturn, 1) := by decide +kernel
set_option maxRecDepth 20000 in
theorem ggX4_waive_X4_isAct : GoodIn wsX4_waive wsX4_isAct := goodIn_r _ [6, 7, 8, 9, 5, 10, 16, 17, 18, 19, 20, 21, 22, 23, 24, 25, 26, 27, 28, 29, 30, 31, 32, 33, 34, 35, 36, 37, 38, 39, 40, 41, 42] (by decide +kernel) (by decide +kernel)
set_option maxRecDepth 20000 in
theorem gX4_waive_X4_isAct : GoodIn wsX4_waive (wsV RX4 120 RX4 yX4_isAct wsX4_isAct) := goodIn_app (goodIn_of _ (by decide +kernel)) ggX4_waive_X4_isAct
set_option maxRecDepth 20000 in
theorem ggX4_waive_X4_asks : GoodIn wsX4_waive wsX4_asks := goodIn_r _ [14, 15, 16, 17, 18, 19, 20, 21, 22, 23, 24, 25, 26, 27, 28, 29, 30, 31, 32, 33, 34, 35, 36, 37, 38, 39, 40, 41, 42] (by decide +kernel) (by decide +kernel)
set_option maxRecDepth 20000 in
theorem gX4_waive_X4_asks : GoodIn wsX4_waive (wsV RX4 92 RX4 yX4_asks wsX4_asks) := goodIn_app (goodIn_of _ (by decide +kernel)) ggX4_waive_X4_asks
theorem dX4_waive_0 : decode cX4_waive 0 = .ok (.aload_n 0, 1) := by decide +kernel
theorem dX4_waive_1 : decode cX4_waive 1 = .ok (.aload_n 0, 1) := by decide +kernel
theorem dX4_waive_2 : decode cX4_waive 2 = .ok (.iload_n 1, 1) := by decide +kernel
theorem dX4_waive_3 : decode cX4_waive 3 = .ok (.invokevirtual 120, 3) := by decide +kernel
theorem dX4_waive_6 : decode cX4_waive 6 = .ok (.invokevirtual 92, 3) := by decide +kernel
theorem dX4_waive_9 : decode cX4_waive 9 = .ok (.ifCond .ne 5, 3) := by decide +kernel
theorem dX4_waive_12 : decode cX4_waive 12 = .ok (.iconst 0, 1) := by decide +kernel
theorem dX4_waive_13 : decode cX4_waive 13 = .ok (.ireturn, 1) := by decide +kernel
theorem dX4_waive_14 : decode cX4_waive 14 = .ok (.aload_n 0, 1) := by decide +kernel
theorem dX4_waive_15 : decode cX4_waive 15 = .ok (.getfield 42, 3) := by decide +kernel
theorem dX4_waive_18 : decode cX4_waive 18 = .ok (.iload_n 1, 1) := by decide +kernel
theorem dX4_waive_19 : decode cX4_waive 19 = .ok (.baload, 1) := by decide +kernel
theorem dX4_waive_20 : decode cX4_waive 20 = .ok (.istore_n 3, 1) := by decide +kernel
theorem dX4_waive_21 : decode cX4_waive 21 = .ok (.aload_n 0, 1) := by decide +kernel
theorem dX4_waive_22 : decode cX4_waive 22 = .ok (.getfield 42, 3) := by decide +kernel
theorem dX4_waive_25 : decode cX4_waive 25 = .ok (.iload_n 1, 1) := by decide +kernel
theorem dX4_waive_26 : decode cX4_waive 26 = .ok (.iload_n 2, 1) := by decide +kernel
theorem dX4_waive_27 : decode cX4_waive 27 = .ok (.bastore, 1) := by decide +kernel
theorem dX4_waive_28 : decode cX4_waive 28 = .ok (.iload_n 3, 1) := by decide +kernel
theorem dX4_waive_29 : decode cX4_waive 29 = .ok (.ireturn, 1) := by decide +kernel
set_option maxRecDepth 20000 in
theorem ggX4_isThere_X4_in : GoodIn wsX4_isThere wsX4_in := goodIn_r _ [4] (by decide +kernel) (by decide +kernel)
set_option maxRecDepth 20000 in
theorem gX4_isThere_X4_in : GoodIn wsX4_isThere (va_wsS RX4 82 yX4_in wsX4_in) := goodIn_app (goodIn_of _ (by decide +kernel)) ggX4_isThere_X4_in
set_option maxRecDepth 20000 in
theorem ggX4_isThere_X4_isAct : GoodIn wsX4_isThere wsX4_isAct := goodIn_r _ [8, 9, 1, 2, 3, 4, 10, 11, 12, 13, 14, 15, 16, 17, 18, 19, 20, 21, 22, 23, 24, 25, 26, 27, 28, 29, 30, 31, 32, 33, 34, 35, 36] (by decide +kernel) (by decide +kernel)
set_option maxRecDepth 20000 in
theorem gX4_isThere_X4_isAct : GoodIn wsX4_isThere (wsV RX4 120 RX4 yX4_isAct wsX4_isAct) := goodIn_app (goodIn_of _ (by decide +kernel)) ggX4_isThere_X4_isAct
theorem dX4_isThere_0 : decode cX4_isThere 0 = .ok (.iload_n 1, 1) := by decide +kernel
theorem dX4_isThere_1 : decode cX4_isThere 1 = .ok (.iconst 0, 1) := by decide +kernel
theorem dX4_isThere_2 : decode cX4_isThere 2 = .ok (.bipush 9, 2) := by decide +kernel
theorem dX4_isThere_4 : decode cX4_isThere 4 = .ok (.invokestatic 82, 3) := by decide +kernel
theorem dX4_isThere_7 : decode cX4_isThere 7 = .ok (.ifCond .eq 15, 3) := by decide +kernel
theorem dX4_isThere_10 : decode cX4_isThere 10 = .ok (.aload_n 0, 1) := by decide +kernel
theorem dX4_isThere_11 : decode cX4_isThere 11 = .ok (.iload_n 2, 1) := by decide +kernel
theorem dX4_isThere_12 : decode cX4_isThere 12 = .ok (.invokevirtual 120, 3) := by decide +kernel
theorem dX4_isThere_15 : decode cX4_isThere 15 = .ok (.ifCond .eq 7, 3) := by decide +kernel
theorem dX4_isThere_18 : decode cX4_isThere 18 = .ok (.iconst 1, 1) := by decide +kernel
theorem dX4_isThere_19 : decode cX4_isThere 19 = .ok (.goto 4, 3) := by decide +kernel
theorem dX4_isThere_22 : decode cX4_isThere 22 = .ok (.iconst 0, 1) := by decide +kernel
theorem dX4_isThere_23 : decode cX4_isThere 23 = .ok (.ireturn, 1) := by decide +kernel
set_option maxRecDepth 20000 in
theorem ggX4_plea_X4_isThere : GoodIn wsX4_plea wsX4_isThere := goodIn_r _ [8, 9, 10, 7, 11, 12, 13, 14, 15, 16, 21, 22, 23, 24, 25, 26, 27, 28, 29, 30, 31, 32, 33, 34, 35, 36, 37, 38, 39, 40, 41, 42, 43, 44, 45, 46, 47] (by decide +kernel) (by decide +kernel)
set_option maxRecDepth 20000 in
theorem gX4_plea_X4_isThere : GoodIn wsX4_plea (wsV RX4 123 RX4 yX4_isThere wsX4_isThere) := goodIn_app (goodIn_of _ (by decide +kernel)) ggX4_plea_X4_isThere
set_option maxRecDepth 20000 in
theorem ggX4_plea_X4_asks : GoodIn wsX4_plea wsX4_asks := goodIn_r _ [20, 2, 21, 22, 23, 24, 25, 26, 27, 28, 29, 30, 31, 32, 33, 34, 35, 36, 37, 38, 39, 40, 41, 42, 43, 44, 45, 46, 47] (by decide +kernel) (by decide +kernel)
set_option maxRecDepth 20000 in
theorem gX4_plea_X4_asks : GoodIn wsX4_plea (wsV RX4 92 RX4 yX4_asks wsX4_asks) := goodIn_app (goodIn_of _ (by decide +kernel)) ggX4_plea_X4_asks
theorem dX4_plea_0 : decode cX4_plea 0 = .ok (.aload_n 0, 1) := by decide +kernel
theorem dX4_plea_1 : decode cX4_plea 1 = .ok (.aload_n 0, 1) := by decide +kernel
theorem dX4_plea_2 : decode cX4_plea 2 = .ok (.iload_n 1, 1) := by decide +kernel
theorem dX4_plea_3 : decode cX4_plea 3 = .ok (.iload_n 2, 1) := by decide +kernel
theorem dX4_plea_4 : decode cX4_plea 4 = .ok (.invokevirtual 123, 3) := by decide +kernel
theorem dX4_plea_7 : decode cX4_plea 7 = .ok (.invokevirtual 92, 3) := by decide +kernel
theorem dX4_plea_10 : decode cX4_plea 10 = .ok (.ifCond .ne 4, 3) := by decide +kernel
theorem dX4_plea_13 : decode cX4_plea 13 = .ok (.return_, 1) := by decide +kernel
theorem dX4_plea_14 : decode cX4_plea 14 = .ok (.aload_n 0, 1) := by decide +kernel
theorem dX4_plea_15 : decode cX4_plea 15 = .ok (.getfield 48, 3) := by decide +kernel
theorem dX4_plea_18 : decode cX4_plea 18 = .ok (.bipush 10, 2) := by decide +kernel
theorem dX4_plea_20 : decode cX4_plea 20 = .ok (.iload_n 2, 1) := by decide +kernel
theorem dX4_plea_21 : decode cX4_plea 21 = .ok (.imul, 1) := by decide +kernel
theorem dX4_plea_22 : decode cX4_plea 22 = .ok (.iload_n 1, 1) := by decide +kernel
theorem dX4_plea_23 : decode cX4_plea 23 = .ok (.iadd, 1) := by decide +kernel
theorem dX4_plea_24 : decode cX4_plea 24 = .ok (.iaload, 1) := by decide +kernel
theorem dX4_plea_25 : decode cX4_plea 25 = .ok (.iconst (-1), 1) := by decide +kernel
theorem dX4_plea_26 : decode cX4_plea 26 = .ok (.if_icmp .eq 9, 3) := by decide +kernel
theorem dX4_plea_29 : decode cX4_plea 29 = .ok (.aload_n 0, 1) := by decide +kernel
theorem dX4_plea_30 : decode cX4_plea 30 = .ok (.iconst 2, 1) := by decide +kernel
theorem dX4_plea_31 : decode cX4_plea 31 = .ok (.putfield 75, 3) := by decide +kernel
theorem dX4_plea_34 : decode cX4_plea 34 = .ok (.return_, 1) := by decide +kernel
theorem dX4_plea_35 : decode cX4_plea 35 = .ok (.aload_n 0, 1) := by decide +kernel
theorem dX4_plea_36 : decode cX4_plea 36 = .ok (.getfield 48, 3) := by decide +kernel
theorem dX4_plea_39 : decode cX4_plea 39 = .ok (.bipush 10, 2) := by decide +kernel
theorem dX4_plea_41 : decode cX4_plea 41 = .ok (.iload_n 2, 1) := by decide +kernel
theorem dX4_plea_42 : decode cX4_plea 42 = .ok (.imul, 1) := by decide +kernel
theorem dX4_plea_43 : decode cX4_plea 43 = .ok (.iload_n 1, 1) := by decide +kernel
theorem dX4_plea_44 : decode cX4_plea 44 = .ok (.iadd, 1) := by decide +kernel
theorem dX4_plea_45 : decode cX4_plea 45 = .ok (.aload_n 0, 1) := by decide +kernel
theorem dX4_plea_46 : decode cX4_plea 46 = .ok (.getfield 107, 3) := by decide +kernel
theorem dX4_plea_49 : decode cX4_plea 49 = .ok (.iastore, 1) := by decide +kernel
theorem dX4_plea_50 : decode cX4_plea 50 = .ok (.return_, 1) := by decide +kernel
theorem dX4_barOf_0 : decode cX4_barOf 0 = .ok (.aload_n 0, 1) := by decide +kernel
theorem dX4_barOf_1 : decode cX4_barOf 1 = .ok (.getfield 48, 3) := by decide +kernel
theorem dX4_barOf_4 : decode cX4_barOf 4 = .ok (.bipush 10, 2) := by decide +kernel
theorem dX4_barOf_6 : decode cX4_barOf 6 = .ok (.iload_n 2, 1) := by decide +kernel
theorem dX4_barOf_7 : decode cX4_barOf 7 = .ok (.imul, 1) := by decide +kernel
theorem dX4_barOf_8 : decode cX4_barOf 8 = .ok (.iload_n 1, 1) := by decide +kernel
theorem dX4_barOf_9 : decode cX4_barOf 9 = .ok (.iadd, 1) := by decide +kernel
theorem dX4_barOf_10 : decode cX4_barOf 10 = .ok (.iaload, 1) := by decide +kernel
theorem dX4_barOf_11 : decode cX4_barOf 11 = .ok (.istore_n 3, 1) := by decide +kernel
theorem dX4_barOf_12 : decode cX4_barOf 12 = .ok (.iload_n 3, 1) := by decide +kernel
theorem dX4_barOf_13 : decode cX4_barOf 13 = .ok (.iconst (-1), 1) := by decide +kernel
theorem dX4_barOf_14 : decode cX4_barOf 14 = .ok (.if_icmp .eq 14, 3) := by decide +kernel
theorem dX4_barOf_17 : decode cX4_barOf 17 = .ok (.aload_n 0, 1) := by decide +kernel
theorem dX4_barOf_18 : decode cX4_barOf 18 = .ok (.getfield 107, 3) := by decide +kernel
theorem dX4_barOf_21 : decode cX4_barOf 21 = .ok (.iload_n 3, 1) := by decide +kernel
theorem dX4_barOf_22 : decode cX4_barOf 22 = .ok (.isub, 1) := by decide +kernel
theorem dX4_barOf_23 : decode cX4_barOf 23 = .ok (.bipush 10, 2) := by decide +kernel
theorem dX4_barOf_25 : decode cX4_barOf 25 = .ok (.if_icmp .ge 5, 3) := by decide +kernel
theorem dX4_barOf_28 : decode cX4_barOf 28 = .ok (.iconst 1, 1) := by decide +kernel
theorem dX4_barOf_29 : decode cX4_barOf 29 = .ok (.ireturn, 1) := by decide +kernel
theorem dX4_barOf_30 : decode cX4_barOf 30 = .ok (.aload_n 0, 1) := by decide +kernel
theorem dX4_barOf_31 : decode cX4_barOf 31 = .ok (.getfield 38, 3) := by decide +kernel
theorem dX4_barOf_34 : decode cX4_barOf 34 = .ok (.iload_n 2, 1) := by decide +kernel
theorem dX4_barOf_35 : decode cX4_barOf 35 = .ok (.baload, 1) := by decide +kernel
theorem dX4_barOf_36 : decode cX4_barOf 36 = .ok (.ifCond .eq 7, 3) := by decide +kernel
theorem dX4_barOf_39 : decode cX4_barOf 39 = .ok (.iconst 2, 1) := by decide +kernel
theorem dX4_barOf_40 : decode cX4_barOf 40 = .ok (.goto 34, 3) := by decide +kernel
theorem dX4_barOf_43 : decode cX4_barOf 43 = .ok (.aload_n 0, 1) := by decide +kernel
theorem dX4_barOf_44 : decode cX4_barOf 44 = .ok (.getfield 107, 3) := by decide +kernel
theorem dX4_barOf_47 : decode cX4_barOf 47 = .ok (.aload_n 0, 1) := by decide +kernel
theorem dX4_barOf_48 : decode cX4_barOf 48 = .ok (.getfield 29, 3) := by decide +kernel
theorem dX4_barOf_51 : decode cX4_barOf 51 = .ok (.iload_n 2, 1) := by decide +kernel
theorem dX4_barOf_52 : decode cX4_barOf 52 = .ok (.iaload, 1) := by decide +kernel
theorem dX4_barOf_53 : decode cX4_barOf 53 = .ok (.isub, 1) := by decide +kernel
theorem dX4_barOf_54 : decode cX4_barOf 54 = .ok (.sipush 365, 3) := by decide +kernel
theorem dX4_barOf_57 : decode cX4_barOf 57 = .ok (.if_icmp .le 16, 3) := by decide +kernel
theorem dX4_barOf_60 : decode cX4_barOf 60 = .ok (.aload_n 0, 1) := by decide +kernel
theorem dX4_barOf_61 : decode cX4_barOf 61 = .ok (.getfield 42, 3) := by decide +kernel
theorem dX4_barOf_64 : decode cX4_barOf 64 = .ok (.iload_n 2, 1) := by decide +kernel
theorem dX4_barOf_65 : decode cX4_barOf 65 = .ok (.baload, 1) := by decide +kernel
theorem dX4_barOf_66 : decode cX4_barOf 66 = .ok (.ifCond .ne 7, 3) := by decide +kernel
theorem dX4_barOf_69 : decode cX4_barOf 69 = .ok (.iconst 3, 1) := by decide +kernel
theorem dX4_barOf_70 : decode cX4_barOf 70 = .ok (.goto 4, 3) := by decide +kernel
theorem dX4_barOf_73 : decode cX4_barOf 73 = .ok (.iconst 0, 1) := by decide +kernel
theorem dX4_barOf_74 : decode cX4_barOf 74 = .ok (.ireturn, 1) := by decide +kernel
set_option maxRecDepth 20000 in
theorem ggX4_bar_X4_isThere : GoodIn wsX4_bar wsX4_isThere := goodIn_r _ [5, 6, 7, 4, 8, 9, 10, 11, 12, 13, 28, 29, 30, 31, 32, 33, 34, 35, 36, 37, 38, 39, 40, 41, 42, 43, 44, 45, 46, 47, 48, 49, 50, 51, 52, 53, 54] (by decide +kernel) (by decide +kernel)
set_option maxRecDepth 20000 in
theorem gX4_bar_X4_isThere : GoodIn wsX4_bar (wsV RX4 123 RX4 yX4_isThere wsX4_isThere) := goodIn_app (goodIn_of _ (by decide +kernel)) ggX4_bar_X4_isThere
set_option maxRecDepth 20000 in
theorem ggX4_bar_X4_asks : GoodIn wsX4_bar wsX4_asks := goodIn_r _ [17, 18, 28, 29, 30, 31, 32, 33, 34, 35, 36, 37, 38, 39, 40, 41, 42, 43, 44, 45, 46, 47, 48, 49, 50, 51, 52, 53, 54] (by decide +kernel) (by decide +kernel)
set_option maxRecDepth 20000 in
theorem gX4_bar_X4_asks : GoodIn wsX4_bar (wsV RX4 92 RX4 yX4_asks wsX4_asks) := goodIn_app (goodIn_of _ (by decide +kernel)) ggX4_bar_X4_asks
set_option maxRecDepth 20000 in
theorem ggX4_bar_X4_barOf : GoodIn wsX4_bar wsX4_barOf := goodIn_r _ [22, 23, 24, 25, 26, 27, 28, 29, 30, 31, 32, 33, 34, 35, 36, 37, 38, 39, 40, 41, 42, 43, 44, 45, 46, 47, 48, 49, 50, 51, 52, 53, 54] (by decide +kernel) (by decide +kernel)
set_option maxRecDepth 20000 in
theorem gX4_bar_X4_barOf : GoodIn wsX4_bar (wsV RX4 127 RX4 yX4_barOf wsX4_barOf) := goodIn_app (goodIn_of _ (by decide +kernel)) ggX4_bar_X4_barOf
theorem dX4_bar_0 : decode cX4_bar 0 = .ok (.aload_n 0, 1) := by decide +kernel
theorem dX4_bar_1 : decode cX4_bar 1 = .ok (.aload_n 0, 1) := by decide +kernel
theorem dX4_bar_2 : decode cX4_bar 2 = .ok (.iload_n 1, 1) := by decide +kernel
theorem dX4_bar_3 : decode cX4_bar 3 = .ok (.iload_n 2, 1) := by decide +kernel
theorem dX4_bar_4 : decode cX4_bar 4 = .ok (.invokevirtual 123, 3) := by decide +kernel
theorem dX4_bar_7 : decode cX4_bar 7 = .ok (.invokevirtual 92, 3) := by decide +kernel
theorem dX4_bar_10 : decode cX4_bar 10 = .ok (.ifCond .eq 12, 3) := by decide +kernel
theorem dX4_bar_13 : decode cX4_bar 13 = .ok (.aload_n 0, 1) := by decide +kernel
theorem dX4_bar_14 : decode cX4_bar 14 = .ok (.iload_n 1, 1) := by decide +kernel
theorem dX4_bar_15 : decode cX4_bar 15 = .ok (.iload_n 2, 1) := by decide +kernel
theorem dX4_bar_16 : decode cX4_bar 16 = .ok (.invokevirtual 127, 3) := by decide +kernel
theorem dX4_bar_19 : decode cX4_bar 19 = .ok (.goto 4, 3) := by decide +kernel
theorem dX4_bar_22 : decode cX4_bar 22 = .ok (.iconst 0, 1) := by decide +kernel
theorem dX4_bar_23 : decode cX4_bar 23 = .ok (.ireturn, 1) := by decide +kernel
theorem dX4_complaintOf_0 : decode cX4_complaintOf 0 = .ok (.iconst (-1), 1) := by decide +kernel
theorem dX4_complaintOf_1 : decode cX4_complaintOf 1 = .ok (.istore_n 2, 1) := by decide +kernel
theorem dX4_complaintOf_2 : decode cX4_complaintOf 2 = .ok (.iconst 0, 1) := by decide +kernel
theorem dX4_complaintOf_3 : decode cX4_complaintOf 3 = .ok (.istore_n 3, 1) := by decide +kernel
theorem dX4_complaintOf_4 : decode cX4_complaintOf 4 = .ok (.iload_n 3, 1) := by decide +kernel
theorem dX4_complaintOf_5 : decode cX4_complaintOf 5 = .ok (.aload_n 0, 1) := by decide +kernel
theorem dX4_complaintOf_6 : decode cX4_complaintOf 6 = .ok (.getfield 89, 3) := by decide +kernel
theorem dX4_complaintOf_9 : decode cX4_complaintOf 9 = .ok (.if_icmp .ge 35, 3) := by decide +kernel
theorem dX4_complaintOf_12 : decode cX4_complaintOf 12 = .ok (.aload_n 0, 1) := by decide +kernel
theorem dX4_complaintOf_13 : decode cX4_complaintOf 13 = .ok (.getfield 51, 3) := by decide +kernel
theorem dX4_complaintOf_16 : decode cX4_complaintOf 16 = .ok (.iload_n 3, 1) := by decide +kernel
theorem dX4_complaintOf_17 : decode cX4_complaintOf 17 = .ok (.iaload, 1) := by decide +kernel
theorem dX4_complaintOf_18 : decode cX4_complaintOf 18 = .ok (.iload_n 1, 1) := by decide +kernel
theorem dX4_complaintOf_19 : decode cX4_complaintOf 19 = .ok (.if_icmp .ne 17, 3) := by decide +kernel
theorem dX4_complaintOf_22 : decode cX4_complaintOf 22 = .ok (.aload_n 0, 1) := by decide +kernel
theorem dX4_complaintOf_23 : decode cX4_complaintOf 23 = .ok (.getfield 54, 3) := by decide +kernel
theorem dX4_complaintOf_26 : decode cX4_complaintOf 26 = .ok (.iload_n 3, 1) := by decide +kernel
theorem dX4_complaintOf_27 : decode cX4_complaintOf 27 = .ok (.iaload, 1) := by decide +kernel
theorem dX4_complaintOf_28 : decode cX4_complaintOf 28 = .ok (.iconst 2, 1) := by decide +kernel
theorem dX4_complaintOf_29 : decode cX4_complaintOf 29 = .ok (.if_icmp .eq 7, 3) := by decide +kernel
theorem dX4_complaintOf_32 : decode cX4_complaintOf 32 = .ok (.iload_n 3, 1) := by decide +kernel
theorem dX4_complaintOf_33 : decode cX4_complaintOf 33 = .ok (.goto 4, 3) := by decide +kernel
theorem dX4_complaintOf_36 : decode cX4_complaintOf 36 = .ok (.iload_n 2, 1) := by decide +kernel
theorem dX4_complaintOf_37 : decode cX4_complaintOf 37 = .ok (.istore_n 2, 1) := by decide +kernel
theorem dX4_complaintOf_38 : decode cX4_complaintOf 38 = .ok (.iinc 3 1, 3) := by decide +kernel
theorem dX4_complaintOf_41 : decode cX4_complaintOf 41 = .ok (.goto (-37), 3) := by decide +kernel
theorem dX4_complaintOf_44 : decode cX4_complaintOf 44 = .ok (.iload_n 2, 1) := by decide +kernel
theorem dX4_complaintOf_45 : decode cX4_complaintOf 45 = .ok (.ireturn, 1) := by decide +kernel
set_option maxRecDepth 20000 in
theorem ggX4_complain_X4_isThere : GoodIn wsX4_complain wsX4_isThere := goodIn_r _ [12, 13, 14, 11, 15, 16, 17, 18, 19, 20, 43, 44, 45, 46, 47, 48, 49, 50, 51, 52, 53, 54, 55, 56, 57, 58, 59, 60, 61, 62, 63, 64, 65, 66, 67, 68, 69] (by decide +kernel) (by decide +kernel)
set_option maxRecDepth 20000 in
theorem gX4_complain_X4_isThere : GoodIn wsX4_complain (wsV RX4 123 RX4 yX4_isThere wsX4_isThere) := goodIn_app (goodIn_of _ (by decide +kernel)) ggX4_complain_X4_isThere
set_option maxRecDepth 20000 in
theorem ggX4_complain_X4_asks : GoodIn wsX4_complain wsX4_asks := goodIn_r _ [24, 25, 43, 44, 45, 46, 47, 48, 49, 50, 51, 52, 53, 54, 55, 56, 57, 58, 59, 60, 61, 62, 63, 64, 65, 66, 67, 68, 69] (by decide +kernel) (by decide +kernel)
set_option maxRecDepth 20000 in
theorem gX4_complain_X4_asks : GoodIn wsX4_complain (wsV RX4 92 RX4 yX4_asks wsX4_asks) := goodIn_app (goodIn_of _ (by decide +kernel)) ggX4_complain_X4_asks
set_option maxRecDepth 20000 in
theorem ggX4_complain_X4_complaintOf : GoodIn wsX4_complain wsX4_complaintOf := goodIn_r _ [29, 1, 2, 3, 43, 44, 45, 46, 47, 48, 49, 50, 51, 52, 53, 54, 55, 56, 57, 58, 59, 60, 61, 62, 63, 64, 65, 66, 67, 68, 69] (by decide +kernel) (by decide +kernel)
set_option maxRecDepth 20000 in
theorem gX4_complain_X4_complaintOf : GoodIn wsX4_complain (wsV RX4 130 RX4 yX4_complaintOf wsX4_complaintOf) := goodIn_app (goodIn_of _ (by decide +kernel)) ggX4_complain_X4_complaintOf
set_option maxRecDepth 20000 in
theorem ggX4_complain_X4_barOf : GoodIn wsX4_complain wsX4_barOf := goodIn_r _ [33, 34, 35, 36, 37, 38, 43, 44, 45, 46, 47, 48, 49, 50, 51, 52, 53, 54, 55, 56, 57, 58, 59, 60, 61, 62, 63, 64, 65, 66, 67, 68, 69] (by decide +kernel) (by decide +kernel)
set_option maxRecDepth 20000 in
theorem gX4_complain_X4_barOf : GoodIn wsX4_complain (wsV RX4 127 RX4 yX4_barOf wsX4_barOf) := goodIn_app (goodIn_of _ (by decide +kernel)) ggX4_complain_X4_barOf
set_option maxRecDepth 20000 in
theorem ggX4_complain_X4_fails : GoodIn wsX4_complain wsX4_fails := goodIn_r _ [42, 25, 43, 44, 45, 46, 47, 48, 49, 50, 51, 52, 53, 54, 55, 56, 57, 58, 59, 60, 61, 62, 63, 64, 65, 66, 67, 68, 69] (by decide +kernel) (by decide +kernel)
set_option maxRecDepth 20000 in
theorem gX4_complain_X4_fails : GoodIn wsX4_complain (wsV RX4 99 RX4 yX4_fails wsX4_fails) := goodIn_app (goodIn_of _ (by decide +kernel)) ggX4_complain_X4_fails
theorem dX4_complain_0 : decode cX4_complain 0 = .ok (.aload_n 0, 1) := by decide +kernel
theorem dX4_complain_1 : decode cX4_complain 1 = .ok (.aload_n 0, 1) := by decide +kernel
theorem dX4_complain_2 : decode cX4_complain 2 = .ok (.iload_n 1, 1) := by decide +kernel
theorem dX4_complain_3 : decode cX4_complain 3 = .ok (.iload_n 2, 1) := by decide +kernel
theorem dX4_complain_4 : decode cX4_complain 4 = .ok (.invokevirtual 123, 3) := by decide +kernel
theorem dX4_complain_7 : decode cX4_complain 7 = .ok (.invokevirtual 92, 3) := by decide +kernel
theorem dX4_complain_10 : decode cX4_complain 10 = .ok (.ifCond .ne 5, 3) := by decide +kernel
theorem dX4_complain_13 : decode cX4_complain 13 = .ok (.iconst 0, 1) := by decide +kernel
theorem dX4_complain_14 : decode cX4_complain 14 = .ok (.ireturn, 1) := by decide +kernel
theorem dX4_complain_15 : decode cX4_complain 15 = .ok (.aload_n 0, 1) := by decide +kernel
theorem dX4_complain_16 : decode cX4_complain 16 = .ok (.iload_n 2, 1) := by decide +kernel
theorem dX4_complain_17 : decode cX4_complain 17 = .ok (.invokevirtual 130, 3) := by decide +kernel
theorem dX4_complain_20 : decode cX4_complain 20 = .ok (.istore_n 3, 1) := by decide +kernel
theorem dX4_complain_21 : decode cX4_complain 21 = .ok (.aload_n 0, 1) := by decide +kernel
theorem dX4_complain_22 : decode cX4_complain 22 = .ok (.iload_n 1, 1) := by decide +kernel
theorem dX4_complain_23 : decode cX4_complain 23 = .ok (.iload_n 2, 1) := by decide +kernel
theorem dX4_complain_24 : decode cX4_complain 24 = .ok (.invokevirtual 127, 3) := by decide +kernel
theorem dX4_complain_27 : decode cX4_complain 27 = .ok (.ifCond .gt 17, 3) := by decide +kernel
theorem dX4_complain_30 : decode cX4_complain 30 = .ok (.iload_n 3, 1) := by decide +kernel
theorem dX4_complain_31 : decode cX4_complain 31 = .ok (.iconst (-1), 1) := by decide +kernel
theorem dX4_complain_32 : decode cX4_complain 32 = .ok (.if_icmp .ne 18, 3) := by decide +kernel
theorem dX4_complain_35 : decode cX4_complain 35 = .ok (.aload_n 0, 1) := by decide +kernel
theorem dX4_complain_36 : decode cX4_complain 36 = .ok (.getfield 89, 3) := by decide +kernel
theorem dX4_complain_39 : decode cX4_complain 39 = .ok (.bipush 16, 2) := by decide +kernel
theorem dX4_complain_41 : decode cX4_complain 41 = .ok (.if_icmp .ne 9, 3) := by decide +kernel
theorem dX4_complain_44 : decode cX4_complain 44 = .ok (.aload_n 0, 1) := by decide +kernel
theorem dX4_complain_45 : decode cX4_complain 45 = .ok (.iconst 2, 1) := by decide +kernel
theorem dX4_complain_46 : decode cX4_complain 46 = .ok (.invokevirtual 99, 3) := by decide +kernel
theorem dX4_complain_49 : decode cX4_complain 49 = .ok (.ireturn, 1) := by decide +kernel
theorem dX4_complain_50 : decode cX4_complain 50 = .ok (.iload_n 3, 1) := by decide +kernel
theorem dX4_complain_51 : decode cX4_complain 51 = .ok (.iconst (-1), 1) := by decide +kernel
theorem dX4_complain_52 : decode cX4_complain 52 = .ok (.if_icmp .ne 54, 3) := by decide +kernel
theorem dX4_complain_55 : decode cX4_complain 55 = .ok (.aload_n 0, 1) := by decide +kernel
theorem dX4_complain_56 : decode cX4_complain 56 = .ok (.getfield 89, 3) := by decide +kernel
theorem dX4_complain_59 : decode cX4_complain 59 = .ok (.istore_n 3, 1) := by decide +kernel
theorem dX4_complain_60 : decode cX4_complain 60 = .ok (.aload_n 0, 1) := by decide +kernel
theorem dX4_complain_61 : decode cX4_complain 61 = .ok (.getfield 51, 3) := by decide +kernel
theorem dX4_complain_64 : decode cX4_complain 64 = .ok (.iload_n 3, 1) := by decide +kernel
theorem dX4_complain_65 : decode cX4_complain 65 = .ok (.iload_n 2, 1) := by decide +kernel
theorem dX4_complain_66 : decode cX4_complain 66 = .ok (.iastore, 1) := by decide +kernel
theorem dX4_complain_67 : decode cX4_complain 67 = .ok (.aload_n 0, 1) := by decide +kernel
theorem dX4_complain_68 : decode cX4_complain 68 = .ok (.getfield 54, 3) := by decide +kernel
theorem dX4_complain_71 : decode cX4_complain 71 = .ok (.iload_n 3, 1) := by decide +kernel
theorem dX4_complain_72 : decode cX4_complain 72 = .ok (.iconst 0, 1) := by decide +kernel
theorem dX4_complain_73 : decode cX4_complain 73 = .ok (.iastore, 1) := by decide +kernel
theorem dX4_complain_74 : decode cX4_complain 74 = .ok (.aload_n 0, 1) := by decide +kernel
theorem dX4_complain_75 : decode cX4_complain 75 = .ok (.getfield 57, 3) := by decide +kernel
theorem dX4_complain_78 : decode cX4_complain 78 = .ok (.iload_n 3, 1) := by decide +kernel
theorem dX4_complain_79 : decode cX4_complain 79 = .ok (.bipush 60, 2) := by decide +kernel
theorem dX4_complain_81 : decode cX4_complain 81 = .ok (.iastore, 1) := by decide +kernel
theorem dX4_complain_82 : decode cX4_complain 82 = .ok (.aload_n 0, 1) := by decide +kernel
theorem dX4_complain_83 : decode cX4_complain 83 = .ok (.getfield 63, 3) := by decide +kernel
theorem dX4_complain_86 : decode cX4_complain 86 = .ok (.iload_n 3, 1) := by decide +kernel
theorem dX4_complain_87 : decode cX4_complain 87 = .ok (.iconst (-1), 1) := by decide +kernel
theorem dX4_complain_88 : decode cX4_complain 88 = .ok (.iastore, 1) := by decide +kernel
theorem dX4_complain_89 : decode cX4_complain 89 = .ok (.aload_n 0, 1) := by decide +kernel
theorem dX4_complain_90 : decode cX4_complain 90 = .ok (.getfield 72, 3) := by decide +kernel
theorem dX4_complain_93 : decode cX4_complain 93 = .ok (.iload_n 3, 1) := by decide +kernel
theorem dX4_complain_94 : decode cX4_complain 94 = .ok (.iconst (-1), 1) := by decide +kernel
theorem dX4_complain_95 : decode cX4_complain 95 = .ok (.iastore, 1) := by decide +kernel
theorem dX4_complain_96 : decode cX4_complain 96 = .ok (.aload_n 0, 1) := by decide +kernel
theorem dX4_complain_97 : decode cX4_complain 97 = .ok (.dup, 1) := by decide +kernel
theorem dX4_complain_98 : decode cX4_complain 98 = .ok (.getfield 89, 3) := by decide +kernel
theorem dX4_complain_101 : decode cX4_complain 101 = .ok (.iconst 1, 1) := by decide +kernel
theorem dX4_complain_102 : decode cX4_complain 102 = .ok (.iadd, 1) := by decide +kernel
theorem dX4_complain_103 : decode cX4_complain 103 = .ok (.putfield 89, 3) := by decide +kernel
theorem dX4_complain_106 : decode cX4_complain 106 = .ok (.aload_n 0, 1) := by decide +kernel
theorem dX4_complain_107 : decode cX4_complain 107 = .ok (.getfield 60, 3) := by decide +kernel
theorem dX4_complain_110 : decode cX4_complain 110 = .ok (.iload_n 3, 1) := by decide +kernel
theorem dX4_complain_111 : decode cX4_complain 111 = .ok (.dup2, 1) := by decide +kernel
theorem dX4_complain_112 : decode cX4_complain 112 = .ok (.iaload, 1) := by decide +kernel
theorem dX4_complain_113 : decode cX4_complain 113 = .ok (.iconst 1, 1) := by decide +kernel
theorem dX4_complain_114 : decode cX4_complain 114 = .ok (.iload_n 1, 1) := by decide +kernel
theorem dX4_complain_115 : decode cX4_complain 115 = .ok (.ishl, 1) := by decide +kernel
theorem dX4_complain_116 : decode cX4_complain 116 = .ok (.ior, 1) := by decide +kernel
theorem dX4_complain_117 : decode cX4_complain 117 = .ok (.iastore, 1) := by decide +kernel
theorem dX4_complain_118 : decode cX4_complain 118 = .ok (.iload_n 3, 1) := by decide +kernel
theorem dX4_complain_119 : decode cX4_complain 119 = .ok (.ireturn, 1) := by decide +kernel
theorem dX4_isOwed_0 : decode cX4_isOwed 0 = .ok (.aload_n 0, 1) := by decide +kernel
theorem dX4_isOwed_1 : decode cX4_isOwed 1 = .ok (.getfield 63, 3) := by decide +kernel
theorem dX4_isOwed_4 : decode cX4_isOwed 4 = .ok (.iload_n 1, 1) := by decide +kernel
theorem dX4_isOwed_5 : decode cX4_isOwed 5 = .ok (.iaload, 1) := by decide +kernel
theorem dX4_isOwed_6 : decode cX4_isOwed 6 = .ok (.iconst (-1), 1) := by decide +kernel
theorem dX4_isOwed_7 : decode cX4_isOwed 7 = .ok (.if_icmp .eq 16, 3) := by decide +kernel
theorem dX4_isOwed_10 : decode cX4_isOwed 10 = .ok (.aload_n 0, 1) := by decide +kernel
theorem dX4_isOwed_11 : decode cX4_isOwed 11 = .ok (.getfield 66, 3) := by decide +kernel
theorem dX4_isOwed_14 : decode cX4_isOwed 14 = .ok (.iload_n 1, 1) := by decide +kernel
theorem dX4_isOwed_15 : decode cX4_isOwed 15 = .ok (.baload, 1) := by decide +kernel
theorem dX4_isOwed_16 : decode cX4_isOwed 16 = .ok (.ifCond .ne 7, 3) := by decide +kernel
theorem dX4_isOwed_19 : decode cX4_isOwed 19 = .ok (.iconst 1, 1) := by decide +kernel
theorem dX4_isOwed_20 : decode cX4_isOwed 20 = .ok (.goto 4, 3) := by decide +kernel
theorem dX4_isOwed_23 : decode cX4_isOwed 23 = .ok (.iconst 0, 1) := by decide +kernel
theorem dX4_isOwed_24 : decode cX4_isOwed 24 = .ok (.ireturn, 1) := by decide +kernel
set_option maxRecDepth 20000 in
theorem ggX4_ask_X4_isComplaint : GoodIn wsX4_ask wsX4_isComplaint := goodIn_r _ [10, 11, 12, 13, 9, 14, 24, 25, 26, 27, 28, 29, 30, 31, 32, 33, 34, 35, 36, 37, 38, 39, 40, 41, 42, 43, 44, 45, 46, 47, 48, 49, 50] (by decide +kernel) (by decide +kernel)
set_option maxRecDepth 20000 in
theorem gX4_ask_X4_isComplaint : GoodIn wsX4_ask (wsV RX4 133 RX4 yX4_isComplaint wsX4_isComplaint) := goodIn_app (goodIn_of _ (by decide +kernel)) ggX4_ask_X4_isComplaint
set_option maxRecDepth 20000 in
theorem ggX4_ask_X4_asks : GoodIn wsX4_ask wsX4_asks := goodIn_r _ [18, 19, 24, 25, 26, 27, 28, 29, 30, 31, 32, 33, 34, 35, 36, 37, 38, 39, 40, 41, 42, 43, 44, 45, 46, 47, 48, 49, 50] (by decide +kernel) (by decide +kernel)
set_option maxRecDepth 20000 in
theorem gX4_ask_X4_asks : GoodIn wsX4_ask (wsV RX4 92 RX4 yX4_asks wsX4_asks) := goodIn_app (goodIn_of _ (by decide +kernel)) ggX4_ask_X4_asks
set_option maxRecDepth 20000 in
theorem ggX4_ask_X4_fails : GoodIn wsX4_ask wsX4_fails := goodIn_r _ [23, 19, 24, 25, 26, 27, 28, 29, 30, 31, 32, 33, 34, 35, 36, 37, 38, 39, 40, 41, 42, 43, 44, 45, 46, 47, 48, 49, 50] (by decide +kernel) (by decide +kernel)
set_option maxRecDepth 20000 in
theorem gX4_ask_X4_fails : GoodIn wsX4_ask (wsV RX4 99 RX4 yX4_fails wsX4_fails) := goodIn_app (goodIn_of _ (by decide +kernel)) ggX4_ask_X4_fails
theorem dX4_ask_0 : decode cX4_ask 0 = .ok (.aload_n 0, 1) := by decide +kernel
theorem dX4_ask_1 : decode cX4_ask 1 = .ok (.aload_n 0, 1) := by decide +kernel
theorem dX4_ask_2 : decode cX4_ask 2 = .ok (.iload_n 1, 1) := by decide +kernel
theorem dX4_ask_3 : decode cX4_ask 3 = .ok (.invokevirtual 133, 3) := by decide +kernel
theorem dX4_ask_6 : decode cX4_ask 6 = .ok (.invokevirtual 92, 3) := by decide +kernel
theorem dX4_ask_9 : decode cX4_ask 9 = .ok (.ifCond .ne 5, 3) := by decide +kernel
theorem dX4_ask_12 : decode cX4_ask 12 = .ok (.iconst 0, 1) := by decide +kernel
theorem dX4_ask_13 : decode cX4_ask 13 = .ok (.ireturn, 1) := by decide +kernel
theorem dX4_ask_14 : decode cX4_ask 14 = .ok (.aload_n 0, 1) := by decide +kernel
theorem dX4_ask_15 : decode cX4_ask 15 = .ok (.getfield 54, 3) := by decide +kernel
theorem dX4_ask_18 : decode cX4_ask 18 = .ok (.iload_n 1, 1) := by decide +kernel
theorem dX4_ask_19 : decode cX4_ask 19 = .ok (.iaload, 1) := by decide +kernel
theorem dX4_ask_20 : decode cX4_ask 20 = .ok (.ifCond .ne 13, 3) := by decide +kernel
theorem dX4_ask_23 : decode cX4_ask 23 = .ok (.aload_n 0, 1) := by decide +kernel
theorem dX4_ask_24 : decode cX4_ask 24 = .ok (.getfield 63, 3) := by decide +kernel
theorem dX4_ask_27 : decode cX4_ask 27 = .ok (.iload_n 1, 1) := by decide +kernel
theorem dX4_ask_28 : decode cX4_ask 28 = .ok (.iaload, 1) := by decide +kernel
theorem dX4_ask_29 : decode cX4_ask 29 = .ok (.iconst (-1), 1) := by decide +kernel
theorem dX4_ask_30 : decode cX4_ask 30 = .ok (.if_icmp .eq 9, 3) := by decide +kernel
theorem dX4_ask_33 : decode cX4_ask 33 = .ok (.aload_n 0, 1) := by decide +kernel
theorem dX4_ask_34 : decode cX4_ask 34 = .ok (.iconst 2, 1) := by decide +kernel
theorem dX4_ask_35 : decode cX4_ask 35 = .ok (.invokevirtual 99, 3) := by decide +kernel
theorem dX4_ask_38 : decode cX4_ask 38 = .ok (.ireturn, 1) := by decide +kernel
theorem dX4_ask_39 : decode cX4_ask 39 = .ok (.aload_n 0, 1) := by decide +kernel
theorem dX4_ask_40 : decode cX4_ask 40 = .ok (.getfield 63, 3) := by decide +kernel
theorem dX4_ask_43 : decode cX4_ask 43 = .ok (.iload_n 1, 1) := by decide +kernel
theorem dX4_ask_44 : decode cX4_ask 44 = .ok (.aload_n 0, 1) := by decide +kernel
theorem dX4_ask_45 : decode cX4_ask 45 = .ok (.getfield 107, 3) := by decide +kernel
theorem dX4_ask_48 : decode cX4_ask 48 = .ok (.iastore, 1) := by decide +kernel
theorem dX4_ask_49 : decode cX4_ask 49 = .ok (.aload_n 0, 1) := by decide +kernel
theorem dX4_ask_50 : decode cX4_ask 50 = .ok (.getfield 23, 3) := by decide +kernel
theorem dX4_ask_53 : decode cX4_ask 53 = .ok (.aload_n 0, 1) := by decide +kernel
theorem dX4_ask_54 : decode cX4_ask 54 = .ok (.getfield 51, 3) := by decide +kernel
theorem dX4_ask_57 : decode cX4_ask 57 = .ok (.iload_n 1, 1) := by decide +kernel
theorem dX4_ask_58 : decode cX4_ask 58 = .ok (.iaload, 1) := by decide +kernel
theorem dX4_ask_59 : decode cX4_ask 59 = .ok (.iaload, 1) := by decide +kernel
theorem dX4_ask_60 : decode cX4_ask 60 = .ok (.ireturn, 1) := by decide +kernel
set_option maxRecDepth 20000 in
theorem ggX4_answer_X4_isComplaint : GoodIn wsX4_answer wsX4_isComplaint := goodIn_r _ [8, 9, 10, 11, 7, 12, 26, 27, 28, 29, 30, 31, 32, 33, 34, 35, 36, 37, 38, 39, 40, 41, 42, 43, 44, 45, 46, 47, 48, 49, 50, 51, 52] (by decide +kernel) (by decide +kernel)
set_option maxRecDepth 20000 in
theorem gX4_answer_X4_isComplaint : GoodIn wsX4_answer (wsV RX4 133 RX4 yX4_isComplaint wsX4_isComplaint) := goodIn_app (goodIn_of _ (by decide +kernel)) ggX4_answer_X4_isComplaint
set_option maxRecDepth 20000 in
theorem ggX4_answer_X4_asks : GoodIn wsX4_answer wsX4_asks := goodIn_r _ [16, 17, 26, 27, 28, 29, 30, 31, 32, 33, 34, 35, 36, 37, 38, 39, 40, 41, 42, 43, 44, 45, 46, 47, 48, 49, 50, 51, 52] (by decide +kernel) (by decide +kernel)
set_option maxRecDepth 20000 in
theorem gX4_answer_X4_asks : GoodIn wsX4_answer (wsV RX4 92 RX4 yX4_asks wsX4_asks) := goodIn_app (goodIn_of _ (by decide +kernel)) ggX4_answer_X4_asks
set_option maxRecDepth 20000 in
theorem ggX4_answer_X4_isOwed : GoodIn wsX4_answer wsX4_isOwed := goodIn_r _ [21, 3, 1, 26, 27, 28, 29, 30, 31, 32, 33, 34, 35, 36, 37, 38, 39, 40, 41, 42, 43, 44, 45, 46, 47, 48, 49, 50, 51, 52] (by decide +kernel) (by decide +kernel)
set_option maxRecDepth 20000 in
theorem gX4_answer_X4_isOwed : GoodIn wsX4_answer (wsV RX4 136 RX4 yX4_isOwed wsX4_isOwed) := goodIn_app (goodIn_of _ (by decide +kernel)) ggX4_answer_X4_isOwed
set_option maxRecDepth 20000 in
theorem ggX4_answer_X4_fails : GoodIn wsX4_answer wsX4_fails := goodIn_r _ [25, 17, 26, 27, 28, 29, 30, 31, 32, 33, 34, 35, 36, 37, 38, 39, 40, 41, 42, 43, 44, 45, 46, 47, 48, 49, 50, 51, 52] (by decide +kernel) (by decide +kernel)
set_option maxRecDepth 20000 in
theorem gX4_answer_X4_fails : GoodIn wsX4_answer (wsV RX4 99 RX4 yX4_fails wsX4_fails) := goodIn_app (goodIn_of _ (by decide +kernel)) ggX4_answer_X4_fails
theorem dX4_answer_0 : decode cX4_answer 0 = .ok (.aload_n 0, 1) := by decide +kernel
theorem dX4_answer_1 : decode cX4_answer 1 = .ok (.aload_n 0, 1) := by decide +kernel
theorem dX4_answer_2 : decode cX4_answer 2 = .ok (.iload_n 1, 1) := by decide +kernel
theorem dX4_answer_3 : decode cX4_answer 3 = .ok (.invokevirtual 133, 3) := by decide +kernel
theorem dX4_answer_6 : decode cX4_answer 6 = .ok (.invokevirtual 92, 3) := by decide +kernel
theorem dX4_answer_9 : decode cX4_answer 9 = .ok (.ifCond .ne 5, 3) := by decide +kernel
theorem dX4_answer_12 : decode cX4_answer 12 = .ok (.iconst 0, 1) := by decide +kernel
theorem dX4_answer_13 : decode cX4_answer 13 = .ok (.ireturn, 1) := by decide +kernel
theorem dX4_answer_14 : decode cX4_answer 14 = .ok (.aload_n 0, 1) := by decide +kernel
theorem dX4_answer_15 : decode cX4_answer 15 = .ok (.iload_n 1, 1) := by decide +kernel
theorem dX4_answer_16 : decode cX4_answer 16 = .ok (.invokevirtual 136, 3) := by decide +kernel
theorem dX4_answer_19 : decode cX4_answer 19 = .ok (.ifCond .ne 9, 3) := by decide +kernel
theorem dX4_answer_22 : decode cX4_answer 22 = .ok (.aload_n 0, 1) := by decide +kernel
theorem dX4_answer_23 : decode cX4_answer 23 = .ok (.iconst 2, 1) := by decide +kernel
theorem dX4_answer_24 : decode cX4_answer 24 = .ok (.invokevirtual 99, 3) := by decide +kernel
theorem dX4_answer_27 : decode cX4_answer 27 = .ok (.ireturn, 1) := by decide +kernel
theorem dX4_answer_28 : decode cX4_answer 28 = .ok (.aload_n 0, 1) := by decide +kernel
theorem dX4_answer_29 : decode cX4_answer 29 = .ok (.getfield 66, 3) := by decide +kernel
theorem dX4_answer_32 : decode cX4_answer 32 = .ok (.iload_n 1, 1) := by decide +kernel
theorem dX4_answer_33 : decode cX4_answer 33 = .ok (.iconst 1, 1) := by decide +kernel
theorem dX4_answer_34 : decode cX4_answer 34 = .ok (.bastore, 1) := by decide +kernel
theorem dX4_answer_35 : decode cX4_answer 35 = .ok (.aload_n 0, 1) := by decide +kernel
theorem dX4_answer_36 : decode cX4_answer 36 = .ok (.getfield 107, 3) := by decide +kernel
theorem dX4_answer_39 : decode cX4_answer 39 = .ok (.aload_n 0, 1) := by decide +kernel
theorem dX4_answer_40 : decode cX4_answer 40 = .ok (.getfield 63, 3) := by decide +kernel
theorem dX4_answer_43 : decode cX4_answer 43 = .ok (.iload_n 1, 1) := by decide +kernel
theorem dX4_answer_44 : decode cX4_answer 44 = .ok (.iaload, 1) := by decide +kernel
theorem dX4_answer_45 : decode cX4_answer 45 = .ok (.isub, 1) := by decide +kernel
theorem dX4_answer_46 : decode cX4_answer 46 = .ok (.ireturn, 1) := by decide +kernel
set_option maxRecDepth 20000 in
theorem ggX4_hear_X4_isComplaint : GoodIn wsX4_hear wsX4_isComplaint := goodIn_r _ [9, 10, 11, 12, 8, 13, 18, 19, 20, 21, 22, 23, 24, 25, 26, 27, 28, 29, 30, 31, 32, 33, 34, 35, 36, 37, 38, 39, 40, 41, 42, 43, 44] (by decide +kernel) (by decide +kernel)
set_option maxRecDepth 20000 in
theorem gX4_hear_X4_isComplaint : GoodIn wsX4_hear (wsV RX4 133 RX4 yX4_isComplaint wsX4_isComplaint) := goodIn_app (goodIn_of _ (by decide +kernel)) ggX4_hear_X4_isComplaint
set_option maxRecDepth 20000 in
theorem ggX4_hear_X4_asks : GoodIn wsX4_hear wsX4_asks := goodIn_r _ [17, 4, 18, 19, 20, 21, 22, 23, 24, 25, 26, 27, 28, 29, 30, 31, 32, 33, 34, 35, 36, 37, 38, 39, 40, 41, 42, 43, 44] (by decide +kernel) (by decide +kernel)
set_option maxRecDepth 20000 in
theorem gX4_hear_X4_asks : GoodIn wsX4_hear (wsV RX4 92 RX4 yX4_asks wsX4_asks) := goodIn_app (goodIn_of _ (by decide +kernel)) ggX4_hear_X4_asks
theorem dX4_hear_0 : decode cX4_hear 0 = .ok (.aload_n 0, 1) := by decide +kernel
theorem dX4_hear_1 : decode cX4_hear 1 = .ok (.aload_n 0, 1) := by decide +kernel
theorem dX4_hear_2 : decode cX4_hear 2 = .ok (.iload_n 1, 1) := by decide +kernel
theorem dX4_hear_3 : decode cX4_hear 3 = .ok (.invokevirtual 133, 3) := by decide +kernel
theorem dX4_hear_6 : decode cX4_hear 6 = .ok (.invokevirtual 92, 3) := by decide +kernel
theorem dX4_hear_9 : decode cX4_hear 9 = .ok (.ifCond .ne 4, 3) := by decide +kernel
theorem dX4_hear_12 : decode cX4_hear 12 = .ok (.return_, 1) := by decide +kernel
theorem dX4_hear_13 : decode cX4_hear 13 = .ok (.aload_n 0, 1) := by decide +kernel
theorem dX4_hear_14 : decode cX4_hear 14 = .ok (.getfield 54, 3) := by decide +kernel
theorem dX4_hear_17 : decode cX4_hear 17 = .ok (.iload_n 1, 1) := by decide +kernel
theorem dX4_hear_18 : decode cX4_hear 18 = .ok (.iaload, 1) := by decide +kernel
theorem dX4_hear_19 : decode cX4_hear 19 = .ok (.ifCond .ne 21, 3) := by decide +kernel
theorem dX4_hear_22 : decode cX4_hear 22 = .ok (.aload_n 0, 1) := by decide +kernel
theorem dX4_hear_23 : decode cX4_hear 23 = .ok (.getfield 66, 3) := by decide +kernel
theorem dX4_hear_26 : decode cX4_hear 26 = .ok (.iload_n 1, 1) := by decide +kernel
theorem dX4_hear_27 : decode cX4_hear 27 = .ok (.baload, 1) := by decide +kernel
theorem dX4_hear_28 : decode cX4_hear 28 = .ok (.ifCond .eq 12, 3) := by decide +kernel
theorem dX4_hear_31 : decode cX4_hear 31 = .ok (.aload_n 0, 1) := by decide +kernel
theorem dX4_hear_32 : decode cX4_hear 32 = .ok (.getfield 69, 3) := by decide +kernel
theorem dX4_hear_35 : decode cX4_hear 35 = .ok (.iload_n 1, 1) := by decide +kernel
theorem dX4_hear_36 : decode cX4_hear 36 = .ok (.baload, 1) := by decide +kernel
theorem dX4_hear_37 : decode cX4_hear 37 = .ok (.ifCond .eq 9, 3) := by decide +kernel
theorem dX4_hear_40 : decode cX4_hear 40 = .ok (.aload_n 0, 1) := by decide +kernel
theorem dX4_hear_41 : decode cX4_hear 41 = .ok (.iconst 2, 1) := by decide +kernel
theorem dX4_hear_42 : decode cX4_hear 42 = .ok (.putfield 75, 3) := by decide +kernel
theorem dX4_hear_45 : decode cX4_hear 45 = .ok (.return_, 1) := by decide +kernel
theorem dX4_hear_46 : decode cX4_hear 46 = .ok (.aload_n 0, 1) := by decide +kernel
theorem dX4_hear_47 : decode cX4_hear 47 = .ok (.getfield 69, 3) := by decide +kernel
theorem dX4_hear_50 : decode cX4_hear 50 = .ok (.iload_n 1, 1) := by decide +kernel
theorem dX4_hear_51 : decode cX4_hear 51 = .ok (.iconst 1, 1) := by decide +kernel
theorem dX4_hear_52 : decode cX4_hear 52 = .ok (.bastore, 1) := by decide +kernel
theorem dX4_hear_53 : decode cX4_hear 53 = .ok (.return_, 1) := by decide +kernel
theorem dX4_areLike_0 : decode cX4_areLike 0 = .ok (.iload_n 1, 1) := by decide +kernel
theorem dX4_areLike_1 : decode cX4_areLike 1 = .ok (.iload_n 2, 1) := by decide +kernel
theorem dX4_areLike_2 : decode cX4_areLike 2 = .ok (.if_icmp .eq 37, 3) := by decide +kernel
theorem dX4_areLike_5 : decode cX4_areLike 5 = .ok (.aload_n 0, 1) := by decide +kernel
theorem dX4_areLike_6 : decode cX4_areLike 6 = .ok (.getfield 26, 3) := by decide +kernel
theorem dX4_areLike_9 : decode cX4_areLike 9 = .ok (.iload_n 1, 1) := by decide +kernel
theorem dX4_areLike_10 : decode cX4_areLike 10 = .ok (.iaload, 1) := by decide +kernel
theorem dX4_areLike_11 : decode cX4_areLike 11 = .ok (.aload_n 0, 1) := by decide +kernel
theorem dX4_areLike_12 : decode cX4_areLike 12 = .ok (.getfield 26, 3) := by decide +kernel
theorem dX4_areLike_15 : decode cX4_areLike 15 = .ok (.iload_n 2, 1) := by decide +kernel
theorem dX4_areLike_16 : decode cX4_areLike 16 = .ok (.iaload, 1) := by decide +kernel
theorem dX4_areLike_17 : decode cX4_areLike 17 = .ok (.if_icmp .ne 22, 3) := by decide +kernel
theorem dX4_areLike_20 : decode cX4_areLike 20 = .ok (.aload_n 0, 1) := by decide +kernel
theorem dX4_areLike_21 : decode cX4_areLike 21 = .ok (.getfield 23, 3) := by decide +kernel
theorem dX4_areLike_24 : decode cX4_areLike 24 = .ok (.iload_n 1, 1) := by decide +kernel
theorem dX4_areLike_25 : decode cX4_areLike 25 = .ok (.iaload, 1) := by decide +kernel
theorem dX4_areLike_26 : decode cX4_areLike 26 = .ok (.aload_n 0, 1) := by decide +kernel
theorem dX4_areLike_27 : decode cX4_areLike 27 = .ok (.getfield 23, 3) := by decide +kernel
theorem dX4_areLike_30 : decode cX4_areLike 30 = .ok (.iload_n 2, 1) := by decide +kernel
theorem dX4_areLike_31 : decode cX4_areLike 31 = .ok (.iaload, 1) := by decide +kernel
theorem dX4_areLike_32 : decode cX4_areLike 32 = .ok (.if_icmp .ne 7, 3) := by decide +kernel
theorem dX4_areLike_35 : decode cX4_areLike 35 = .ok (.iconst 1, 1) := by decide +kernel
theorem dX4_areLike_36 : decode cX4_areLike 36 = .ok (.goto 4, 3) := by decide +kernel
theorem dX4_areLike_39 : decode cX4_areLike 39 = .ok (.iconst 0, 1) := by decide +kernel
theorem dX4_areLike_40 : decode cX4_areLike 40 = .ok (.ireturn, 1) := by decide +kernel
set_option maxRecDepth 20000 in
theorem ggX4_likesOf_X4_areLike : GoodIn wsX4_likesOf wsX4_areLike := goodIn_r _ [6, 7, 8, 9, 10, 11, 12, 13, 14, 15, 16, 17, 18, 19, 20, 21, 22, 23, 24, 25, 26, 27, 28, 29, 30, 31, 32, 33, 34, 35] (by decide +kernel) (by decide +kernel)
set_option maxRecDepth 20000 in
theorem gX4_likesOf_X4_areLike : GoodIn wsX4_likesOf (wsV RX4 139 RX4 yX4_areLike wsX4_areLike) := goodIn_app (goodIn_of _ (by decide +kernel)) ggX4_likesOf_X4_areLike
theorem dX4_likesOf_0 : decode cX4_likesOf 0 = .ok (.iconst 0, 1) := by decide +kernel
theorem dX4_likesOf_1 : decode cX4_likesOf 1 = .ok (.istore_n 2, 1) := by decide +kernel
theorem dX4_likesOf_2 : decode cX4_likesOf 2 = .ok (.iconst 0, 1) := by decide +kernel
theorem dX4_likesOf_3 : decode cX4_likesOf 3 = .ok (.istore_n 3, 1) := by decide +kernel
theorem dX4_likesOf_4 : decode cX4_likesOf 4 = .ok (.iload_n 3, 1) := by decide +kernel
theorem dX4_likesOf_5 : decode cX4_likesOf 5 = .ok (.aload_n 0, 1) := by decide +kernel
theorem dX4_likesOf_6 : decode cX4_likesOf 6 = .ok (.getfield 86, 3) := by decide +kernel
theorem dX4_likesOf_9 : decode cX4_likesOf 9 = .ok (.if_icmp .ge 26, 3) := by decide +kernel
theorem dX4_likesOf_12 : decode cX4_likesOf 12 = .ok (.iload_n 2, 1) := by decide +kernel
theorem dX4_likesOf_13 : decode cX4_likesOf 13 = .ok (.aload_n 0, 1) := by decide +kernel
theorem dX4_likesOf_14 : decode cX4_likesOf 14 = .ok (.iload_n 1, 1) := by decide +kernel
theorem dX4_likesOf_15 : decode cX4_likesOf 15 = .ok (.iload_n 3, 1) := by decide +kernel
theorem dX4_likesOf_16 : decode cX4_likesOf 16 = .ok (.invokevirtual 139, 3) := by decide +kernel
theorem dX4_likesOf_19 : decode cX4_likesOf 19 = .ok (.ifCond .eq 7, 3) := by decide +kernel
theorem dX4_likesOf_22 : decode cX4_likesOf 22 = .ok (.iconst 1, 1) := by decide +kernel
theorem dX4_likesOf_23 : decode cX4_likesOf 23 = .ok (.goto 4, 3) := by decide +kernel
theorem dX4_likesOf_26 : decode cX4_likesOf 26 = .ok (.iconst 0, 1) := by decide +kernel
theorem dX4_likesOf_27 : decode cX4_likesOf 27 = .ok (.iadd, 1) := by decide +kernel
theorem dX4_likesOf_28 : decode cX4_likesOf 28 = .ok (.istore_n 2, 1) := by decide +kernel
theorem dX4_likesOf_29 : decode cX4_likesOf 29 = .ok (.iinc 3 1, 3) := by decide +kernel
theorem dX4_likesOf_32 : decode cX4_likesOf 32 = .ok (.goto (-28), 3) := by decide +kernel
theorem dX4_likesOf_35 : decode cX4_likesOf 35 = .ok (.iload_n 2, 1) := by decide +kernel
theorem dX4_likesOf_36 : decode cX4_likesOf 36 = .ok (.ireturn, 1) := by decide +kernel
theorem dX4_doesFail_0 : decode cX4_doesFail 0 = .ok (.aload_n 0, 1) := by decide +kernel
theorem dX4_doesFail_1 : decode cX4_doesFail 1 = .ok (.getfield 32, 3) := by decide +kernel
theorem dX4_doesFail_4 : decode cX4_doesFail 4 = .ok (.iload_n 1, 1) := by decide +kernel
theorem dX4_doesFail_5 : decode cX4_doesFail 5 = .ok (.iaload, 1) := by decide +kernel
theorem dX4_doesFail_6 : decode cX4_doesFail 6 = .ok (.aload_n 0, 1) := by decide +kernel
theorem dX4_doesFail_7 : decode cX4_doesFail 7 = .ok (.getfield 20, 3) := by decide +kernel
theorem dX4_doesFail_10 : decode cX4_doesFail 10 = .ok (.sipush 5001, 3) := by decide +kernel
theorem dX4_doesFail_13 : decode cX4_doesFail 13 = .ok (.aload_n 0, 1) := by decide +kernel
theorem dX4_doesFail_14 : decode cX4_doesFail 14 = .ok (.getfield 26, 3) := by decide +kernel
theorem dX4_doesFail_17 : decode cX4_doesFail 17 = .ok (.iload_n 1, 1) := by decide +kernel
theorem dX4_doesFail_18 : decode cX4_doesFail 18 = .ok (.iaload, 1) := by decide +kernel
theorem dX4_doesFail_19 : decode cX4_doesFail 19 = .ok (.imul, 1) := by decide +kernel
theorem dX4_doesFail_20 : decode cX4_doesFail 20 = .ok (.aload_n 0, 1) := by decide +kernel
theorem dX4_doesFail_21 : decode cX4_doesFail 21 = .ok (.getfield 29, 3) := by decide +kernel
theorem dX4_doesFail_24 : decode cX4_doesFail 24 = .ok (.iload_n 1, 1) := by decide +kernel
theorem dX4_doesFail_25 : decode cX4_doesFail 25 = .ok (.iaload, 1) := by decide +kernel
theorem dX4_doesFail_26 : decode cX4_doesFail 26 = .ok (.iadd, 1) := by decide +kernel
theorem dX4_doesFail_27 : decode cX4_doesFail 27 = .ok (.iaload, 1) := by decide +kernel
theorem dX4_doesFail_28 : decode cX4_doesFail 28 = .ok (.if_icmp .le 7, 3) := by decide +kernel
theorem dX4_doesFail_31 : decode cX4_doesFail 31 = .ok (.iconst 1, 1) := by decide +kernel
theorem dX4_doesFail_32 : decode cX4_doesFail 32 = .ok (.goto 4, 3) := by decide +kernel
theorem dX4_doesFail_35 : decode cX4_doesFail 35 = .ok (.iconst 0, 1) := by decide +kernel
theorem dX4_doesFail_36 : decode cX4_doesFail 36 = .ok (.ireturn, 1) := by decide +kernel
set_option maxRecDepth 20000 in
theorem ggX4_isUnequal_X4_likesOf : GoodIn wsX4_isUnequal wsX4_likesOf := goodIn_r _ [7, 1, 8, 9, 10, 6, 11, 12, 13, 14, 15, 16, 17, 18, 19, 20, 21, 22, 23, 24, 25, 26, 27, 28, 29, 30, 31, 32, 33, 34, 35, 36, 37, 38, 39, 40] (by decide +kernel) (by decide +kernel)
set_option maxRecDepth 20000 in
theorem gX4_isUnequal_X4_likesOf : GoodIn wsX4_isUnequal (wsV RX4 142 RX4 yX4_likesOf wsX4_likesOf) := goodIn_app (goodIn_of _ (by decide +kernel)) ggX4_isUnequal_X4_likesOf
set_option maxRecDepth 20000 in
theorem ggX4_isUnequal_X4_areLike : GoodIn wsX4_isUnequal wsX4_areLike := goodIn_r _ [11, 12, 13, 14, 15, 16, 17, 18, 19, 20, 21, 22, 23, 24, 25, 26, 27, 28, 29, 30, 31, 32, 33, 34, 35, 36, 37, 38, 39, 40] (by decide +kernel) (by decide +kernel)
set_option maxRecDepth 20000 in
theorem gX4_isUnequal_X4_areLike : GoodIn wsX4_isUnequal (wsV RX4 139 RX4 yX4_areLike wsX4_areLike) := goodIn_app (goodIn_of _ (by decide +kernel)) ggX4_isUnequal_X4_areLike
theorem dX4_isUnequal_0 : decode cX4_isUnequal 0 = .ok (.aload_n 0, 1) := by decide +kernel
theorem dX4_isUnequal_1 : decode cX4_isUnequal 1 = .ok (.iload_n 1, 1) := by decide +kernel
theorem dX4_isUnequal_2 : decode cX4_isUnequal 2 = .ok (.invokevirtual 142, 3) := by decide +kernel
theorem dX4_isUnequal_5 : decode cX4_isUnequal 5 = .ok (.istore_n 2, 1) := by decide +kernel
theorem dX4_isUnequal_6 : decode cX4_isUnequal 6 = .ok (.iconst 0, 1) := by decide +kernel
theorem dX4_isUnequal_7 : decode cX4_isUnequal 7 = .ok (.istore_n 3, 1) := by decide +kernel
theorem dX4_isUnequal_8 : decode cX4_isUnequal 8 = .ok (.iconst 0, 1) := by decide +kernel
theorem dX4_isUnequal_9 : decode cX4_isUnequal 9 = .ok (.istore 4, 2) := by decide +kernel
theorem dX4_isUnequal_11 : decode cX4_isUnequal 11 = .ok (.iload 4, 2) := by decide +kernel
theorem dX4_isUnequal_13 : decode cX4_isUnequal 13 = .ok (.aload_n 0, 1) := by decide +kernel
theorem dX4_isUnequal_14 : decode cX4_isUnequal 14 = .ok (.getfield 86, 3) := by decide +kernel
theorem dX4_isUnequal_17 : decode cX4_isUnequal 17 = .ok (.if_icmp .ge 33, 3) := by decide +kernel
theorem dX4_isUnequal_20 : decode cX4_isUnequal 20 = .ok (.iload_n 3, 1) := by decide +kernel
theorem dX4_isUnequal_21 : decode cX4_isUnequal 21 = .ok (.aload_n 0, 1) := by decide +kernel
theorem dX4_isUnequal_22 : decode cX4_isUnequal 22 = .ok (.iload_n 1, 1) := by decide +kernel
theorem dX4_isUnequal_23 : decode cX4_isUnequal 23 = .ok (.iload 4, 2) := by decide +kernel
theorem dX4_isUnequal_25 : decode cX4_isUnequal 25 = .ok (.invokevirtual 139, 3) := by decide +kernel
theorem dX4_isUnequal_28 : decode cX4_isUnequal 28 = .ok (.ifCond .eq 13, 3) := by decide +kernel
theorem dX4_isUnequal_31 : decode cX4_isUnequal 31 = .ok (.aload_n 0, 1) := by decide +kernel
theorem dX4_isUnequal_32 : decode cX4_isUnequal 32 = .ok (.getfield 32, 3) := by decide +kernel
theorem dX4_isUnequal_35 : decode cX4_isUnequal 35 = .ok (.iload 4, 2) := by decide +kernel
theorem dX4_isUnequal_37 : decode cX4_isUnequal 37 = .ok (.iaload, 1) := by decide +kernel
theorem dX4_isUnequal_38 : decode cX4_isUnequal 38 = .ok (.goto 4, 3) := by decide +kernel
theorem dX4_isUnequal_41 : decode cX4_isUnequal 41 = .ok (.iconst 0, 1) := by decide +kernel
theorem dX4_isUnequal_42 : decode cX4_isUnequal 42 = .ok (.iadd, 1) := by decide +kernel
theorem dX4_isUnequal_43 : decode cX4_isUnequal 43 = .ok (.istore_n 3, 1) := by decide +kernel
theorem dX4_isUnequal_44 : decode cX4_isUnequal 44 = .ok (.iinc 4 1, 3) := by decide +kernel
theorem dX4_isUnequal_47 : decode cX4_isUnequal 47 = .ok (.goto (-36), 3) := by decide +kernel
theorem dX4_isUnequal_50 : decode cX4_isUnequal 50 = .ok (.iload_n 2, 1) := by decide +kernel
theorem dX4_isUnequal_51 : decode cX4_isUnequal 51 = .ok (.iconst 2, 1) := by decide +kernel
theorem dX4_isUnequal_52 : decode cX4_isUnequal 52 = .ok (.if_icmp .lt 21, 3) := by decide +kernel
theorem dX4_isUnequal_55 : decode cX4_isUnequal 55 = .ok (.aload_n 0, 1) := by decide +kernel
theorem dX4_isUnequal_56 : decode cX4_isUnequal 56 = .ok (.getfield 32, 3) := by decide +kernel
theorem dX4_isUnequal_59 : decode cX4_isUnequal 59 = .ok (.iload_n 1, 1) := by decide +kernel
theorem dX4_isUnequal_60 : decode cX4_isUnequal 60 = .ok (.iaload, 1) := by decide +kernel
theorem dX4_isUnequal_61 : decode cX4_isUnequal 61 = .ok (.iconst 2, 1) := by decide +kernel
theorem dX4_isUnequal_62 : decode cX4_isUnequal 62 = .ok (.iload_n 3, 1) := by decide +kernel
theorem dX4_isUnequal_63 : decode cX4_isUnequal 63 = .ok (.iload_n 2, 1) := by decide +kernel
theorem dX4_isUnequal_64 : decode cX4_isUnequal 64 = .ok (.idiv, 1) := by decide +kernel
theorem dX4_isUnequal_65 : decode cX4_isUnequal 65 = .ok (.imul, 1) := by decide +kernel
theorem dX4_isUnequal_66 : decode cX4_isUnequal 66 = .ok (.if_icmp .le 7, 3) := by decide +kernel
theorem dX4_isUnequal_69 : decode cX4_isUnequal 69 = .ok (.iconst 1, 1) := by decide +kernel
theorem dX4_isUnequal_70 : decode cX4_isUnequal 70 = .ok (.goto 4, 3) := by decide +kernel
theorem dX4_isUnequal_73 : decode cX4_isUnequal 73 = .ok (.iconst 0, 1) := by decide +kernel
theorem dX4_isUnequal_74 : decode cX4_isUnequal 74 = .ok (.ireturn, 1) := by decide +kernel
set_option maxRecDepth 20000 in
theorem ggX4_faultOf_X4_doesFail : GoodIn wsX4_faultOf wsX4_doesFail := goodIn_r _ [5, 6, 7, 8, 9, 24, 25, 26, 27, 28, 29, 30, 31, 32, 33, 34, 35, 36, 37, 38, 39, 40, 41, 42, 43, 44, 45, 46, 47, 48, 49, 50] (by decide +kernel) (by decide +kernel)
set_option maxRecDepth 20000 in
theorem gX4_faultOf_X4_doesFail : GoodIn wsX4_faultOf (wsV RX4 145 RX4 yX4_doesFail wsX4_doesFail) := goodIn_app (goodIn_of _ (by decide +kernel)) ggX4_faultOf_X4_doesFail
set_option maxRecDepth 20000 in
theorem ggX4_faultOf_X4_isUnequal : GoodIn wsX4_faultOf wsX4_isUnequal := goodIn_r _ [13, 14, 6, 15, 16, 17, 4, 18, 19, 20, 21, 22, 8, 23, 24, 25, 26, 27, 28, 29, 30, 31, 32, 33, 34, 35, 36, 37, 38, 39, 40, 41, 42, 43, 44, 45, 46, 47, 48, 49, 50] (by decide +kernel) (by decide +kernel)
set_option maxRecDepth 20000 in
theorem gX4_faultOf_X4_isUnequal : GoodIn wsX4_faultOf (wsV RX4 148 RX4 yX4_isUnequal wsX4_isUnequal) := goodIn_app (goodIn_of _ (by decide +kernel)) ggX4_faultOf_X4_isUnequal
theorem dX4_faultOf_0 : decode cX4_faultOf 0 = .ok (.aload_n 0, 1) := by decide +kernel
theorem dX4_faultOf_1 : decode cX4_faultOf 1 = .ok (.iload_n 1, 1) := by decide +kernel
theorem dX4_faultOf_2 : decode cX4_faultOf 2 = .ok (.invokevirtual 145, 3) := by decide +kernel
theorem dX4_faultOf_5 : decode cX4_faultOf 5 = .ok (.ifCond .eq 7, 3) := by decide +kernel
theorem dX4_faultOf_8 : decode cX4_faultOf 8 = .ok (.iconst 1, 1) := by decide +kernel
theorem dX4_faultOf_9 : decode cX4_faultOf 9 = .ok (.goto 4, 3) := by decide +kernel
theorem dX4_faultOf_12 : decode cX4_faultOf 12 = .ok (.iconst 0, 1) := by decide +kernel
theorem dX4_faultOf_13 : decode cX4_faultOf 13 = .ok (.aload_n 0, 1) := by decide +kernel
theorem dX4_faultOf_14 : decode cX4_faultOf 14 = .ok (.iload_n 1, 1) := by decide +kernel
theorem dX4_faultOf_15 : decode cX4_faultOf 15 = .ok (.invokevirtual 148, 3) := by decide +kernel
theorem dX4_faultOf_18 : decode cX4_faultOf 18 = .ok (.ifCond .eq 7, 3) := by decide +kernel
theorem dX4_faultOf_21 : decode cX4_faultOf 21 = .ok (.iconst 2, 1) := by decide +kernel
theorem dX4_faultOf_22 : decode cX4_faultOf 22 = .ok (.goto 4, 3) := by decide +kernel
theorem dX4_faultOf_25 : decode cX4_faultOf 25 = .ok (.iconst 0, 1) := by decide +kernel
theorem dX4_faultOf_26 : decode cX4_faultOf 26 = .ok (.iadd, 1) := by decide +kernel
theorem dX4_faultOf_27 : decode cX4_faultOf 27 = .ok (.ireturn, 1) := by decide +kernel
set_option maxRecDepth 20000 in
theorem ggX4_find_X4_isComplaint : GoodIn wsX4_find wsX4_isComplaint := goodIn_r _ [9, 10, 11, 12, 8, 13, 49, 50, 51, 52, 53, 54, 55, 56, 57, 58, 59, 60, 61, 62, 63, 64, 65, 66, 67, 68, 69, 70, 71, 72, 73, 74, 75] (by decide +kernel) (by decide +kernel)
set_option maxRecDepth 20000 in
theorem gX4_find_X4_isComplaint : GoodIn wsX4_find (wsV RX4 133 RX4 yX4_isComplaint wsX4_isComplaint) := goodIn_app (goodIn_of _ (by decide +kernel)) ggX4_find_X4_isComplaint
set_option maxRecDepth 20000 in
theorem ggX4_find_X4_asks : GoodIn wsX4_find wsX4_asks := goodIn_r _ [17, 18, 49, 50, 51, 52, 53, 54, 55, 56, 57, 58, 59, 60, 61, 62, 63, 64, 65, 66, 67, 68, 69, 70, 71, 72, 73, 74, 75] (by decide +kernel) (by decide +kernel)
set_option maxRecDepth 20000 in
theorem gX4_find_X4_asks : GoodIn wsX4_find (wsV RX4 92 RX4 yX4_asks wsX4_asks) := goodIn_app (goodIn_of _ (by decide +kernel)) ggX4_find_X4_asks
set_option maxRecDepth 20000 in
theorem ggX4_find_X4_fails : GoodIn wsX4_find wsX4_fails := goodIn_r _ [22, 18, 49, 50, 51, 52, 53, 54, 55, 56, 57, 58, 59, 60, 61, 62, 63, 64, 65, 66, 67, 68, 69, 70, 71, 72, 73, 74, 75] (by decide +kernel) (by decide +kernel)
set_option maxRecDepth 20000 in
theorem gX4_find_X4_fails : GoodIn wsX4_find (wsV RX4 99 RX4 yX4_fails wsX4_fails) := goodIn_app (goodIn_of _ (by decide +kernel)) ggX4_find_X4_fails
set_option maxRecDepth 20000 in
theorem ggX4_find_X4_faultOf : GoodIn wsX4_find wsX4_faultOf := goodIn_r _ [26, 27, 28, 29, 8, 30, 31, 32, 33, 34, 35, 36, 37, 38, 39, 40, 41, 42, 43, 44, 45, 46, 47, 48, 49, 50, 51, 52, 53, 54, 55, 56, 57, 58, 59, 60, 61, 62, 63, 64, 65, 66, 67, 68, 69, 70, 71, 72, 73, 74, 75] (by decide +kernel) (by decide +kernel)
set_option maxRecDepth 20000 in
theorem gX4_find_X4_faultOf : GoodIn wsX4_find (wsV RX4 151 RX4 yX4_faultOf wsX4_faultOf) := goodIn_app (goodIn_of _ (by decide +kernel)) ggX4_find_X4_faultOf
theorem dX4_find_0 : decode cX4_find 0 = .ok (.aload_n 0, 1) := by decide +kernel
theorem dX4_find_1 : decode cX4_find 1 = .ok (.aload_n 0, 1) := by decide +kernel
theorem dX4_find_2 : decode cX4_find 2 = .ok (.iload_n 1, 1) := by decide +kernel
theorem dX4_find_3 : decode cX4_find 3 = .ok (.invokevirtual 133, 3) := by decide +kernel
theorem dX4_find_6 : decode cX4_find 6 = .ok (.invokevirtual 92, 3) := by decide +kernel
theorem dX4_find_9 : decode cX4_find 9 = .ok (.ifCond .ne 5, 3) := by decide +kernel
theorem dX4_find_12 : decode cX4_find 12 = .ok (.iconst 0, 1) := by decide +kernel
theorem dX4_find_13 : decode cX4_find 13 = .ok (.ireturn, 1) := by decide +kernel
theorem dX4_find_14 : decode cX4_find 14 = .ok (.aload_n 0, 1) := by decide +kernel
theorem dX4_find_15 : decode cX4_find 15 = .ok (.getfield 54, 3) := by decide +kernel
theorem dX4_find_18 : decode cX4_find 18 = .ok (.iload_n 1, 1) := by decide +kernel
theorem dX4_find_19 : decode cX4_find 19 = .ok (.iaload, 1) := by decide +kernel
theorem dX4_find_20 : decode cX4_find 20 = .ok (.ifCond .ne 12, 3) := by decide +kernel
theorem dX4_find_23 : decode cX4_find 23 = .ok (.aload_n 0, 1) := by decide +kernel
theorem dX4_find_24 : decode cX4_find 24 = .ok (.getfield 69, 3) := by decide +kernel
theorem dX4_find_27 : decode cX4_find 27 = .ok (.iload_n 1, 1) := by decide +kernel
theorem dX4_find_28 : decode cX4_find 28 = .ok (.baload, 1) := by decide +kernel
theorem dX4_find_29 : decode cX4_find 29 = .ok (.ifCond .ne 9, 3) := by decide +kernel
theorem dX4_find_32 : decode cX4_find 32 = .ok (.aload_n 0, 1) := by decide +kernel
theorem dX4_find_33 : decode cX4_find 33 = .ok (.iconst 2, 1) := by decide +kernel
theorem dX4_find_34 : decode cX4_find 34 = .ok (.invokevirtual 99, 3) := by decide +kernel
theorem dX4_find_37 : decode cX4_find 37 = .ok (.ireturn, 1) := by decide +kernel
theorem dX4_find_38 : decode cX4_find 38 = .ok (.aload_n 0, 1) := by decide +kernel
theorem dX4_find_39 : decode cX4_find 39 = .ok (.getfield 54, 3) := by decide +kernel
theorem dX4_find_42 : decode cX4_find 42 = .ok (.iload_n 1, 1) := by decide +kernel
theorem dX4_find_43 : decode cX4_find 43 = .ok (.iconst 1, 1) := by decide +kernel
theorem dX4_find_44 : decode cX4_find 44 = .ok (.iastore, 1) := by decide +kernel
theorem dX4_find_45 : decode cX4_find 45 = .ok (.aload_n 0, 1) := by decide +kernel
theorem dX4_find_46 : decode cX4_find 46 = .ok (.getfield 72, 3) := by decide +kernel
theorem dX4_find_49 : decode cX4_find 49 = .ok (.iload_n 1, 1) := by decide +kernel
theorem dX4_find_50 : decode cX4_find 50 = .ok (.aload_n 0, 1) := by decide +kernel
theorem dX4_find_51 : decode cX4_find 51 = .ok (.aload_n 0, 1) := by decide +kernel
theorem dX4_find_52 : decode cX4_find 52 = .ok (.getfield 51, 3) := by decide +kernel
theorem dX4_find_55 : decode cX4_find 55 = .ok (.iload_n 1, 1) := by decide +kernel
theorem dX4_find_56 : decode cX4_find 56 = .ok (.iaload, 1) := by decide +kernel
theorem dX4_find_57 : decode cX4_find 57 = .ok (.invokevirtual 151, 3) := by decide +kernel
theorem dX4_find_60 : decode cX4_find 60 = .ok (.iastore, 1) := by decide +kernel
theorem dX4_find_61 : decode cX4_find 61 = .ok (.aload_n 0, 1) := by decide +kernel
theorem dX4_find_62 : decode cX4_find 62 = .ok (.getfield 72, 3) := by decide +kernel
theorem dX4_find_65 : decode cX4_find 65 = .ok (.iload_n 1, 1) := by decide +kernel
theorem dX4_find_66 : decode cX4_find 66 = .ok (.iaload, 1) := by decide +kernel
theorem dX4_find_67 : decode cX4_find 67 = .ok (.ireturn, 1) := by decide +kernel
set_option maxRecDepth 20000 in
theorem ggX4_remedy_X4_isComplaint : GoodIn wsX4_remedy wsX4_isComplaint := goodIn_r _ [11, 12, 13, 14, 10, 15, 50, 51, 52, 53, 54, 55, 56, 57, 58, 59, 60, 61, 62, 63, 64, 65, 66, 67, 68, 69, 70, 71, 72, 73, 74, 75, 76] (by decide +kernel) (by decide +kernel)
set_option maxRecDepth 20000 in
theorem gX4_remedy_X4_isComplaint : GoodIn wsX4_remedy (wsV RX4 133 RX4 yX4_isComplaint wsX4_isComplaint) := goodIn_app (goodIn_of _ (by decide +kernel)) ggX4_remedy_X4_isComplaint
set_option maxRecDepth 20000 in
theorem ggX4_remedy_X4_asks : GoodIn wsX4_remedy wsX4_asks := goodIn_r _ [19, 20, 50, 51, 52, 53, 54, 55, 56, 57, 58, 59, 60, 61, 62, 63, 64, 65, 66, 67, 68, 69, 70, 71, 72, 73, 74, 75, 76] (by decide +kernel) (by decide +kernel)
set_option maxRecDepth 20000 in
theorem gX4_remedy_X4_asks : GoodIn wsX4_remedy (wsV RX4 92 RX4 yX4_asks wsX4_asks) := goodIn_app (goodIn_of _ (by decide +kernel)) ggX4_remedy_X4_asks
set_option maxRecDepth 20000 in
theorem ggX4_remedy_X4_in : GoodIn wsX4_remedy wsX4_in := goodIn_r _ [15] (by decide +kernel) (by decide +kernel)
set_option maxRecDepth 20000 in
theorem gX4_remedy_X4_in : GoodIn wsX4_remedy (va_wsS RX4 82 yX4_in wsX4_in) := goodIn_app (goodIn_of _ (by decide +kernel)) ggX4_remedy_X4_in
set_option maxRecDepth 20000 in
theorem ggX4_remedy_X4_fails : GoodIn wsX4_remedy wsX4_fails := goodIn_r _ [24, 20, 50, 51, 52, 53, 54, 55, 56, 57, 58, 59, 60, 61, 62, 63, 64, 65, 66, 67, 68, 69, 70, 71, 72, 73, 74, 75, 76] (by decide +kernel) (by decide +kernel)
set_option maxRecDepth 20000 in
theorem gX4_remedy_X4_fails : GoodIn wsX4_remedy (wsV RX4 99 RX4 yX4_fails wsX4_fails) := goodIn_app (goodIn_of _ (by decide +kernel)) ggX4_remedy_X4_fails
set_option maxRecDepth 20000 in
theorem ggX4_remedy_X4_areLike : GoodIn wsX4_remedy wsX4_areLike := goodIn_r _ [28, 29, 30, 50, 51, 52, 53, 54, 55, 56, 57, 58, 59, 60, 61, 62, 63, 64, 65, 66, 67, 68, 69, 70, 71, 72, 73, 74, 75, 76] (by decide +kernel) (by decide +kernel)
set_option maxRecDepth 20000 in
theorem gX4_remedy_X4_areLike : GoodIn wsX4_remedy (wsV RX4 139 RX4 yX4_areLike wsX4_areLike) := goodIn_app (goodIn_of _ (by decide +kernel)) ggX4_remedy_X4_areLike
set_option maxRecDepth 20000 in
theorem ggX4_remedy_X4_faultOf : GoodIn wsX4_remedy wsX4_faultOf := goodIn_r _ [34, 35, 36, 37, 10, 38, 39, 40, 29, 41, 42, 43, 44, 45, 4, 46, 47, 48, 49, 25, 26, 27, 28, 30, 50, 51, 52, 53, 54, 55, 56, 57, 58, 59, 60, 61, 62, 63, 64, 65, 66, 67, 68, 69, 70, 71, 72, 73, 74, 75, 76] (by decide +kernel) (by decide +kernel)
set_option maxRecDepth 20000 in
theorem gX4_remedy_X4_faultOf : GoodIn wsX4_remedy (wsV RX4 151 RX4 yX4_faultOf wsX4_faultOf) := goodIn_app (goodIn_of _ (by decide +kernel)) ggX4_remedy_X4_faultOf
theorem dX4_remedy_0 : decode cX4_remedy 0 = .ok (.aload_n 0, 1) := by decide +kernel
theorem dX4_remedy_1 : decode cX4_remedy 1 = .ok (.aload_n 0, 1) := by decide +kernel
theorem dX4_remedy_2 : decode cX4_remedy 2 = .ok (.iload_n 1, 1) := by decide +kernel
theorem dX4_remedy_3 : decode cX4_remedy 3 = .ok (.invokevirtual 133, 3) := by decide +kernel
theorem dX4_remedy_6 : decode cX4_remedy 6 = .ok (.invokevirtual 92, 3) := by decide +kernel
theorem dX4_remedy_9 : decode cX4_remedy 9 = .ok (.ifCond .ne 5, 3) := by decide +kernel
theorem dX4_remedy_12 : decode cX4_remedy 12 = .ok (.iconst 0, 1) := by decide +kernel
theorem dX4_remedy_13 : decode cX4_remedy 13 = .ok (.ireturn, 1) := by decide +kernel
theorem dX4_remedy_14 : decode cX4_remedy 14 = .ok (.iload_n 2, 1) := by decide +kernel
theorem dX4_remedy_15 : decode cX4_remedy 15 = .ok (.iconst 0, 1) := by decide +kernel
theorem dX4_remedy_16 : decode cX4_remedy 16 = .ok (.bipush 100, 2) := by decide +kernel
theorem dX4_remedy_18 : decode cX4_remedy 18 = .ok (.invokestatic 82, 3) := by decide +kernel
theorem dX4_remedy_21 : decode cX4_remedy 21 = .ok (.ifCond .ne 9, 3) := by decide +kernel
theorem dX4_remedy_24 : decode cX4_remedy 24 = .ok (.aload_n 0, 1) := by decide +kernel
theorem dX4_remedy_25 : decode cX4_remedy 25 = .ok (.iconst 2, 1) := by decide +kernel
theorem dX4_remedy_26 : decode cX4_remedy 26 = .ok (.invokevirtual 99, 3) := by decide +kernel
theorem dX4_remedy_29 : decode cX4_remedy 29 = .ok (.ireturn, 1) := by decide +kernel
theorem dX4_remedy_30 : decode cX4_remedy 30 = .ok (.aload_n 0, 1) := by decide +kernel
theorem dX4_remedy_31 : decode cX4_remedy 31 = .ok (.getfield 54, 3) := by decide +kernel
theorem dX4_remedy_34 : decode cX4_remedy 34 = .ok (.iload_n 1, 1) := by decide +kernel
theorem dX4_remedy_35 : decode cX4_remedy 35 = .ok (.iaload, 1) := by decide +kernel
theorem dX4_remedy_36 : decode cX4_remedy 36 = .ok (.iconst 1, 1) := by decide +kernel
theorem dX4_remedy_37 : decode cX4_remedy 37 = .ok (.if_icmp .ne 12, 3) := by decide +kernel
theorem dX4_remedy_40 : decode cX4_remedy 40 = .ok (.aload_n 0, 1) := by decide +kernel
theorem dX4_remedy_41 : decode cX4_remedy 41 = .ok (.getfield 72, 3) := by decide +kernel
theorem dX4_remedy_44 : decode cX4_remedy 44 = .ok (.iload_n 1, 1) := by decide +kernel
theorem dX4_remedy_45 : decode cX4_remedy 45 = .ok (.iaload, 1) := by decide +kernel
theorem dX4_remedy_46 : decode cX4_remedy 46 = .ok (.ifCond .ne 9, 3) := by decide +kernel
theorem dX4_remedy_49 : decode cX4_remedy 49 = .ok (.aload_n 0, 1) := by decide +kernel
theorem dX4_remedy_50 : decode cX4_remedy 50 = .ok (.iconst 3, 1) := by decide +kernel
theorem dX4_remedy_51 : decode cX4_remedy 51 = .ok (.invokevirtual 99, 3) := by decide +kernel
theorem dX4_remedy_54 : decode cX4_remedy 54 = .ok (.ireturn, 1) := by decide +kernel
theorem dX4_remedy_55 : decode cX4_remedy 55 = .ok (.aload_n 0, 1) := by decide +kernel
theorem dX4_remedy_56 : decode cX4_remedy 56 = .ok (.getfield 51, 3) := by decide +kernel
theorem dX4_remedy_59 : decode cX4_remedy 59 = .ok (.iload_n 1, 1) := by decide +kernel
theorem dX4_remedy_60 : decode cX4_remedy 60 = .ok (.iaload, 1) := by decide +kernel
theorem dX4_remedy_61 : decode cX4_remedy 61 = .ok (.istore_n 3, 1) := by decide +kernel
theorem dX4_remedy_62 : decode cX4_remedy 62 = .ok (.iconst 0, 1) := by decide +kernel
theorem dX4_remedy_63 : decode cX4_remedy 63 = .ok (.istore 4, 2) := by decide +kernel
theorem dX4_remedy_65 : decode cX4_remedy 65 = .ok (.iconst 0, 1) := by decide +kernel
theorem dX4_remedy_66 : decode cX4_remedy 66 = .ok (.istore 5, 2) := by decide +kernel
theorem dX4_remedy_68 : decode cX4_remedy 68 = .ok (.iload 5, 2) := by decide +kernel
theorem dX4_remedy_70 : decode cX4_remedy 70 = .ok (.aload_n 0, 1) := by decide +kernel
theorem dX4_remedy_71 : decode cX4_remedy 71 = .ok (.getfield 86, 3) := by decide +kernel
theorem dX4_remedy_74 : decode cX4_remedy 74 = .ok (.if_icmp .ge 56, 3) := by decide +kernel
theorem dX4_remedy_77 : decode cX4_remedy 77 = .ok (.iload 5, 2) := by decide +kernel
theorem dX4_remedy_79 : decode cX4_remedy 79 = .ok (.iload_n 3, 1) := by decide +kernel
theorem dX4_remedy_80 : decode cX4_remedy 80 = .ok (.if_icmp .eq 22, 3) := by decide +kernel
theorem dX4_remedy_83 : decode cX4_remedy 83 = .ok (.aload_n 0, 1) := by decide +kernel
theorem dX4_remedy_84 : decode cX4_remedy 84 = .ok (.iload_n 3, 1) := by decide +kernel
theorem dX4_remedy_85 : decode cX4_remedy 85 = .ok (.iload 5, 2) := by decide +kernel
theorem dX4_remedy_87 : decode cX4_remedy 87 = .ok (.invokevirtual 139, 3) := by decide +kernel
theorem dX4_remedy_90 : decode cX4_remedy 90 = .ok (.ifCond .eq 34, 3) := by decide +kernel
theorem dX4_remedy_93 : decode cX4_remedy 93 = .ok (.aload_n 0, 1) := by decide +kernel
theorem dX4_remedy_94 : decode cX4_remedy 94 = .ok (.iload 5, 2) := by decide +kernel
theorem dX4_remedy_96 : decode cX4_remedy 96 = .ok (.invokevirtual 151, 3) := by decide +kernel
theorem dX4_remedy_99 : decode cX4_remedy 99 = .ok (.ifCond .le 25, 3) := by decide +kernel
theorem dX4_remedy_102 : decode cX4_remedy 102 = .ok (.aload_n 0, 1) := by decide +kernel
theorem dX4_remedy_103 : decode cX4_remedy 103 = .ok (.getfield 45, 3) := by decide +kernel
theorem dX4_remedy_106 : decode cX4_remedy 106 = .ok (.iload 5, 2) := by decide +kernel
theorem dX4_remedy_108 : decode cX4_remedy 108 = .ok (.iload_n 2, 1) := by decide +kernel
theorem dX4_remedy_109 : decode cX4_remedy 109 = .ok (.aload_n 0, 1) := by decide +kernel
theorem dX4_remedy_110 : decode cX4_remedy 110 = .ok (.getfield 35, 3) := by decide +kernel
theorem dX4_remedy_113 : decode cX4_remedy 113 = .ok (.iload 5, 2) := by decide +kernel
theorem dX4_remedy_115 : decode cX4_remedy 115 = .ok (.iaload, 1) := by decide +kernel
theorem dX4_remedy_116 : decode cX4_remedy 116 = .ok (.imul, 1) := by decide +kernel
theorem dX4_remedy_117 : decode cX4_remedy 117 = .ok (.bipush 100, 2) := by decide +kernel
theorem dX4_remedy_119 : decode cX4_remedy 119 = .ok (.idiv, 1) := by decide +kernel
theorem dX4_remedy_120 : decode cX4_remedy 120 = .ok (.iastore, 1) := by decide +kernel
theorem dX4_remedy_121 : decode cX4_remedy 121 = .ok (.iinc 4 1, 3) := by decide +kernel
theorem dX4_remedy_124 : decode cX4_remedy 124 = .ok (.iinc 5 1, 3) := by decide +kernel
theorem dX4_remedy_127 : decode cX4_remedy 127 = .ok (.goto (-59), 3) := by decide +kernel
theorem dX4_remedy_130 : decode cX4_remedy 130 = .ok (.iload 4, 2) := by decide +kernel
theorem dX4_remedy_132 : decode cX4_remedy 132 = .ok (.ireturn, 1) := by decide +kernel
set_option maxRecDepth 20000 in
theorem ggX4_pass_X4_in : GoodIn wsX4_pass wsX4_in := goodIn_r _ [8] (by decide +kernel) (by decide +kernel)
set_option maxRecDepth 20000 in
theorem gX4_pass_X4_in : GoodIn wsX4_pass (va_wsS RX4 82 yX4_in wsX4_in) := goodIn_app (goodIn_of _ (by decide +kernel)) ggX4_pass_X4_in
set_option maxRecDepth 20000 in
theorem ggX4_pass_X4_asks : GoodIn wsX4_pass wsX4_asks := goodIn_r _ [12, 13, 24, 25, 26, 27, 28, 29, 30, 31, 32, 33, 34, 35, 36, 37, 38, 39, 40, 41, 42, 43, 44, 45, 46, 47, 48, 49, 50] (by decide +kernel) (by decide +kernel)
set_option maxRecDepth 20000 in
theorem gX4_pass_X4_asks : GoodIn wsX4_pass (wsV RX4 92 RX4 yX4_asks wsX4_asks) := goodIn_app (goodIn_of _ (by decide +kernel)) ggX4_pass_X4_asks
set_option maxRecDepth 20000 in
theorem ggX4_pass_X4_fails : GoodIn wsX4_pass wsX4_fails := goodIn_r _ [17, 13, 24, 25, 26, 27, 28, 29, 30, 31, 32, 33, 34, 35, 36, 37, 38, 39, 40, 41, 42, 43, 44, 45, 46, 47, 48, 49, 50] (by decide +kernel) (by decide +kernel)
set_option maxRecDepth 20000 in
theorem gX4_pass_X4_fails : GoodIn wsX4_pass (wsV RX4 99 RX4 yX4_fails wsX4_fails) := goodIn_app (goodIn_of _ (by decide +kernel)) ggX4_pass_X4_fails
set_option maxRecDepth 20000 in
theorem ggX4_pass_X4_isOwed : GoodIn wsX4_pass wsX4_isOwed := goodIn_r _ [21, 22, 23, 24, 25, 26, 27, 28, 29, 30, 31, 32, 33, 34, 35, 36, 37, 38, 39, 40, 41, 42, 43, 44, 45, 46, 47, 48, 49, 50] (by decide +kernel) (by decide +kernel)
set_option maxRecDepth 20000 in
theorem gX4_pass_X4_isOwed : GoodIn wsX4_pass (wsV RX4 136 RX4 yX4_isOwed wsX4_isOwed) := goodIn_app (goodIn_of _ (by decide +kernel)) ggX4_pass_X4_isOwed
theorem dX4_pass_0 : decode cX4_pass 0 = .ok (.aload_n 0, 1) := by decide +kernel
theorem dX4_pass_1 : decode cX4_pass 1 = .ok (.iload_n 1, 1) := by decide +kernel
theorem dX4_pass_2 : decode cX4_pass 2 = .ok (.iconst 1, 1) := by decide +kernel
theorem dX4_pass_3 : decode cX4_pass 3 = .ok (.bipush 100, 2) := by decide +kernel
theorem dX4_pass_5 : decode cX4_pass 5 = .ok (.invokestatic 82, 3) := by decide +kernel
theorem dX4_pass_8 : decode cX4_pass 8 = .ok (.invokevirtual 92, 3) := by decide +kernel
theorem dX4_pass_11 : decode cX4_pass 11 = .ok (.ifCond .ne 5, 3) := by decide +kernel
theorem dX4_pass_14 : decode cX4_pass 14 = .ok (.iconst 0, 1) := by decide +kernel
theorem dX4_pass_15 : decode cX4_pass 15 = .ok (.ireturn, 1) := by decide +kernel
theorem dX4_pass_16 : decode cX4_pass 16 = .ok (.aload_n 0, 1) := by decide +kernel
theorem dX4_pass_17 : decode cX4_pass 17 = .ok (.getfield 107, 3) := by decide +kernel
theorem dX4_pass_20 : decode cX4_pass 20 = .ok (.iload_n 1, 1) := by decide +kernel
theorem dX4_pass_21 : decode cX4_pass 21 = .ok (.iadd, 1) := by decide +kernel
theorem dX4_pass_22 : decode cX4_pass 22 = .ok (.sipush 5000, 3) := by decide +kernel
theorem dX4_pass_25 : decode cX4_pass 25 = .ok (.if_icmp .le 9, 3) := by decide +kernel
theorem dX4_pass_28 : decode cX4_pass 28 = .ok (.aload_n 0, 1) := by decide +kernel
theorem dX4_pass_29 : decode cX4_pass 29 = .ok (.iconst 2, 1) := by decide +kernel
theorem dX4_pass_30 : decode cX4_pass 30 = .ok (.invokevirtual 99, 3) := by decide +kernel
theorem dX4_pass_33 : decode cX4_pass 33 = .ok (.ireturn, 1) := by decide +kernel
theorem dX4_pass_34 : decode cX4_pass 34 = .ok (.iconst 0, 1) := by decide +kernel
theorem dX4_pass_35 : decode cX4_pass 35 = .ok (.istore_n 2, 1) := by decide +kernel
theorem dX4_pass_36 : decode cX4_pass 36 = .ok (.iload_n 2, 1) := by decide +kernel
theorem dX4_pass_37 : decode cX4_pass 37 = .ok (.iload_n 1, 1) := by decide +kernel
theorem dX4_pass_38 : decode cX4_pass 38 = .ok (.if_icmp .ge 82, 3) := by decide +kernel
theorem dX4_pass_41 : decode cX4_pass 41 = .ok (.aload_n 0, 1) := by decide +kernel
theorem dX4_pass_42 : decode cX4_pass 42 = .ok (.dup, 1) := by decide +kernel
theorem dX4_pass_43 : decode cX4_pass 43 = .ok (.getfield 107, 3) := by decide +kernel
theorem dX4_pass_46 : decode cX4_pass 46 = .ok (.iconst 1, 1) := by decide +kernel
theorem dX4_pass_47 : decode cX4_pass 47 = .ok (.iadd, 1) := by decide +kernel
theorem dX4_pass_48 : decode cX4_pass 48 = .ok (.putfield 107, 3) := by decide +kernel
theorem dX4_pass_51 : decode cX4_pass 51 = .ok (.iconst 0, 1) := by decide +kernel
theorem dX4_pass_52 : decode cX4_pass 52 = .ok (.istore_n 3, 1) := by decide +kernel
theorem dX4_pass_53 : decode cX4_pass 53 = .ok (.iload_n 3, 1) := by decide +kernel
theorem dX4_pass_54 : decode cX4_pass 54 = .ok (.aload_n 0, 1) := by decide +kernel
theorem dX4_pass_55 : decode cX4_pass 55 = .ok (.getfield 89, 3) := by decide +kernel
theorem dX4_pass_58 : decode cX4_pass 58 = .ok (.if_icmp .ge 56, 3) := by decide +kernel
theorem dX4_pass_61 : decode cX4_pass 61 = .ok (.aload_n 0, 1) := by decide +kernel
theorem dX4_pass_62 : decode cX4_pass 62 = .ok (.getfield 54, 3) := by decide +kernel
theorem dX4_pass_65 : decode cX4_pass 65 = .ok (.iload_n 3, 1) := by decide +kernel
theorem dX4_pass_66 : decode cX4_pass 66 = .ok (.iaload, 1) := by decide +kernel
theorem dX4_pass_67 : decode cX4_pass 67 = .ok (.ifCond .ne 41, 3) := by decide +kernel
theorem dX4_pass_70 : decode cX4_pass 70 = .ok (.aload_n 0, 1) := by decide +kernel
theorem dX4_pass_71 : decode cX4_pass 71 = .ok (.iload_n 3, 1) := by decide +kernel
theorem dX4_pass_72 : decode cX4_pass 72 = .ok (.invokevirtual 136, 3) := by decide +kernel
theorem dX4_pass_75 : decode cX4_pass 75 = .ok (.ifCond .ne 33, 3) := by decide +kernel
theorem dX4_pass_78 : decode cX4_pass 78 = .ok (.aload_n 0, 1) := by decide +kernel
theorem dX4_pass_79 : decode cX4_pass 79 = .ok (.getfield 57, 3) := by decide +kernel
theorem dX4_pass_82 : decode cX4_pass 82 = .ok (.iload_n 3, 1) := by decide +kernel
theorem dX4_pass_83 : decode cX4_pass 83 = .ok (.dup2, 1) := by decide +kernel
theorem dX4_pass_84 : decode cX4_pass 84 = .ok (.iaload, 1) := by decide +kernel
theorem dX4_pass_85 : decode cX4_pass 85 = .ok (.iconst 1, 1) := by decide +kernel
theorem dX4_pass_86 : decode cX4_pass 86 = .ok (.isub, 1) := by decide +kernel
theorem dX4_pass_87 : decode cX4_pass 87 = .ok (.iastore, 1) := by decide +kernel
theorem dX4_pass_88 : decode cX4_pass 88 = .ok (.aload_n 0, 1) := by decide +kernel
theorem dX4_pass_89 : decode cX4_pass 89 = .ok (.getfield 54, 3) := by decide +kernel
theorem dX4_pass_92 : decode cX4_pass 92 = .ok (.iload_n 3, 1) := by decide +kernel
theorem dX4_pass_93 : decode cX4_pass 93 = .ok (.aload_n 0, 1) := by decide +kernel
theorem dX4_pass_94 : decode cX4_pass 94 = .ok (.getfield 57, 3) := by decide +kernel
theorem dX4_pass_97 : decode cX4_pass 97 = .ok (.iload_n 3, 1) := by decide +kernel
theorem dX4_pass_98 : decode cX4_pass 98 = .ok (.iaload, 1) := by decide +kernel
theorem dX4_pass_99 : decode cX4_pass 99 = .ok (.ifCond .ne 7, 3) := by decide +kernel
theorem dX4_pass_102 : decode cX4_pass 102 = .ok (.iconst 2, 1) := by decide +kernel
theorem dX4_pass_103 : decode cX4_pass 103 = .ok (.goto 4, 3) := by decide +kernel
theorem dX4_pass_106 : decode cX4_pass 106 = .ok (.iconst 0, 1) := by decide +kernel
theorem dX4_pass_107 : decode cX4_pass 107 = .ok (.iastore, 1) := by decide +kernel
theorem dX4_pass_108 : decode cX4_pass 108 = .ok (.iinc 3 1, 3) := by decide +kernel
theorem dX4_pass_111 : decode cX4_pass 111 = .ok (.goto (-58), 3) := by decide +kernel
theorem dX4_pass_114 : decode cX4_pass 114 = .ok (.iinc 2 1, 3) := by decide +kernel
theorem dX4_pass_117 : decode cX4_pass 117 = .ok (.goto (-81), 3) := by decide +kernel
theorem dX4_pass_120 : decode cX4_pass 120 = .ok (.aload_n 0, 1) := by decide +kernel
theorem dX4_pass_121 : decode cX4_pass 121 = .ok (.getfield 107, 3) := by decide +kernel
theorem dX4_pass_124 : decode cX4_pass 124 = .ok (.ireturn, 1) := by decide +kernel
theorem dX4_ones_0 : decode cX4_ones 0 = .ok (.iconst 0, 1) := by decide +kernel
theorem dX4_ones_1 : decode cX4_ones 1 = .ok (.istore_n 1, 1) := by decide +kernel
theorem dX4_ones_2 : decode cX4_ones 2 = .ok (.iconst 0, 1) := by decide +kernel
theorem dX4_ones_3 : decode cX4_ones 3 = .ok (.istore_n 2, 1) := by decide +kernel
theorem dX4_ones_4 : decode cX4_ones 4 = .ok (.iload_n 2, 1) := by decide +kernel
theorem dX4_ones_5 : decode cX4_ones 5 = .ok (.bipush 10, 2) := by decide +kernel
theorem dX4_ones_7 : decode cX4_ones 7 = .ok (.if_icmp .ge 17, 3) := by decide +kernel
theorem dX4_ones_10 : decode cX4_ones 10 = .ok (.iload_n 1, 1) := by decide +kernel
theorem dX4_ones_11 : decode cX4_ones 11 = .ok (.iload_n 0, 1) := by decide +kernel
theorem dX4_ones_12 : decode cX4_ones 12 = .ok (.iload_n 2, 1) := by decide +kernel
theorem dX4_ones_13 : decode cX4_ones 13 = .ok (.ishr, 1) := by decide +kernel
theorem dX4_ones_14 : decode cX4_ones 14 = .ok (.iconst 1, 1) := by decide +kernel
theorem dX4_ones_15 : decode cX4_ones 15 = .ok (.iand, 1) := by decide +kernel
theorem dX4_ones_16 : decode cX4_ones 16 = .ok (.iadd, 1) := by decide +kernel
theorem dX4_ones_17 : decode cX4_ones 17 = .ok (.istore_n 1, 1) := by decide +kernel
theorem dX4_ones_18 : decode cX4_ones 18 = .ok (.iinc 2 1, 3) := by decide +kernel
theorem dX4_ones_21 : decode cX4_ones 21 = .ok (.goto (-17), 3) := by decide +kernel
theorem dX4_ones_24 : decode cX4_ones 24 = .ok (.iload_n 1, 1) := by decide +kernel
theorem dX4_ones_25 : decode cX4_ones 25 = .ok (.ireturn, 1) := by decide +kernel
set_option maxRecDepth 20000 in
theorem ggX4_about_X4_isComplaint : GoodIn wsX4_about wsX4_isComplaint := goodIn_r _ [10, 11, 12, 13, 9, 14, 33, 34, 35, 36, 37, 38, 39, 40, 41, 42, 43, 44, 45, 46, 47, 48, 49, 50, 51, 52, 53, 54, 55, 56, 57, 58, 59] (by decide +kernel) (by decide +kernel)
set_option maxRecDepth 20000 in
theorem gX4_about_X4_isComplaint : GoodIn wsX4_about (wsV RX4 133 RX4 yX4_isComplaint wsX4_isComplaint) := goodIn_app (goodIn_of _ (by decide +kernel)) ggX4_about_X4_isComplaint
set_option maxRecDepth 20000 in
theorem ggX4_about_X4_asks : GoodIn wsX4_about wsX4_asks := goodIn_r _ [18, 19, 33, 34, 35, 36, 37, 38, 39, 40, 41, 42, 43, 44, 45, 46, 47, 48, 49, 50, 51, 52, 53, 54, 55, 56, 57, 58, 59] (by decide +kernel) (by decide +kernel)
set_option maxRecDepth 20000 in
theorem gX4_about_X4_asks : GoodIn wsX4_about (wsV RX4 92 RX4 yX4_asks wsX4_asks) := goodIn_app (goodIn_of _ (by decide +kernel)) ggX4_about_X4_asks
set_option maxRecDepth 20000 in
theorem ggX4_about_X4_ones : GoodIn wsX4_about wsX4_ones := goodIn_r _ [22] (by decide +kernel) (by decide +kernel)
set_option maxRecDepth 20000 in
theorem gX4_about_X4_ones : GoodIn wsX4_about (va_wsS RX4 154 yX4_ones wsX4_ones) := goodIn_app (goodIn_of _ (by decide +kernel)) ggX4_about_X4_ones
set_option maxRecDepth 20000 in
theorem ggX4_about_X4_isOwed : GoodIn wsX4_about wsX4_isOwed := goodIn_r _ [26, 27, 28, 33, 34, 35, 36, 37, 38, 39, 40, 41, 42, 43, 44, 45, 46, 47, 48, 49, 50, 51, 52, 53, 54, 55, 56, 57, 58, 59] (by decide +kernel) (by decide +kernel)
set_option maxRecDepth 20000 in
theorem gX4_about_X4_isOwed : GoodIn wsX4_about (wsV RX4 136 RX4 yX4_isOwed wsX4_isOwed) := goodIn_app (goodIn_of _ (by decide +kernel)) ggX4_about_X4_isOwed
set_option maxRecDepth 20000 in
theorem ggX4_about_X4_fails : GoodIn wsX4_about wsX4_fails := goodIn_r _ [32, 19, 33, 34, 35, 36, 37, 38, 39, 40, 41, 42, 43, 44, 45, 46, 47, 48, 49, 50, 51, 52, 53, 54, 55, 56, 57, 58, 59] (by decide +kernel) (by decide +kernel)
set_option maxRecDepth 20000 in
theorem gX4_about_X4_fails : GoodIn wsX4_about (wsV RX4 99 RX4 yX4_fails wsX4_fails) := goodIn_app (goodIn_of _ (by decide +kernel)) ggX4_about_X4_fails
theorem dX4_about_0 : decode cX4_about 0 = .ok (.aload_n 0, 1) := by decide +kernel
theorem dX4_about_1 : decode cX4_about 1 = .ok (.aload_n 0, 1) := by decide +kernel
theorem dX4_about_2 : decode cX4_about 2 = .ok (.iload_n 1, 1) := by decide +kernel
theorem dX4_about_3 : decode cX4_about 3 = .ok (.invokevirtual 133, 3) := by decide +kernel
theorem dX4_about_6 : decode cX4_about 6 = .ok (.invokevirtual 92, 3) := by decide +kernel
theorem dX4_about_9 : decode cX4_about 9 = .ok (.ifCond .ne 5, 3) := by decide +kernel
theorem dX4_about_12 : decode cX4_about 12 = .ok (.iconst 0, 1) := by decide +kernel
theorem dX4_about_13 : decode cX4_about 13 = .ok (.ireturn, 1) := by decide +kernel
theorem dX4_about_14 : decode cX4_about 14 = .ok (.iload_n 2, 1) := by decide +kernel
theorem dX4_about_15 : decode cX4_about 15 = .ok (.tableswitch 89 0 5 #[37, 44, 51, 58, 68, 82], 37) := by decide +kernel
theorem dX4_about_52 : decode cX4_about 52 = .ok (.aload_n 0, 1) := by decide +kernel
theorem dX4_about_53 : decode cX4_about 53 = .ok (.getfield 54, 3) := by decide +kernel
theorem dX4_about_56 : decode cX4_about 56 = .ok (.iload_n 1, 1) := by decide +kernel
theorem dX4_about_57 : decode cX4_about 57 = .ok (.iaload, 1) := by decide +kernel
theorem dX4_about_58 : decode cX4_about 58 = .ok (.ireturn, 1) := by decide +kernel
theorem dX4_about_59 : decode cX4_about 59 = .ok (.aload_n 0, 1) := by decide +kernel
theorem dX4_about_60 : decode cX4_about 60 = .ok (.getfield 51, 3) := by decide +kernel
theorem dX4_about_63 : decode cX4_about 63 = .ok (.iload_n 1, 1) := by decide +kernel
theorem dX4_about_64 : decode cX4_about 64 = .ok (.iaload, 1) := by decide +kernel
theorem dX4_about_65 : decode cX4_about 65 = .ok (.ireturn, 1) := by decide +kernel
theorem dX4_about_66 : decode cX4_about 66 = .ok (.aload_n 0, 1) := by decide +kernel
theorem dX4_about_67 : decode cX4_about 67 = .ok (.getfield 57, 3) := by decide +kernel
theorem dX4_about_70 : decode cX4_about 70 = .ok (.iload_n 1, 1) := by decide +kernel
theorem dX4_about_71 : decode cX4_about 71 = .ok (.iaload, 1) := by decide +kernel
theorem dX4_about_72 : decode cX4_about 72 = .ok (.ireturn, 1) := by decide +kernel
theorem dX4_about_73 : decode cX4_about 73 = .ok (.aload_n 0, 1) := by decide +kernel
theorem dX4_about_74 : decode cX4_about 74 = .ok (.getfield 60, 3) := by decide +kernel
theorem dX4_about_77 : decode cX4_about 77 = .ok (.iload_n 1, 1) := by decide +kernel
theorem dX4_about_78 : decode cX4_about 78 = .ok (.iaload, 1) := by decide +kernel
theorem dX4_about_79 : decode cX4_about 79 = .ok (.invokestatic 154, 3) := by decide +kernel
theorem dX4_about_82 : decode cX4_about 82 = .ok (.ireturn, 1) := by decide +kernel
theorem dX4_about_83 : decode cX4_about 83 = .ok (.aload_n 0, 1) := by decide +kernel
theorem dX4_about_84 : decode cX4_about 84 = .ok (.iload_n 1, 1) := by decide +kernel
theorem dX4_about_85 : decode cX4_about 85 = .ok (.invokevirtual 136, 3) := by decide +kernel
theorem dX4_about_88 : decode cX4_about 88 = .ok (.ifCond .eq 7, 3) := by decide +kernel
theorem dX4_about_91 : decode cX4_about 91 = .ok (.iconst 1, 1) := by decide +kernel
theorem dX4_about_92 : decode cX4_about 92 = .ok (.goto 4, 3) := by decide +kernel
theorem dX4_about_95 : decode cX4_about 95 = .ok (.iconst 0, 1) := by decide +kernel
theorem dX4_about_96 : decode cX4_about 96 = .ok (.ireturn, 1) := by decide +kernel
theorem dX4_about_97 : decode cX4_about 97 = .ok (.aload_n 0, 1) := by decide +kernel
theorem dX4_about_98 : decode cX4_about 98 = .ok (.getfield 72, 3) := by decide +kernel
theorem dX4_about_101 : decode cX4_about 101 = .ok (.iload_n 1, 1) := by decide +kernel
theorem dX4_about_102 : decode cX4_about 102 = .ok (.iaload, 1) := by decide +kernel
theorem dX4_about_103 : decode cX4_about 103 = .ok (.ireturn, 1) := by decide +kernel
theorem dX4_about_104 : decode cX4_about 104 = .ok (.aload_n 0, 1) := by decide +kernel
theorem dX4_about_105 : decode cX4_about 105 = .ok (.iconst 2, 1) := by decide +kernel
theorem dX4_about_106 : decode cX4_about 106 = .ok (.invokevirtual 99, 3) := by decide +kernel
theorem dX4_about_109 : decode cX4_about 109 = .ok (.ireturn, 1) := by decide +kernel
set_option maxRecDepth 20000 in
theorem ggX4_reminder_X4_isComplaint : GoodIn wsX4_reminder wsX4_isComplaint := goodIn_r _ [10, 11, 12, 13, 9, 14, 25, 26, 27, 28, 29, 30, 31, 32, 33, 34, 35, 36, 37, 38, 39, 40, 41, 42, 43, 44, 45, 46, 47, 48, 49, 50, 51] (by decide +kernel) (by decide +kernel)
set_option maxRecDepth 20000 in
theorem gX4_reminder_X4_isComplaint : GoodIn wsX4_reminder (wsV RX4 133 RX4 yX4_isComplaint wsX4_isComplaint) := goodIn_app (goodIn_of _ (by decide +kernel)) ggX4_reminder_X4_isComplaint
set_option maxRecDepth 20000 in
theorem ggX4_reminder_X4_asks : GoodIn wsX4_reminder wsX4_asks := goodIn_r _ [18, 19, 25, 26, 27, 28, 29, 30, 31, 32, 33, 34, 35, 36, 37, 38, 39, 40, 41, 42, 43, 44, 45, 46, 47, 48, 49, 50, 51] (by decide +kernel) (by decide +kernel)
set_option maxRecDepth 20000 in
theorem gX4_reminder_X4_asks : GoodIn wsX4_reminder (wsV RX4 92 RX4 yX4_asks wsX4_asks) := goodIn_app (goodIn_of _ (by decide +kernel)) ggX4_reminder_X4_asks
set_option maxRecDepth 20000 in
theorem ggX4_reminder_X4_isOwed : GoodIn wsX4_reminder wsX4_isOwed := goodIn_r _ [23, 4, 24, 25, 26, 27, 28, 29, 30, 31, 32, 33, 34, 35, 36, 37, 38, 39, 40, 41, 42, 43, 44, 45, 46, 47, 48, 49, 50, 51] (by decide +kernel) (by decide +kernel)
set_option maxRecDepth 20000 in
theorem gX4_reminder_X4_isOwed : GoodIn wsX4_reminder (wsV RX4 136 RX4 yX4_isOwed wsX4_isOwed) := goodIn_app (goodIn_of _ (by decide +kernel)) ggX4_reminder_X4_isOwed
theorem dX4_reminder_0 : decode cX4_reminder 0 = .ok (.aload_n 0, 1) := by decide +kernel
theorem dX4_reminder_1 : decode cX4_reminder 1 = .ok (.aload_n 0, 1) := by decide +kernel
theorem dX4_reminder_2 : decode cX4_reminder 2 = .ok (.iload_n 1, 1) := by decide +kernel
theorem dX4_reminder_3 : decode cX4_reminder 3 = .ok (.invokevirtual 133, 3) := by decide +kernel
theorem dX4_reminder_6 : decode cX4_reminder 6 = .ok (.invokevirtual 92, 3) := by decide +kernel
theorem dX4_reminder_9 : decode cX4_reminder 9 = .ok (.ifCond .ne 5, 3) := by decide +kernel
theorem dX4_reminder_12 : decode cX4_reminder 12 = .ok (.iconst 0, 1) := by decide +kernel
theorem dX4_reminder_13 : decode cX4_reminder 13 = .ok (.ireturn, 1) := by decide +kernel
theorem dX4_reminder_14 : decode cX4_reminder 14 = .ok (.aload_n 0, 1) := by decide +kernel
theorem dX4_reminder_15 : decode cX4_reminder 15 = .ok (.iload_n 1, 1) := by decide +kernel
theorem dX4_reminder_16 : decode cX4_reminder 16 = .ok (.invokevirtual 136, 3) := by decide +kernel
theorem dX4_reminder_19 : decode cX4_reminder 19 = .ok (.ifCond .ne 5, 3) := by decide +kernel
theorem dX4_reminder_22 : decode cX4_reminder 22 = .ok (.iconst (-1), 1) := by decide +kernel
theorem dX4_reminder_23 : decode cX4_reminder 23 = .ok (.ireturn, 1) := by decide +kernel
theorem dX4_reminder_24 : decode cX4_reminder 24 = .ok (.aload_n 0, 1) := by decide +kernel
theorem dX4_reminder_25 : decode cX4_reminder 25 = .ok (.getfield 23, 3) := by decide +kernel
theorem dX4_reminder_28 : decode cX4_reminder 28 = .ok (.aload_n 0, 1) := by decide +kernel
theorem dX4_reminder_29 : decode cX4_reminder 29 = .ok (.getfield 51, 3) := by decide +kernel
theorem dX4_reminder_32 : decode cX4_reminder 32 = .ok (.iload_n 1, 1) := by decide +kernel
theorem dX4_reminder_33 : decode cX4_reminder 33 = .ok (.iaload, 1) := by decide +kernel
theorem dX4_reminder_34 : decode cX4_reminder 34 = .ok (.iaload, 1) := by decide +kernel
theorem dX4_reminder_35 : decode cX4_reminder 35 = .ok (.istore_n 2, 1) := by decide +kernel
theorem dX4_reminder_36 : decode cX4_reminder 36 = .ok (.aload_n 0, 1) := by decide +kernel
theorem dX4_reminder_37 : decode cX4_reminder 37 = .ok (.getfield 107, 3) := by decide +kernel
theorem dX4_reminder_40 : decode cX4_reminder 40 = .ok (.aload_n 0, 1) := by decide +kernel
theorem dX4_reminder_41 : decode cX4_reminder 41 = .ok (.getfield 63, 3) := by decide +kernel
theorem dX4_reminder_44 : decode cX4_reminder 44 = .ok (.iload_n 1, 1) := by decide +kernel
theorem dX4_reminder_45 : decode cX4_reminder 45 = .ok (.iaload, 1) := by decide +kernel
theorem dX4_reminder_46 : decode cX4_reminder 46 = .ok (.isub, 1) := by decide +kernel
theorem dX4_reminder_47 : decode cX4_reminder 47 = .ok (.bipush 10, 2) := by decide +kernel
theorem dX4_reminder_49 : decode cX4_reminder 49 = .ok (.idiv, 1) := by decide +kernel
theorem dX4_reminder_50 : decode cX4_reminder 50 = .ok (.istore_n 3, 1) := by decide +kernel
theorem dX4_reminder_51 : decode cX4_reminder 51 = .ok (.iconst 0, 1) := by decide +kernel
theorem dX4_reminder_52 : decode cX4_reminder 52 = .ok (.istore 4, 2) := by decide +kernel
theorem dX4_reminder_54 : decode cX4_reminder 54 = .ok (.iload 4, 2) := by decide +kernel
theorem dX4_reminder_56 : decode cX4_reminder 56 = .ok (.iload_n 3, 1) := by decide +kernel
theorem dX4_reminder_57 : decode cX4_reminder 57 = .ok (.if_icmp .ge 26, 3) := by decide +kernel
theorem dX4_reminder_60 : decode cX4_reminder 60 = .ok (.aload_n 0, 1) := by decide +kernel
theorem dX4_reminder_61 : decode cX4_reminder 61 = .ok (.getfield 13, 3) := by decide +kernel
theorem dX4_reminder_64 : decode cX4_reminder 64 = .ok (.iload_n 2, 1) := by decide +kernel
theorem dX4_reminder_65 : decode cX4_reminder 65 = .ok (.iaload, 1) := by decide +kernel
theorem dX4_reminder_66 : decode cX4_reminder 66 = .ok (.iconst (-1), 1) := by decide +kernel
theorem dX4_reminder_67 : decode cX4_reminder 67 = .ok (.if_icmp .eq 16, 3) := by decide +kernel
theorem dX4_reminder_70 : decode cX4_reminder 70 = .ok (.aload_n 0, 1) := by decide +kernel
theorem dX4_reminder_71 : decode cX4_reminder 71 = .ok (.getfield 13, 3) := by decide +kernel
theorem dX4_reminder_74 : decode cX4_reminder 74 = .ok (.iload_n 2, 1) := by decide +kernel
theorem dX4_reminder_75 : decode cX4_reminder 75 = .ok (.iaload, 1) := by decide +kernel
theorem dX4_reminder_76 : decode cX4_reminder 76 = .ok (.istore_n 2, 1) := by decide +kernel
theorem dX4_reminder_77 : decode cX4_reminder 77 = .ok (.iinc 4 1, 3) := by decide +kernel
theorem dX4_reminder_80 : decode cX4_reminder 80 = .ok (.goto (-26), 3) := by decide +kernel
theorem dX4_reminder_83 : decode cX4_reminder 83 = .ok (.iload_n 2, 1) := by decide +kernel
theorem dX4_reminder_84 : decode cX4_reminder 84 = .ok (.ireturn, 1) := by decide +kernel
set_option maxRecDepth 20000 in
theorem ggX4_fault_X4_isAct : GoodIn wsX4_fault wsX4_isAct := goodIn_r _ [5, 6, 7, 8, 4, 9, 40, 41, 42, 43, 44, 45, 46, 47, 48, 49, 50, 51, 52, 53, 54, 55, 56, 57, 58, 59, 60, 61, 62, 63, 64, 65, 66] (by decide +kernel) (by decide +kernel)
set_option maxRecDepth 20000 in
theorem gX4_fault_X4_isAct : GoodIn wsX4_fault (wsV RX4 120 RX4 yX4_isAct wsX4_isAct) := goodIn_app (goodIn_of _ (by decide +kernel)) ggX4_fault_X4_isAct
set_option maxRecDepth 20000 in
theorem ggX4_fault_X4_asks : GoodIn wsX4_fault wsX4_asks := goodIn_r _ [13, 14, 40, 41, 42, 43, 44, 45, 46, 47, 48, 49, 50, 51, 52, 53, 54, 55, 56, 57, 58, 59, 60, 61, 62, 63, 64, 65, 66] (by decide +kernel) (by decide +kernel)
set_option maxRecDepth 20000 in
theorem gX4_fault_X4_asks : GoodIn wsX4_fault (wsV RX4 92 RX4 yX4_asks wsX4_asks) := goodIn_app (goodIn_of _ (by decide +kernel)) ggX4_fault_X4_asks
set_option maxRecDepth 20000 in
theorem ggX4_fault_X4_faultOf : GoodIn wsX4_fault wsX4_faultOf := goodIn_r _ [18, 19, 20, 21, 4, 22, 23, 24, 25, 26, 27, 28, 29, 30, 6, 31, 32, 33, 34, 35, 36, 37, 38, 39, 40, 41, 42, 43, 44, 45, 46, 47, 48, 49, 50, 51, 52, 53, 54, 55, 56, 57, 58, 59, 60, 61, 62, 63, 64, 65, 66] (by decide +kernel) (by decide +kernel)
set_option maxRecDepth 20000 in
theorem gX4_fault_X4_faultOf : GoodIn wsX4_fault (wsV RX4 151 RX4 yX4_faultOf wsX4_faultOf) := goodIn_app (goodIn_of _ (by decide +kernel)) ggX4_fault_X4_faultOf
theorem dX4_fault_0 : decode cX4_fault 0 = .ok (.aload_n 0, 1) := by decide +kernel
theorem dX4_fault_1 : decode cX4_fault 1 = .ok (.aload_n 0, 1) := by decide +kernel
theorem dX4_fault_2 : decode cX4_fault 2 = .ok (.iload_n 1, 1) := by decide +kernel
theorem dX4_fault_3 : decode cX4_fault 3 = .ok (.invokevirtual 120, 3) := by decide +kernel
theorem dX4_fault_6 : decode cX4_fault 6 = .ok (.invokevirtual 92, 3) := by decide +kernel
theorem dX4_fault_9 : decode cX4_fault 9 = .ok (.ifCond .eq 11, 3) := by decide +kernel
theorem dX4_fault_12 : decode cX4_fault 12 = .ok (.aload_n 0, 1) := by decide +kernel
theorem dX4_fault_13 : decode cX4_fault 13 = .ok (.iload_n 1, 1) := by decide +kernel
theorem dX4_fault_14 : decode cX4_fault 14 = .ok (.invokevirtual 151, 3) := by decide +kernel
theorem dX4_fault_17 : decode cX4_fault 17 = .ok (.goto 4, 3) := by decide +kernel
theorem dX4_fault_20 : decode cX4_fault 20 = .ok (.iconst 0, 1) := by decide +kernel
theorem dX4_fault_21 : decode cX4_fault 21 = .ok (.ireturn, 1) := by decide +kernel
set_option maxRecDepth 20000 in
theorem ggX4_likes_X4_isAct : GoodIn wsX4_likes wsX4_isAct := goodIn_r _ [5, 6, 7, 8, 4, 9, 25, 26, 27, 28, 29, 30, 31, 32, 33, 34, 35, 36, 37, 38, 39, 40, 41, 42, 43, 44, 45, 46, 47, 48, 49, 50, 51] (by decide +kernel) (by decide +kernel)
set_option maxRecDepth 20000 in
theorem gX4_likes_X4_isAct : GoodIn wsX4_likes (wsV RX4 120 RX4 yX4_isAct wsX4_isAct) := goodIn_app (goodIn_of _ (by decide +kernel)) ggX4_likes_X4_isAct
set_option maxRecDepth 20000 in
theorem ggX4_likes_X4_asks : GoodIn wsX4_likes wsX4_asks := goodIn_r _ [13, 14, 25, 26, 27, 28, 29, 30, 31, 32, 33, 34, 35, 36, 37, 38, 39, 40, 41, 42, 43, 44, 45, 46, 47, 48, 49, 50, 51] (by decide +kernel) (by decide +kernel)
set_option maxRecDepth 20000 in
theorem gX4_likes_X4_asks : GoodIn wsX4_likes (wsV RX4 92 RX4 yX4_asks wsX4_asks) := goodIn_app (goodIn_of _ (by decide +kernel)) ggX4_likes_X4_asks
set_option maxRecDepth 20000 in
theorem ggX4_likes_X4_likesOf : GoodIn wsX4_likes wsX4_likesOf := goodIn_r _ [18, 6, 19, 20, 21, 4, 22, 23, 24, 25, 26, 27, 28, 29, 30, 31, 32, 33, 34, 35, 36, 37, 38, 39, 40, 41, 42, 43, 44, 45, 46, 47, 48, 49, 50, 51] (by decide +kernel) (by decide +kernel)
set_option maxRecDepth 20000 in
theorem gX4_likes_X4_likesOf : GoodIn wsX4_likes (wsV RX4 142 RX4 yX4_likesOf wsX4_likesOf) := goodIn_app (goodIn_of _ (by decide +kernel)) ggX4_likes_X4_likesOf
theorem dX4_likes_0 : decode cX4_likes 0 = .ok (.aload_n 0, 1) := by decide +kernel
theorem dX4_likes_1 : decode cX4_likes 1 = .ok (.aload_n 0, 1) := by decide +kernel
theorem dX4_likes_2 : decode cX4_likes 2 = .ok (.iload_n 1, 1) := by decide +kernel
theorem dX4_likes_3 : decode cX4_likes 3 = .ok (.invokevirtual 120, 3) := by decide +kernel
theorem dX4_likes_6 : decode cX4_likes 6 = .ok (.invokevirtual 92, 3) := by decide +kernel
theorem dX4_likes_9 : decode cX4_likes 9 = .ok (.ifCond .eq 11, 3) := by decide +kernel
theorem dX4_likes_12 : decode cX4_likes 12 = .ok (.aload_n 0, 1) := by decide +kernel
theorem dX4_likes_13 : decode cX4_likes 13 = .ok (.iload_n 1, 1) := by decide +kernel
theorem dX4_likes_14 : decode cX4_likes 14 = .ok (.invokevirtual 142, 3) := by decide +kernel
theorem dX4_likes_17 : decode cX4_likes 17 = .ok (.goto 4, 3) := by decide +kernel
theorem dX4_likes_20 : decode cX4_likes 20 = .ok (.iconst 0, 1) := by decide +kernel
theorem dX4_likes_21 : decode cX4_likes 21 = .ok (.ireturn, 1) := by decide +kernel
set_option maxRecDepth 20000 in
theorem ggX4_remedied_X4_isAct : GoodIn wsX4_remedied wsX4_isAct := goodIn_r _ [6, 7, 8, 9, 5, 10, 16, 17, 18, 19, 20, 21, 22, 23, 24, 25, 26, 27, 28, 29, 30, 31, 32, 33, 34, 35, 36, 37, 38, 39, 40, 41, 42] (by decide +kernel) (by decide +kernel)
set_option maxRecDepth 20000 in
theorem gX4_remedied_X4_isAct : GoodIn wsX4_remedied (wsV RX4 120 RX4 yX4_isAct wsX4_isAct) := goodIn_app (goodIn_of _ (by decide +kernel)) ggX4_remedied_X4_isAct
set_option maxRecDepth 20000 in
theorem ggX4_remedied_X4_asks : GoodIn wsX4_remedied wsX4_asks := goodIn_r _ [14, 15, 16, 17, 18, 19, 20, 21, 22, 23, 24, 25, 26, 27, 28, 29, 30, 31, 32, 33, 34, 35, 36, 37, 38, 39, 40, 41, 42] (by decide +kernel) (by decide +kernel)
set_option maxRecDepth 20000 in
theorem gX4_remedied_X4_asks : GoodIn wsX4_remedied (wsV RX4 92 RX4 yX4_asks wsX4_asks) := goodIn_app (goodIn_of _ (by decide +kernel)) ggX4_remedied_X4_asks
theorem dX4_remedied_0 : decode cX4_remedied 0 = .ok (.aload_n 0, 1) := by decide +kernel
theorem dX4_remedied_1 : decode cX4_remedied 1 = .ok (.aload_n 0, 1) := by decide +kernel
theorem dX4_remedied_2 : decode cX4_remedied 2 = .ok (.iload_n 1, 1) := by decide +kernel
theorem dX4_remedied_3 : decode cX4_remedied 3 = .ok (.invokevirtual 120, 3) := by decide +kernel
theorem dX4_remedied_6 : decode cX4_remedied 6 = .ok (.invokevirtual 92, 3) := by decide +kernel
theorem dX4_remedied_9 : decode cX4_remedied 9 = .ok (.ifCond .eq 12, 3) := by decide +kernel
theorem dX4_remedied_12 : decode cX4_remedied 12 = .ok (.aload_n 0, 1) := by decide +kernel
theorem dX4_remedied_13 : decode cX4_remedied 13 = .ok (.getfield 45, 3) := by decide +kernel
theorem dX4_remedied_16 : decode cX4_remedied 16 = .ok (.iload_n 1, 1) := by decide +kernel
theorem dX4_remedied_17 : decode cX4_remedied 17 = .ok (.iaload, 1) := by decide +kernel
theorem dX4_remedied_18 : decode cX4_remedied 18 = .ok (.goto 4, 3) := by decide +kernel
theorem dX4_remedied_21 : decode cX4_remedied 21 = .ok (.iconst 0, 1) := by decide +kernel
theorem dX4_remedied_22 : decode cX4_remedied 22 = .ok (.ireturn, 1) := by decide +kernel
set_option maxRecDepth 20000 in
theorem ggX4_gains_X4_isKind : GoodIn wsX4_gains wsX4_isKind := goodIn_r _ [7, 8, 9, 6, 10] (by decide +kernel) (by decide +kernel)
set_option maxRecDepth 20000 in
theorem gX4_gains_X4_isKind : GoodIn wsX4_gains (va_wsS RX4 114 yX4_isKind wsX4_isKind) := goodIn_app (goodIn_of _ (by decide +kernel)) ggX4_gains_X4_isKind
set_option maxRecDepth 20000 in
theorem ggX4_gains_X4_asks : GoodIn wsX4_gains wsX4_asks := goodIn_r _ [14, 15, 26, 27, 28, 29, 30, 31, 32, 33, 34, 35, 36, 37, 38, 39, 40, 41, 42, 43, 44, 45, 46, 47, 48, 49, 50, 51, 52] (by decide +kernel) (by decide +kernel)
set_option maxRecDepth 20000 in
theorem gX4_gains_X4_asks : GoodIn wsX4_gains (wsV RX4 92 RX4 yX4_asks wsX4_asks) := goodIn_app (goodIn_of _ (by decide +kernel)) ggX4_gains_X4_asks
set_option maxRecDepth 20000 in
theorem ggX4_gains_X4_in : GoodIn wsX4_gains wsX4_in := goodIn_r _ [10] (by decide +kernel) (by decide +kernel)
set_option maxRecDepth 20000 in
theorem gX4_gains_X4_in : GoodIn wsX4_gains (va_wsS RX4 82 yX4_in wsX4_in) := goodIn_app (goodIn_of _ (by decide +kernel)) ggX4_gains_X4_in
set_option maxRecDepth 20000 in
theorem ggX4_gains_X4_fails : GoodIn wsX4_gains wsX4_fails := goodIn_r _ [19, 15, 26, 27, 28, 29, 30, 31, 32, 33, 34, 35, 36, 37, 38, 39, 40, 41, 42, 43, 44, 45, 46, 47, 48, 49, 50, 51, 52] (by decide +kernel) (by decide +kernel)
set_option maxRecDepth 20000 in
theorem gX4_gains_X4_fails : GoodIn wsX4_gains (wsV RX4 99 RX4 yX4_fails wsX4_fails) := goodIn_app (goodIn_of _ (by decide +kernel)) ggX4_gains_X4_fails
set_option maxRecDepth 20000 in
theorem ggX4_gains_X4_doesFail : GoodIn wsX4_gains wsX4_doesFail := goodIn_r _ [23, 2, 24, 3, 25, 26, 27, 28, 29, 30, 31, 32, 33, 34, 35, 36, 37, 38, 39, 40, 41, 42, 43, 44, 45, 46, 47, 48, 49, 50, 51, 52] (by decide +kernel) (by decide +kernel)
set_option maxRecDepth 20000 in
theorem gX4_gains_X4_doesFail : GoodIn wsX4_gains (wsV RX4 145 RX4 yX4_doesFail wsX4_doesFail) := goodIn_app (goodIn_of _ (by decide +kernel)) ggX4_gains_X4_doesFail
theorem dX4_gains_0 : decode cX4_gains 0 = .ok (.aload_n 0, 1) := by decide +kernel
theorem dX4_gains_1 : decode cX4_gains 1 = .ok (.iload_n 1, 1) := by decide +kernel
theorem dX4_gains_2 : decode cX4_gains 2 = .ok (.invokestatic 114, 3) := by decide +kernel
theorem dX4_gains_5 : decode cX4_gains 5 = .ok (.invokevirtual 92, 3) := by decide +kernel
theorem dX4_gains_8 : decode cX4_gains 8 = .ok (.ifCond .ne 5, 3) := by decide +kernel
theorem dX4_gains_11 : decode cX4_gains 11 = .ok (.iconst 0, 1) := by decide +kernel
theorem dX4_gains_12 : decode cX4_gains 12 = .ok (.ireturn, 1) := by decide +kernel
theorem dX4_gains_13 : decode cX4_gains 13 = .ok (.iload_n 2, 1) := by decide +kernel
theorem dX4_gains_14 : decode cX4_gains 14 = .ok (.iconst 0, 1) := by decide +kernel
theorem dX4_gains_15 : decode cX4_gains 15 = .ok (.bipush 100, 2) := by decide +kernel
theorem dX4_gains_17 : decode cX4_gains 17 = .ok (.invokestatic 82, 3) := by decide +kernel
theorem dX4_gains_20 : decode cX4_gains 20 = .ok (.ifCond .ne 9, 3) := by decide +kernel
theorem dX4_gains_23 : decode cX4_gains 23 = .ok (.aload_n 0, 1) := by decide +kernel
theorem dX4_gains_24 : decode cX4_gains 24 = .ok (.iconst 2, 1) := by decide +kernel
theorem dX4_gains_25 : decode cX4_gains 25 = .ok (.invokevirtual 99, 3) := by decide +kernel
theorem dX4_gains_28 : decode cX4_gains 28 = .ok (.ireturn, 1) := by decide +kernel
theorem dX4_gains_29 : decode cX4_gains 29 = .ok (.iconst 0, 1) := by decide +kernel
theorem dX4_gains_30 : decode cX4_gains 30 = .ok (.istore_n 3, 1) := by decide +kernel
theorem dX4_gains_31 : decode cX4_gains 31 = .ok (.iconst 0, 1) := by decide +kernel
theorem dX4_gains_32 : decode cX4_gains 32 = .ok (.istore 4, 2) := by decide +kernel
theorem dX4_gains_34 : decode cX4_gains 34 = .ok (.iload 4, 2) := by decide +kernel
theorem dX4_gains_36 : decode cX4_gains 36 = .ok (.aload_n 0, 1) := by decide +kernel
theorem dX4_gains_37 : decode cX4_gains 37 = .ok (.getfield 86, 3) := by decide +kernel
theorem dX4_gains_40 : decode cX4_gains 40 = .ok (.if_icmp .ge 70, 3) := by decide +kernel
theorem dX4_gains_43 : decode cX4_gains 43 = .ok (.aload_n 0, 1) := by decide +kernel
theorem dX4_gains_44 : decode cX4_gains 44 = .ok (.getfield 32, 3) := by decide +kernel
theorem dX4_gains_47 : decode cX4_gains 47 = .ok (.iload 4, 2) := by decide +kernel
theorem dX4_gains_49 : decode cX4_gains 49 = .ok (.iaload, 1) := by decide +kernel
theorem dX4_gains_50 : decode cX4_gains 50 = .ok (.iload_n 2, 1) := by decide +kernel
theorem dX4_gains_51 : decode cX4_gains 51 = .ok (.if_icmp .le 7, 3) := by decide +kernel
theorem dX4_gains_54 : decode cX4_gains 54 = .ok (.iconst 1, 1) := by decide +kernel
theorem dX4_gains_55 : decode cX4_gains 55 = .ok (.goto 4, 3) := by decide +kernel
theorem dX4_gains_58 : decode cX4_gains 58 = .ok (.iconst 0, 1) := by decide +kernel
theorem dX4_gains_59 : decode cX4_gains 59 = .ok (.istore 5, 2) := by decide +kernel
theorem dX4_gains_61 : decode cX4_gains 61 = .ok (.aload_n 0, 1) := by decide +kernel
theorem dX4_gains_62 : decode cX4_gains 62 = .ok (.iload 4, 2) := by decide +kernel
theorem dX4_gains_64 : decode cX4_gains 64 = .ok (.invokevirtual 145, 3) := by decide +kernel
theorem dX4_gains_67 : decode cX4_gains 67 = .ok (.istore 6, 2) := by decide +kernel
theorem dX4_gains_69 : decode cX4_gains 69 = .ok (.iload_n 3, 1) := by decide +kernel
theorem dX4_gains_70 : decode cX4_gains 70 = .ok (.aload_n 0, 1) := by decide +kernel
theorem dX4_gains_71 : decode cX4_gains 71 = .ok (.getfield 26, 3) := by decide +kernel
theorem dX4_gains_74 : decode cX4_gains 74 = .ok (.iload 4, 2) := by decide +kernel
theorem dX4_gains_76 : decode cX4_gains 76 = .ok (.iaload, 1) := by decide +kernel
theorem dX4_gains_77 : decode cX4_gains 77 = .ok (.iload_n 1, 1) := by decide +kernel
theorem dX4_gains_78 : decode cX4_gains 78 = .ok (.if_icmp .ne 10, 3) := by decide +kernel
theorem dX4_gains_81 : decode cX4_gains 81 = .ok (.iload 5, 2) := by decide +kernel
theorem dX4_gains_83 : decode cX4_gains 83 = .ok (.iload 6, 2) := by decide +kernel
theorem dX4_gains_85 : decode cX4_gains 85 = .ok (.if_icmp .ne 7, 3) := by decide +kernel
theorem dX4_gains_88 : decode cX4_gains 88 = .ok (.iconst 0, 1) := by decide +kernel
theorem dX4_gains_89 : decode cX4_gains 89 = .ok (.goto 13, 3) := by decide +kernel
theorem dX4_gains_92 : decode cX4_gains 92 = .ok (.iload 5, 2) := by decide +kernel
theorem dX4_gains_94 : decode cX4_gains 94 = .ok (.ifCond .eq 7, 3) := by decide +kernel
theorem dX4_gains_97 : decode cX4_gains 97 = .ok (.iconst 1, 1) := by decide +kernel
theorem dX4_gains_98 : decode cX4_gains 98 = .ok (.goto 4, 3) := by decide +kernel
theorem dX4_gains_101 : decode cX4_gains 101 = .ok (.iconst (-1), 1) := by decide +kernel
theorem dX4_gains_102 : decode cX4_gains 102 = .ok (.iadd, 1) := by decide +kernel
theorem dX4_gains_103 : decode cX4_gains 103 = .ok (.istore_n 3, 1) := by decide +kernel
theorem dX4_gains_104 : decode cX4_gains 104 = .ok (.iinc 4 1, 3) := by decide +kernel
theorem dX4_gains_107 : decode cX4_gains 107 = .ok (.goto (-73), 3) := by decide +kernel
theorem dX4_gains_110 : decode cX4_gains 110 = .ok (.iload_n 3, 1) := by decide +kernel
theorem dX4_gains_111 : decode cX4_gains 111 = .ok (.ireturn, 1) := by decide +kernel
theorem dJ6_bitCount_0f7a4_0 : decode cJ6_bitCount_0f7a4 0 = .ok (.iload_n 0, 1) := by decide +kernel
theorem dJ6_bitCount_0f7a4_1 : decode cJ6_bitCount_0f7a4 1 = .ok (.iload_n 0, 1) := by decide +kernel
theorem dJ6_bitCount_0f7a4_2 : decode cJ6_bitCount_0f7a4 2 = .ok (.iconst 1, 1) := by decide +kernel
theorem dJ6_bitCount_0f7a4_3 : decode cJ6_bitCount_0f7a4 3 = .ok (.iushr, 1) := by decide +kernel
theorem dJ6_bitCount_0f7a4_4 : decode cJ6_bitCount_0f7a4 4 = .ok (.ldc_w 265, 3) := by decide +kernel
theorem dJ6_bitCount_0f7a4_7 : decode cJ6_bitCount_0f7a4 7 = .ok (.iand, 1) := by decide +kernel
theorem dJ6_bitCount_0f7a4_8 : decode cJ6_bitCount_0f7a4 8 = .ok (.isub, 1) := by decide +kernel
theorem dJ6_bitCount_0f7a4_9 : decode cJ6_bitCount_0f7a4 9 = .ok (.istore_n 0, 1) := by decide +kernel
theorem dJ6_bitCount_0f7a4_10 : decode cJ6_bitCount_0f7a4 10 = .ok (.iload_n 0, 1) := by decide +kernel
theorem dJ6_bitCount_0f7a4_11 : decode cJ6_bitCount_0f7a4 11 = .ok (.ldc_w 266, 3) := by decide +kernel
theorem dJ6_bitCount_0f7a4_14 : decode cJ6_bitCount_0f7a4 14 = .ok (.iand, 1) := by decide +kernel
theorem dJ6_bitCount_0f7a4_15 : decode cJ6_bitCount_0f7a4 15 = .ok (.iload_n 0, 1) := by decide +kernel
theorem dJ6_bitCount_0f7a4_16 : decode cJ6_bitCount_0f7a4 16 = .ok (.iconst 2, 1) := by decide +kernel
theorem dJ6_bitCount_0f7a4_17 : decode cJ6_bitCount_0f7a4 17 = .ok (.iushr, 1) := by decide +kernel
theorem dJ6_bitCount_0f7a4_18 : decode cJ6_bitCount_0f7a4 18 = .ok (.ldc_w 266, 3) := by decide +kernel
theorem dJ6_bitCount_0f7a4_21 : decode cJ6_bitCount_0f7a4 21 = .ok (.iand, 1) := by decide +kernel
theorem dJ6_bitCount_0f7a4_22 : decode cJ6_bitCount_0f7a4 22 = .ok (.iadd, 1) := by decide +kernel
theorem dJ6_bitCount_0f7a4_23 : decode cJ6_bitCount_0f7a4 23 = .ok (.istore_n 0, 1) := by decide +kernel
theorem dJ6_bitCount_0f7a4_24 : decode cJ6_bitCount_0f7a4 24 = .ok (.iload_n 0, 1) := by decide +kernel
theorem dJ6_bitCount_0f7a4_25 : decode cJ6_bitCount_0f7a4 25 = .ok (.iload_n 0, 1) := by decide +kernel
theorem dJ6_bitCount_0f7a4_26 : decode cJ6_bitCount_0f7a4 26 = .ok (.iconst 4, 1) := by decide +kernel
theorem dJ6_bitCount_0f7a4_27 : decode cJ6_bitCount_0f7a4 27 = .ok (.iushr, 1) := by decide +kernel
theorem dJ6_bitCount_0f7a4_28 : decode cJ6_bitCount_0f7a4 28 = .ok (.iadd, 1) := by decide +kernel
theorem dJ6_bitCount_0f7a4_29 : decode cJ6_bitCount_0f7a4 29 = .ok (.ldc_w 267, 3) := by decide +kernel
theorem dJ6_bitCount_0f7a4_32 : decode cJ6_bitCount_0f7a4 32 = .ok (.iand, 1) := by decide +kernel
theorem dJ6_bitCount_0f7a4_33 : decode cJ6_bitCount_0f7a4 33 = .ok (.istore_n 0, 1) := by decide +kernel
theorem dJ6_bitCount_0f7a4_34 : decode cJ6_bitCount_0f7a4 34 = .ok (.iload_n 0, 1) := by decide +kernel
theorem dJ6_bitCount_0f7a4_35 : decode cJ6_bitCount_0f7a4 35 = .ok (.iload_n 0, 1) := by decide +kernel
theorem dJ6_bitCount_0f7a4_36 : decode cJ6_bitCount_0f7a4 36 = .ok (.bipush 8, 2) := by decide +kernel
theorem dJ6_bitCount_0f7a4_38 : decode cJ6_bitCount_0f7a4 38 = .ok (.iushr, 1) := by decide +kernel
theorem dJ6_bitCount_0f7a4_39 : decode cJ6_bitCount_0f7a4 39 = .ok (.iadd, 1) := by decide +kernel
theorem dJ6_bitCount_0f7a4_40 : decode cJ6_bitCount_0f7a4 40 = .ok (.istore_n 0, 1) := by decide +kernel
theorem dJ6_bitCount_0f7a4_41 : decode cJ6_bitCount_0f7a4 41 = .ok (.iload_n 0, 1) := by decide +kernel
theorem dJ6_bitCount_0f7a4_42 : decode cJ6_bitCount_0f7a4 42 = .ok (.iload_n 0, 1) := by decide +kernel
theorem dJ6_bitCount_0f7a4_43 : decode cJ6_bitCount_0f7a4 43 = .ok (.bipush 16, 2) := by decide +kernel
theorem dJ6_bitCount_0f7a4_45 : decode cJ6_bitCount_0f7a4 45 = .ok (.iushr, 1) := by decide +kernel
theorem dJ6_bitCount_0f7a4_46 : decode cJ6_bitCount_0f7a4 46 = .ok (.iadd, 1) := by decide +kernel
theorem dJ6_bitCount_0f7a4_47 : decode cJ6_bitCount_0f7a4 47 = .ok (.istore_n 0, 1) := by decide +kernel
theorem dJ6_bitCount_0f7a4_48 : decode cJ6_bitCount_0f7a4 48 = .ok (.iload_n 0, 1) := by decide +kernel
theorem dJ6_bitCount_0f7a4_49 : decode cJ6_bitCount_0f7a4 49 = .ok (.bipush 63, 2) := by decide +kernel
theorem dJ6_bitCount_0f7a4_51 : decode cJ6_bitCount_0f7a4 51 = .ok (.iand, 1) := by decide +kernel
theorem dJ6_bitCount_0f7a4_52 : decode cJ6_bitCount_0f7a4 52 = .ok (.ireturn, 1) := by decide +kernel
theorem dJ9_max_7cf53_0 : decode cJ9_max_7cf53 0 = .ok (.iload_n 0, 1) := by decide +kernel
theorem dJ9_max_7cf53_1 : decode cJ9_max_7cf53 1 = .ok (.iload_n 1, 1) := by decide +kernel
theorem dJ9_max_7cf53_2 : decode cJ9_max_7cf53 2 = .ok (.if_icmp .lt 7, 3) := by decide +kernel
theorem dJ9_max_7cf53_5 : decode cJ9_max_7cf53 5 = .ok (.iload_n 0, 1) := by decide +kernel
theorem dJ9_max_7cf53_6 : decode cJ9_max_7cf53 6 = .ok (.goto 4, 3) := by decide +kernel
theorem dJ9_max_7cf53_9 : decode cJ9_max_7cf53 9 = .ok (.iload_n 1, 1) := by decide +kernel
theorem dJ9_max_7cf53_10 : decode cJ9_max_7cf53 10 = .ok (.ireturn, 1) := by decide +kernel
set_option maxRecDepth 20000 in
theorem ggJ0_length_8abf5_J0_coder_7d493 : GoodIn wsJ0_length_8abf5 wsJ0_coder_7d493 := goodIn_r _ [6, 7, 8] (by decide +kernel) (by decide +kernel)
set_option maxRecDepth 20000 in
theorem gJ0_length_8abf5_J0_coder_7d493 : GoodIn wsJ0_length_8abf5 (wsV RJ0 335 RJ0 yJ0_coder_7d493 wsJ0_coder_7d493) := goodIn_app (goodIn_of _ (by decide +kernel)) ggJ0_length_8abf5_J0_coder_7d493
theorem dJ0_length_8abf5_0 : decode cJ0_length_8abf5 0 = .ok (.aload_n 0, 1) := by decide +kernel
theorem dJ0_length_8abf5_1 : decode cJ0_length_8abf5 1 = .ok (.getfield 9, 3) := by decide +kernel
theorem dJ0_length_8abf5_4 : decode cJ0_length_8abf5 4 = .ok (.arraylength, 1) := by decide +kernel
theorem dJ0_length_8abf5_5 : decode cJ0_length_8abf5 5 = .ok (.aload_n 0, 1) := by decide +kernel
theorem dJ0_length_8abf5_6 : decode cJ0_length_8abf5 6 = .ok (.invokevirtual 335, 3) := by decide +kernel
theorem dJ0_length_8abf5_9 : decode cJ0_length_8abf5 9 = .ok (.ishr, 1) := by decide +kernel
theorem dJ0_length_8abf5_10 : decode cJ0_length_8abf5 10 = .ok (.ireturn, 1) := by decide +kernel
set_option maxRecDepth 20000 in
theorem ggJ0_charAt_5068e_J0_isLatin1_aae02 : GoodIn wsJ0_charAt_5068e wsJ0_isLatin1_aae02 := goodIn_r _ [6, 7, 8] (by decide +kernel) (by decide +kernel)
set_option maxRecDepth 20000 in
theorem gJ0_charAt_5068e_J0_isLatin1_aae02 : GoodIn wsJ0_charAt_5068e (wsV RJ0 492 RJ0 yJ0_isLatin1_aae02 wsJ0_isLatin1_aae02) := goodIn_app (goodIn_of _ (by decide +kernel)) ggJ0_charAt_5068e_J0_isLatin1_aae02
set_option maxRecDepth 20000 in
theorem ggJ0_charAt_5068e_J1_charAt_3b067 : GoodIn wsJ0_charAt_5068e wsJ1_charAt_3b067 := goodIn_r _ [12, 13, 14, 5, 15, 16, 17, 18, 19, 20] (by decide +kernel) (by decide +kernel)
set_option maxRecDepth 20000 in
theorem gJ0_charAt_5068e_J1_charAt_3b067 : GoodIn wsJ0_charAt_5068e (va_wsS RJ0 495 yJ1_charAt_3b067 wsJ1_charAt_3b067) := goodIn_app (goodIn_of _ (by decide +kernel)) ggJ0_charAt_5068e_J1_charAt_3b067
set_option maxRecDepth 20000 in
theorem ggJ0_charAt_5068e_J2_charAt_3b067 : GoodIn wsJ0_charAt_5068e wsJ2_charAt_3b067 := goodIn_r _ [24, 25, 26, 23, 27, 28, 29, 30, 31, 14, 5, 15, 16, 17, 18, 19, 20, 32, 33, 34, 35, 36, 37] (by decide +kernel) (by decide +kernel)
set_option maxRecDepth 20000 in
theorem gJ0_charAt_5068e_J2_charAt_3b067 : GoodIn wsJ0_charAt_5068e (va_wsS RJ0 498 yJ2_charAt_3b067 wsJ2_charAt_3b067) := goodIn_app (goodIn_of _ (by decide +kernel)) ggJ0_charAt_5068e_J2_charAt_3b067
theorem dJ0_charAt_5068e_0 : decode cJ0_charAt_5068e 0 = .ok (.aload_n 0, 1) := by decide +kernel
theorem dJ0_charAt_5068e_1 : decode cJ0_charAt_5068e 1 = .ok (.invokevirtual 492, 3) := by decide +kernel
theorem dJ0_charAt_5068e_4 : decode cJ0_charAt_5068e 4 = .ok (.ifCond .eq 12, 3) := by decide +kernel
theorem dJ0_charAt_5068e_7 : decode cJ0_charAt_5068e 7 = .ok (.aload_n 0, 1) := by decide +kernel
theorem dJ0_charAt_5068e_8 : decode cJ0_charAt_5068e 8 = .ok (.getfield 9, 3) := by decide +kernel
theorem dJ0_charAt_5068e_11 : decode cJ0_charAt_5068e 11 = .ok (.iload_n 1, 1) := by decide +kernel
theorem dJ0_charAt_5068e_12 : decode cJ0_charAt_5068e 12 = .ok (.invokestatic 495, 3) := by decide +kernel
theorem dJ0_charAt_5068e_15 : decode cJ0_charAt_5068e 15 = .ok (.ireturn, 1) := by decide +kernel
theorem dJ0_charAt_5068e_16 : decode cJ0_charAt_5068e 16 = .ok (.aload_n 0, 1) := by decide +kernel
theorem dJ0_charAt_5068e_17 : decode cJ0_charAt_5068e 17 = .ok (.getfield 9, 3) := by decide +kernel
theorem dJ0_charAt_5068e_20 : decode cJ0_charAt_5068e 20 = .ok (.iload_n 1, 1) := by decide +kernel
theorem dJ0_charAt_5068e_21 : decode cJ0_charAt_5068e 21 = .ok (.invokestatic 498, 3) := by decide +kernel
theorem dJ0_charAt_5068e_24 : decode cJ0_charAt_5068e 24 = .ok (.ireturn, 1) := by decide +kernel
theorem dJ0_coder_7d493_0 : decode cJ0_coder_7d493 0 = .ok (.getstatic 38, 3) := by decide +kernel
theorem dJ0_coder_7d493_3 : decode cJ0_coder_7d493 3 = .ok (.ifCond .eq 10, 3) := by decide +kernel
theorem dJ0_coder_7d493_6 : decode cJ0_coder_7d493 6 = .ok (.aload_n 0, 1) := by decide +kernel
theorem dJ0_coder_7d493_7 : decode cJ0_coder_7d493 7 = .ok (.getfield 15, 3) := by decide +kernel
theorem dJ0_coder_7d493_10 : decode cJ0_coder_7d493 10 = .ok (.goto 4, 3) := by decide +kernel
theorem dJ0_coder_7d493_13 : decode cJ0_coder_7d493 13 = .ok (.iconst 1, 1) := by decide +kernel
theorem dJ0_coder_7d493_14 : decode cJ0_coder_7d493 14 = .ok (.ireturn, 1) := by decide +kernel
theorem dJ0_isLatin1_aae02_0 : decode cJ0_isLatin1_aae02 0 = .ok (.getstatic 38, 3) := by decide +kernel
theorem dJ0_isLatin1_aae02_3 : decode cJ0_isLatin1_aae02 3 = .ok (.ifCond .eq 14, 3) := by decide +kernel
theorem dJ0_isLatin1_aae02_6 : decode cJ0_isLatin1_aae02 6 = .ok (.aload_n 0, 1) := by decide +kernel
theorem dJ0_isLatin1_aae02_7 : decode cJ0_isLatin1_aae02 7 = .ok (.getfield 15, 3) := by decide +kernel
theorem dJ0_isLatin1_aae02_10 : decode cJ0_isLatin1_aae02 10 = .ok (.ifCond .ne 7, 3) := by decide +kernel
theorem dJ0_isLatin1_aae02_13 : decode cJ0_isLatin1_aae02 13 = .ok (.iconst 1, 1) := by decide +kernel
theorem dJ0_isLatin1_aae02_14 : decode cJ0_isLatin1_aae02 14 = .ok (.goto 4, 3) := by decide +kernel
theorem dJ0_isLatin1_aae02_17 : decode cJ0_isLatin1_aae02 17 = .ok (.iconst 0, 1) := by decide +kernel
theorem dJ0_isLatin1_aae02_18 : decode cJ0_isLatin1_aae02 18 = .ok (.ireturn, 1) := by decide +kernel
set_option maxRecDepth 20000 in
theorem ggJ0_checkIndex_df160_J3_checkIndex_8e157 : GoodIn wsJ0_checkIndex_df160 wsJ3_checkIndex_8e157 := goodIn_r _ [5] (by decide +kernel) (by decide +kernel)
set_option maxRecDepth 20000 in
theorem gJ0_checkIndex_df160_J3_checkIndex_8e157 : GoodIn wsJ0_checkIndex_df160 (va_wsS RJ0 1059 yJ3_checkIndex_8e157 wsJ3_checkIndex_8e157) := goodIn_app (goodIn_of _ (by decide +kernel)) ggJ0_checkIndex_df160_J3_checkIndex_8e157
theorem dJ0_checkIndex_df160_0 : decode cJ0_checkIndex_df160 0 = .ok (.iload_n 0, 1) := by decide +kernel
theorem dJ0_checkIndex_df160_1 : decode cJ0_checkIndex_df160 1 = .ok (.iload_n 1, 1) := by decide +kernel
theorem dJ0_checkIndex_df160_2 : decode cJ0_checkIndex_df160 2 = .ok (.getstatic 1053, 3) := by decide +kernel
theorem dJ0_checkIndex_df160_5 : decode cJ0_checkIndex_df160 5 = .ok (.invokestatic 1059, 3) := by decide +kernel
theorem dJ0_checkIndex_df160_8 : decode cJ0_checkIndex_df160 8 = .ok (.pop, 1) := by decide +kernel
theorem dJ0_checkIndex_df160_9 : decode cJ0_checkIndex_df160 9 = .ok (.return_, 1) := by decide +kernel
set_option maxRecDepth 20000 in
theorem ggJ1_charAt_3b067_J0_checkIndex_df160 : GoodIn wsJ1_charAt_3b067 wsJ0_checkIndex_df160 := goodIn_r _ [4, 5, 6, 7, 8, 9] (by decide +kernel) (by decide +kernel)
set_option maxRecDepth 20000 in
theorem gJ1_charAt_3b067_J0_checkIndex_df160 : GoodIn wsJ1_charAt_3b067 (va_wsS RJ1 9 yJ0_checkIndex_df160 wsJ0_checkIndex_df160) := goodIn_app (goodIn_of _ (by decide +kernel)) ggJ1_charAt_3b067_J0_checkIndex_df160
theorem dJ1_charAt_3b067_0 : decode cJ1_charAt_3b067 0 = .ok (.iload_n 1, 1) := by decide +kernel
theorem dJ1_charAt_3b067_1 : decode cJ1_charAt_3b067 1 = .ok (.aload_n 0, 1) := by decide +kernel
theorem dJ1_charAt_3b067_2 : decode cJ1_charAt_3b067 2 = .ok (.arraylength, 1) := by decide +kernel
theorem dJ1_charAt_3b067_3 : decode cJ1_charAt_3b067 3 = .ok (.invokestatic 9, 3) := by decide +kernel
theorem dJ1_charAt_3b067_6 : decode cJ1_charAt_3b067 6 = .ok (.aload_n 0, 1) := by decide +kernel
theorem dJ1_charAt_3b067_7 : decode cJ1_charAt_3b067 7 = .ok (.iload_n 1, 1) := by decide +kernel
theorem dJ1_charAt_3b067_8 : decode cJ1_charAt_3b067 8 = .ok (.baload, 1) := by decide +kernel
theorem dJ1_charAt_3b067_9 : decode cJ1_charAt_3b067 9 = .ok (.sipush 255, 3) := by decide +kernel
theorem dJ1_charAt_3b067_12 : decode cJ1_charAt_3b067 12 = .ok (.iand, 1) := by decide +kernel
theorem dJ1_charAt_3b067_13 : decode cJ1_charAt_3b067 13 = .ok (.i2c, 1) := by decide +kernel
theorem dJ1_charAt_3b067_14 : decode cJ1_charAt_3b067 14 = .ok (.ireturn, 1) := by decide +kernel
set_option maxRecDepth 20000 in
theorem ggJ2_getChar_3b067_J2_length_9d52b : GoodIn wsJ2_getChar_3b067 wsJ2_length_9d52b := goodIn_r _ [7] (by decide +kernel) (by decide +kernel)
set_option maxRecDepth 20000 in
theorem gJ2_getChar_3b067_J2_length_9d52b : GoodIn wsJ2_getChar_3b067 (va_wsS RJ2 48 yJ2_length_9d52b wsJ2_length_9d52b) := goodIn_app (goodIn_of _ (by decide +kernel)) ggJ2_getChar_3b067_J2_length_9d52b
theorem dJ2_getChar_3b067_0 : decode cJ2_getChar_3b067 0 = .ok (.getstatic 44, 3) := by decide +kernel
theorem dJ2_getChar_3b067_3 : decode cJ2_getChar_3b067 3 = .ok (.ifCond .ne 25, 3) := by decide +kernel
theorem dJ2_getChar_3b067_6 : decode cJ2_getChar_3b067 6 = .ok (.iload_n 1, 1) := by decide +kernel
theorem dJ2_getChar_3b067_7 : decode cJ2_getChar_3b067 7 = .ok (.ifCond .lt 11, 3) := by decide +kernel
theorem dJ2_getChar_3b067_10 : decode cJ2_getChar_3b067 10 = .ok (.iload_n 1, 1) := by decide +kernel
theorem dJ2_getChar_3b067_11 : decode cJ2_getChar_3b067 11 = .ok (.aload_n 0, 1) := by decide +kernel
theorem dJ2_getChar_3b067_12 : decode cJ2_getChar_3b067 12 = .ok (.invokestatic 48, 3) := by decide +kernel
theorem dJ2_getChar_3b067_15 : decode cJ2_getChar_3b067 15 = .ok (.if_icmp .lt 13, 3) := by decide +kernel
theorem dJ2_getChar_3b067_18 : decode cJ2_getChar_3b067 18 = .ok (.new 52, 3) := by decide +kernel
theorem dJ2_getChar_3b067_21 : decode cJ2_getChar_3b067 21 = .ok (.dup, 1) := by decide +kernel
theorem dJ2_getChar_3b067_22 : decode cJ2_getChar_3b067 22 = .ok (.ldc 54, 2) := by decide +kernel
theorem dJ2_getChar_3b067_24 : decode cJ2_getChar_3b067 24 = .ok (.invokespecial 56, 3) := by decide +kernel
theorem dJ2_getChar_3b067_27 : decode cJ2_getChar_3b067 27 = .ok (.athrow, 1) := by decide +kernel
theorem dJ2_getChar_3b067_28 : decode cJ2_getChar_3b067 28 = .ok (.iload_n 1, 1) := by decide +kernel
theorem dJ2_getChar_3b067_29 : decode cJ2_getChar_3b067 29 = .ok (.iconst 1, 1) := by decide +kernel
theorem dJ2_getChar_3b067_30 : decode cJ2_getChar_3b067 30 = .ok (.ishl, 1) := by decide +kernel
theorem dJ2_getChar_3b067_31 : decode cJ2_getChar_3b067 31 = .ok (.istore_n 1, 1) := by decide +kernel
theorem dJ2_getChar_3b067_32 : decode cJ2_getChar_3b067 32 = .ok (.aload_n 0, 1) := by decide +kernel
theorem dJ2_getChar_3b067_33 : decode cJ2_getChar_3b067 33 = .ok (.iload_n 1, 1) := by decide +kernel
theorem dJ2_getChar_3b067_34 : decode cJ2_getChar_3b067 34 = .ok (.iinc 1 1, 3) := by decide +kernel
theorem dJ2_getChar_3b067_37 : decode cJ2_getChar_3b067 37 = .ok (.baload, 1) := by decide +kernel
theorem dJ2_getChar_3b067_38 : decode cJ2_getChar_3b067 38 = .ok (.sipush 255, 3) := by decide +kernel
theorem dJ2_getChar_3b067_41 : decode cJ2_getChar_3b067 41 = .ok (.iand, 1) := by decide +kernel
theorem dJ2_getChar_3b067_42 : decode cJ2_getChar_3b067 42 = .ok (.getstatic 59, 3) := by decide +kernel
theorem dJ2_getChar_3b067_45 : decode cJ2_getChar_3b067 45 = .ok (.ishl, 1) := by decide +kernel
theorem dJ2_getChar_3b067_46 : decode cJ2_getChar_3b067 46 = .ok (.aload_n 0, 1) := by decide +kernel
theorem dJ2_getChar_3b067_47 : decode cJ2_getChar_3b067 47 = .ok (.iload_n 1, 1) := by decide +kernel
theorem dJ2_getChar_3b067_48 : decode cJ2_getChar_3b067 48 = .ok (.baload, 1) := by decide +kernel
theorem dJ2_getChar_3b067_49 : decode cJ2_getChar_3b067 49 = .ok (.sipush 255, 3) := by decide +kernel
theorem dJ2_getChar_3b067_52 : decode cJ2_getChar_3b067 52 = .ok (.iand, 1) := by decide +kernel
theorem dJ2_getChar_3b067_53 : decode cJ2_getChar_3b067 53 = .ok (.getstatic 63, 3) := by decide +kernel
theorem dJ2_getChar_3b067_56 : decode cJ2_getChar_3b067 56 = .ok (.ishl, 1) := by decide +kernel
theorem dJ2_getChar_3b067_57 : decode cJ2_getChar_3b067 57 = .ok (.ior, 1) := by decide +kernel
theorem dJ2_getChar_3b067_58 : decode cJ2_getChar_3b067 58 = .ok (.i2c, 1) := by decide +kernel
theorem dJ2_getChar_3b067_59 : decode cJ2_getChar_3b067 59 = .ok (.ireturn, 1) := by decide +kernel
theorem dJ2_length_9d52b_0 : decode cJ2_length_9d52b 0 = .ok (.aload_n 0, 1) := by decide +kernel
theorem dJ2_length_9d52b_1 : decode cJ2_length_9d52b 1 = .ok (.arraylength, 1) := by decide +kernel
theorem dJ2_length_9d52b_2 : decode cJ2_length_9d52b 2 = .ok (.iconst 1, 1) := by decide +kernel
theorem dJ2_length_9d52b_3 : decode cJ2_length_9d52b 3 = .ok (.ishr, 1) := by decide +kernel
theorem dJ2_length_9d52b_4 : decode cJ2_length_9d52b 4 = .ok (.ireturn, 1) := by decide +kernel
set_option maxRecDepth 20000 in
theorem ggJ2_charAt_3b067_J2_checkIndex_2214a : GoodIn wsJ2_charAt_3b067 wsJ2_checkIndex_2214a := goodIn_r _ [4, 5, 6, 3, 7, 8, 9, 10, 11, 12, 13, 14, 15, 16] (by decide +kernel) (by decide +kernel)
set_option maxRecDepth 20000 in
theorem gJ2_charAt_3b067_J2_checkIndex_2214a : GoodIn wsJ2_charAt_3b067 (va_wsS RJ2 67 yJ2_checkIndex_2214a wsJ2_checkIndex_2214a) := goodIn_app (goodIn_of _ (by decide +kernel)) ggJ2_charAt_3b067_J2_checkIndex_2214a
set_option maxRecDepth 20000 in
theorem ggJ2_charAt_3b067_J2_getChar_3b067 : GoodIn wsJ2_charAt_3b067 wsJ2_getChar_3b067 := goodIn_r _ [19, 20, 21, 22, 5, 6, 3, 7] (by decide +kernel) (by decide +kernel)
set_option maxRecDepth 20000 in
theorem gJ2_charAt_3b067_J2_getChar_3b067 : GoodIn wsJ2_charAt_3b067 (va_wsS RJ2 71 yJ2_getChar_3b067 wsJ2_getChar_3b067) := goodIn_app (goodIn_of _ (by decide +kernel)) ggJ2_charAt_3b067_J2_getChar_3b067
theorem dJ2_charAt_3b067_0 : decode cJ2_charAt_3b067 0 = .ok (.iload_n 1, 1) := by decide +kernel
theorem dJ2_charAt_3b067_1 : decode cJ2_charAt_3b067 1 = .ok (.aload_n 0, 1) := by decide +kernel
theorem dJ2_charAt_3b067_2 : decode cJ2_charAt_3b067 2 = .ok (.invokestatic 67, 3) := by decide +kernel
theorem dJ2_charAt_3b067_5 : decode cJ2_charAt_3b067 5 = .ok (.aload_n 0, 1) := by decide +kernel
theorem dJ2_charAt_3b067_6 : decode cJ2_charAt_3b067 6 = .ok (.iload_n 1, 1) := by decide +kernel
theorem dJ2_charAt_3b067_7 : decode cJ2_charAt_3b067 7 = .ok (.invokestatic 71, 3) := by decide +kernel
theorem dJ2_charAt_3b067_10 : decode cJ2_charAt_3b067 10 = .ok (.ireturn, 1) := by decide +kernel
set_option maxRecDepth 20000 in
theorem ggJ2_checkIndex_2214a_J2_length_9d52b : GoodIn wsJ2_checkIndex_2214a wsJ2_length_9d52b := goodIn_r _ [4] (by decide +kernel) (by decide +kernel)
set_option maxRecDepth 20000 in
theorem gJ2_checkIndex_2214a_J2_length_9d52b : GoodIn wsJ2_checkIndex_2214a (va_wsS RJ2 48 yJ2_length_9d52b wsJ2_length_9d52b) := goodIn_app (goodIn_of _ (by decide +kernel)) ggJ2_checkIndex_2214a_J2_length_9d52b
set_option maxRecDepth 20000 in
theorem ggJ2_checkIndex_2214a_J0_checkIndex_df160 : GoodIn wsJ2_checkIndex_2214a wsJ0_checkIndex_df160 := goodIn_r _ [8, 9, 10, 11, 12, 13] (by decide +kernel) (by decide +kernel)
set_option maxRecDepth 20000 in
theorem gJ2_checkIndex_2214a_J0_checkIndex_df160 : GoodIn wsJ2_checkIndex_2214a (va_wsS RJ2 414 yJ0_checkIndex_df160 wsJ0_checkIndex_df160) := goodIn_app (goodIn_of _ (by decide +kernel)) ggJ2_checkIndex_2214a_J0_checkIndex_df160
theorem dJ2_checkIndex_2214a_0 : decode cJ2_checkIndex_2214a 0 = .ok (.iload_n 0, 1) := by decide +kernel
theorem dJ2_checkIndex_2214a_1 : decode cJ2_checkIndex_2214a 1 = .ok (.aload_n 1, 1) := by decide +kernel
theorem dJ2_checkIndex_2214a_2 : decode cJ2_checkIndex_2214a 2 = .ok (.invokestatic 48, 3) := by decide +kernel
theorem dJ2_checkIndex_2214a_5 : decode cJ2_checkIndex_2214a 5 = .ok (.invokestatic 414, 3) := by decide +kernel
theorem dJ2_checkIndex_2214a_8 : decode cJ2_checkIndex_2214a 8 = .ok (.return_, 1) := by decide +kernel
theorem dJ3_checkIndex_8e157_0 : decode cJ3_checkIndex_8e157 0 = .ok (.iload_n 0, 1) := by decide +kernel
theorem dJ3_checkIndex_8e157_1 : decode cJ3_checkIndex_8e157 1 = .ok (.ifCond .lt 8, 3) := by decide +kernel
theorem dJ3_checkIndex_8e157_4 : decode cJ3_checkIndex_8e157 4 = .ok (.iload_n 0, 1) := by decide +kernel
theorem dJ3_checkIndex_8e157_5 : decode cJ3_checkIndex_8e157 5 = .ok (.iload_n 1, 1) := by decide +kernel
theorem dJ3_checkIndex_8e157_6 : decode cJ3_checkIndex_8e157 6 = .ok (.if_icmp .lt 10, 3) := by decide +kernel
theorem dJ3_checkIndex_8e157_9 : decode cJ3_checkIndex_8e157 9 = .ok (.aload_n 2, 1) := by decide +kernel
theorem dJ3_checkIndex_8e157_10 : decode cJ3_checkIndex_8e157 10 = .ok (.iload_n 0, 1) := by decide +kernel
theorem dJ3_checkIndex_8e157_11 : decode cJ3_checkIndex_8e157 11 = .ok (.iload_n 1, 1) := by decide +kernel
theorem dJ3_checkIndex_8e157_12 : decode cJ3_checkIndex_8e157 12 = .ok (.invokestatic 95, 3) := by decide +kernel
theorem dJ3_checkIndex_8e157_15 : decode cJ3_checkIndex_8e157 15 = .ok (.athrow, 1) := by decide +kernel
theorem dJ3_checkIndex_8e157_16 : decode cJ3_checkIndex_8e157 16 = .ok (.iload_n 0, 1) := by decide +kernel
theorem dJ3_checkIndex_8e157_17 : decode cJ3_checkIndex_8e157 17 = .ok (.ireturn, 1) := by decide +kernel
set_option maxRecDepth 20000 in
theorem ggL_letter_X3_letter : GoodIn wsL_letter wsX3_letter := goodIn_ca (goodIn_ca (goodIn_r _ [7, 8, 9, 10, 11, 12, 13, 14, 15, 16, 17, 18, 19, 20, 21, 22, 23, 24] (by decide +kernel) (by decide +kernel)) (goodIn_sub (fun _ h => List.mem_cons_of_mem _ (List.mem_append_left _ (List.mem_append_right _ h))) (by decide +kernel))) (goodIn_sub (fun _ h => List.mem_cons_of_mem _ (List.mem_append_right _ h)) (by decide +kernel))
set_option maxRecDepth 20000 in
theorem gL_letter_X3_letter : GoodIn wsL_letter (wsV RL 7 RX3 yX3_letter wsX3_letter) := goodIn_app (goodIn_of _ (by decide +kernel)) ggL_letter_X3_letter
