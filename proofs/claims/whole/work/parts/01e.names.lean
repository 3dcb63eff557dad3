theorem dL_letter_0 : decode cL_letter 0 = .ok (.aload_n 2, 1) := by decide +kernel
theorem dL_letter_1 : decode cL_letter 1 = .ok (.iconst 0, 1) := by decide +kernel
theorem dL_letter_2 : decode cL_letter 2 = .ok (.aload_n 0, 1) := by decide +kernel
theorem dL_letter_3 : decode cL_letter 3 = .ok (.iload_n 1, 1) := by decide +kernel
theorem dL_letter_4 : decode cL_letter 4 = .ok (.invokevirtual 7, 3) := by decide +kernel
theorem dL_letter_7 : decode cL_letter 7 = .ok (.i2l, 1) := by decide +kernel
theorem dL_letter_8 : decode cL_letter 8 = .ok (.lastore, 1) := by decide +kernel
theorem dL_letter_9 : decode cL_letter 9 = .ok (.goto 9, 3) := by decide +kernel
theorem dL_letter_12 : decode cL_letter 12 = .ok (.astore_n 3, 1) := by decide +kernel
theorem dL_letter_13 : decode cL_letter 13 = .ok (.iconst 1, 1) := by decide +kernel
theorem dL_letter_14 : decode cL_letter 14 = .ok (.ireturn, 1) := by decide +kernel
theorem dL_letter_15 : decode cL_letter 15 = .ok (.astore_n 3, 1) := by decide +kernel
theorem dL_letter_16 : decode cL_letter 16 = .ok (.iconst 2, 1) := by decide +kernel
theorem dL_letter_17 : decode cL_letter 17 = .ok (.ireturn, 1) := by decide +kernel
theorem dL_letter_18 : decode cL_letter 18 = .ok (.iconst 0, 1) := by decide +kernel
theorem dL_letter_19 : decode cL_letter 19 = .ok (.ireturn, 1) := by decide +kernel
set_option maxRecDepth 20000 in
theorem ggL_office_X3_office : GoodIn wsL_office wsX3_office := goodIn_ca (goodIn_ca (goodIn_r _ [7, 8, 9, 10, 11, 12, 13, 6, 14, 15, 16, 17, 18, 19, 20, 21, 22, 23, 24, 25, 26, 27] (by decide +kernel) (by decide +kernel)) (goodIn_sub (fun _ h => List.mem_cons_of_mem _ (List.mem_append_left _ (List.mem_append_right _ h))) (by decide +kernel))) (goodIn_sub (fun _ h => List.mem_cons_of_mem _ (List.mem_append_right _ h)) (by decide +kernel))
set_option maxRecDepth 20000 in
theorem gL_office_X3_office : GoodIn wsL_office (wsV RL 17 RX3 yX3_office wsX3_office) := goodIn_app (goodIn_of _ (by decide +kernel)) ggL_office_X3_office
theorem dL_office_0 : decode cL_office 0 = .ok (.aload_n 2, 1) := by decide +kernel
theorem dL_office_1 : decode cL_office 1 = .ok (.iconst 0, 1) := by decide +kernel
theorem dL_office_2 : decode cL_office 2 = .ok (.aload_n 0, 1) := by decide +kernel
theorem dL_office_3 : decode cL_office 3 = .ok (.iload_n 1, 1) := by decide +kernel
theorem dL_office_4 : decode cL_office 4 = .ok (.invokevirtual 17, 3) := by decide +kernel
theorem dL_office_7 : decode cL_office 7 = .ok (.i2l, 1) := by decide +kernel
theorem dL_office_8 : decode cL_office 8 = .ok (.lastore, 1) := by decide +kernel
theorem dL_office_9 : decode cL_office 9 = .ok (.goto 9, 3) := by decide +kernel
theorem dL_office_12 : decode cL_office 12 = .ok (.astore_n 3, 1) := by decide +kernel
theorem dL_office_13 : decode cL_office 13 = .ok (.iconst 1, 1) := by decide +kernel
theorem dL_office_14 : decode cL_office 14 = .ok (.ireturn, 1) := by decide +kernel
theorem dL_office_15 : decode cL_office 15 = .ok (.astore_n 3, 1) := by decide +kernel
theorem dL_office_16 : decode cL_office 16 = .ok (.iconst 2, 1) := by decide +kernel
theorem dL_office_17 : decode cL_office 17 = .ok (.ireturn, 1) := by decide +kernel
theorem dL_office_18 : decode cL_office 18 = .ok (.iconst 0, 1) := by decide +kernel
theorem dL_office_19 : decode cL_office 19 = .ok (.ireturn, 1) := by decide +kernel
set_option maxRecDepth 20000 in
theorem ggL_delegate_X3_delegate : GoodIn wsL_delegate wsX3_delegate := goodIn_ca (goodIn_ca (goodIn_r _ [7, 8, 9, 10, 11, 12, 13, 14, 6, 15, 16, 17, 18, 19, 20, 21, 22, 23, 24, 25, 26, 27, 28, 29, 30, 31, 32, 33, 34, 35, 36, 37, 38, 39, 40, 41, 42, 43, 44, 45] (by decide +kernel) (by decide +kernel)) (goodIn_sub (fun _ h => List.mem_cons_of_mem _ (List.mem_append_left _ (List.mem_append_right _ h))) (by decide +kernel))) (goodIn_sub (fun _ h => List.mem_cons_of_mem _ (List.mem_append_right _ h)) (by decide +kernel))
set_option maxRecDepth 20000 in
theorem gL_delegate_X3_delegate : GoodIn wsL_delegate (wsV RL 23 RX3 yX3_delegate wsX3_delegate) := goodIn_app (goodIn_of _ (by decide +kernel)) ggL_delegate_X3_delegate
theorem dL_delegate_0 : decode cL_delegate 0 = .ok (.aload_n 3, 1) := by decide +kernel
theorem dL_delegate_1 : decode cL_delegate 1 = .ok (.iconst 0, 1) := by decide +kernel
theorem dL_delegate_2 : decode cL_delegate 2 = .ok (.aload_n 0, 1) := by decide +kernel
theorem dL_delegate_3 : decode cL_delegate 3 = .ok (.iload_n 1, 1) := by decide +kernel
theorem dL_delegate_4 : decode cL_delegate 4 = .ok (.iload_n 2, 1) := by decide +kernel
theorem dL_delegate_5 : decode cL_delegate 5 = .ok (.invokevirtual 23, 3) := by decide +kernel
theorem dL_delegate_8 : decode cL_delegate 8 = .ok (.i2l, 1) := by decide +kernel
theorem dL_delegate_9 : decode cL_delegate 9 = .ok (.lastore, 1) := by decide +kernel
theorem dL_delegate_10 : decode cL_delegate 10 = .ok (.goto 11, 3) := by decide +kernel
theorem dL_delegate_13 : decode cL_delegate 13 = .ok (.astore 4, 2) := by decide +kernel
theorem dL_delegate_15 : decode cL_delegate 15 = .ok (.iconst 1, 1) := by decide +kernel
theorem dL_delegate_16 : decode cL_delegate 16 = .ok (.ireturn, 1) := by decide +kernel
theorem dL_delegate_17 : decode cL_delegate 17 = .ok (.astore 4, 2) := by decide +kernel
theorem dL_delegate_19 : decode cL_delegate 19 = .ok (.iconst 2, 1) := by decide +kernel
theorem dL_delegate_20 : decode cL_delegate 20 = .ok (.ireturn, 1) := by decide +kernel
theorem dL_delegate_21 : decode cL_delegate 21 = .ok (.iconst 0, 1) := by decide +kernel
theorem dL_delegate_22 : decode cL_delegate 22 = .ok (.ireturn, 1) := by decide +kernel
set_option maxRecDepth 20000 in
theorem ggL_whose_X3_whose : GoodIn wsL_whose wsX3_whose := goodIn_ca (goodIn_ca (goodIn_r _ [7, 8, 9, 10, 11, 6, 12, 13, 14, 15, 16, 17, 18, 19, 20, 21, 22, 23, 24, 25, 26, 27, 28, 29, 30, 31, 32, 33, 34, 35, 36, 37, 38, 39, 40, 41, 42, 43, 44, 45, 46, 47, 48] (by decide +kernel) (by decide +kernel)) (goodIn_sub (fun _ h => List.mem_cons_of_mem _ (List.mem_append_left _ (List.mem_append_right _ h))) (by decide +kernel))) (goodIn_sub (fun _ h => List.mem_cons_of_mem _ (List.mem_append_right _ h)) (by decide +kernel))
set_option maxRecDepth 20000 in
theorem gL_whose_X3_whose : GoodIn wsL_whose (wsV RL 27 RX3 yX3_whose wsX3_whose) := goodIn_app (goodIn_of _ (by decide +kernel)) ggL_whose_X3_whose
theorem dL_whose_0 : decode cL_whose 0 = .ok (.aload_n 3, 1) := by decide +kernel
theorem dL_whose_1 : decode cL_whose 1 = .ok (.iconst 0, 1) := by decide +kernel
theorem dL_whose_2 : decode cL_whose 2 = .ok (.aload_n 0, 1) := by decide +kernel
theorem dL_whose_3 : decode cL_whose 3 = .ok (.iload_n 1, 1) := by decide +kernel
theorem dL_whose_4 : decode cL_whose 4 = .ok (.iload_n 2, 1) := by decide +kernel
theorem dL_whose_5 : decode cL_whose 5 = .ok (.invokevirtual 27, 3) := by decide +kernel
theorem dL_whose_8 : decode cL_whose 8 = .ok (.i2l, 1) := by decide +kernel
theorem dL_whose_9 : decode cL_whose 9 = .ok (.lastore, 1) := by decide +kernel
theorem dL_whose_10 : decode cL_whose 10 = .ok (.goto 11, 3) := by decide +kernel
theorem dL_whose_13 : decode cL_whose 13 = .ok (.astore 4, 2) := by decide +kernel
theorem dL_whose_15 : decode cL_whose 15 = .ok (.iconst 1, 1) := by decide +kernel
theorem dL_whose_16 : decode cL_whose 16 = .ok (.ireturn, 1) := by decide +kernel
theorem dL_whose_17 : decode cL_whose 17 = .ok (.astore 4, 2) := by decide +kernel
theorem dL_whose_19 : decode cL_whose 19 = .ok (.iconst 2, 1) := by decide +kernel
theorem dL_whose_20 : decode cL_whose 20 = .ok (.ireturn, 1) := by decide +kernel
theorem dL_whose_21 : decode cL_whose 21 = .ok (.iconst 0, 1) := by decide +kernel
theorem dL_whose_22 : decode cL_whose 22 = .ok (.ireturn, 1) := by decide +kernel
set_option maxRecDepth 20000 in
theorem ggL_limit_X3_limit : GoodIn wsL_limit wsX3_limit := goodIn_ca (goodIn_ca (goodIn_r _ [7, 8, 9, 10, 11, 6, 12, 13, 14, 15, 16, 17, 18, 19, 20, 21, 22, 23, 24, 25, 26, 27, 28, 29, 30, 31, 32, 33, 34, 35, 36, 37, 38, 39, 40, 41, 42, 43, 44, 45, 46, 47] (by decide +kernel) (by decide +kernel)) (goodIn_sub (fun _ h => List.mem_cons_of_mem _ (List.mem_append_left _ (List.mem_append_right _ h))) (by decide +kernel))) (goodIn_sub (fun _ h => List.mem_cons_of_mem _ (List.mem_append_right _ h)) (by decide +kernel))
set_option maxRecDepth 20000 in
theorem gL_limit_X3_limit : GoodIn wsL_limit (wsV RL 30 RX3 yX3_limit wsX3_limit) := goodIn_app (goodIn_of _ (by decide +kernel)) ggL_limit_X3_limit
theorem dL_limit_0 : decode cL_limit 0 = .ok (.aload_n 3, 1) := by decide +kernel
theorem dL_limit_1 : decode cL_limit 1 = .ok (.iconst 0, 1) := by decide +kernel
theorem dL_limit_2 : decode cL_limit 2 = .ok (.aload_n 0, 1) := by decide +kernel
theorem dL_limit_3 : decode cL_limit 3 = .ok (.iload_n 1, 1) := by decide +kernel
theorem dL_limit_4 : decode cL_limit 4 = .ok (.iload_n 2, 1) := by decide +kernel
theorem dL_limit_5 : decode cL_limit 5 = .ok (.invokevirtual 30, 3) := by decide +kernel
theorem dL_limit_8 : decode cL_limit 8 = .ok (.i2l, 1) := by decide +kernel
theorem dL_limit_9 : decode cL_limit 9 = .ok (.lastore, 1) := by decide +kernel
theorem dL_limit_10 : decode cL_limit 10 = .ok (.goto 11, 3) := by decide +kernel
theorem dL_limit_13 : decode cL_limit 13 = .ok (.astore 4, 2) := by decide +kernel
theorem dL_limit_15 : decode cL_limit 15 = .ok (.iconst 1, 1) := by decide +kernel
theorem dL_limit_16 : decode cL_limit 16 = .ok (.ireturn, 1) := by decide +kernel
theorem dL_limit_17 : decode cL_limit 17 = .ok (.astore 4, 2) := by decide +kernel
theorem dL_limit_19 : decode cL_limit 19 = .ok (.iconst 2, 1) := by decide +kernel
theorem dL_limit_20 : decode cL_limit 20 = .ok (.ireturn, 1) := by decide +kernel
theorem dL_limit_21 : decode cL_limit 21 = .ok (.iconst 0, 1) := by decide +kernel
theorem dL_limit_22 : decode cL_limit 22 = .ok (.ireturn, 1) := by decide +kernel
set_option maxRecDepth 20000 in
theorem ggL_act_X3_act : GoodIn wsL_act wsX3_act := goodIn_ca (goodIn_ca (goodIn_ca (goodIn_r _ [8, 9, 10, 11, 12, 13, 14, 15, 16, 17, 7, 18, 19, 20, 21, 22, 23, 24, 25, 26, 27, 28, 29, 30, 31, 32, 33, 34, 35, 36, 37, 38, 39, 40, 41, 42, 43, 44, 45, 46, 47, 48, 49, 50, 51, 52, 53, 54, 55, 56, 57, 58, 59, 60, 61, 62, 63, 64, 65, 66, 67, 68, 69, 70, 71, 72, 73, 74, 75, 76, 77, 78, 79, 80, 81, 82, 83, 84, 85, 86, 87, 88, 89, 90, 91, 92, 93, 94, 95, 96, 97, 98, 99, 100, 101, 102, 103, 104, 105, 106, 107, 108, 109, 110, 111, 112, 113, 114, 115, 116, 117, 118, 119, 120, 121, 122, 123, 124, 125, 126, 127, 128, 129, 130, 131, 132, 133, 134] (by decide +kernel) (by decide +kernel)) (goodIn_sub (fun _ h => List.mem_cons_of_mem _ (List.mem_append_left _ (List.mem_append_left _ (List.mem_append_right _ h)))) (by decide +kernel))) (goodIn_sub (fun _ h => List.mem_cons_of_mem _ (List.mem_append_left _ (List.mem_append_right _ h))) (by decide +kernel))) (goodIn_sub (fun _ h => List.mem_cons_of_mem _ (List.mem_append_right _ h)) (by decide +kernel))
set_option maxRecDepth 20000 in
theorem gL_act_X3_act : GoodIn wsL_act (wsV RL 33 RX3 yX3_act wsX3_act) := goodIn_app (goodIn_of _ (by decide +kernel)) ggL_act_X3_act
theorem dL_act_0 : decode cL_act 0 = .ok (.aload 4, 2) := by decide +kernel
theorem dL_act_2 : decode cL_act 2 = .ok (.iconst 0, 1) := by decide +kernel
theorem dL_act_3 : decode cL_act 3 = .ok (.aload_n 0, 1) := by decide +kernel
theorem dL_act_4 : decode cL_act 4 = .ok (.iload_n 1, 1) := by decide +kernel
theorem dL_act_5 : decode cL_act 5 = .ok (.iload_n 2, 1) := by decide +kernel
theorem dL_act_6 : decode cL_act 6 = .ok (.iload_n 3, 1) := by decide +kernel
theorem dL_act_7 : decode cL_act 7 = .ok (.invokevirtual 33, 3) := by decide +kernel
theorem dL_act_10 : decode cL_act 10 = .ok (.i2l, 1) := by decide +kernel
theorem dL_act_11 : decode cL_act 11 = .ok (.lastore, 1) := by decide +kernel
theorem dL_act_12 : decode cL_act 12 = .ok (.goto 15, 3) := by decide +kernel
theorem dL_act_15 : decode cL_act 15 = .ok (.astore 5, 2) := by decide +kernel
theorem dL_act_17 : decode cL_act 17 = .ok (.iconst 1, 1) := by decide +kernel
theorem dL_act_18 : decode cL_act 18 = .ok (.ireturn, 1) := by decide +kernel
theorem dL_act_19 : decode cL_act 19 = .ok (.astore 5, 2) := by decide +kernel
theorem dL_act_21 : decode cL_act 21 = .ok (.iconst 2, 1) := by decide +kernel
theorem dL_act_22 : decode cL_act 22 = .ok (.ireturn, 1) := by decide +kernel
theorem dL_act_23 : decode cL_act 23 = .ok (.astore 5, 2) := by decide +kernel
theorem dL_act_25 : decode cL_act 25 = .ok (.iconst 3, 1) := by decide +kernel
theorem dL_act_26 : decode cL_act 26 = .ok (.ireturn, 1) := by decide +kernel
theorem dL_act_27 : decode cL_act 27 = .ok (.iconst 0, 1) := by decide +kernel
theorem dL_act_28 : decode cL_act 28 = .ok (.ireturn, 1) := by decide +kernel
set_option maxRecDepth 20000 in
theorem ggL_court_X3_court : GoodIn wsL_court wsX3_court := goodIn_ca (goodIn_r _ [6, 7, 8, 9, 10, 11, 5, 12, 13, 14, 15, 16, 17, 18, 19, 20, 21, 22, 23, 24, 25, 26, 27, 28, 29, 30, 31, 32, 33, 34] (by decide +kernel) (by decide +kernel)) (goodIn_sub (fun _ h => List.mem_cons_of_mem _ (List.mem_append_right _ h)) (by decide +kernel))
set_option maxRecDepth 20000 in
theorem gL_court_X3_court : GoodIn wsL_court (wsV RL 37 RX3 yX3_court wsX3_court) := goodIn_app (goodIn_of _ (by decide +kernel)) ggL_court_X3_court
theorem dL_court_0 : decode cL_court 0 = .ok (.aload_n 3, 1) := by decide +kernel
theorem dL_court_1 : decode cL_court 1 = .ok (.iconst 0, 1) := by decide +kernel
theorem dL_court_2 : decode cL_court 2 = .ok (.aload_n 0, 1) := by decide +kernel
theorem dL_court_3 : decode cL_court 3 = .ok (.iload_n 1, 1) := by decide +kernel
theorem dL_court_4 : decode cL_court 4 = .ok (.iload_n 2, 1) := by decide +kernel
theorem dL_court_5 : decode cL_court 5 = .ok (.invokevirtual 37, 3) := by decide +kernel
theorem dL_court_8 : decode cL_court 8 = .ok (.ifCond .eq 7, 3) := by decide +kernel
theorem dL_court_11 : decode cL_court 11 = .ok (.lconst 1, 1) := by decide +kernel
theorem dL_court_12 : decode cL_court 12 = .ok (.goto 4, 3) := by decide +kernel
theorem dL_court_15 : decode cL_court 15 = .ok (.lconst 0, 1) := by decide +kernel
theorem dL_court_16 : decode cL_court 16 = .ok (.lastore, 1) := by decide +kernel
theorem dL_court_17 : decode cL_court 17 = .ok (.goto 7, 3) := by decide +kernel
theorem dL_court_20 : decode cL_court 20 = .ok (.astore 4, 2) := by decide +kernel
theorem dL_court_22 : decode cL_court 22 = .ok (.iconst 1, 1) := by decide +kernel
theorem dL_court_23 : decode cL_court 23 = .ok (.ireturn, 1) := by decide +kernel
theorem dL_court_24 : decode cL_court 24 = .ok (.iconst 0, 1) := by decide +kernel
theorem dL_court_25 : decode cL_court 25 = .ok (.ireturn, 1) := by decide +kernel
set_option maxRecDepth 20000 in
theorem ggL_waive_X3_waive : GoodIn wsL_waive wsX3_waive := goodIn_ca (goodIn_r _ [6, 7, 8, 9, 10, 11, 5, 12, 13, 14, 15, 16, 17, 18, 19, 20, 21, 22, 23, 24, 25, 26, 27, 28, 29, 30, 31, 32, 33, 34] (by decide +kernel) (by decide +kernel)) (goodIn_sub (fun _ h => List.mem_cons_of_mem _ (List.mem_append_right _ h)) (by decide +kernel))
set_option maxRecDepth 20000 in
theorem gL_waive_X3_waive : GoodIn wsL_waive (wsV RL 41 RX3 yX3_waive wsX3_waive) := goodIn_app (goodIn_of _ (by decide +kernel)) ggL_waive_X3_waive
theorem dL_waive_0 : decode cL_waive 0 = .ok (.aload_n 3, 1) := by decide +kernel
theorem dL_waive_1 : decode cL_waive 1 = .ok (.iconst 0, 1) := by decide +kernel
theorem dL_waive_2 : decode cL_waive 2 = .ok (.aload_n 0, 1) := by decide +kernel
theorem dL_waive_3 : decode cL_waive 3 = .ok (.iload_n 1, 1) := by decide +kernel
theorem dL_waive_4 : decode cL_waive 4 = .ok (.iload_n 2, 1) := by decide +kernel
theorem dL_waive_5 : decode cL_waive 5 = .ok (.invokevirtual 41, 3) := by decide +kernel
theorem dL_waive_8 : decode cL_waive 8 = .ok (.ifCond .eq 7, 3) := by decide +kernel
theorem dL_waive_11 : decode cL_waive 11 = .ok (.lconst 1, 1) := by decide +kernel
theorem dL_waive_12 : decode cL_waive 12 = .ok (.goto 4, 3) := by decide +kernel
theorem dL_waive_15 : decode cL_waive 15 = .ok (.lconst 0, 1) := by decide +kernel
theorem dL_waive_16 : decode cL_waive 16 = .ok (.lastore, 1) := by decide +kernel
theorem dL_waive_17 : decode cL_waive 17 = .ok (.goto 7, 3) := by decide +kernel
theorem dL_waive_20 : decode cL_waive 20 = .ok (.astore 4, 2) := by decide +kernel
theorem dL_waive_22 : decode cL_waive 22 = .ok (.iconst 1, 1) := by decide +kernel
theorem dL_waive_23 : decode cL_waive 23 = .ok (.ireturn, 1) := by decide +kernel
theorem dL_waive_24 : decode cL_waive 24 = .ok (.iconst 0, 1) := by decide +kernel
theorem dL_waive_25 : decode cL_waive 25 = .ok (.ireturn, 1) := by decide +kernel
set_option maxRecDepth 20000 in
theorem ggL_plea_X3_plea : GoodIn wsL_plea wsX3_plea := goodIn_ca (goodIn_ca (goodIn_r _ [7, 8, 9, 10, 11, 12, 13, 14, 15, 6, 16, 17, 18, 19, 20, 21, 22, 23, 24, 25, 26, 27, 28, 29, 30, 31, 32, 33, 34, 35, 36, 37, 38] (by decide +kernel) (by decide +kernel)) (goodIn_sub (fun _ h => List.mem_cons_of_mem _ (List.mem_append_left _ (List.mem_append_right _ h))) (by decide +kernel))) (goodIn_sub (fun _ h => List.mem_cons_of_mem _ (List.mem_append_right _ h)) (by decide +kernel))
set_option maxRecDepth 20000 in
theorem gL_plea_X3_plea : GoodIn wsL_plea (wsV RL 44 RX3 yX3_plea wsX3_plea) := goodIn_app (goodIn_of _ (by decide +kernel)) ggL_plea_X3_plea
theorem dL_plea_0 : decode cL_plea 0 = .ok (.aload_n 0, 1) := by decide +kernel
theorem dL_plea_1 : decode cL_plea 1 = .ok (.iload_n 1, 1) := by decide +kernel
theorem dL_plea_2 : decode cL_plea 2 = .ok (.iload_n 2, 1) := by decide +kernel
theorem dL_plea_3 : decode cL_plea 3 = .ok (.invokevirtual 44, 3) := by decide +kernel
theorem dL_plea_6 : decode cL_plea 6 = .ok (.goto 9, 3) := by decide +kernel
theorem dL_plea_9 : decode cL_plea 9 = .ok (.astore_n 3, 1) := by decide +kernel
theorem dL_plea_10 : decode cL_plea 10 = .ok (.iconst 1, 1) := by decide +kernel
theorem dL_plea_11 : decode cL_plea 11 = .ok (.ireturn, 1) := by decide +kernel
theorem dL_plea_12 : decode cL_plea 12 = .ok (.astore_n 3, 1) := by decide +kernel
theorem dL_plea_13 : decode cL_plea 13 = .ok (.iconst 2, 1) := by decide +kernel
theorem dL_plea_14 : decode cL_plea 14 = .ok (.ireturn, 1) := by decide +kernel
theorem dL_plea_15 : decode cL_plea 15 = .ok (.iconst 0, 1) := by decide +kernel
theorem dL_plea_16 : decode cL_plea 16 = .ok (.ireturn, 1) := by decide +kernel
set_option maxRecDepth 20000 in
theorem ggL_bar_X3_bar : GoodIn wsL_bar wsX3_bar := goodIn_ca (goodIn_r _ [6, 7, 8, 9, 10, 11, 5, 12, 13, 14, 15, 16, 17, 18, 19, 20, 21, 22, 23, 24, 25, 26, 27, 28, 29, 30, 31, 32, 33, 34, 35, 36, 37, 38, 39, 40, 41, 42, 43] (by decide +kernel) (by decide +kernel)) (goodIn_sub (fun _ h => List.mem_cons_of_mem _ (List.mem_append_right _ h)) (by decide +kernel))
set_option maxRecDepth 20000 in
theorem gL_bar_X3_bar : GoodIn wsL_bar (wsV RL 48 RX3 yX3_bar wsX3_bar) := goodIn_app (goodIn_of _ (by decide +kernel)) ggL_bar_X3_bar
theorem dL_bar_0 : decode cL_bar 0 = .ok (.aload_n 3, 1) := by decide +kernel
theorem dL_bar_1 : decode cL_bar 1 = .ok (.iconst 0, 1) := by decide +kernel
theorem dL_bar_2 : decode cL_bar 2 = .ok (.aload_n 0, 1) := by decide +kernel
theorem dL_bar_3 : decode cL_bar 3 = .ok (.iload_n 1, 1) := by decide +kernel
theorem dL_bar_4 : decode cL_bar 4 = .ok (.iload_n 2, 1) := by decide +kernel
theorem dL_bar_5 : decode cL_bar 5 = .ok (.invokevirtual 48, 3) := by decide +kernel
theorem dL_bar_8 : decode cL_bar 8 = .ok (.i2l, 1) := by decide +kernel
theorem dL_bar_9 : decode cL_bar 9 = .ok (.lastore, 1) := by decide +kernel
theorem dL_bar_10 : decode cL_bar 10 = .ok (.goto 7, 3) := by decide +kernel
theorem dL_bar_13 : decode cL_bar 13 = .ok (.astore 4, 2) := by decide +kernel
theorem dL_bar_15 : decode cL_bar 15 = .ok (.iconst 1, 1) := by decide +kernel
theorem dL_bar_16 : decode cL_bar 16 = .ok (.ireturn, 1) := by decide +kernel
theorem dL_bar_17 : decode cL_bar 17 = .ok (.iconst 0, 1) := by decide +kernel
theorem dL_bar_18 : decode cL_bar 18 = .ok (.ireturn, 1) := by decide +kernel
set_option maxRecDepth 20000 in
theorem ggL_complain_X3_complain : GoodIn wsL_complain wsX3_complain := goodIn_ca (goodIn_ca (goodIn_r _ [7, 8, 9, 10, 11, 12, 13, 14, 15, 6, 16, 17, 18, 19, 20, 21, 22, 23, 24, 25, 26, 27, 28, 29, 30, 31, 32, 33, 34, 35, 36, 37, 38, 39, 40, 41, 42, 43, 44, 45, 46, 47, 48, 49, 50, 51, 52, 53, 54, 55, 56, 57, 58, 59, 60, 61, 62, 63, 64, 65, 66, 67, 68, 69, 70, 71, 72, 73, 74, 75, 76, 77, 78, 79, 80, 81] (by decide +kernel) (by decide +kernel)) (goodIn_sub (fun _ h => List.mem_cons_of_mem _ (List.mem_append_left _ (List.mem_append_right _ h))) (by decide +kernel))) (goodIn_sub (fun _ h => List.mem_cons_of_mem _ (List.mem_append_right _ h)) (by decide +kernel))
set_option maxRecDepth 20000 in
theorem gL_complain_X3_complain : GoodIn wsL_complain (wsV RL 51 RX3 yX3_complain wsX3_complain) := goodIn_app (goodIn_of _ (by decide +kernel)) ggL_complain_X3_complain
theorem dL_complain_0 : decode cL_complain 0 = .ok (.aload_n 3, 1) := by decide +kernel
theorem dL_complain_1 : decode cL_complain 1 = .ok (.iconst 0, 1) := by decide +kernel
theorem dL_complain_2 : decode cL_complain 2 = .ok (.aload_n 0, 1) := by decide +kernel
theorem dL_complain_3 : decode cL_complain 3 = .ok (.iload_n 1, 1) := by decide +kernel
theorem dL_complain_4 : decode cL_complain 4 = .ok (.iload_n 2, 1) := by decide +kernel
theorem dL_complain_5 : decode cL_complain 5 = .ok (.invokevirtual 51, 3) := by decide +kernel
theorem dL_complain_8 : decode cL_complain 8 = .ok (.i2l, 1) := by decide +kernel
theorem dL_complain_9 : decode cL_complain 9 = .ok (.lastore, 1) := by decide +kernel
theorem dL_complain_10 : decode cL_complain 10 = .ok (.goto 11, 3) := by decide +kernel
theorem dL_complain_13 : decode cL_complain 13 = .ok (.astore 4, 2) := by decide +kernel
theorem dL_complain_15 : decode cL_complain 15 = .ok (.iconst 1, 1) := by decide +kernel
theorem dL_complain_16 : decode cL_complain 16 = .ok (.ireturn, 1) := by decide +kernel
theorem dL_complain_17 : decode cL_complain 17 = .ok (.astore 4, 2) := by decide +kernel
theorem dL_complain_19 : decode cL_complain 19 = .ok (.iconst 2, 1) := by decide +kernel
theorem dL_complain_20 : decode cL_complain 20 = .ok (.ireturn, 1) := by decide +kernel
theorem dL_complain_21 : decode cL_complain 21 = .ok (.iconst 0, 1) := by decide +kernel
theorem dL_complain_22 : decode cL_complain 22 = .ok (.ireturn, 1) := by decide +kernel
set_option maxRecDepth 20000 in
theorem ggL_ask_X3_ask : GoodIn wsL_ask wsX3_ask := goodIn_ca (goodIn_ca (goodIn_r _ [7, 8, 9, 10, 11, 12, 13, 14, 15, 16, 17, 18, 19, 20, 6, 21, 22, 23, 24, 25, 26, 27, 28, 29, 30, 31, 32, 33, 34, 35, 36, 37, 38, 39, 40, 41, 42, 43, 44, 45, 46, 47, 48, 49, 50, 51] (by decide +kernel) (by decide +kernel)) (goodIn_sub (fun _ h => List.mem_cons_of_mem _ (List.mem_append_left _ (List.mem_append_right _ h))) (by decide +kernel))) (goodIn_sub (fun _ h => List.mem_cons_of_mem _ (List.mem_append_right _ h)) (by decide +kernel))
set_option maxRecDepth 20000 in
theorem gL_ask_X3_ask : GoodIn wsL_ask (wsV RL 54 RX3 yX3_ask wsX3_ask) := goodIn_app (goodIn_of _ (by decide +kernel)) ggL_ask_X3_ask
theorem dL_ask_0 : decode cL_ask 0 = .ok (.aload_n 2, 1) := by decide +kernel
theorem dL_ask_1 : decode cL_ask 1 = .ok (.iconst 0, 1) := by decide +kernel
theorem dL_ask_2 : decode cL_ask 2 = .ok (.aload_n 0, 1) := by decide +kernel
theorem dL_ask_3 : decode cL_ask 3 = .ok (.iload_n 1, 1) := by decide +kernel
theorem dL_ask_4 : decode cL_ask 4 = .ok (.invokevirtual 54, 3) := by decide +kernel
theorem dL_ask_7 : decode cL_ask 7 = .ok (.i2l, 1) := by decide +kernel
theorem dL_ask_8 : decode cL_ask 8 = .ok (.lastore, 1) := by decide +kernel
theorem dL_ask_9 : decode cL_ask 9 = .ok (.goto 9, 3) := by decide +kernel
theorem dL_ask_12 : decode cL_ask 12 = .ok (.astore_n 3, 1) := by decide +kernel
theorem dL_ask_13 : decode cL_ask 13 = .ok (.iconst 1, 1) := by decide +kernel
theorem dL_ask_14 : decode cL_ask 14 = .ok (.ireturn, 1) := by decide +kernel
theorem dL_ask_15 : decode cL_ask 15 = .ok (.astore_n 3, 1) := by decide +kernel
theorem dL_ask_16 : decode cL_ask 16 = .ok (.iconst 2, 1) := by decide +kernel
theorem dL_ask_17 : decode cL_ask 17 = .ok (.ireturn, 1) := by decide +kernel
theorem dL_ask_18 : decode cL_ask 18 = .ok (.iconst 0, 1) := by decide +kernel
theorem dL_ask_19 : decode cL_ask 19 = .ok (.ireturn, 1) := by decide +kernel
set_option maxRecDepth 20000 in
theorem ggL_answer_X3_answer : GoodIn wsL_answer wsX3_answer := goodIn_ca (goodIn_ca (goodIn_r _ [7, 8, 9, 10, 11, 12, 13, 14, 15, 16, 6, 17, 18, 19, 20, 21, 22, 23, 24, 25, 26, 27, 28, 29, 30, 31, 32, 33, 34, 35, 36, 37, 38] (by decide +kernel) (by decide +kernel)) (goodIn_sub (fun _ h => List.mem_cons_of_mem _ (List.mem_append_left _ (List.mem_append_right _ h))) (by decide +kernel))) (goodIn_sub (fun _ h => List.mem_cons_of_mem _ (List.mem_append_right _ h)) (by decide +kernel))
set_option maxRecDepth 20000 in
theorem gL_answer_X3_answer : GoodIn wsL_answer (wsV RL 57 RX3 yX3_answer wsX3_answer) := goodIn_app (goodIn_of _ (by decide +kernel)) ggL_answer_X3_answer
theorem dL_answer_0 : decode cL_answer 0 = .ok (.aload_n 2, 1) := by decide +kernel
theorem dL_answer_1 : decode cL_answer 1 = .ok (.iconst 0, 1) := by decide +kernel
theorem dL_answer_2 : decode cL_answer 2 = .ok (.aload_n 0, 1) := by decide +kernel
theorem dL_answer_3 : decode cL_answer 3 = .ok (.iload_n 1, 1) := by decide +kernel
theorem dL_answer_4 : decode cL_answer 4 = .ok (.invokevirtual 57, 3) := by decide +kernel
theorem dL_answer_7 : decode cL_answer 7 = .ok (.i2l, 1) := by decide +kernel
theorem dL_answer_8 : decode cL_answer 8 = .ok (.lastore, 1) := by decide +kernel
theorem dL_answer_9 : decode cL_answer 9 = .ok (.goto 9, 3) := by decide +kernel
theorem dL_answer_12 : decode cL_answer 12 = .ok (.astore_n 3, 1) := by decide +kernel
theorem dL_answer_13 : decode cL_answer 13 = .ok (.iconst 1, 1) := by decide +kernel
theorem dL_answer_14 : decode cL_answer 14 = .ok (.ireturn, 1) := by decide +kernel
theorem dL_answer_15 : decode cL_answer 15 = .ok (.astore_n 3, 1) := by decide +kernel
theorem dL_answer_16 : decode cL_answer 16 = .ok (.iconst 2, 1) := by decide +kernel
theorem dL_answer_17 : decode cL_answer 17 = .ok (.ireturn, 1) := by decide +kernel
theorem dL_answer_18 : decode cL_answer 18 = .ok (.iconst 0, 1) := by decide +kernel
theorem dL_answer_19 : decode cL_answer 19 = .ok (.ireturn, 1) := by decide +kernel
set_option maxRecDepth 20000 in
theorem ggL_hear_X3_hear : GoodIn wsL_hear wsX3_hear := goodIn_ca (goodIn_ca (goodIn_r _ [7, 8, 9, 10, 11, 12, 13, 14, 15, 16, 6, 17, 18, 19, 20, 21, 22, 23, 24, 25, 26, 27, 28, 29, 30, 31, 32, 33, 34, 35, 36, 37, 38] (by decide +kernel) (by decide +kernel)) (goodIn_sub (fun _ h => List.mem_cons_of_mem _ (List.mem_append_left _ (List.mem_append_right _ h))) (by decide +kernel))) (goodIn_sub (fun _ h => List.mem_cons_of_mem _ (List.mem_append_right _ h)) (by decide +kernel))
set_option maxRecDepth 20000 in
theorem gL_hear_X3_hear : GoodIn wsL_hear (wsV RL 60 RX3 yX3_hear wsX3_hear) := goodIn_app (goodIn_of _ (by decide +kernel)) ggL_hear_X3_hear
theorem dL_hear_0 : decode cL_hear 0 = .ok (.aload_n 0, 1) := by decide +kernel
theorem dL_hear_1 : decode cL_hear 1 = .ok (.iload_n 1, 1) := by decide +kernel
theorem dL_hear_2 : decode cL_hear 2 = .ok (.invokevirtual 60, 3) := by decide +kernel
theorem dL_hear_5 : decode cL_hear 5 = .ok (.goto 9, 3) := by decide +kernel
theorem dL_hear_8 : decode cL_hear 8 = .ok (.astore_n 2, 1) := by decide +kernel
theorem dL_hear_9 : decode cL_hear 9 = .ok (.iconst 1, 1) := by decide +kernel
theorem dL_hear_10 : decode cL_hear 10 = .ok (.ireturn, 1) := by decide +kernel
theorem dL_hear_11 : decode cL_hear 11 = .ok (.astore_n 2, 1) := by decide +kernel
theorem dL_hear_12 : decode cL_hear 12 = .ok (.iconst 2, 1) := by decide +kernel
theorem dL_hear_13 : decode cL_hear 13 = .ok (.ireturn, 1) := by decide +kernel
theorem dL_hear_14 : decode cL_hear 14 = .ok (.iconst 0, 1) := by decide +kernel
theorem dL_hear_15 : decode cL_hear 15 = .ok (.ireturn, 1) := by decide +kernel
set_option maxRecDepth 20000 in
theorem ggL_find_X3_find : GoodIn wsL_find wsX3_find := goodIn_ca (goodIn_ca (goodIn_r _ [7, 8, 9, 10, 11, 12, 13, 14, 15, 16, 17, 6, 18, 19, 20, 21, 22, 23, 24, 25, 26, 27, 28, 29, 30, 31, 32, 33, 34, 35, 36, 37, 38, 39, 40, 41, 42, 43, 44, 45, 46, 47, 48, 49, 50, 51, 52, 53, 54, 55, 56, 57, 58, 59, 60, 61, 62, 63, 64, 65, 66, 67, 68, 69, 70, 71, 72, 73, 74, 75, 76, 77, 78, 79, 80, 81, 82, 83, 84, 85, 86, 87, 88, 89, 90, 91, 92] (by decide +kernel) (by decide +kernel)) (goodIn_sub (fun _ h => List.mem_cons_of_mem _ (List.mem_append_left _ (List.mem_append_right _ h))) (by decide +kernel))) (goodIn_sub (fun _ h => List.mem_cons_of_mem _ (List.mem_append_right _ h)) (by decide +kernel))
set_option maxRecDepth 20000 in
theorem gL_find_X3_find : GoodIn wsL_find (wsV RL 64 RX3 yX3_find wsX3_find) := goodIn_app (goodIn_of _ (by decide +kernel)) ggL_find_X3_find
theorem dL_find_0 : decode cL_find 0 = .ok (.aload_n 2, 1) := by decide +kernel
theorem dL_find_1 : decode cL_find 1 = .ok (.iconst 0, 1) := by decide +kernel
theorem dL_find_2 : decode cL_find 2 = .ok (.aload_n 0, 1) := by decide +kernel
theorem dL_find_3 : decode cL_find 3 = .ok (.iload_n 1, 1) := by decide +kernel
theorem dL_find_4 : decode cL_find 4 = .ok (.invokevirtual 64, 3) := by decide +kernel
theorem dL_find_7 : decode cL_find 7 = .ok (.i2l, 1) := by decide +kernel
theorem dL_find_8 : decode cL_find 8 = .ok (.lastore, 1) := by decide +kernel
theorem dL_find_9 : decode cL_find 9 = .ok (.goto 9, 3) := by decide +kernel
theorem dL_find_12 : decode cL_find 12 = .ok (.astore_n 3, 1) := by decide +kernel
theorem dL_find_13 : decode cL_find 13 = .ok (.iconst 1, 1) := by decide +kernel
theorem dL_find_14 : decode cL_find 14 = .ok (.ireturn, 1) := by decide +kernel
theorem dL_find_15 : decode cL_find 15 = .ok (.astore_n 3, 1) := by decide +kernel
theorem dL_find_16 : decode cL_find 16 = .ok (.iconst 2, 1) := by decide +kernel
theorem dL_find_17 : decode cL_find 17 = .ok (.ireturn, 1) := by decide +kernel
theorem dL_find_18 : decode cL_find 18 = .ok (.iconst 0, 1) := by decide +kernel
theorem dL_find_19 : decode cL_find 19 = .ok (.ireturn, 1) := by decide +kernel
set_option maxRecDepth 20000 in
theorem ggL_remedy_X3_remedy : GoodIn wsL_remedy wsX3_remedy := goodIn_ca (goodIn_ca (goodIn_ca (goodIn_r _ [8, 9, 10, 11, 12, 13, 14, 15, 16, 17, 18, 19, 7, 20, 21, 22, 23, 24, 25, 26, 27, 28, 29, 30, 31, 32, 33, 34, 35, 36, 37, 38, 39, 40, 41, 42, 43, 44, 45, 46, 47, 48, 49, 50, 51, 52, 53, 54, 55, 56, 57, 58, 59, 60, 61, 62, 63, 64, 65, 66, 67, 68, 69, 70, 71, 72, 73, 74, 75, 76, 77, 78, 79, 80, 81, 82, 83, 84, 85, 86, 87, 88, 89, 90, 91, 92, 93, 94, 95, 96, 97, 98, 99, 100, 101, 102, 103, 104] (by decide +kernel) (by decide +kernel)) (goodIn_sub (fun _ h => List.mem_cons_of_mem _ (List.mem_append_left _ (List.mem_append_left _ (List.mem_append_right _ h)))) (by decide +kernel))) (goodIn_sub (fun _ h => List.mem_cons_of_mem _ (List.mem_append_left _ (List.mem_append_right _ h))) (by decide +kernel))) (goodIn_sub (fun _ h => List.mem_cons_of_mem _ (List.mem_append_right _ h)) (by decide +kernel))
set_option maxRecDepth 20000 in
theorem gL_remedy_X3_remedy : GoodIn wsL_remedy (wsV RL 67 RX3 yX3_remedy wsX3_remedy) := goodIn_app (goodIn_of _ (by decide +kernel)) ggL_remedy_X3_remedy
theorem dL_remedy_0 : decode cL_remedy 0 = .ok (.aload_n 3, 1) := by decide +kernel
theorem dL_remedy_1 : decode cL_remedy 1 = .ok (.iconst 0, 1) := by decide +kernel
theorem dL_remedy_2 : decode cL_remedy 2 = .ok (.aload_n 0, 1) := by decide +kernel
theorem dL_remedy_3 : decode cL_remedy 3 = .ok (.iload_n 1, 1) := by decide +kernel
theorem dL_remedy_4 : decode cL_remedy 4 = .ok (.iload_n 2, 1) := by decide +kernel
theorem dL_remedy_5 : decode cL_remedy 5 = .ok (.invokevirtual 67, 3) := by decide +kernel
theorem dL_remedy_8 : decode cL_remedy 8 = .ok (.i2l, 1) := by decide +kernel
theorem dL_remedy_9 : decode cL_remedy 9 = .ok (.lastore, 1) := by decide +kernel
theorem dL_remedy_10 : decode cL_remedy 10 = .ok (.goto 15, 3) := by decide +kernel
theorem dL_remedy_13 : decode cL_remedy 13 = .ok (.astore 4, 2) := by decide +kernel
theorem dL_remedy_15 : decode cL_remedy 15 = .ok (.iconst 1, 1) := by decide +kernel
theorem dL_remedy_16 : decode cL_remedy 16 = .ok (.ireturn, 1) := by decide +kernel
theorem dL_remedy_17 : decode cL_remedy 17 = .ok (.astore 4, 2) := by decide +kernel
theorem dL_remedy_19 : decode cL_remedy 19 = .ok (.iconst 2, 1) := by decide +kernel
theorem dL_remedy_20 : decode cL_remedy 20 = .ok (.ireturn, 1) := by decide +kernel
theorem dL_remedy_21 : decode cL_remedy 21 = .ok (.astore 4, 2) := by decide +kernel
theorem dL_remedy_23 : decode cL_remedy 23 = .ok (.iconst 3, 1) := by decide +kernel
theorem dL_remedy_24 : decode cL_remedy 24 = .ok (.ireturn, 1) := by decide +kernel
theorem dL_remedy_25 : decode cL_remedy 25 = .ok (.iconst 0, 1) := by decide +kernel
theorem dL_remedy_26 : decode cL_remedy 26 = .ok (.ireturn, 1) := by decide +kernel
set_option maxRecDepth 20000 in
theorem ggL_pass_X3_pass : GoodIn wsL_pass wsX3_pass := goodIn_ca (goodIn_ca (goodIn_r _ [7, 8, 9, 10, 11, 12, 13, 14, 6, 15, 16, 17, 18, 19, 20, 21, 22, 23, 24, 25, 26, 27, 28, 29, 30, 31, 32, 33, 34, 35, 36, 37, 38, 39, 40, 41, 42, 43, 44, 45, 46, 47, 48] (by decide +kernel) (by decide +kernel)) (goodIn_sub (fun _ h => List.mem_cons_of_mem _ (List.mem_append_left _ (List.mem_append_right _ h))) (by decide +kernel))) (goodIn_sub (fun _ h => List.mem_cons_of_mem _ (List.mem_append_right _ h)) (by decide +kernel))
set_option maxRecDepth 20000 in
theorem gL_pass_X3_pass : GoodIn wsL_pass (wsV RL 70 RX3 yX3_pass wsX3_pass) := goodIn_app (goodIn_of _ (by decide +kernel)) ggL_pass_X3_pass
theorem dL_pass_0 : decode cL_pass 0 = .ok (.aload_n 2, 1) := by decide +kernel
theorem dL_pass_1 : decode cL_pass 1 = .ok (.iconst 0, 1) := by decide +kernel
theorem dL_pass_2 : decode cL_pass 2 = .ok (.aload_n 0, 1) := by decide +kernel
theorem dL_pass_3 : decode cL_pass 3 = .ok (.iload_n 1, 1) := by decide +kernel
theorem dL_pass_4 : decode cL_pass 4 = .ok (.invokevirtual 70, 3) := by decide +kernel
theorem dL_pass_7 : decode cL_pass 7 = .ok (.i2l, 1) := by decide +kernel
theorem dL_pass_8 : decode cL_pass 8 = .ok (.lastore, 1) := by decide +kernel
theorem dL_pass_9 : decode cL_pass 9 = .ok (.goto 9, 3) := by decide +kernel
theorem dL_pass_12 : decode cL_pass 12 = .ok (.astore_n 3, 1) := by decide +kernel
theorem dL_pass_13 : decode cL_pass 13 = .ok (.iconst 1, 1) := by decide +kernel
theorem dL_pass_14 : decode cL_pass 14 = .ok (.ireturn, 1) := by decide +kernel
theorem dL_pass_15 : decode cL_pass 15 = .ok (.astore_n 3, 1) := by decide +kernel
theorem dL_pass_16 : decode cL_pass 16 = .ok (.iconst 2, 1) := by decide +kernel
theorem dL_pass_17 : decode cL_pass 17 = .ok (.ireturn, 1) := by decide +kernel
theorem dL_pass_18 : decode cL_pass 18 = .ok (.iconst 0, 1) := by decide +kernel
theorem dL_pass_19 : decode cL_pass 19 = .ok (.ireturn, 1) := by decide +kernel
set_option maxRecDepth 20000 in
theorem ggL_about_X3_about : GoodIn wsL_about wsX3_about := goodIn_ca (goodIn_ca (goodIn_r _ [7, 8, 9, 10, 11, 12, 13, 14, 15, 16, 17, 6, 18, 19, 20, 21, 22, 23, 24, 25, 26, 27, 28, 29, 30, 31, 32, 33, 34, 35, 36, 37, 38, 39, 40, 41, 42, 43, 44, 45, 46, 47, 48, 49, 50, 51] (by decide +kernel) (by decide +kernel)) (goodIn_sub (fun _ h => List.mem_cons_of_mem _ (List.mem_append_left _ (List.mem_append_right _ h))) (by decide +kernel))) (goodIn_sub (fun _ h => List.mem_cons_of_mem _ (List.mem_append_right _ h)) (by decide +kernel))
set_option maxRecDepth 20000 in
theorem gL_about_X3_about : GoodIn wsL_about (wsV RL 73 RX3 yX3_about wsX3_about) := goodIn_app (goodIn_of _ (by decide +kernel)) ggL_about_X3_about
theorem dL_about_0 : decode cL_about 0 = .ok (.aload_n 3, 1) := by decide +kernel
theorem dL_about_1 : decode cL_about 1 = .ok (.iconst 0, 1) := by decide +kernel
theorem dL_about_2 : decode cL_about 2 = .ok (.aload_n 0, 1) := by decide +kernel
theorem dL_about_3 : decode cL_about 3 = .ok (.iload_n 1, 1) := by decide +kernel
theorem dL_about_4 : decode cL_about 4 = .ok (.iload_n 2, 1) := by decide +kernel
theorem dL_about_5 : decode cL_about 5 = .ok (.invokevirtual 73, 3) := by decide +kernel
theorem dL_about_8 : decode cL_about 8 = .ok (.i2l, 1) := by decide +kernel
theorem dL_about_9 : decode cL_about 9 = .ok (.lastore, 1) := by decide +kernel
theorem dL_about_10 : decode cL_about 10 = .ok (.goto 11, 3) := by decide +kernel
theorem dL_about_13 : decode cL_about 13 = .ok (.astore 4, 2) := by decide +kernel
theorem dL_about_15 : decode cL_about 15 = .ok (.iconst 1, 1) := by decide +kernel
theorem dL_about_16 : decode cL_about 16 = .ok (.ireturn, 1) := by decide +kernel
theorem dL_about_17 : decode cL_about 17 = .ok (.astore 4, 2) := by decide +kernel
theorem dL_about_19 : decode cL_about 19 = .ok (.iconst 2, 1) := by decide +kernel
theorem dL_about_20 : decode cL_about 20 = .ok (.ireturn, 1) := by decide +kernel
theorem dL_about_21 : decode cL_about 21 = .ok (.iconst 0, 1) := by decide +kernel
theorem dL_about_22 : decode cL_about 22 = .ok (.ireturn, 1) := by decide +kernel
set_option maxRecDepth 20000 in
theorem ggL_reminder_X3_reminder : GoodIn wsL_reminder wsX3_reminder := goodIn_ca (goodIn_r _ [6, 7, 8, 9, 10, 11, 12, 13, 14, 15, 16, 5, 17, 18, 19, 20, 21, 22, 23, 24, 25, 26, 27, 28, 29, 30, 31, 32, 33, 34, 35, 36, 37, 38, 39, 40, 41, 42, 43, 44, 45, 46, 47, 48, 49, 50, 51, 52] (by decide +kernel) (by decide +kernel)) (goodIn_sub (fun _ h => List.mem_cons_of_mem _ (List.mem_append_right _ h)) (by decide +kernel))
set_option maxRecDepth 20000 in
theorem gL_reminder_X3_reminder : GoodIn wsL_reminder (wsV RL 76 RX3 yX3_reminder wsX3_reminder) := goodIn_app (goodIn_of _ (by decide +kernel)) ggL_reminder_X3_reminder
theorem dL_reminder_0 : decode cL_reminder 0 = .ok (.aload_n 2, 1) := by decide +kernel
theorem dL_reminder_1 : decode cL_reminder 1 = .ok (.iconst 0, 1) := by decide +kernel
theorem dL_reminder_2 : decode cL_reminder 2 = .ok (.aload_n 0, 1) := by decide +kernel
theorem dL_reminder_3 : decode cL_reminder 3 = .ok (.iload_n 1, 1) := by decide +kernel
theorem dL_reminder_4 : decode cL_reminder 4 = .ok (.invokevirtual 76, 3) := by decide +kernel
theorem dL_reminder_7 : decode cL_reminder 7 = .ok (.i2l, 1) := by decide +kernel
theorem dL_reminder_8 : decode cL_reminder 8 = .ok (.lastore, 1) := by decide +kernel
theorem dL_reminder_9 : decode cL_reminder 9 = .ok (.goto 6, 3) := by decide +kernel
theorem dL_reminder_12 : decode cL_reminder 12 = .ok (.astore_n 3, 1) := by decide +kernel
theorem dL_reminder_13 : decode cL_reminder 13 = .ok (.iconst 1, 1) := by decide +kernel
theorem dL_reminder_14 : decode cL_reminder 14 = .ok (.ireturn, 1) := by decide +kernel
theorem dL_reminder_15 : decode cL_reminder 15 = .ok (.iconst 0, 1) := by decide +kernel
theorem dL_reminder_16 : decode cL_reminder 16 = .ok (.ireturn, 1) := by decide +kernel
set_option maxRecDepth 20000 in
theorem ggL_fault_X3_fault : GoodIn wsL_fault wsX3_fault := goodIn_ca (goodIn_r _ [6, 7, 8, 9, 5, 10, 11, 12, 13, 14, 15, 16, 17, 18, 19, 20, 21, 22, 23, 24, 25, 26, 27, 28, 29, 30, 31, 32, 33, 34, 35, 36, 37, 38, 39, 40, 41, 42, 43, 44, 45, 46, 47, 48, 49, 50, 51, 52, 53, 54, 55, 56, 57, 58, 59, 60, 61, 62, 63, 64, 65, 66, 67, 68, 69, 70, 71, 72, 73, 74, 75] (by decide +kernel) (by decide +kernel)) (goodIn_sub (fun _ h => List.mem_cons_of_mem _ (List.mem_append_right _ h)) (by decide +kernel))
set_option maxRecDepth 20000 in
theorem gL_fault_X3_fault : GoodIn wsL_fault (wsV RL 79 RX3 yX3_fault wsX3_fault) := goodIn_app (goodIn_of _ (by decide +kernel)) ggL_fault_X3_fault
theorem dL_fault_0 : decode cL_fault 0 = .ok (.aload_n 2, 1) := by decide +kernel
theorem dL_fault_1 : decode cL_fault 1 = .ok (.iconst 0, 1) := by decide +kernel
theorem dL_fault_2 : decode cL_fault 2 = .ok (.aload_n 0, 1) := by decide +kernel
theorem dL_fault_3 : decode cL_fault 3 = .ok (.iload_n 1, 1) := by decide +kernel
theorem dL_fault_4 : decode cL_fault 4 = .ok (.invokevirtual 79, 3) := by decide +kernel
theorem dL_fault_7 : decode cL_fault 7 = .ok (.i2l, 1) := by decide +kernel
theorem dL_fault_8 : decode cL_fault 8 = .ok (.lastore, 1) := by decide +kernel
theorem dL_fault_9 : decode cL_fault 9 = .ok (.goto 6, 3) := by decide +kernel
theorem dL_fault_12 : decode cL_fault 12 = .ok (.astore_n 3, 1) := by decide +kernel
theorem dL_fault_13 : decode cL_fault 13 = .ok (.iconst 1, 1) := by decide +kernel
theorem dL_fault_14 : decode cL_fault 14 = .ok (.ireturn, 1) := by decide +kernel
theorem dL_fault_15 : decode cL_fault 15 = .ok (.iconst 0, 1) := by decide +kernel
theorem dL_fault_16 : decode cL_fault 16 = .ok (.ireturn, 1) := by decide +kernel
set_option maxRecDepth 20000 in
theorem ggL_likes_X3_likes : GoodIn wsL_likes wsX3_likes := goodIn_ca (goodIn_r _ [6, 7, 8, 9, 5, 10, 11, 12, 13, 14, 15, 16, 17, 18, 19, 20, 21, 22, 23, 24, 25, 26, 27, 28, 29, 30, 31, 32, 33, 34, 35, 36, 37, 38, 39, 40, 41, 42, 43] (by decide +kernel) (by decide +kernel)) (goodIn_sub (fun _ h => List.mem_cons_of_mem _ (List.mem_append_right _ h)) (by decide +kernel))
set_option maxRecDepth 20000 in
theorem gL_likes_X3_likes : GoodIn wsL_likes (wsV RL 82 RX3 yX3_likes wsX3_likes) := goodIn_app (goodIn_of _ (by decide +kernel)) ggL_likes_X3_likes
theorem dL_likes_0 : decode cL_likes 0 = .ok (.aload_n 2, 1) := by decide +kernel
theorem dL_likes_1 : decode cL_likes 1 = .ok (.iconst 0, 1) := by decide +kernel
theorem dL_likes_2 : decode cL_likes 2 = .ok (.aload_n 0, 1) := by decide +kernel
theorem dL_likes_3 : decode cL_likes 3 = .ok (.iload_n 1, 1) := by decide +kernel
theorem dL_likes_4 : decode cL_likes 4 = .ok (.invokevirtual 82, 3) := by decide +kernel
theorem dL_likes_7 : decode cL_likes 7 = .ok (.i2l, 1) := by decide +kernel
theorem dL_likes_8 : decode cL_likes 8 = .ok (.lastore, 1) := by decide +kernel
theorem dL_likes_9 : decode cL_likes 9 = .ok (.goto 6, 3) := by decide +kernel
theorem dL_likes_12 : decode cL_likes 12 = .ok (.astore_n 3, 1) := by decide +kernel
theorem dL_likes_13 : decode cL_likes 13 = .ok (.iconst 1, 1) := by decide +kernel
theorem dL_likes_14 : decode cL_likes 14 = .ok (.ireturn, 1) := by decide +kernel
theorem dL_likes_15 : decode cL_likes 15 = .ok (.iconst 0, 1) := by decide +kernel
theorem dL_likes_16 : decode cL_likes 16 = .ok (.ireturn, 1) := by decide +kernel
set_option maxRecDepth 20000 in
theorem ggL_remedied_X3_remedied : GoodIn wsL_remedied wsX3_remedied := goodIn_ca (goodIn_r _ [6, 7, 8, 9, 10, 11, 5, 12, 13, 14, 15, 16, 17, 18, 19, 20, 21, 22, 23, 24, 25, 26, 27, 28, 29, 30, 31, 32, 33, 34] (by decide +kernel) (by decide +kernel)) (goodIn_sub (fun _ h => List.mem_cons_of_mem _ (List.mem_append_right _ h)) (by decide +kernel))
set_option maxRecDepth 20000 in
theorem gL_remedied_X3_remedied : GoodIn wsL_remedied (wsV RL 85 RX3 yX3_remedied wsX3_remedied) := goodIn_app (goodIn_of _ (by decide +kernel)) ggL_remedied_X3_remedied
theorem dL_remedied_0 : decode cL_remedied 0 = .ok (.aload_n 2, 1) := by decide +kernel
theorem dL_remedied_1 : decode cL_remedied 1 = .ok (.iconst 0, 1) := by decide +kernel
theorem dL_remedied_2 : decode cL_remedied 2 = .ok (.aload_n 0, 1) := by decide +kernel
theorem dL_remedied_3 : decode cL_remedied 3 = .ok (.iload_n 1, 1) := by decide +kernel
theorem dL_remedied_4 : decode cL_remedied 4 = .ok (.invokevirtual 85, 3) := by decide +kernel
theorem dL_remedied_7 : decode cL_remedied 7 = .ok (.i2l, 1) := by decide +kernel
theorem dL_remedied_8 : decode cL_remedied 8 = .ok (.lastore, 1) := by decide +kernel
theorem dL_remedied_9 : decode cL_remedied 9 = .ok (.goto 6, 3) := by decide +kernel
theorem dL_remedied_12 : decode cL_remedied 12 = .ok (.astore_n 3, 1) := by decide +kernel
theorem dL_remedied_13 : decode cL_remedied 13 = .ok (.iconst 1, 1) := by decide +kernel
theorem dL_remedied_14 : decode cL_remedied 14 = .ok (.ireturn, 1) := by decide +kernel
theorem dL_remedied_15 : decode cL_remedied 15 = .ok (.iconst 0, 1) := by decide +kernel
theorem dL_remedied_16 : decode cL_remedied 16 = .ok (.ireturn, 1) := by decide +kernel
set_option maxRecDepth 20000 in
theorem ggL_gains_X3_gains : GoodIn wsL_gains wsX3_gains := goodIn_ca (goodIn_ca (goodIn_r _ [7, 8, 9, 10, 11, 12, 13, 6, 14, 15, 16, 17, 18, 19, 20, 21, 22, 23, 24, 25, 26, 27, 28, 29, 30, 31, 32, 33, 34, 35, 36, 37, 38, 39, 40, 41, 42, 43, 44, 45, 46, 47, 48, 49, 50, 51, 52, 53, 54, 55, 56, 57, 58, 59, 60] (by decide +kernel) (by decide +kernel)) (goodIn_sub (fun _ h => List.mem_cons_of_mem _ (List.mem_append_left _ (List.mem_append_right _ h))) (by decide +kernel))) (goodIn_sub (fun _ h => List.mem_cons_of_mem _ (List.mem_append_right _ h)) (by decide +kernel))
set_option maxRecDepth 20000 in
theorem gL_gains_X3_gains : GoodIn wsL_gains (wsV RL 88 RX3 yX3_gains wsX3_gains) := goodIn_app (goodIn_of _ (by decide +kernel)) ggL_gains_X3_gains
theorem dL_gains_0 : decode cL_gains 0 = .ok (.aload_n 3, 1) := by decide +kernel
theorem dL_gains_1 : decode cL_gains 1 = .ok (.iconst 0, 1) := by decide +kernel
theorem dL_gains_2 : decode cL_gains 2 = .ok (.aload_n 0, 1) := by decide +kernel
theorem dL_gains_3 : decode cL_gains 3 = .ok (.iload_n 1, 1) := by decide +kernel
theorem dL_gains_4 : decode cL_gains 4 = .ok (.iload_n 2, 1) := by decide +kernel
theorem dL_gains_5 : decode cL_gains 5 = .ok (.invokevirtual 88, 3) := by decide +kernel
theorem dL_gains_8 : decode cL_gains 8 = .ok (.i2l, 1) := by decide +kernel
theorem dL_gains_9 : decode cL_gains 9 = .ok (.lastore, 1) := by decide +kernel
theorem dL_gains_10 : decode cL_gains 10 = .ok (.goto 11, 3) := by decide +kernel
theorem dL_gains_13 : decode cL_gains 13 = .ok (.astore 4, 2) := by decide +kernel
theorem dL_gains_15 : decode cL_gains 15 = .ok (.iconst 1, 1) := by decide +kernel
theorem dL_gains_16 : decode cL_gains 16 = .ok (.ireturn, 1) := by decide +kernel
theorem dL_gains_17 : decode cL_gains 17 = .ok (.astore 4, 2) := by decide +kernel
theorem dL_gains_19 : decode cL_gains 19 = .ok (.iconst 2, 1) := by decide +kernel
theorem dL_gains_20 : decode cL_gains 20 = .ok (.ireturn, 1) := by decide +kernel
theorem dL_gains_21 : decode cL_gains 21 = .ok (.iconst 0, 1) := by decide +kernel
theorem dL_gains_22 : decode cL_gains 22 = .ok (.ireturn, 1) := by decide +kernel
set_option maxRecDepth 20000 in
theorem ggL_law_X3_init : GoodIn wsL_law wsX3_init := goodIn_r _ [9, 10, 11, 12, 13, 14, 15, 16, 17, 18, 19, 20, 21, 22, 23, 24, 25, 26, 27, 28, 29, 30, 31, 32, 33, 34, 35, 36, 37, 38, 39, 40, 41, 42, 43, 44, 45, 46, 604, 605, 606, 607, 608, 609, 610, 611, 612, 613, 614, 642, 643, 644, 645, 646, 647, 648, 649, 650, 651, 652, 653, 654, 655, 656, 657, 658, 659, 660, 661, 662] (by decide +kernel) (by decide +kernel)
set_option maxRecDepth 20000 in
theorem gL_law_X3_init : GoodIn wsL_law (wsX3_init) := ggL_law_X3_init
set_option maxRecDepth 20000 in
theorem ggL_law_X4_init : GoodIn wsL_law wsX4_init := goodIn_r _ [49, 50, 11, 12, 15, 51, 52, 53, 54, 55, 56, 57, 58, 59, 60, 61, 62, 63, 64, 65, 66, 67, 68, 69, 70, 71, 72, 73, 615, 616, 617, 618, 619, 620, 621, 622, 623, 624, 625, 626, 627, 628, 629, 630, 631, 632, 633, 634, 635, 636, 637, 638, 639, 640, 641] (by decide +kernel) (by decide +kernel)
set_option maxRecDepth 20000 in
theorem gL_law_X4_init : GoodIn wsL_law (wsX4_init) := ggL_law_X4_init
set_option maxRecDepth 20000 in
theorem ggL_law_L_letter : GoodIn wsL_law wsL_letter := goodIn_ca (goodIn_ca (goodIn_r _ [77, 78, 79, 80, 81, 82, 2, 83, 84, 85, 86, 87, 88, 14, 604, 605, 606, 607, 608, 609, 610, 611, 612, 613, 614] (by decide +kernel) (by decide +kernel)) (goodIn_sub (fun _ h => List.mem_append_left _ (List.mem_append_left _ (List.mem_append_right _ h))) (by decide +kernel))) (goodIn_sub (fun _ h => List.mem_append_left _ (List.mem_append_right _ h)) (by decide +kernel))
set_option maxRecDepth 20000 in
theorem gL_law_L_letter : GoodIn wsL_law (va_wsS RL 95 yL_letter wsL_letter) := goodIn_app (goodIn_of _ (by decide +kernel)) ggL_law_L_letter
set_option maxRecDepth 20000 in
theorem ggL_law_X4_letter : GoodIn wsL_law wsX4_letter := goodIn_r _ [92, 93, 51, 94, 95, 5, 96, 97, 98, 99, 100, 101, 102, 103, 104, 105, 615, 616, 617, 618, 619, 620, 621, 622, 623, 624, 625, 626, 627, 628, 629, 630, 631, 632, 633, 634, 635, 636, 637, 638, 639, 640, 641] (by decide +kernel) (by decide +kernel)
set_option maxRecDepth 20000 in
theorem gL_law_X4_letter : GoodIn wsL_law (wsV RL 100 RX4 yX4_letter wsX4_letter) := goodIn_app (goodIn_of _ (by decide +kernel)) ggL_law_X4_letter
set_option maxRecDepth 20000 in
theorem ggL_law_X4_thrown : GoodIn wsL_law wsX4_thrown := goodIn_r _ [109, 101, 615, 616, 617, 618, 619, 620, 621, 622, 623, 624, 625, 626, 627, 628, 629, 630, 631, 632, 633, 634, 635, 636, 637, 638, 639, 640, 641] (by decide +kernel) (by decide +kernel)
set_option maxRecDepth 20000 in
theorem gL_law_X4_thrown : GoodIn wsL_law (wsV RL 101 RX4 yX4_thrown wsX4_thrown) := goodIn_app (goodIn_of _ (by decide +kernel)) ggL_law_X4_thrown
set_option maxRecDepth 20000 in
theorem ggL_law_L_office : GoodIn wsL_law wsL_office := goodIn_ca (goodIn_ca (goodIn_r _ [112, 113, 79, 114, 115, 116, 2, 117, 86, 87, 118, 16, 119, 120, 121, 122, 123, 604, 605, 606, 607, 608, 609, 610, 611, 612, 613, 614] (by decide +kernel) (by decide +kernel)) (goodIn_sub (fun _ h => List.mem_append_left _ (List.mem_append_right _ h)) (by decide +kernel))) (goodIn_sub (fun _ h => List.mem_append_right _ h) (by decide +kernel))
set_option maxRecDepth 20000 in
theorem gL_law_L_office : GoodIn wsL_law (va_wsS RL 105 yL_office wsL_office) := goodIn_app (goodIn_of _ (by decide +kernel)) ggL_law_L_office
set_option maxRecDepth 20000 in
theorem ggL_law_X4_office : GoodIn wsL_law wsX4_office := goodIn_r _ [127, 128, 52, 129, 130, 131, 5, 132, 94, 95, 96, 97, 98, 99, 100, 101, 102, 103, 104, 105, 615, 616, 617, 618, 619, 620, 621, 622, 623, 624, 625, 626, 627, 628, 629, 630, 631, 632, 633, 634, 635, 636, 637, 638, 639, 640, 641] (by decide +kernel) (by decide +kernel)
set_option maxRecDepth 20000 in
theorem gL_law_X4_office : GoodIn wsL_law (wsV RL 108 RX4 yX4_office wsX4_office) := goodIn_app (goodIn_of _ (by decide +kernel)) ggL_law_X4_office
set_option maxRecDepth 20000 in
theorem ggL_law_L_delegate : GoodIn wsL_law wsL_delegate := goodIn_ca (goodIn_ca (goodIn_r _ [135, 113, 78, 136, 137, 138, 2, 139, 84, 85, 118, 20, 140, 119, 120, 121, 122, 123, 141, 142, 143, 19, 144, 145, 34, 35, 36, 146, 147, 148, 149, 604, 605, 606, 607, 608, 609, 610, 611, 612, 613, 614, 642, 643, 644, 645] (by decide +kernel) (by decide +kernel)) (goodIn_sub (fun _ h => List.mem_append_left _ (List.mem_append_left _ (List.mem_append_right _ h))) (by decide +kernel))) (goodIn_sub (fun _ h => List.mem_append_right _ h) (by decide +kernel))
set_option maxRecDepth 20000 in
theorem gL_law_L_delegate : GoodIn wsL_law (va_wsS RL 109 yL_delegate wsL_delegate) := goodIn_app (goodIn_of _ (by decide +kernel)) ggL_law_L_delegate
set_option maxRecDepth 20000 in
theorem ggL_law_X4_delegate : GoodIn wsL_law wsX4_delegate := goodIn_r _ [153, 54, 154, 129, 130, 131, 5, 132, 128, 94, 95, 96, 97, 98, 99, 100, 101, 102, 103, 104, 105, 615, 616, 617, 618, 619, 620, 621, 622, 623, 624, 625, 626, 627, 628, 629, 630, 631, 632, 633, 634, 635, 636, 637, 638, 639, 640, 641] (by decide +kernel) (by decide +kernel)
set_option maxRecDepth 20000 in
theorem gL_law_X4_delegate : GoodIn wsL_law (wsV RL 112 RX4 yX4_delegate wsX4_delegate) := goodIn_app (goodIn_of _ (by decide +kernel)) ggL_law_X4_delegate
set_option maxRecDepth 20000 in
theorem ggL_law_L_whose : GoodIn wsL_law wsL_whose := goodIn_ca (goodIn_ca (goodIn_r _ [157, 113, 78, 158, 159, 160, 2, 161, 118, 140, 119, 120, 121, 122, 123, 162, 163, 164, 84, 85, 165, 166, 167, 168, 20, 141, 142, 143, 19, 144, 145, 34, 35, 36, 604, 605, 606, 607, 608, 609, 610, 611, 612, 613, 614, 642, 643, 644, 645] (by decide +kernel) (by decide +kernel)) (goodIn_sub (fun _ h => List.mem_append_right _ h) (by decide +kernel))) (goodIn_sub (fun _ h => List.mem_append_left _ (List.mem_append_left _ (List.mem_append_right _ h))) (by decide +kernel))
set_option maxRecDepth 20000 in
theorem gL_law_L_whose : GoodIn wsL_law (va_wsS RL 113 yL_whose wsL_whose) := goodIn_app (goodIn_of _ (by decide +kernel)) ggL_law_L_whose
set_option maxRecDepth 20000 in
theorem ggL_law_X4_whose : GoodIn wsL_law wsX4_whose := goodIn_r _ [172, 154, 129, 130, 131, 5, 132, 128, 94, 95, 96, 97, 98, 99, 100, 101, 173, 174, 175, 176, 54, 102, 103, 104, 105, 615, 616, 617, 618, 619, 620, 621, 622, 623, 624, 625, 626, 627, 628, 629, 630, 631, 632, 633, 634, 635, 636, 637, 638, 639, 640, 641] (by decide +kernel) (by decide +kernel)
set_option maxRecDepth 20000 in
theorem gL_law_X4_whose : GoodIn wsL_law (wsV RL 115 RX4 yX4_whose wsX4_whose) := goodIn_app (goodIn_of _ (by decide +kernel)) ggL_law_X4_whose
set_option maxRecDepth 20000 in
theorem ggL_law_L_limit : GoodIn wsL_law wsL_limit := goodIn_ca (goodIn_ca (goodIn_r _ [179, 113, 78, 180, 181, 182, 2, 183, 21, 140, 119, 120, 121, 122, 123, 162, 163, 164, 84, 85, 141, 142, 143, 19, 144, 145, 34, 35, 36, 146, 147, 148, 149, 604, 605, 606, 607, 608, 609, 610, 611, 612, 613, 614, 642, 643, 644, 645] (by decide +kernel) (by decide +kernel)) (goodIn_sub (fun _ h => List.mem_append_right _ h) (by decide +kernel))) (goodIn_sub (fun _ h => List.mem_append_left _ (List.mem_append_left _ (List.mem_append_right _ h))) (by decide +kernel))
set_option maxRecDepth 20000 in
theorem gL_law_L_limit : GoodIn wsL_law (va_wsS RL 116 yL_limit wsL_limit) := goodIn_app (goodIn_of _ (by decide +kernel)) ggL_law_L_limit
set_option maxRecDepth 20000 in
theorem ggL_law_X4_limit : GoodIn wsL_law wsX4_limit := goodIn_r _ [187, 55, 154, 188, 189, 5, 190, 94, 95, 96, 97, 98, 99, 100, 101, 102, 103, 104, 105, 615, 616, 617, 618, 619, 620, 621, 622, 623, 624, 625, 626, 627, 628, 629, 630, 631, 632, 633, 634, 635, 636, 637, 638, 639, 640, 641] (by decide +kernel) (by decide +kernel)
set_option maxRecDepth 20000 in
theorem gL_law_X4_limit : GoodIn wsL_law (wsV RL 118 RX4 yX4_limit wsX4_limit) := goodIn_app (goodIn_of _ (by decide +kernel)) ggL_law_X4_limit
set_option maxRecDepth 20000 in
theorem ggL_law_L_act : GoodIn wsL_law wsL_act := goodIn_ca (goodIn_ca (goodIn_ca (goodIn_r _ [193, 113, 78, 79, 194, 195, 196, 2, 197, 86, 87, 118, 198, 88, 23, 140, 119, 120, 121, 122, 123, 162, 163, 164, 84, 85, 199, 200, 201, 202, 203, 204, 205, 206, 207, 208, 209, 14, 210, 211, 212, 213, 214, 215, 216, 217, 218, 219, 220, 221, 222, 223, 224, 225, 226, 227, 228, 229, 230, 231, 232, 233, 234, 235, 236, 237, 238, 239, 240, 241, 242, 243, 244, 245, 246, 247, 248, 249, 250, 251, 252, 253, 254, 255, 256, 257, 258, 165, 166, 167, 168, 20, 141, 142, 143, 19, 144, 145, 34, 35, 36, 259, 260, 261, 25, 262, 263, 264, 265, 266, 267, 604, 605, 606, 607, 608, 609, 610, 611, 612, 613, 614, 642, 643, 644, 645, 646, 647, 648, 649, 650, 651, 652, 653, 654] (by decide +kernel) (by decide +kernel)) (goodIn_sub (fun _ h => List.mem_append_left _ (List.mem_append_right _ h)) (by decide +kernel))) (goodIn_sub (fun _ h => List.mem_append_right _ h) (by decide +kernel))) (goodIn_sub (fun _ h => List.mem_append_left _ (List.mem_append_left _ (List.mem_append_right _ h))) (by decide +kernel))
set_option maxRecDepth 20000 in
theorem gL_law_L_act : GoodIn wsL_law (va_wsS RL 119 yL_act wsL_act) := goodIn_app (goodIn_of _ (by decide +kernel)) ggL_law_L_act
set_option maxRecDepth 20000 in
theorem ggL_law_X4_act : GoodIn wsL_law wsX4_act := goodIn_r _ [271, 272, 93, 56, 154, 57, 58, 59, 60, 129, 130, 131, 5, 132, 128, 94, 95, 96, 97, 98, 99, 100, 101, 102, 103, 104, 105, 273, 274, 275, 276, 51, 173, 174, 175, 176, 54, 615, 616, 617, 618, 619, 620, 621, 622, 623, 624, 625, 626, 627, 628, 629, 630, 631, 632, 633, 634, 635, 636, 637, 638, 639, 640, 641] (by decide +kernel) (by decide +kernel)
set_option maxRecDepth 20000 in
theorem gL_law_X4_act : GoodIn wsL_law (wsV RL 122 RX4 yX4_act wsX4_act) := goodIn_app (goodIn_of _ (by decide +kernel)) ggL_law_X4_act
set_option maxRecDepth 20000 in
theorem ggL_law_L_court : GoodIn wsL_law wsL_court := goodIn_ca (goodIn_r _ [279, 113, 280, 281, 282, 2, 283, 198, 23, 284, 119, 120, 121, 122, 123, 604, 605, 606, 607, 608, 609, 610, 611, 612, 613, 614, 646, 647, 648, 649, 650, 651, 652, 653, 654] (by decide +kernel) (by decide +kernel)) (goodIn_sub (fun _ h => List.mem_append_right _ h) (by decide +kernel))
set_option maxRecDepth 20000 in
theorem gL_law_L_court : GoodIn wsL_law (va_wsS RL 123 yL_court wsL_court) := goodIn_app (goodIn_of _ (by decide +kernel)) ggL_law_L_court
set_option maxRecDepth 20000 in
theorem ggL_law_X4_court : GoodIn wsL_law wsX4_court := goodIn_r _ [288, 62, 289, 290, 291, 5, 292, 272, 94, 95, 96, 97, 98, 99, 100, 101, 615, 616, 617, 618, 619, 620, 621, 622, 623, 624, 625, 626, 627, 628, 629, 630, 631, 632, 633, 634, 635, 636, 637, 638, 639, 640, 641] (by decide +kernel) (by decide +kernel)
set_option maxRecDepth 20000 in
theorem gL_law_X4_court : GoodIn wsL_law (wsV RL 126 RX4 yX4_court wsX4_court) := goodIn_app (goodIn_of _ (by decide +kernel)) ggL_law_X4_court
set_option maxRecDepth 20000 in
theorem ggL_law_L_waive : GoodIn wsL_law wsL_waive := goodIn_ca (goodIn_r _ [295, 113, 296, 297, 298, 2, 299, 198, 23, 300, 119, 120, 121, 122, 123, 604, 605, 606, 607, 608, 609, 610, 611, 612, 613, 614, 646, 647, 648, 649, 650, 651, 652, 653, 654] (by decide +kernel) (by decide +kernel)) (goodIn_sub (fun _ h => List.mem_append_right _ h) (by decide +kernel))
set_option maxRecDepth 20000 in
theorem gL_law_L_waive : GoodIn wsL_law (va_wsS RL 127 yL_waive wsL_waive) := goodIn_app (goodIn_of _ (by decide +kernel)) ggL_law_L_waive
set_option maxRecDepth 20000 in
theorem ggL_law_X4_waive : GoodIn wsL_law wsX4_waive := goodIn_r _ [304, 63, 289, 290, 291, 5, 292, 272, 94, 95, 96, 97, 98, 99, 100, 101, 615, 616, 617, 618, 619, 620, 621, 622, 623, 624, 625, 626, 627, 628, 629, 630, 631, 632, 633, 634, 635, 636, 637, 638, 639, 640, 641] (by decide +kernel) (by decide +kernel)
set_option maxRecDepth 20000 in
theorem gL_law_X4_waive : GoodIn wsL_law (wsV RL 129 RX4 yX4_waive wsX4_waive) := goodIn_app (goodIn_of _ (by decide +kernel)) ggL_law_X4_waive
set_option maxRecDepth 20000 in
theorem ggL_law_L_plea : GoodIn wsL_law wsL_plea := goodIn_ca (goodIn_ca (goodIn_r _ [307, 113, 79, 308, 309, 310, 2, 311, 86, 87, 198, 23, 312, 140, 119, 120, 121, 122, 123, 604, 605, 606, 607, 608, 609, 610, 611, 612, 613, 614, 646, 647, 648, 649, 650, 651, 652, 653, 654] (by decide +kernel) (by decide +kernel)) (goodIn_sub (fun _ h => List.mem_append_left _ (List.mem_append_right _ h)) (by decide +kernel))) (goodIn_sub (fun _ h => List.mem_append_right _ h) (by decide +kernel))
set_option maxRecDepth 20000 in
theorem gL_law_L_plea : GoodIn wsL_law (va_wsS RL 130 yL_plea wsL_plea) := goodIn_app (goodIn_of _ (by decide +kernel)) ggL_law_L_plea
set_option maxRecDepth 20000 in
theorem ggL_law_X4_plea : GoodIn wsL_law wsX4_plea := goodIn_r _ [316, 65, 101, 154, 317, 318, 319, 5, 320, 94, 95, 96, 289, 290, 291, 292, 272, 97, 98, 99, 100, 615, 616, 617, 618, 619, 620, 621, 622, 623, 624, 625, 626, 627, 628, 629, 630, 631, 632, 633, 634, 635, 636, 637, 638, 639, 640, 641] (by decide +kernel) (by decide +kernel)
set_option maxRecDepth 20000 in
theorem gL_law_X4_plea : GoodIn wsL_law (wsV RL 133 RX4 yX4_plea wsX4_plea) := goodIn_app (goodIn_of _ (by decide +kernel)) ggL_law_X4_plea
set_option maxRecDepth 20000 in
theorem ggL_law_L_bar : GoodIn wsL_law wsL_bar := goodIn_ca (goodIn_r _ [323, 113, 324, 325, 326, 2, 327, 198, 23, 140, 119, 120, 121, 122, 123, 328, 329, 330, 25, 331, 41, 332, 265, 333, 604, 605, 606, 607, 608, 609, 610, 611, 612, 613, 614, 646, 647, 648, 649, 650, 651, 652, 653, 654] (by decide +kernel) (by decide +kernel)) (goodIn_sub (fun _ h => List.mem_append_right _ h) (by decide +kernel))
set_option maxRecDepth 20000 in
theorem gL_law_L_bar : GoodIn wsL_law (va_wsS RL 134 yL_bar wsL_bar) := goodIn_app (goodIn_of _ (by decide +kernel)) ggL_law_L_bar
set_option maxRecDepth 20000 in
theorem ggL_law_X4_bar : GoodIn wsL_law wsX4_bar := goodIn_r _ [337, 317, 318, 319, 5, 320, 94, 95, 96, 289, 290, 291, 292, 272, 97, 98, 99, 100, 101, 338, 339, 340, 341, 65, 154, 62, 58, 63, 615, 616, 617, 618, 619, 620, 621, 622, 623, 624, 625, 626, 627, 628, 629, 630, 631, 632, 633, 634, 635, 636, 637, 638, 639, 640, 641] (by decide +kernel) (by decide +kernel)
set_option maxRecDepth 20000 in
theorem gL_law_X4_bar : GoodIn wsL_law (wsV RL 136 RX4 yX4_bar wsX4_bar) := goodIn_app (goodIn_of _ (by decide +kernel)) ggL_law_X4_bar
set_option maxRecDepth 20000 in
theorem ggL_law_L_complain : GoodIn wsL_law wsL_complain := goodIn_ca (goodIn_ca (goodIn_r _ [344, 113, 79, 345, 346, 347, 2, 348, 86, 87, 198, 23, 140, 27, 119, 120, 121, 122, 123, 328, 329, 330, 25, 331, 41, 332, 265, 333, 349, 350, 351, 352, 353, 354, 355, 356, 357, 358, 359, 360, 361, 362, 29, 363, 364, 365, 366, 367, 368, 369, 370, 371, 372, 373, 604, 605, 606, 607, 608, 609, 610, 611, 612, 613, 614, 646, 647, 648, 649, 650, 651, 652, 653, 654, 655, 656, 657, 658, 659, 660, 661, 662] (by decide +kernel) (by decide +kernel)) (goodIn_sub (fun _ h => List.mem_append_left _ (List.mem_append_right _ h)) (by decide +kernel))) (goodIn_sub (fun _ h => List.mem_append_right _ h) (by decide +kernel))
set_option maxRecDepth 20000 in
theorem gL_law_L_complain : GoodIn wsL_law (va_wsS RL 137 yL_complain wsL_complain) := goodIn_app (goodIn_of _ (by decide +kernel)) ggL_law_L_complain
set_option maxRecDepth 20000 in
theorem ggL_law_X4_complain : GoodIn wsL_law wsX4_complain := goodIn_r _ [377, 378, 66, 67, 68, 70, 73, 69, 317, 318, 319, 5, 320, 94, 95, 96, 289, 290, 291, 292, 272, 97, 98, 99, 100, 101, 379, 380, 381, 382, 338, 339, 340, 341, 65, 154, 62, 58, 63, 102, 103, 104, 105, 615, 616, 617, 618, 619, 620, 621, 622, 623, 624, 625, 626, 627, 628, 629, 630, 631, 632, 633, 634, 635, 636, 637, 638, 639, 640, 641] (by decide +kernel) (by decide +kernel)
set_option maxRecDepth 20000 in
theorem gL_law_X4_complain : GoodIn wsL_law (wsV RL 139 RX4 yX4_complain wsX4_complain) := goodIn_app (goodIn_of _ (by decide +kernel)) ggL_law_X4_complain
set_option maxRecDepth 20000 in
theorem ggL_law_L_ask : GoodIn wsL_law wsL_ask := goodIn_ca (goodIn_ca (goodIn_r _ [385, 113, 79, 386, 387, 388, 2, 389, 86, 87, 353, 27, 355, 390, 140, 391, 23, 354, 392, 119, 120, 121, 122, 123, 604, 605, 606, 607, 608, 609, 610, 611, 612, 613, 614, 655, 656, 657, 658, 659, 660, 661, 662, 646, 647, 648, 649, 650, 651, 652, 653, 654] (by decide +kernel) (by decide +kernel)) (goodIn_sub (fun _ h => List.mem_append_left _ (List.mem_append_right _ h)) (by decide +kernel))) (goodIn_sub (fun _ h => List.mem_append_right _ h) (by decide +kernel))
set_option maxRecDepth 20000 in
theorem gL_law_L_ask : GoodIn wsL_law (va_wsS RL 140 yL_ask wsL_ask) := goodIn_app (goodIn_of _ (by decide +kernel)) ggL_law_L_ask
set_option maxRecDepth 20000 in
theorem ggL_law_X4_ask : GoodIn wsL_law wsX4_ask := goodIn_r _ [396, 67, 70, 154, 56, 66, 397, 398, 399, 5, 400, 378, 94, 95, 96, 97, 98, 99, 100, 101, 102, 103, 104, 105, 615, 616, 617, 618, 619, 620, 621, 622, 623, 624, 625, 626, 627, 628, 629, 630, 631, 632, 633, 634, 635, 636, 637, 638, 639, 640, 641] (by decide +kernel) (by decide +kernel)
set_option maxRecDepth 20000 in
theorem gL_law_X4_ask : GoodIn wsL_law (wsV RL 142 RX4 yX4_ask wsX4_ask) := goodIn_app (goodIn_of _ (by decide +kernel)) ggL_law_X4_ask
set_option maxRecDepth 20000 in
theorem ggL_law_L_answer : GoodIn wsL_law wsL_answer := goodIn_ca (goodIn_ca (goodIn_r _ [403, 113, 79, 404, 405, 406, 2, 407, 86, 87, 353, 27, 390, 140, 391, 119, 120, 121, 122, 123, 604, 605, 606, 607, 608, 609, 610, 611, 612, 613, 614, 655, 656, 657, 658, 659, 660, 661, 662] (by decide +kernel) (by decide +kernel)) (goodIn_sub (fun _ h => List.mem_append_left _ (List.mem_append_right _ h)) (by decide +kernel))) (goodIn_sub (fun _ h => List.mem_append_right _ h) (by decide +kernel))
set_option maxRecDepth 20000 in
theorem gL_law_L_answer : GoodIn wsL_law (va_wsS RL 143 yL_answer wsL_answer) := goodIn_app (goodIn_of _ (by decide +kernel)) ggL_law_L_answer
set_option maxRecDepth 20000 in
theorem ggL_law_X4_answer : GoodIn wsL_law wsX4_answer := goodIn_r _ [411, 71, 154, 70, 397, 398, 399, 5, 400, 378, 94, 95, 96, 97, 98, 99, 100, 101, 412, 413, 414, 415, 102, 103, 104, 105, 615, 616, 617, 618, 619, 620, 621, 622, 623, 624, 625, 626, 627, 628, 629, 630, 631, 632, 633, 634, 635, 636, 637, 638, 639, 640, 641] (by decide +kernel) (by decide +kernel)
set_option maxRecDepth 20000 in
theorem gL_law_X4_answer : GoodIn wsL_law (wsV RL 145 RX4 yX4_answer wsX4_answer) := goodIn_app (goodIn_of _ (by decide +kernel)) ggL_law_X4_answer
set_option maxRecDepth 20000 in
theorem ggL_law_L_hear : GoodIn wsL_law wsL_hear := goodIn_ca (goodIn_ca (goodIn_r _ [418, 113, 79, 419, 420, 421, 2, 422, 86, 87, 353, 27, 355, 390, 423, 119, 120, 121, 122, 123, 604, 605, 606, 607, 608, 609, 610, 611, 612, 613, 614, 655, 656, 657, 658, 659, 660, 661, 662] (by decide +kernel) (by decide +kernel)) (goodIn_sub (fun _ h => List.mem_append_left _ (List.mem_append_right _ h)) (by decide +kernel))) (goodIn_sub (fun _ h => List.mem_append_right _ h) (by decide +kernel))
set_option maxRecDepth 20000 in
theorem gL_law_L_hear : GoodIn wsL_law (va_wsS RL 146 yL_hear wsL_hear) := goodIn_app (goodIn_of _ (by decide +kernel)) ggL_law_L_hear
set_option maxRecDepth 20000 in
theorem ggL_law_X4_hear : GoodIn wsL_law wsX4_hear := goodIn_r _ [427, 67, 71, 72, 101, 397, 398, 399, 5, 400, 378, 94, 95, 96, 97, 98, 99, 100, 615, 616, 617, 618, 619, 620, 621, 622, 623, 624, 625, 626, 627, 628, 629, 630, 631, 632, 633, 634, 635, 636, 637, 638, 639, 640, 641] (by decide +kernel) (by decide +kernel)
set_option maxRecDepth 20000 in
theorem gL_law_X4_hear : GoodIn wsL_law (wsV RL 149 RX4 yX4_hear wsX4_hear) := goodIn_app (goodIn_of _ (by decide +kernel)) ggL_law_X4_hear
set_option maxRecDepth 20000 in
theorem ggL_law_L_find : GoodIn wsL_law wsL_find := goodIn_ca (goodIn_ca (goodIn_r _ [430, 113, 79, 431, 432, 433, 2, 434, 86, 87, 353, 27, 355, 423, 354, 435, 119, 120, 121, 122, 123, 436, 437, 438, 439, 440, 441, 442, 443, 23, 444, 21, 445, 446, 141, 142, 143, 19, 144, 145, 34, 35, 36, 447, 448, 449, 450, 451, 452, 453, 454, 198, 455, 456, 457, 458, 392, 459, 460, 461, 462, 604, 605, 606, 607, 608, 609, 610, 611, 612, 613, 614, 655, 656, 657, 658, 659, 660, 661, 662, 646, 647, 648, 649, 650, 651, 652, 653, 654, 642, 643, 644, 645] (by decide +kernel) (by decide +kernel)) (goodIn_sub (fun _ h => List.mem_append_left _ (List.mem_append_right _ h)) (by decide +kernel))) (goodIn_sub (fun _ h => List.mem_append_right _ h) (by decide +kernel))
set_option maxRecDepth 20000 in
theorem gL_law_L_find : GoodIn wsL_law (va_wsS RL 150 yL_find wsL_find) := goodIn_app (goodIn_of _ (by decide +kernel)) ggL_law_L_find
set_option maxRecDepth 20000 in
theorem ggL_law_X4_find : GoodIn wsL_law wsX4_find := goodIn_r _ [466, 67, 72, 73, 66, 397, 398, 399, 5, 400, 378, 94, 95, 96, 97, 98, 99, 100, 101, 102, 103, 104, 105, 467, 468, 469, 470, 471, 472, 473, 474, 59, 55, 57, 58, 475, 476, 477, 478, 272, 479, 480, 481, 482, 483, 484, 485, 486, 56, 615, 616, 617, 618, 619, 620, 621, 622, 623, 624, 625, 626, 627, 628, 629, 630, 631, 632, 633, 634, 635, 636, 637, 638, 639, 640, 641] (by decide +kernel) (by decide +kernel)
set_option maxRecDepth 20000 in
theorem gL_law_X4_find : GoodIn wsL_law (wsV RL 152 RX4 yX4_find wsX4_find) := goodIn_app (goodIn_of _ (by decide +kernel)) ggL_law_X4_find
set_option maxRecDepth 20000 in
theorem ggL_law_L_remedy : GoodIn wsL_law wsL_remedy := goodIn_ca (goodIn_ca (goodIn_ca (goodIn_r _ [489, 113, 78, 79, 490, 491, 492, 2, 493, 86, 87, 353, 27, 355, 435, 198, 354, 23, 119, 120, 121, 122, 123, 162, 163, 164, 84, 85, 455, 456, 457, 458, 445, 392, 436, 437, 438, 439, 440, 441, 442, 443, 444, 21, 446, 141, 142, 143, 19, 144, 145, 34, 35, 36, 447, 448, 449, 450, 451, 452, 453, 454, 459, 460, 461, 462, 494, 495, 496, 25, 497, 267, 42, 604, 605, 606, 607, 608, 609, 610, 611, 612, 613, 614, 655, 656, 657, 658, 659, 660, 661, 662, 646, 647, 648, 649, 650, 651, 652, 653, 654, 642, 643, 644, 645] (by decide +kernel) (by decide +kernel)) (goodIn_sub (fun _ h => List.mem_append_left _ (List.mem_append_right _ h)) (by decide +kernel))) (goodIn_sub (fun _ h => List.mem_append_right _ h) (by decide +kernel))) (goodIn_sub (fun _ h => List.mem_append_left _ (List.mem_append_left _ (List.mem_append_right _ h))) (by decide +kernel))
set_option maxRecDepth 20000 in
theorem gL_law_L_remedy : GoodIn wsL_law (va_wsS RL 153 yL_remedy wsL_remedy) := goodIn_app (goodIn_of _ (by decide +kernel)) ggL_law_L_remedy
set_option maxRecDepth 20000 in
theorem ggL_law_X4_remedy : GoodIn wsL_law wsX4_remedy := goodIn_r _ [501, 67, 73, 66, 272, 64, 60, 397, 398, 399, 5, 400, 378, 94, 95, 96, 97, 98, 99, 100, 101, 102, 103, 104, 105, 483, 484, 485, 486, 57, 56, 467, 468, 469, 470, 471, 472, 473, 474, 59, 55, 58, 475, 476, 477, 478, 479, 480, 481, 482, 615, 616, 617, 618, 619, 620, 621, 622, 623, 624, 625, 626, 627, 628, 629, 630, 631, 632, 633, 634, 635, 636, 637, 638, 639, 640, 641] (by decide +kernel) (by decide +kernel)
set_option maxRecDepth 20000 in
theorem gL_law_X4_remedy : GoodIn wsL_law (wsV RL 155 RX4 yX4_remedy wsX4_remedy) := goodIn_app (goodIn_of _ (by decide +kernel)) ggL_law_X4_remedy
set_option maxRecDepth 20000 in
theorem ggL_law_L_pass : GoodIn wsL_law wsL_pass := goodIn_ca (goodIn_ca (goodIn_r _ [504, 78, 79, 505, 506, 507, 2, 508, 86, 87, 140, 353, 27, 162, 163, 164, 84, 85, 509, 510, 511, 29, 512, 365, 367, 366, 513, 514, 515, 516, 604, 605, 606, 607, 608, 609, 610, 611, 612, 613, 614, 655, 656, 657, 658, 659, 660, 661, 662] (by decide +kernel) (by decide +kernel)) (goodIn_sub (fun _ h => List.mem_append_left _ (List.mem_append_right _ h)) (by decide +kernel))) (goodIn_sub (fun _ h => List.mem_append_left _ (List.mem_append_left _ (List.mem_append_right _ h))) (by decide +kernel))
set_option maxRecDepth 20000 in
theorem gL_law_L_pass : GoodIn wsL_law (va_wsS RL 156 yL_pass wsL_pass) := goodIn_app (goodIn_of _ (by decide +kernel)) ggL_law_L_pass
set_option maxRecDepth 20000 in
theorem ggL_law_X4_pass : GoodIn wsL_law wsX4_pass := goodIn_r _ [520, 154, 378, 67, 68, 94, 95, 5, 96, 97, 98, 99, 100, 101, 102, 103, 104, 105, 412, 413, 414, 415, 70, 71, 615, 616, 617, 618, 619, 620, 621, 622, 623, 624, 625, 626, 627, 628, 629, 630, 631, 632, 633, 634, 635, 636, 637, 638, 639, 640, 641] (by decide +kernel) (by decide +kernel)
set_option maxRecDepth 20000 in
theorem gL_law_X4_pass : GoodIn wsL_law (wsV RL 158 RX4 yX4_pass wsX4_pass) := goodIn_app (goodIn_of _ (by decide +kernel)) ggL_law_X4_pass
set_option maxRecDepth 20000 in
theorem ggL_law_L_about : GoodIn wsL_law wsL_about := goodIn_ca (goodIn_ca (goodIn_r _ [523, 113, 78, 524, 525, 526, 2, 527, 353, 27, 355, 354, 528, 529, 390, 435, 119, 120, 121, 122, 123, 162, 163, 164, 84, 85, 530, 531, 532, 533, 534, 535, 536, 604, 605, 606, 607, 608, 609, 610, 611, 612, 613, 614, 655, 656, 657, 658, 659, 660, 661, 662] (by decide +kernel) (by decide +kernel)) (goodIn_sub (fun _ h => List.mem_append_right _ h) (by decide +kernel))) (goodIn_sub (fun _ h => List.mem_append_left _ (List.mem_append_left _ (List.mem_append_right _ h))) (by decide +kernel))
set_option maxRecDepth 20000 in
theorem gL_law_L_about : GoodIn wsL_law (va_wsS RL 159 yL_about wsL_about) := goodIn_app (goodIn_of _ (by decide +kernel)) ggL_law_L_about
set_option maxRecDepth 20000 in
theorem ggL_law_X4_about : GoodIn wsL_law wsX4_about := goodIn_r _ [540, 67, 66, 68, 69, 73, 397, 398, 399, 5, 400, 378, 94, 95, 96, 97, 98, 99, 100, 101, 541, 542, 543, 412, 413, 414, 415, 70, 71, 102, 103, 104, 105, 615, 616, 617, 618, 619, 620, 621, 622, 623, 624, 625, 626, 627, 628, 629, 630, 631, 632, 633, 634, 635, 636, 637, 638, 639, 640, 641] (by decide +kernel) (by decide +kernel)
set_option maxRecDepth 20000 in
theorem gL_law_X4_about : GoodIn wsL_law (wsV RL 161 RX4 yX4_about wsX4_about) := goodIn_app (goodIn_of _ (by decide +kernel)) ggL_law_X4_about
set_option maxRecDepth 20000 in
theorem ggL_law_L_reminder : GoodIn wsL_law wsL_reminder := goodIn_ca (goodIn_r _ [546, 113, 547, 548, 549, 2, 550, 353, 27, 390, 23, 354, 392, 140, 391, 119, 120, 121, 122, 123, 551, 552, 553, 554, 16, 604, 605, 606, 607, 608, 609, 610, 611, 612, 613, 614, 655, 656, 657, 658, 659, 660, 661, 662, 646, 647, 648, 649, 650, 651, 652, 653, 654] (by decide +kernel) (by decide +kernel)) (goodIn_sub (fun _ h => List.mem_append_right _ h) (by decide +kernel))
set_option maxRecDepth 20000 in
theorem gL_law_L_reminder : GoodIn wsL_law (va_wsS RL 162 yL_reminder wsL_reminder) := goodIn_app (goodIn_of _ (by decide +kernel)) ggL_law_L_reminder
set_option maxRecDepth 20000 in
theorem ggL_law_X4_reminder : GoodIn wsL_law wsX4_reminder := goodIn_r _ [558, 56, 66, 154, 70, 52, 397, 398, 399, 5, 400, 378, 94, 95, 96, 97, 98, 99, 100, 101, 412, 413, 414, 415, 71, 615, 616, 617, 618, 619, 620, 621, 622, 623, 624, 625, 626, 627, 628, 629, 630, 631, 632, 633, 634, 635, 636, 637, 638, 639, 640, 641] (by decide +kernel) (by decide +kernel)
set_option maxRecDepth 20000 in
theorem gL_law_X4_reminder : GoodIn wsL_law (wsV RL 164 RX4 yX4_reminder wsX4_reminder) := goodIn_app (goodIn_of _ (by decide +kernel)) ggL_law_X4_reminder
set_option maxRecDepth 20000 in
theorem ggL_law_L_fault : GoodIn wsL_law wsL_fault := goodIn_ca (goodIn_r _ [561, 113, 562, 563, 564, 2, 565, 198, 119, 120, 121, 122, 123, 436, 437, 438, 439, 440, 441, 442, 443, 23, 444, 21, 445, 446, 141, 142, 143, 19, 144, 145, 34, 35, 36, 447, 448, 449, 450, 451, 452, 453, 454, 455, 456, 457, 458, 392, 459, 460, 461, 462, 604, 605, 606, 607, 608, 609, 610, 611, 612, 613, 614, 646, 647, 648, 649, 650, 651, 652, 653, 654, 642, 643, 644, 645] (by decide +kernel) (by decide +kernel)) (goodIn_sub (fun _ h => List.mem_append_right _ h) (by decide +kernel))
set_option maxRecDepth 20000 in
theorem gL_law_L_fault : GoodIn wsL_law (va_wsS RL 165 yL_fault wsL_fault) := goodIn_app (goodIn_of _ (by decide +kernel)) ggL_law_L_fault
set_option maxRecDepth 20000 in
theorem ggL_law_X4_fault : GoodIn wsL_law wsX4_fault := goodIn_r _ [569, 289, 290, 291, 5, 292, 272, 94, 95, 96, 97, 98, 99, 100, 101, 467, 468, 469, 470, 471, 472, 473, 474, 59, 55, 57, 58, 475, 476, 477, 478, 479, 480, 481, 482, 483, 484, 485, 486, 56, 615, 616, 617, 618, 619, 620, 621, 622, 623, 624, 625, 626, 627, 628, 629, 630, 631, 632, 633, 634, 635, 636, 637, 638, 639, 640, 641] (by decide +kernel) (by decide +kernel)
set_option maxRecDepth 20000 in
theorem gL_law_X4_fault : GoodIn wsL_law (wsV RL 167 RX4 yX4_fault wsX4_fault) := goodIn_app (goodIn_of _ (by decide +kernel)) ggL_law_X4_fault
set_option maxRecDepth 20000 in
theorem ggL_law_L_likes : GoodIn wsL_law wsL_likes := goodIn_ca (goodIn_r _ [572, 113, 573, 574, 575, 2, 576, 198, 119, 120, 121, 122, 123, 451, 452, 453, 454, 455, 456, 457, 458, 23, 445, 392, 604, 605, 606, 607, 608, 609, 610, 611, 612, 613, 614, 646, 647, 648, 649, 650, 651, 652, 653, 654] (by decide +kernel) (by decide +kernel)) (goodIn_sub (fun _ h => List.mem_append_right _ h) (by decide +kernel))
set_option maxRecDepth 20000 in
theorem gL_law_L_likes : GoodIn wsL_law (va_wsS RL 168 yL_likes wsL_likes) := goodIn_app (goodIn_of _ (by decide +kernel)) ggL_law_L_likes
set_option maxRecDepth 20000 in
theorem ggL_law_X4_likes : GoodIn wsL_law wsX4_likes := goodIn_r _ [580, 289, 290, 291, 5, 292, 272, 94, 95, 96, 97, 98, 99, 100, 101, 479, 480, 481, 482, 483, 484, 485, 486, 57, 56, 615, 616, 617, 618, 619, 620, 621, 622, 623, 624, 625, 626, 627, 628, 629, 630, 631, 632, 633, 634, 635, 636, 637, 638, 639, 640, 641] (by decide +kernel) (by decide +kernel)
set_option maxRecDepth 20000 in
theorem gL_law_X4_likes : GoodIn wsL_law (wsV RL 170 RX4 yX4_likes wsX4_likes) := goodIn_app (goodIn_of _ (by decide +kernel)) ggL_law_X4_likes
set_option maxRecDepth 20000 in
theorem ggL_law_L_remedied : GoodIn wsL_law wsL_remedied := goodIn_ca (goodIn_r _ [583, 113, 584, 585, 586, 2, 587, 198, 23, 588, 119, 120, 121, 122, 123, 604, 605, 606, 607, 608, 609, 610, 611, 612, 613, 614, 646, 647, 648, 649, 650, 651, 652, 653, 654] (by decide +kernel) (by decide +kernel)) (goodIn_sub (fun _ h => List.mem_append_right _ h) (by decide +kernel))
set_option maxRecDepth 20000 in
theorem gL_law_L_remedied : GoodIn wsL_law (va_wsS RL 171 yL_remedied wsL_remedied) := goodIn_app (goodIn_of _ (by decide +kernel)) ggL_law_L_remedied
set_option maxRecDepth 20000 in
theorem ggL_law_X4_remedied : GoodIn wsL_law wsX4_remedied := goodIn_r _ [592, 64, 289, 290, 291, 5, 292, 272, 94, 95, 96, 97, 98, 99, 100, 101, 615, 616, 617, 618, 619, 620, 621, 622, 623, 624, 625, 626, 627, 628, 629, 630, 631, 632, 633, 634, 635, 636, 637, 638, 639, 640, 641] (by decide +kernel) (by decide +kernel)
set_option maxRecDepth 20000 in
theorem gL_law_X4_remedied : GoodIn wsL_law (wsV RL 173 RX4 yX4_remedied wsX4_remedied) := goodIn_app (goodIn_of _ (by decide +kernel)) ggL_law_X4_remedied
set_option maxRecDepth 20000 in
theorem ggL_law_L_gains : GoodIn wsL_law wsL_gains := goodIn_ca (goodIn_ca (goodIn_r _ [595, 113, 78, 596, 597, 598, 2, 599, 198, 23, 445, 444, 119, 120, 121, 122, 123, 162, 163, 164, 84, 85, 440, 441, 442, 443, 21, 446, 141, 142, 143, 19, 144, 145, 34, 35, 36, 604, 605, 606, 607, 608, 609, 610, 611, 612, 613, 614, 646, 647, 648, 649, 650, 651, 652, 653, 654, 642, 643, 644, 645] (by decide +kernel) (by decide +kernel)) (goodIn_sub (fun _ h => List.mem_append_right _ h) (by decide +kernel))) (goodIn_sub (fun _ h => List.mem_append_left _ (List.mem_append_left _ (List.mem_append_right _ h))) (by decide +kernel))
set_option maxRecDepth 20000 in
theorem gL_law_L_gains : GoodIn wsL_law (va_wsS RL 174 yL_gains wsL_gains) := goodIn_app (goodIn_of _ (by decide +kernel)) ggL_law_L_gains
set_option maxRecDepth 20000 in
theorem ggL_law_X4_gains : GoodIn wsL_law wsX4_gains := goodIn_r _ [603, 272, 59, 57, 188, 189, 5, 190, 94, 95, 96, 97, 98, 99, 100, 101, 102, 103, 104, 105, 471, 472, 473, 474, 55, 58, 615, 616, 617, 618, 619, 620, 621, 622, 623, 624, 625, 626, 627, 628, 629, 630, 631, 632, 633, 634, 635, 636, 637, 638, 639, 640, 641] (by decide +kernel) (by decide +kernel)
set_option maxRecDepth 20000 in
theorem gL_law_X4_gains : GoodIn wsL_law (wsV RL 176 RX4 yX4_gains wsX4_gains) := goodIn_app (goodIn_of _ (by decide +kernel)) ggL_law_X4_gains
