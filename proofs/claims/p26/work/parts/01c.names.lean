theorem dX0_init_0 : decode cX0_init 0 = .ok (.aload_n 0, 1) := by decide +kernel
theorem dX0_init_1 : decode cX0_init 1 = .ok (.invokespecial 3, 3) := by decide +kernel
theorem dX0_init_4 : decode cX0_init 4 = .ok (.aload_n 0, 1) := by decide +kernel
theorem dX0_init_5 : decode cX0_init 5 = .ok (.bipush 10, 2) := by decide +kernel
theorem dX0_init_7 : decode cX0_init 7 = .ok (.newarray .int, 2) := by decide +kernel
theorem dX0_init_9 : decode cX0_init 9 = .ok (.putfield 9, 3) := by decide +kernel
theorem dX0_init_12 : decode cX0_init 12 = .ok (.iconst 0, 1) := by decide +kernel
theorem dX0_init_13 : decode cX0_init 13 = .ok (.istore_n 1, 1) := by decide +kernel
theorem dX0_init_14 : decode cX0_init 14 = .ok (.iload_n 1, 1) := by decide +kernel
theorem dX0_init_15 : decode cX0_init 15 = .ok (.bipush 10, 2) := by decide +kernel
theorem dX0_init_17 : decode cX0_init 17 = .ok (.if_icmp .ge 16, 3) := by decide +kernel
theorem dX0_init_20 : decode cX0_init 20 = .ok (.aload_n 0, 1) := by decide +kernel
theorem dX0_init_21 : decode cX0_init 21 = .ok (.getfield 9, 3) := by decide +kernel
theorem dX0_init_24 : decode cX0_init 24 = .ok (.iload_n 1, 1) := by decide +kernel
theorem dX0_init_25 : decode cX0_init 25 = .ok (.iconst (-1), 1) := by decide +kernel
theorem dX0_init_26 : decode cX0_init 26 = .ok (.iastore, 1) := by decide +kernel
theorem dX0_init_27 : decode cX0_init 27 = .ok (.iinc 1 1, 3) := by decide +kernel
theorem dX0_init_30 : decode cX0_init 30 = .ok (.goto (-16), 3) := by decide +kernel
theorem dX0_init_33 : decode cX0_init 33 = .ok (.aload_n 0, 1) := by decide +kernel
theorem dX0_init_34 : decode cX0_init 34 = .ok (.iconst (-1), 1) := by decide +kernel
theorem dX0_init_35 : decode cX0_init 35 = .ok (.putfield 15, 3) := by decide +kernel
theorem dX0_init_38 : decode cX0_init 38 = .ok (.return_, 1) := by decide +kernel
theorem dX0_begin_0 : decode cX0_begin 0 = .ok (.aload_n 0, 1) := by decide +kernel
theorem dX0_begin_1 : decode cX0_begin 1 = .ok (.iload_n 1, 1) := by decide +kernel
theorem dX0_begin_2 : decode cX0_begin 2 = .ok (.putfield 19, 3) := by decide +kernel
theorem dX0_begin_5 : decode cX0_begin 5 = .ok (.aload_n 0, 1) := by decide +kernel
theorem dX0_begin_6 : decode cX0_begin 6 = .ok (.iload_n 2, 1) := by decide +kernel
theorem dX0_begin_7 : decode cX0_begin 7 = .ok (.putfield 22, 3) := by decide +kernel
theorem dX0_begin_10 : decode cX0_begin 10 = .ok (.aload_n 0, 1) := by decide +kernel
theorem dX0_begin_11 : decode cX0_begin 11 = .ok (.iload_n 3, 1) := by decide +kernel
theorem dX0_begin_12 : decode cX0_begin 12 = .ok (.putfield 25, 3) := by decide +kernel
theorem dX0_begin_15 : decode cX0_begin 15 = .ok (.aload_n 0, 1) := by decide +kernel
theorem dX0_begin_16 : decode cX0_begin 16 = .ok (.iload 4, 2) := by decide +kernel
theorem dX0_begin_18 : decode cX0_begin 18 = .ok (.putfield 28, 3) := by decide +kernel
theorem dX0_begin_21 : decode cX0_begin 21 = .ok (.aload_n 0, 1) := by decide +kernel
theorem dX0_begin_22 : decode cX0_begin 22 = .ok (.iload 5, 2) := by decide +kernel
theorem dX0_begin_24 : decode cX0_begin 24 = .ok (.putfield 31, 3) := by decide +kernel
theorem dX0_begin_27 : decode cX0_begin 27 = .ok (.return_, 1) := by decide +kernel
theorem dX0_barOn_0 : decode cX0_barOn 0 = .ok (.aload_n 0, 1) := by decide +kernel
theorem dX0_barOn_1 : decode cX0_barOn 1 = .ok (.getfield 9, 3) := by decide +kernel
theorem dX0_barOn_4 : decode cX0_barOn 4 = .ok (.iload_n 1, 1) := by decide +kernel
theorem dX0_barOn_5 : decode cX0_barOn 5 = .ok (.iaload, 1) := by decide +kernel
theorem dX0_barOn_6 : decode cX0_barOn 6 = .ok (.iconst (-1), 1) := by decide +kernel
theorem dX0_barOn_7 : decode cX0_barOn 7 = .ok (.if_icmp .eq 16, 3) := by decide +kernel
theorem dX0_barOn_10 : decode cX0_barOn 10 = .ok (.iload_n 2, 1) := by decide +kernel
theorem dX0_barOn_11 : decode cX0_barOn 11 = .ok (.aload_n 0, 1) := by decide +kernel
theorem dX0_barOn_12 : decode cX0_barOn 12 = .ok (.getfield 9, 3) := by decide +kernel
theorem dX0_barOn_15 : decode cX0_barOn 15 = .ok (.iload_n 1, 1) := by decide +kernel
theorem dX0_barOn_16 : decode cX0_barOn 16 = .ok (.iaload, 1) := by decide +kernel
theorem dX0_barOn_17 : decode cX0_barOn 17 = .ok (.isub, 1) := by decide +kernel
theorem dX0_barOn_18 : decode cX0_barOn 18 = .ok (.bipush 10, 2) := by decide +kernel
theorem dX0_barOn_20 : decode cX0_barOn 20 = .ok (.if_icmp .ge 5, 3) := by decide +kernel
theorem dX0_barOn_23 : decode cX0_barOn 23 = .ok (.iconst 1, 1) := by decide +kernel
theorem dX0_barOn_24 : decode cX0_barOn 24 = .ok (.ireturn, 1) := by decide +kernel
theorem dX0_barOn_25 : decode cX0_barOn 25 = .ok (.aload_n 0, 1) := by decide +kernel
theorem dX0_barOn_26 : decode cX0_barOn 26 = .ok (.getfield 34, 3) := by decide +kernel
theorem dX0_barOn_29 : decode cX0_barOn 29 = .ok (.ifCond .eq 5, 3) := by decide +kernel
theorem dX0_barOn_32 : decode cX0_barOn 32 = .ok (.iconst 2, 1) := by decide +kernel
theorem dX0_barOn_33 : decode cX0_barOn 33 = .ok (.ireturn, 1) := by decide +kernel
theorem dX0_barOn_34 : decode cX0_barOn 34 = .ok (.iload_n 2, 1) := by decide +kernel
theorem dX0_barOn_35 : decode cX0_barOn 35 = .ok (.aload_n 0, 1) := by decide +kernel
theorem dX0_barOn_36 : decode cX0_barOn 36 = .ok (.getfield 25, 3) := by decide +kernel
theorem dX0_barOn_39 : decode cX0_barOn 39 = .ok (.isub, 1) := by decide +kernel
theorem dX0_barOn_40 : decode cX0_barOn 40 = .ok (.sipush 365, 3) := by decide +kernel
theorem dX0_barOn_43 : decode cX0_barOn 43 = .ok (.if_icmp .le 12, 3) := by decide +kernel
theorem dX0_barOn_46 : decode cX0_barOn 46 = .ok (.aload_n 0, 1) := by decide +kernel
theorem dX0_barOn_47 : decode cX0_barOn 47 = .ok (.getfield 38, 3) := by decide +kernel
theorem dX0_barOn_50 : decode cX0_barOn 50 = .ok (.ifCond .ne 5, 3) := by decide +kernel
theorem dX0_barOn_53 : decode cX0_barOn 53 = .ok (.iconst 3, 1) := by decide +kernel
theorem dX0_barOn_54 : decode cX0_barOn 54 = .ok (.ireturn, 1) := by decide +kernel
theorem dX0_barOn_55 : decode cX0_barOn 55 = .ok (.iconst 0, 1) := by decide +kernel
theorem dX0_barOn_56 : decode cX0_barOn 56 = .ok (.ireturn, 1) := by decide +kernel
theorem dX0_giveRemedy_0 : decode cX0_giveRemedy 0 = .ok (.aload_n 0, 1) := by decide +kernel
theorem dX0_giveRemedy_1 : decode cX0_giveRemedy 1 = .ok (.aload_n 0, 1) := by decide +kernel
theorem dX0_giveRemedy_2 : decode cX0_giveRemedy 2 = .ok (.getfield 31, 3) := by decide +kernel
theorem dX0_giveRemedy_5 : decode cX0_giveRemedy 5 = .ok (.iload_n 1, 1) := by decide +kernel
theorem dX0_giveRemedy_6 : decode cX0_giveRemedy 6 = .ok (.imul, 1) := by decide +kernel
theorem dX0_giveRemedy_7 : decode cX0_giveRemedy 7 = .ok (.bipush 100, 2) := by decide +kernel
theorem dX0_giveRemedy_9 : decode cX0_giveRemedy 9 = .ok (.idiv, 1) := by decide +kernel
theorem dX0_giveRemedy_10 : decode cX0_giveRemedy 10 = .ok (.putfield 15, 3) := by decide +kernel
theorem dX0_giveRemedy_13 : decode cX0_giveRemedy 13 = .ok (.return_, 1) := by decide +kernel
theorem dX1_init_0 : decode cX1_init 0 = .ok (.aload_n 0, 1) := by decide +kernel
theorem dX1_init_1 : decode cX1_init 1 = .ok (.invokespecial 3, 3) := by decide +kernel
theorem dX1_init_4 : decode cX1_init 4 = .ok (.aload_n 0, 1) := by decide +kernel
theorem dX1_init_5 : decode cX1_init 5 = .ok (.sipush 512, 3) := by decide +kernel
theorem dX1_init_8 : decode cX1_init 8 = .ok (.newarray .int, 2) := by decide +kernel
theorem dX1_init_10 : decode cX1_init 10 = .ok (.putfield 9, 3) := by decide +kernel
theorem dX1_init_13 : decode cX1_init 13 = .ok (.aload_n 0, 1) := by decide +kernel
theorem dX1_init_14 : decode cX1_init 14 = .ok (.sipush 512, 3) := by decide +kernel
theorem dX1_init_17 : decode cX1_init 17 = .ok (.newarray .int, 2) := by decide +kernel
theorem dX1_init_19 : decode cX1_init 19 = .ok (.putfield 15, 3) := by decide +kernel
theorem dX1_init_22 : decode cX1_init 22 = .ok (.aload_n 0, 1) := by decide +kernel
theorem dX1_init_23 : decode cX1_init 23 = .ok (.sipush 512, 3) := by decide +kernel
theorem dX1_init_26 : decode cX1_init 26 = .ok (.newarray .int, 2) := by decide +kernel
theorem dX1_init_28 : decode cX1_init 28 = .ok (.putfield 18, 3) := by decide +kernel
theorem dX1_init_31 : decode cX1_init 31 = .ok (.return_, 1) := by decide +kernel
theorem dX1_valueOn_0 : decode cX1_valueOn 0 = .ok (.aload_n 0, 1) := by decide +kernel
theorem dX1_valueOn_1 : decode cX1_valueOn 1 = .ok (.getfield 21, 3) := by decide +kernel
theorem dX1_valueOn_4 : decode cX1_valueOn 4 = .ok (.iconst 1, 1) := by decide +kernel
theorem dX1_valueOn_5 : decode cX1_valueOn 5 = .ok (.isub, 1) := by decide +kernel
theorem dX1_valueOn_6 : decode cX1_valueOn 6 = .ok (.istore 4, 2) := by decide +kernel
theorem dX1_valueOn_8 : decode cX1_valueOn 8 = .ok (.iload 4, 2) := by decide +kernel
theorem dX1_valueOn_10 : decode cX1_valueOn 10 = .ok (.ifCond .lt 39, 3) := by decide +kernel
theorem dX1_valueOn_13 : decode cX1_valueOn 13 = .ok (.aload_n 0, 1) := by decide +kernel
theorem dX1_valueOn_14 : decode cX1_valueOn 14 = .ok (.getfield 9, 3) := by decide +kernel
theorem dX1_valueOn_17 : decode cX1_valueOn 17 = .ok (.iload 4, 2) := by decide +kernel
theorem dX1_valueOn_19 : decode cX1_valueOn 19 = .ok (.iaload, 1) := by decide +kernel
theorem dX1_valueOn_20 : decode cX1_valueOn 20 = .ok (.iload_n 1, 1) := by decide +kernel
theorem dX1_valueOn_21 : decode cX1_valueOn 21 = .ok (.if_icmp .ne 22, 3) := by decide +kernel
theorem dX1_valueOn_24 : decode cX1_valueOn 24 = .ok (.aload_n 0, 1) := by decide +kernel
theorem dX1_valueOn_25 : decode cX1_valueOn 25 = .ok (.getfield 15, 3) := by decide +kernel
theorem dX1_valueOn_28 : decode cX1_valueOn 28 = .ok (.iload 4, 2) := by decide +kernel
theorem dX1_valueOn_30 : decode cX1_valueOn 30 = .ok (.iaload, 1) := by decide +kernel
theorem dX1_valueOn_31 : decode cX1_valueOn 31 = .ok (.iload_n 2, 1) := by decide +kernel
theorem dX1_valueOn_32 : decode cX1_valueOn 32 = .ok (.if_icmp .gt 11, 3) := by decide +kernel
theorem dX1_valueOn_35 : decode cX1_valueOn 35 = .ok (.aload_n 0, 1) := by decide +kernel
theorem dX1_valueOn_36 : decode cX1_valueOn 36 = .ok (.getfield 18, 3) := by decide +kernel
theorem dX1_valueOn_39 : decode cX1_valueOn 39 = .ok (.iload 4, 2) := by decide +kernel
theorem dX1_valueOn_41 : decode cX1_valueOn 41 = .ok (.iaload, 1) := by decide +kernel
theorem dX1_valueOn_42 : decode cX1_valueOn 42 = .ok (.ireturn, 1) := by decide +kernel
theorem dX1_valueOn_43 : decode cX1_valueOn 43 = .ok (.iinc 4 (-1), 3) := by decide +kernel
theorem dX1_valueOn_46 : decode cX1_valueOn 46 = .ok (.goto (-38), 3) := by decide +kernel
theorem dX1_valueOn_49 : decode cX1_valueOn 49 = .ok (.iload_n 3, 1) := by decide +kernel
theorem dX1_valueOn_50 : decode cX1_valueOn 50 = .ok (.ireturn, 1) := by decide +kernel
theorem dX1_tell_0 : decode cX1_tell 0 = .ok (.aload_n 0, 1) := by decide +kernel
theorem dX1_tell_1 : decode cX1_tell 1 = .ok (.getfield 21, 3) := by decide +kernel
theorem dX1_tell_4 : decode cX1_tell 4 = .ok (.sipush 512, 3) := by decide +kernel
theorem dX1_tell_7 : decode cX1_tell 7 = .ok (.if_icmp .lt 4, 3) := by decide +kernel
theorem dX1_tell_10 : decode cX1_tell 10 = .ok (.return_, 1) := by decide +kernel
theorem dX1_tell_11 : decode cX1_tell 11 = .ok (.aload_n 0, 1) := by decide +kernel
theorem dX1_tell_12 : decode cX1_tell 12 = .ok (.getfield 9, 3) := by decide +kernel
theorem dX1_tell_15 : decode cX1_tell 15 = .ok (.aload_n 0, 1) := by decide +kernel
theorem dX1_tell_16 : decode cX1_tell 16 = .ok (.getfield 21, 3) := by decide +kernel
theorem dX1_tell_19 : decode cX1_tell 19 = .ok (.iload_n 1, 1) := by decide +kernel
theorem dX1_tell_20 : decode cX1_tell 20 = .ok (.iastore, 1) := by decide +kernel
theorem dX1_tell_21 : decode cX1_tell 21 = .ok (.aload_n 0, 1) := by decide +kernel
theorem dX1_tell_22 : decode cX1_tell 22 = .ok (.getfield 15, 3) := by decide +kernel
theorem dX1_tell_25 : decode cX1_tell 25 = .ok (.aload_n 0, 1) := by decide +kernel
theorem dX1_tell_26 : decode cX1_tell 26 = .ok (.getfield 21, 3) := by decide +kernel
theorem dX1_tell_29 : decode cX1_tell 29 = .ok (.iload_n 2, 1) := by decide +kernel
theorem dX1_tell_30 : decode cX1_tell 30 = .ok (.iastore, 1) := by decide +kernel
theorem dX1_tell_31 : decode cX1_tell 31 = .ok (.aload_n 0, 1) := by decide +kernel
theorem dX1_tell_32 : decode cX1_tell 32 = .ok (.getfield 18, 3) := by decide +kernel
theorem dX1_tell_35 : decode cX1_tell 35 = .ok (.aload_n 0, 1) := by decide +kernel
theorem dX1_tell_36 : decode cX1_tell 36 = .ok (.getfield 21, 3) := by decide +kernel
theorem dX1_tell_39 : decode cX1_tell 39 = .ok (.iload_n 3, 1) := by decide +kernel
theorem dX1_tell_40 : decode cX1_tell 40 = .ok (.iastore, 1) := by decide +kernel
theorem dX1_tell_41 : decode cX1_tell 41 = .ok (.aload_n 0, 1) := by decide +kernel
theorem dX1_tell_42 : decode cX1_tell 42 = .ok (.dup, 1) := by decide +kernel
theorem dX1_tell_43 : decode cX1_tell 43 = .ok (.getfield 21, 3) := by decide +kernel
theorem dX1_tell_46 : decode cX1_tell 46 = .ok (.iconst 1, 1) := by decide +kernel
theorem dX1_tell_47 : decode cX1_tell 47 = .ok (.iadd, 1) := by decide +kernel
theorem dX1_tell_48 : decode cX1_tell 48 = .ok (.putfield 21, 3) := by decide +kernel
theorem dX1_tell_51 : decode cX1_tell 51 = .ok (.return_, 1) := by decide +kernel
theorem dX2_init_0 : decode cX2_init 0 = .ok (.aload_n 0, 1) := by decide +kernel
theorem dX2_init_1 : decode cX2_init 1 = .ok (.invokespecial 3, 3) := by decide +kernel
theorem dX2_init_4 : decode cX2_init 4 = .ok (.return_, 1) := by decide +kernel
theorem dX2_begin_0 : decode cX2_begin 0 = .ok (.aload_n 0, 1) := by decide +kernel
theorem dX2_begin_1 : decode cX2_begin 1 = .ok (.iload_n 1, 1) := by decide +kernel
theorem dX2_begin_2 : decode cX2_begin 2 = .ok (.putfield 9, 3) := by decide +kernel
theorem dX2_begin_5 : decode cX2_begin 5 = .ok (.aload_n 0, 1) := by decide +kernel
theorem dX2_begin_6 : decode cX2_begin 6 = .ok (.iconst 0, 1) := by decide +kernel
theorem dX2_begin_7 : decode cX2_begin 7 = .ok (.putfield 15, 3) := by decide +kernel
theorem dX2_begin_10 : decode cX2_begin 10 = .ok (.aload_n 0, 1) := by decide +kernel
theorem dX2_begin_11 : decode cX2_begin 11 = .ok (.bipush 60, 2) := by decide +kernel
theorem dX2_begin_13 : decode cX2_begin 13 = .ok (.putfield 18, 3) := by decide +kernel
theorem dX2_begin_16 : decode cX2_begin 16 = .ok (.aload_n 0, 1) := by decide +kernel
theorem dX2_begin_17 : decode cX2_begin 17 = .ok (.iconst 0, 1) := by decide +kernel
theorem dX2_begin_18 : decode cX2_begin 18 = .ok (.putfield 21, 3) := by decide +kernel
theorem dX2_begin_21 : decode cX2_begin 21 = .ok (.aload_n 0, 1) := by decide +kernel
theorem dX2_begin_22 : decode cX2_begin 22 = .ok (.iconst (-1), 1) := by decide +kernel
theorem dX2_begin_23 : decode cX2_begin 23 = .ok (.putfield 24, 3) := by decide +kernel
theorem dX2_begin_26 : decode cX2_begin 26 = .ok (.return_, 1) := by decide +kernel
theorem dX2_join_0 : decode cX2_join 0 = .ok (.aload_n 0, 1) := by decide +kernel
theorem dX2_join_1 : decode cX2_join 1 = .ok (.dup, 1) := by decide +kernel
theorem dX2_join_2 : decode cX2_join 2 = .ok (.getfield 27, 3) := by decide +kernel
theorem dX2_join_5 : decode cX2_join 5 = .ok (.iconst 1, 1) := by decide +kernel
theorem dX2_join_6 : decode cX2_join 6 = .ok (.iload_n 1, 1) := by decide +kernel
theorem dX2_join_7 : decode cX2_join 7 = .ok (.ishl, 1) := by decide +kernel
theorem dX2_join_8 : decode cX2_join 8 = .ok (.ior, 1) := by decide +kernel
theorem dX2_join_9 : decode cX2_join 9 = .ok (.putfield 27, 3) := by decide +kernel
theorem dX2_join_12 : decode cX2_join 12 = .ok (.return_, 1) := by decide +kernel
theorem dX2_letDaysGoBy_0 : decode cX2_letDaysGoBy 0 = .ok (.aload_n 0, 1) := by decide +kernel
theorem dX2_letDaysGoBy_1 : decode cX2_letDaysGoBy 1 = .ok (.getfield 15, 3) := by decide +kernel
theorem dX2_letDaysGoBy_4 : decode cX2_letDaysGoBy 4 = .ok (.ifCond .ne 11, 3) := by decide +kernel
theorem dX2_letDaysGoBy_7 : decode cX2_letDaysGoBy 7 = .ok (.aload_n 0, 1) := by decide +kernel
theorem dX2_letDaysGoBy_8 : decode cX2_letDaysGoBy 8 = .ok (.getfield 21, 3) := by decide +kernel
theorem dX2_letDaysGoBy_11 : decode cX2_letDaysGoBy 11 = .ok (.iconst 1, 1) := by decide +kernel
theorem dX2_letDaysGoBy_12 : decode cX2_letDaysGoBy 12 = .ok (.if_icmp .ne 4, 3) := by decide +kernel
theorem dX2_letDaysGoBy_15 : decode cX2_letDaysGoBy 15 = .ok (.return_, 1) := by decide +kernel
theorem dX2_letDaysGoBy_16 : decode cX2_letDaysGoBy 16 = .ok (.aload_n 0, 1) := by decide +kernel
theorem dX2_letDaysGoBy_17 : decode cX2_letDaysGoBy 17 = .ok (.iconst 0, 1) := by decide +kernel
theorem dX2_letDaysGoBy_18 : decode cX2_letDaysGoBy 18 = .ok (.aload_n 0, 1) := by decide +kernel
theorem dX2_letDaysGoBy_19 : decode cX2_letDaysGoBy 19 = .ok (.getfield 18, 3) := by decide +kernel
theorem dX2_letDaysGoBy_22 : decode cX2_letDaysGoBy 22 = .ok (.iload_n 1, 1) := by decide +kernel
theorem dX2_letDaysGoBy_23 : decode cX2_letDaysGoBy 23 = .ok (.isub, 1) := by decide +kernel
theorem dX2_letDaysGoBy_24 : decode cX2_letDaysGoBy 24 = .ok (.invokestatic 30, 3) := by decide +kernel
theorem dX2_letDaysGoBy_27 : decode cX2_letDaysGoBy 27 = .ok (.putfield 18, 3) := by decide +kernel
theorem dX2_letDaysGoBy_30 : decode cX2_letDaysGoBy 30 = .ok (.aload_n 0, 1) := by decide +kernel
theorem dX2_letDaysGoBy_31 : decode cX2_letDaysGoBy 31 = .ok (.getfield 18, 3) := by decide +kernel
theorem dX2_letDaysGoBy_34 : decode cX2_letDaysGoBy 34 = .ok (.ifCond .ne 8, 3) := by decide +kernel
theorem dX2_letDaysGoBy_37 : decode cX2_letDaysGoBy 37 = .ok (.aload_n 0, 1) := by decide +kernel
theorem dX2_letDaysGoBy_38 : decode cX2_letDaysGoBy 38 = .ok (.iconst 2, 1) := by decide +kernel
theorem dX2_letDaysGoBy_39 : decode cX2_letDaysGoBy 39 = .ok (.putfield 15, 3) := by decide +kernel
theorem dX2_letDaysGoBy_42 : decode cX2_letDaysGoBy 42 = .ok (.return_, 1) := by decide +kernel
set_option maxRecDepth 20000 in
theorem ggX3_init_X1_init : GoodIn wsX3_init wsX1_init := goodIn_r _ [23, 24, 2, 3, 6, 25, 26, 27, 49, 50, 51, 52] (by decide +kernel) (by decide +kernel)
set_option maxRecDepth 20000 in
theorem gX3_init_X1_init : GoodIn wsX3_init (wsX1_init) := ggX3_init_X1_init
set_option maxRecDepth 20000 in
theorem ggX3_init_X0_init : GoodIn wsX3_init wsX0_init := goodIn_r _ [30, 31, 2, 3, 6, 32, 33, 53, 54, 55, 56, 57, 58, 59, 60, 61] (by decide +kernel) (by decide +kernel)
set_option maxRecDepth 20000 in
theorem gX3_init_X0_init : GoodIn wsX3_init (wsX0_init) := ggX3_init_X0_init
set_option maxRecDepth 20000 in
theorem ggX3_init_X2_init : GoodIn wsX3_init wsX2_init := goodIn_r _ [36, 37, 2, 3] (by decide +kernel) (by decide +kernel)
set_option maxRecDepth 20000 in
theorem gX3_init_X2_init : GoodIn wsX3_init (wsX2_init) := ggX3_init_X2_init
theorem dX3_init_0 : decode cX3_init 0 = .ok (.aload_n 0, 1) := by decide +kernel
theorem dX3_init_1 : decode cX3_init 1 = .ok (.invokespecial 1, 3) := by decide +kernel
theorem dX3_init_4 : decode cX3_init 4 = .ok (.aload_n 0, 1) := by decide +kernel
theorem dX3_init_5 : decode cX3_init 5 = .ok (.bipush 7, 2) := by decide +kernel
theorem dX3_init_7 : decode cX3_init 7 = .ok (.newarray .char, 2) := by decide +kernel
theorem dX3_init_9 : decode cX3_init 9 = .ok (.putfield 9, 3) := by decide +kernel
theorem dX3_init_12 : decode cX3_init 12 = .ok (.aload_n 0, 1) := by decide +kernel
theorem dX3_init_13 : decode cX3_init 13 = .ok (.bipush 10, 2) := by decide +kernel
theorem dX3_init_15 : decode cX3_init 15 = .ok (.newarray .int, 2) := by decide +kernel
theorem dX3_init_17 : decode cX3_init 17 = .ok (.putfield 13, 3) := by decide +kernel
theorem dX3_init_20 : decode cX3_init 20 = .ok (.aload_n 0, 1) := by decide +kernel
theorem dX3_init_21 : decode cX3_init 21 = .ok (.new 17, 3) := by decide +kernel
theorem dX3_init_24 : decode cX3_init 24 = .ok (.dup, 1) := by decide +kernel
theorem dX3_init_25 : decode cX3_init 25 = .ok (.invokespecial 19, 3) := by decide +kernel
theorem dX3_init_28 : decode cX3_init 28 = .ok (.putfield 20, 3) := by decide +kernel
theorem dX3_init_31 : decode cX3_init 31 = .ok (.aload_n 0, 1) := by decide +kernel
theorem dX3_init_32 : decode cX3_init 32 = .ok (.new 17, 3) := by decide +kernel
theorem dX3_init_35 : decode cX3_init 35 = .ok (.dup, 1) := by decide +kernel
theorem dX3_init_36 : decode cX3_init 36 = .ok (.invokespecial 19, 3) := by decide +kernel
theorem dX3_init_39 : decode cX3_init 39 = .ok (.putfield 24, 3) := by decide +kernel
theorem dX3_init_42 : decode cX3_init 42 = .ok (.aload_n 0, 1) := by decide +kernel
theorem dX3_init_43 : decode cX3_init 43 = .ok (.bipush 24, 2) := by decide +kernel
theorem dX3_init_45 : decode cX3_init 45 = .ok (.anewarray 27, 3) := by decide +kernel
theorem dX3_init_48 : decode cX3_init 48 = .ok (.putfield 29, 3) := by decide +kernel
theorem dX3_init_51 : decode cX3_init 51 = .ok (.iconst 0, 1) := by decide +kernel
theorem dX3_init_52 : decode cX3_init 52 = .ok (.istore_n 1, 1) := by decide +kernel
theorem dX3_init_53 : decode cX3_init 53 = .ok (.iload_n 1, 1) := by decide +kernel
theorem dX3_init_54 : decode cX3_init 54 = .ok (.bipush 24, 2) := by decide +kernel
theorem dX3_init_56 : decode cX3_init 56 = .ok (.if_icmp .ge 22, 3) := by decide +kernel
theorem dX3_init_59 : decode cX3_init 59 = .ok (.aload_n 0, 1) := by decide +kernel
theorem dX3_init_60 : decode cX3_init 60 = .ok (.getfield 29, 3) := by decide +kernel
theorem dX3_init_63 : decode cX3_init 63 = .ok (.iload_n 1, 1) := by decide +kernel
theorem dX3_init_64 : decode cX3_init 64 = .ok (.new 27, 3) := by decide +kernel
theorem dX3_init_67 : decode cX3_init 67 = .ok (.dup, 1) := by decide +kernel
theorem dX3_init_68 : decode cX3_init 68 = .ok (.invokespecial 33, 3) := by decide +kernel
theorem dX3_init_71 : decode cX3_init 71 = .ok (.aastore, 1) := by decide +kernel
theorem dX3_init_72 : decode cX3_init 72 = .ok (.iinc 1 1, 3) := by decide +kernel
theorem dX3_init_75 : decode cX3_init 75 = .ok (.goto (-22), 3) := by decide +kernel
theorem dX3_init_78 : decode cX3_init 78 = .ok (.aload_n 0, 1) := by decide +kernel
theorem dX3_init_79 : decode cX3_init 79 = .ok (.bipush 16, 2) := by decide +kernel
theorem dX3_init_81 : decode cX3_init 81 = .ok (.anewarray 34, 3) := by decide +kernel
theorem dX3_init_84 : decode cX3_init 84 = .ok (.putfield 36, 3) := by decide +kernel
theorem dX3_init_87 : decode cX3_init 87 = .ok (.iconst 0, 1) := by decide +kernel
theorem dX3_init_88 : decode cX3_init 88 = .ok (.istore_n 1, 1) := by decide +kernel
theorem dX3_init_89 : decode cX3_init 89 = .ok (.iload_n 1, 1) := by decide +kernel
theorem dX3_init_90 : decode cX3_init 90 = .ok (.bipush 16, 2) := by decide +kernel
theorem dX3_init_92 : decode cX3_init 92 = .ok (.if_icmp .ge 22, 3) := by decide +kernel
theorem dX3_init_95 : decode cX3_init 95 = .ok (.aload_n 0, 1) := by decide +kernel
theorem dX3_init_96 : decode cX3_init 96 = .ok (.getfield 36, 3) := by decide +kernel
theorem dX3_init_99 : decode cX3_init 99 = .ok (.iload_n 1, 1) := by decide +kernel
theorem dX3_init_100 : decode cX3_init 100 = .ok (.new 34, 3) := by decide +kernel
theorem dX3_init_103 : decode cX3_init 103 = .ok (.dup, 1) := by decide +kernel
theorem dX3_init_104 : decode cX3_init 104 = .ok (.invokespecial 40, 3) := by decide +kernel
theorem dX3_init_107 : decode cX3_init 107 = .ok (.aastore, 1) := by decide +kernel
theorem dX3_init_108 : decode cX3_init 108 = .ok (.iinc 1 1, 3) := by decide +kernel
theorem dX3_init_111 : decode cX3_init 111 = .ok (.goto (-22), 3) := by decide +kernel
theorem dX3_init_114 : decode cX3_init 114 = .ok (.return_, 1) := by decide +kernel
theorem dX3_letter_0 : decode cX3_letter 0 = .ok (.iload_n 1, 1) := by decide +kernel
theorem dX3_letter_1 : decode cX3_letter 1 = .ok (.bipush 97, 2) := by decide +kernel
theorem dX3_letter_3 : decode cX3_letter 3 = .ok (.if_icmp .lt 9, 3) := by decide +kernel
theorem dX3_letter_6 : decode cX3_letter 6 = .ok (.iload_n 1, 1) := by decide +kernel
theorem dX3_letter_7 : decode cX3_letter 7 = .ok (.bipush 122, 2) := by decide +kernel
theorem dX3_letter_9 : decode cX3_letter 9 = .ok (.if_icmp .le 13, 3) := by decide +kernel
theorem dX3_letter_12 : decode cX3_letter 12 = .ok (.new 41, 3) := by decide +kernel
theorem dX3_letter_15 : decode cX3_letter 15 = .ok (.dup, 1) := by decide +kernel
theorem dX3_letter_16 : decode cX3_letter 16 = .ok (.ldc 43, 2) := by decide +kernel
theorem dX3_letter_18 : decode cX3_letter 18 = .ok (.invokespecial 45, 3) := by decide +kernel
theorem dX3_letter_21 : decode cX3_letter 21 = .ok (.athrow, 1) := by decide +kernel
theorem dX3_letter_22 : decode cX3_letter 22 = .ok (.aload_n 0, 1) := by decide +kernel
theorem dX3_letter_23 : decode cX3_letter 23 = .ok (.getfield 48, 3) := by decide +kernel
theorem dX3_letter_26 : decode cX3_letter 26 = .ok (.bipush 7, 2) := by decide +kernel
theorem dX3_letter_28 : decode cX3_letter 28 = .ok (.if_icmp .lt 13, 3) := by decide +kernel
theorem dX3_letter_31 : decode cX3_letter 31 = .ok (.new 52, 3) := by decide +kernel
theorem dX3_letter_34 : decode cX3_letter 34 = .ok (.dup, 1) := by decide +kernel
theorem dX3_letter_35 : decode cX3_letter 35 = .ok (.ldc 54, 2) := by decide +kernel
theorem dX3_letter_37 : decode cX3_letter 37 = .ok (.invokespecial 56, 3) := by decide +kernel
theorem dX3_letter_40 : decode cX3_letter 40 = .ok (.athrow, 1) := by decide +kernel
theorem dX3_letter_41 : decode cX3_letter 41 = .ok (.aload_n 0, 1) := by decide +kernel
theorem dX3_letter_42 : decode cX3_letter 42 = .ok (.getfield 9, 3) := by decide +kernel
theorem dX3_letter_45 : decode cX3_letter 45 = .ok (.aload_n 0, 1) := by decide +kernel
theorem dX3_letter_46 : decode cX3_letter 46 = .ok (.getfield 48, 3) := by decide +kernel
theorem dX3_letter_49 : decode cX3_letter 49 = .ok (.iload_n 1, 1) := by decide +kernel
theorem dX3_letter_50 : decode cX3_letter 50 = .ok (.castore, 1) := by decide +kernel
theorem dX3_letter_51 : decode cX3_letter 51 = .ok (.aload_n 0, 1) := by decide +kernel
theorem dX3_letter_52 : decode cX3_letter 52 = .ok (.dup, 1) := by decide +kernel
theorem dX3_letter_53 : decode cX3_letter 53 = .ok (.getfield 48, 3) := by decide +kernel
theorem dX3_letter_56 : decode cX3_letter 56 = .ok (.iconst 1, 1) := by decide +kernel
theorem dX3_letter_57 : decode cX3_letter 57 = .ok (.iadd, 1) := by decide +kernel
theorem dX3_letter_58 : decode cX3_letter 58 = .ok (.putfield 48, 3) := by decide +kernel
theorem dX3_letter_61 : decode cX3_letter 61 = .ok (.aload_n 0, 1) := by decide +kernel
theorem dX3_letter_62 : decode cX3_letter 62 = .ok (.getfield 48, 3) := by decide +kernel
theorem dX3_letter_65 : decode cX3_letter 65 = .ok (.ireturn, 1) := by decide +kernel
set_option maxRecDepth 20000 in
theorem ggX3_office_X3_needNumber : GoodIn wsX3_office wsX3_needNumber := goodIn_ca (goodIn_r _ [8, 9, 10] (by decide +kernel) (by decide +kernel)) (goodIn_sub (fun _ h => List.mem_cons_of_mem _ (List.mem_append_right _ h)) (by decide +kernel))
set_option maxRecDepth 20000 in
theorem gX3_office_X3_needNumber : GoodIn wsX3_office (va_wsS RX3 60 yX3_needNumber wsX3_needNumber) := goodIn_app (goodIn_of _ (by decide +kernel)) ggX3_office_X3_needNumber
theorem dX3_office_0 : decode cX3_office 0 = .ok (.iload_n 1, 1) := by decide +kernel
theorem dX3_office_1 : decode cX3_office 1 = .ok (.iconst (-1), 1) := by decide +kernel
theorem dX3_office_2 : decode cX3_office 2 = .ok (.if_icmp .eq 11, 3) := by decide +kernel
theorem dX3_office_5 : decode cX3_office 5 = .ok (.iload_n 1, 1) := by decide +kernel
theorem dX3_office_6 : decode cX3_office 6 = .ok (.aload_n 0, 1) := by decide +kernel
theorem dX3_office_7 : decode cX3_office 7 = .ok (.getfield 57, 3) := by decide +kernel
theorem dX3_office_10 : decode cX3_office 10 = .ok (.invokestatic 60, 3) := by decide +kernel
theorem dX3_office_13 : decode cX3_office 13 = .ok (.aload_n 0, 1) := by decide +kernel
theorem dX3_office_14 : decode cX3_office 14 = .ok (.getfield 57, 3) := by decide +kernel
theorem dX3_office_17 : decode cX3_office 17 = .ok (.bipush 10, 2) := by decide +kernel
theorem dX3_office_19 : decode cX3_office 19 = .ok (.if_icmp .lt 13, 3) := by decide +kernel
theorem dX3_office_22 : decode cX3_office 22 = .ok (.new 52, 3) := by decide +kernel
theorem dX3_office_25 : decode cX3_office 25 = .ok (.dup, 1) := by decide +kernel
theorem dX3_office_26 : decode cX3_office 26 = .ok (.ldc 64, 2) := by decide +kernel
theorem dX3_office_28 : decode cX3_office 28 = .ok (.invokespecial 56, 3) := by decide +kernel
theorem dX3_office_31 : decode cX3_office 31 = .ok (.athrow, 1) := by decide +kernel
theorem dX3_office_32 : decode cX3_office 32 = .ok (.aload_n 0, 1) := by decide +kernel
theorem dX3_office_33 : decode cX3_office 33 = .ok (.getfield 57, 3) := by decide +kernel
theorem dX3_office_36 : decode cX3_office 36 = .ok (.istore_n 2, 1) := by decide +kernel
theorem dX3_office_37 : decode cX3_office 37 = .ok (.aload_n 0, 1) := by decide +kernel
theorem dX3_office_38 : decode cX3_office 38 = .ok (.getfield 13, 3) := by decide +kernel
theorem dX3_office_41 : decode cX3_office 41 = .ok (.iload_n 2, 1) := by decide +kernel
theorem dX3_office_42 : decode cX3_office 42 = .ok (.iload_n 1, 1) := by decide +kernel
theorem dX3_office_43 : decode cX3_office 43 = .ok (.iastore, 1) := by decide +kernel
theorem dX3_office_44 : decode cX3_office 44 = .ok (.aload_n 0, 1) := by decide +kernel
theorem dX3_office_45 : decode cX3_office 45 = .ok (.dup, 1) := by decide +kernel
theorem dX3_office_46 : decode cX3_office 46 = .ok (.getfield 57, 3) := by decide +kernel
theorem dX3_office_49 : decode cX3_office 49 = .ok (.iconst 1, 1) := by decide +kernel
theorem dX3_office_50 : decode cX3_office 50 = .ok (.iadd, 1) := by decide +kernel
theorem dX3_office_51 : decode cX3_office 51 = .ok (.putfield 57, 3) := by decide +kernel
theorem dX3_office_54 : decode cX3_office 54 = .ok (.iload_n 2, 1) := by decide +kernel
theorem dX3_office_55 : decode cX3_office 55 = .ok (.ireturn, 1) := by decide +kernel
set_option maxRecDepth 20000 in
theorem ggX3_delegate_X3_needNumber : GoodIn wsX3_delegate wsX3_needNumber := goodIn_ca (goodIn_r _ [9, 10, 11] (by decide +kernel) (by decide +kernel)) (goodIn_sub (fun _ h => List.mem_cons_of_mem _ (List.mem_append_right _ h)) (by decide +kernel))
set_option maxRecDepth 20000 in
theorem gX3_delegate_X3_needNumber : GoodIn wsX3_delegate (va_wsS RX3 60 yX3_needNumber wsX3_needNumber) := goodIn_app (goodIn_of _ (by decide +kernel)) ggX3_delegate_X3_needNumber
set_option maxRecDepth 20000 in
theorem ggX3_delegate_X1_valueOn : GoodIn wsX3_delegate wsX1_valueOn := goodIn_r _ [16, 17, 18, 19, 20, 36, 37, 38, 39] (by decide +kernel) (by decide +kernel)
set_option maxRecDepth 20000 in
theorem gX3_delegate_X1_valueOn : GoodIn wsX3_delegate (wsV RX3 71 RX1 yX1_valueOn wsX1_valueOn) := goodIn_app (goodIn_of _ (by decide +kernel)) ggX3_delegate_X1_valueOn
set_option maxRecDepth 20000 in
theorem ggX3_delegate_X1_tell : GoodIn wsX3_delegate wsX1_tell := goodIn_r _ [24, 17, 18, 19, 20, 36, 37, 38, 39] (by decide +kernel) (by decide +kernel)
set_option maxRecDepth 20000 in
theorem gX3_delegate_X1_tell : GoodIn wsX3_delegate (wsV RX3 75 RX1 yX1_tell wsX1_tell) := goodIn_app (goodIn_of _ (by decide +kernel)) ggX3_delegate_X1_tell
theorem dX3_delegate_0 : decode cX3_delegate 0 = .ok (.iload_n 1, 1) := by decide +kernel
theorem dX3_delegate_1 : decode cX3_delegate 1 = .ok (.aload_n 0, 1) := by decide +kernel
theorem dX3_delegate_2 : decode cX3_delegate 2 = .ok (.getfield 57, 3) := by decide +kernel
theorem dX3_delegate_5 : decode cX3_delegate 5 = .ok (.invokestatic 60, 3) := by decide +kernel
theorem dX3_delegate_8 : decode cX3_delegate 8 = .ok (.iload_n 2, 1) := by decide +kernel
theorem dX3_delegate_9 : decode cX3_delegate 9 = .ok (.iconst (-1), 1) := by decide +kernel
theorem dX3_delegate_10 : decode cX3_delegate 10 = .ok (.if_icmp .eq 11, 3) := by decide +kernel
theorem dX3_delegate_13 : decode cX3_delegate 13 = .ok (.iload_n 2, 1) := by decide +kernel
theorem dX3_delegate_14 : decode cX3_delegate 14 = .ok (.aload_n 0, 1) := by decide +kernel
theorem dX3_delegate_15 : decode cX3_delegate 15 = .ok (.getfield 57, 3) := by decide +kernel
theorem dX3_delegate_18 : decode cX3_delegate 18 = .ok (.invokestatic 60, 3) := by decide +kernel
theorem dX3_delegate_21 : decode cX3_delegate 21 = .ok (.iload_n 1, 1) := by decide +kernel
theorem dX3_delegate_22 : decode cX3_delegate 22 = .ok (.iload_n 2, 1) := by decide +kernel
theorem dX3_delegate_23 : decode cX3_delegate 23 = .ok (.if_icmp .ne 13, 3) := by decide +kernel
theorem dX3_delegate_26 : decode cX3_delegate 26 = .ok (.new 41, 3) := by decide +kernel
theorem dX3_delegate_29 : decode cX3_delegate 29 = .ok (.dup, 1) := by decide +kernel
theorem dX3_delegate_30 : decode cX3_delegate 30 = .ok (.ldc 66, 2) := by decide +kernel
theorem dX3_delegate_32 : decode cX3_delegate 32 = .ok (.invokespecial 45, 3) := by decide +kernel
theorem dX3_delegate_35 : decode cX3_delegate 35 = .ok (.athrow, 1) := by decide +kernel
theorem dX3_delegate_36 : decode cX3_delegate 36 = .ok (.aload_n 0, 1) := by decide +kernel
theorem dX3_delegate_37 : decode cX3_delegate 37 = .ok (.getfield 20, 3) := by decide +kernel
theorem dX3_delegate_40 : decode cX3_delegate 40 = .ok (.iload_n 1, 1) := by decide +kernel
theorem dX3_delegate_41 : decode cX3_delegate 41 = .ok (.aload_n 0, 1) := by decide +kernel
theorem dX3_delegate_42 : decode cX3_delegate 42 = .ok (.getfield 68, 3) := by decide +kernel
theorem dX3_delegate_45 : decode cX3_delegate 45 = .ok (.iconst (-1), 1) := by decide +kernel
theorem dX3_delegate_46 : decode cX3_delegate 46 = .ok (.invokevirtual 71, 3) := by decide +kernel
theorem dX3_delegate_49 : decode cX3_delegate 49 = .ok (.istore_n 3, 1) := by decide +kernel
theorem dX3_delegate_50 : decode cX3_delegate 50 = .ok (.aload_n 0, 1) := by decide +kernel
theorem dX3_delegate_51 : decode cX3_delegate 51 = .ok (.getfield 20, 3) := by decide +kernel
theorem dX3_delegate_54 : decode cX3_delegate 54 = .ok (.iload_n 1, 1) := by decide +kernel
theorem dX3_delegate_55 : decode cX3_delegate 55 = .ok (.aload_n 0, 1) := by decide +kernel
theorem dX3_delegate_56 : decode cX3_delegate 56 = .ok (.getfield 68, 3) := by decide +kernel
theorem dX3_delegate_59 : decode cX3_delegate 59 = .ok (.iload_n 2, 1) := by decide +kernel
theorem dX3_delegate_60 : decode cX3_delegate 60 = .ok (.invokevirtual 75, 3) := by decide +kernel
theorem dX3_delegate_63 : decode cX3_delegate 63 = .ok (.iload_n 3, 1) := by decide +kernel
theorem dX3_delegate_64 : decode cX3_delegate 64 = .ok (.ireturn, 1) := by decide +kernel
set_option maxRecDepth 20000 in
theorem ggX3_whose_X3_needNumber : GoodIn wsX3_whose wsX3_needNumber := goodIn_ca (goodIn_r _ [6, 7, 8] (by decide +kernel) (by decide +kernel)) (goodIn_sub (fun _ h => List.mem_cons_of_mem _ (List.mem_append_left _ (List.mem_append_right _ h))) (by decide +kernel))
set_option maxRecDepth 20000 in
theorem gX3_whose_X3_needNumber : GoodIn wsX3_whose (va_wsS RX3 60 yX3_needNumber wsX3_needNumber) := goodIn_app (goodIn_of _ (by decide +kernel)) ggX3_whose_X3_needNumber
set_option maxRecDepth 20000 in
theorem ggX3_whose_X3_needRange : GoodIn wsX3_whose wsX3_needRange := goodIn_ca (goodIn_r _ [11, 12, 13] (by decide +kernel) (by decide +kernel)) (goodIn_sub (fun _ h => List.mem_cons_of_mem _ (List.mem_append_right _ h)) (by decide +kernel))
set_option maxRecDepth 20000 in
theorem gX3_whose_X3_needRange : GoodIn wsX3_whose (va_wsS RX3 79 yX3_needRange wsX3_needRange) := goodIn_app (goodIn_of _ (by decide +kernel)) ggX3_whose_X3_needRange
set_option maxRecDepth 20000 in
theorem ggX3_whose_X3_ownerOn : GoodIn wsX3_whose wsX3_ownerOn := goodIn_r _ [17, 18, 19, 20, 21, 22, 23, 24, 25, 26, 27, 28, 29, 30, 31, 32, 33, 34, 35, 36, 37, 38, 39, 40, 41, 42] (by decide +kernel) (by decide +kernel)
set_option maxRecDepth 20000 in
theorem gX3_whose_X3_ownerOn : GoodIn wsX3_whose (wsV RX3 82 RX3 yX3_ownerOn wsX3_ownerOn) := goodIn_app (goodIn_of _ (by decide +kernel)) ggX3_whose_X3_ownerOn
theorem dX3_whose_0 : decode cX3_whose 0 = .ok (.iload_n 1, 1) := by decide +kernel
theorem dX3_whose_1 : decode cX3_whose 1 = .ok (.aload_n 0, 1) := by decide +kernel
theorem dX3_whose_2 : decode cX3_whose 2 = .ok (.getfield 57, 3) := by decide +kernel
theorem dX3_whose_5 : decode cX3_whose 5 = .ok (.invokestatic 60, 3) := by decide +kernel
theorem dX3_whose_8 : decode cX3_whose 8 = .ok (.iload_n 2, 1) := by decide +kernel
theorem dX3_whose_9 : decode cX3_whose 9 = .ok (.iconst 0, 1) := by decide +kernel
theorem dX3_whose_10 : decode cX3_whose 10 = .ok (.aload_n 0, 1) := by decide +kernel
theorem dX3_whose_11 : decode cX3_whose 11 = .ok (.getfield 68, 3) := by decide +kernel
theorem dX3_whose_14 : decode cX3_whose 14 = .ok (.invokestatic 79, 3) := by decide +kernel
theorem dX3_whose_17 : decode cX3_whose 17 = .ok (.aload_n 0, 1) := by decide +kernel
theorem dX3_whose_18 : decode cX3_whose 18 = .ok (.iload_n 1, 1) := by decide +kernel
theorem dX3_whose_19 : decode cX3_whose 19 = .ok (.iload_n 2, 1) := by decide +kernel
theorem dX3_whose_20 : decode cX3_whose 20 = .ok (.invokevirtual 82, 3) := by decide +kernel
theorem dX3_whose_23 : decode cX3_whose 23 = .ok (.ireturn, 1) := by decide +kernel
set_option maxRecDepth 20000 in
theorem ggX3_limit_X3_needNumber : GoodIn wsX3_limit wsX3_needNumber := goodIn_ca (goodIn_r _ [6, 7, 8] (by decide +kernel) (by decide +kernel)) (goodIn_sub (fun _ h => List.mem_cons_of_mem _ (List.mem_append_left _ (List.mem_append_right _ h))) (by decide +kernel))
set_option maxRecDepth 20000 in
theorem gX3_limit_X3_needNumber : GoodIn wsX3_limit (va_wsS RX3 60 yX3_needNumber wsX3_needNumber) := goodIn_app (goodIn_of _ (by decide +kernel)) ggX3_limit_X3_needNumber
set_option maxRecDepth 20000 in
theorem ggX3_limit_X3_needRange : GoodIn wsX3_limit wsX3_needRange := goodIn_ca (goodIn_r _ [11, 12, 13] (by decide +kernel) (by decide +kernel)) (goodIn_sub (fun _ h => List.mem_cons_of_mem _ (List.mem_append_right _ h)) (by decide +kernel))
set_option maxRecDepth 20000 in
theorem gX3_limit_X3_needRange : GoodIn wsX3_limit (va_wsS RX3 79 yX3_needRange wsX3_needRange) := goodIn_app (goodIn_of _ (by decide +kernel)) ggX3_limit_X3_needRange
set_option maxRecDepth 20000 in
theorem ggX3_limit_X1_valueOn : GoodIn wsX3_limit wsX1_valueOn := goodIn_r _ [18, 19, 20, 21, 22, 38, 39, 40, 41] (by decide +kernel) (by decide +kernel)
set_option maxRecDepth 20000 in
theorem gX3_limit_X1_valueOn : GoodIn wsX3_limit (wsV RX3 71 RX1 yX1_valueOn wsX1_valueOn) := goodIn_app (goodIn_of _ (by decide +kernel)) ggX3_limit_X1_valueOn
set_option maxRecDepth 20000 in
theorem ggX3_limit_X1_tell : GoodIn wsX3_limit wsX1_tell := goodIn_r _ [26, 19, 20, 21, 22, 38, 39, 40, 41] (by decide +kernel) (by decide +kernel)
set_option maxRecDepth 20000 in
theorem gX3_limit_X1_tell : GoodIn wsX3_limit (wsV RX3 75 RX1 yX1_tell wsX1_tell) := goodIn_app (goodIn_of _ (by decide +kernel)) ggX3_limit_X1_tell
theorem dX3_limit_0 : decode cX3_limit 0 = .ok (.iload_n 1, 1) := by decide +kernel
theorem dX3_limit_1 : decode cX3_limit 1 = .ok (.iconst 4, 1) := by decide +kernel
theorem dX3_limit_2 : decode cX3_limit 2 = .ok (.invokestatic 60, 3) := by decide +kernel
theorem dX3_limit_5 : decode cX3_limit 5 = .ok (.iload_n 2, 1) := by decide +kernel
theorem dX3_limit_6 : decode cX3_limit 6 = .ok (.iconst 0, 1) := by decide +kernel
theorem dX3_limit_7 : decode cX3_limit 7 = .ok (.bipush 100, 2) := by decide +kernel
theorem dX3_limit_9 : decode cX3_limit 9 = .ok (.invokestatic 79, 3) := by decide +kernel
theorem dX3_limit_12 : decode cX3_limit 12 = .ok (.aload_n 0, 1) := by decide +kernel
theorem dX3_limit_13 : decode cX3_limit 13 = .ok (.getfield 24, 3) := by decide +kernel
theorem dX3_limit_16 : decode cX3_limit 16 = .ok (.iload_n 1, 1) := by decide +kernel
theorem dX3_limit_17 : decode cX3_limit 17 = .ok (.aload_n 0, 1) := by decide +kernel
theorem dX3_limit_18 : decode cX3_limit 18 = .ok (.getfield 68, 3) := by decide +kernel
theorem dX3_limit_21 : decode cX3_limit 21 = .ok (.bipush 30, 2) := by decide +kernel
theorem dX3_limit_23 : decode cX3_limit 23 = .ok (.invokevirtual 71, 3) := by decide +kernel
theorem dX3_limit_26 : decode cX3_limit 26 = .ok (.istore_n 3, 1) := by decide +kernel
theorem dX3_limit_27 : decode cX3_limit 27 = .ok (.aload_n 0, 1) := by decide +kernel
theorem dX3_limit_28 : decode cX3_limit 28 = .ok (.getfield 24, 3) := by decide +kernel
theorem dX3_limit_31 : decode cX3_limit 31 = .ok (.iload_n 1, 1) := by decide +kernel
theorem dX3_limit_32 : decode cX3_limit 32 = .ok (.aload_n 0, 1) := by decide +kernel
theorem dX3_limit_33 : decode cX3_limit 33 = .ok (.getfield 68, 3) := by decide +kernel
theorem dX3_limit_36 : decode cX3_limit 36 = .ok (.iload_n 2, 1) := by decide +kernel
theorem dX3_limit_37 : decode cX3_limit 37 = .ok (.invokevirtual 75, 3) := by decide +kernel
theorem dX3_limit_40 : decode cX3_limit 40 = .ok (.iload_n 3, 1) := by decide +kernel
theorem dX3_limit_41 : decode cX3_limit 41 = .ok (.ireturn, 1) := by decide +kernel
set_option maxRecDepth 20000 in
theorem ggX3_act_X3_needNumber : GoodIn wsX3_act wsX3_needNumber := goodIn_ca (goodIn_r _ [11, 12, 13] (by decide +kernel) (by decide +kernel)) (goodIn_sub (fun _ h => List.mem_cons_of_mem _ (List.mem_append_left _ (List.mem_append_right _ h))) (by decide +kernel))
set_option maxRecDepth 20000 in
theorem gX3_act_X3_needNumber : GoodIn wsX3_act (va_wsS RX3 60 yX3_needNumber wsX3_needNumber) := goodIn_app (goodIn_of _ (by decide +kernel)) ggX3_act_X3_needNumber
set_option maxRecDepth 20000 in
theorem ggX3_act_X3_needRange : GoodIn wsX3_act wsX3_needRange := goodIn_ca (goodIn_r _ [16, 17, 18] (by decide +kernel) (by decide +kernel)) (goodIn_sub (fun _ h => List.mem_cons_of_mem _ (List.mem_append_right _ h)) (by decide +kernel))
set_option maxRecDepth 20000 in
theorem gX3_act_X3_needRange : GoodIn wsX3_act (va_wsS RX3 79 yX3_needRange wsX3_needRange) := goodIn_app (goodIn_of _ (by decide +kernel)) ggX3_act_X3_needRange
set_option maxRecDepth 20000 in
theorem ggX3_act_X3_typedKind : GoodIn wsX3_act wsX3_typedKind := goodIn_r _ [22, 23, 24, 10, 25, 26, 27, 28, 29, 5, 30, 31, 32, 33, 34, 35, 36, 37, 38, 39, 40, 41, 42, 43, 44, 45, 46, 47, 48, 49, 50, 51, 52, 53, 54, 55, 56, 57, 58, 59, 60, 61, 62, 63, 64, 65, 66, 67, 68, 69, 70, 71, 72, 73, 74, 75, 76, 77, 78, 79, 104, 105, 106, 107, 108, 109, 110, 111, 112, 113, 114] (by decide +kernel) (by decide +kernel)
set_option maxRecDepth 20000 in
theorem gX3_act_X3_typedKind : GoodIn wsX3_act (wsV RX3 91 RX3 yX3_typedKind wsX3_typedKind) := goodIn_app (goodIn_of _ (by decide +kernel)) ggX3_act_X3_typedKind
set_option maxRecDepth 20000 in
theorem ggX3_act_X3_ownerOn : GoodIn wsX3_act wsX3_ownerOn := goodIn_r _ [83, 84, 85, 86, 87, 88, 89, 90, 91, 92, 93, 104, 105, 106, 107, 108, 109, 110, 111, 112, 113, 114, 115, 116, 117, 118] (by decide +kernel) (by decide +kernel)
set_option maxRecDepth 20000 in
theorem gX3_act_X3_ownerOn : GoodIn wsX3_act (wsV RX3 82 RX3 yX3_ownerOn wsX3_ownerOn) := goodIn_app (goodIn_of _ (by decide +kernel)) ggX3_act_X3_ownerOn
set_option maxRecDepth 20000 in
theorem ggX3_act_X0_begin : GoodIn wsX3_act wsX0_begin := goodIn_r _ [98, 99, 100, 101, 102, 103, 119, 120, 121, 122, 123, 124, 125, 126, 127] (by decide +kernel) (by decide +kernel)
set_option maxRecDepth 20000 in
theorem gX3_act_X0_begin : GoodIn wsX3_act (wsV RX3 95 RX0 yX0_begin wsX0_begin) := goodIn_app (goodIn_of _ (by decide +kernel)) ggX3_act_X0_begin
theorem dX3_act_0 : decode cX3_act 0 = .ok (.iload_n 1, 1) := by decide +kernel
theorem dX3_act_1 : decode cX3_act 1 = .ok (.aload_n 0, 1) := by decide +kernel
theorem dX3_act_2 : decode cX3_act 2 = .ok (.getfield 57, 3) := by decide +kernel
theorem dX3_act_5 : decode cX3_act 5 = .ok (.invokestatic 60, 3) := by decide +kernel
theorem dX3_act_8 : decode cX3_act 8 = .ok (.iload_n 2, 1) := by decide +kernel
theorem dX3_act_9 : decode cX3_act 9 = .ok (.iconst 0, 1) := by decide +kernel
theorem dX3_act_10 : decode cX3_act 10 = .ok (.bipush 100, 2) := by decide +kernel
theorem dX3_act_12 : decode cX3_act 12 = .ok (.invokestatic 79, 3) := by decide +kernel
theorem dX3_act_15 : decode cX3_act 15 = .ok (.iload_n 3, 1) := by decide +kernel
theorem dX3_act_16 : decode cX3_act 16 = .ok (.iconst 0, 1) := by decide +kernel
theorem dX3_act_17 : decode cX3_act 17 = .ok (.sipush 1000, 3) := by decide +kernel
theorem dX3_act_20 : decode cX3_act 20 = .ok (.invokestatic 79, 3) := by decide +kernel
theorem dX3_act_23 : decode cX3_act 23 = .ok (.aload_n 0, 1) := by decide +kernel
theorem dX3_act_24 : decode cX3_act 24 = .ok (.getfield 86, 3) := by decide +kernel
theorem dX3_act_27 : decode cX3_act 27 = .ok (.bipush 24, 2) := by decide +kernel
theorem dX3_act_29 : decode cX3_act 29 = .ok (.if_icmp .lt 13, 3) := by decide +kernel
theorem dX3_act_32 : decode cX3_act 32 = .ok (.new 52, 3) := by decide +kernel
theorem dX3_act_35 : decode cX3_act 35 = .ok (.dup, 1) := by decide +kernel
theorem dX3_act_36 : decode cX3_act 36 = .ok (.ldc 89, 2) := by decide +kernel
theorem dX3_act_38 : decode cX3_act 38 = .ok (.invokespecial 56, 3) := by decide +kernel
theorem dX3_act_41 : decode cX3_act 41 = .ok (.athrow, 1) := by decide +kernel
theorem dX3_act_42 : decode cX3_act 42 = .ok (.aload_n 0, 1) := by decide +kernel
theorem dX3_act_43 : decode cX3_act 43 = .ok (.invokevirtual 91, 3) := by decide +kernel
theorem dX3_act_46 : decode cX3_act 46 = .ok (.istore 4, 2) := by decide +kernel
theorem dX3_act_48 : decode cX3_act 48 = .ok (.aload_n 0, 1) := by decide +kernel
theorem dX3_act_49 : decode cX3_act 49 = .ok (.iconst 0, 1) := by decide +kernel
theorem dX3_act_50 : decode cX3_act 50 = .ok (.putfield 48, 3) := by decide +kernel
theorem dX3_act_53 : decode cX3_act 53 = .ok (.iload 4, 2) := by decide +kernel
theorem dX3_act_55 : decode cX3_act 55 = .ok (.iconst (-1), 1) := by decide +kernel
theorem dX3_act_56 : decode cX3_act 56 = .ok (.if_icmp .ne 5, 3) := by decide +kernel
theorem dX3_act_59 : decode cX3_act 59 = .ok (.iconst (-1), 1) := by decide +kernel
theorem dX3_act_60 : decode cX3_act 60 = .ok (.ireturn, 1) := by decide +kernel
theorem dX3_act_61 : decode cX3_act 61 = .ok (.aload_n 0, 1) := by decide +kernel
theorem dX3_act_62 : decode cX3_act 62 = .ok (.getfield 86, 3) := by decide +kernel
theorem dX3_act_65 : decode cX3_act 65 = .ok (.istore 5, 2) := by decide +kernel
theorem dX3_act_67 : decode cX3_act 67 = .ok (.aload_n 0, 1) := by decide +kernel
theorem dX3_act_68 : decode cX3_act 68 = .ok (.getfield 29, 3) := by decide +kernel
theorem dX3_act_71 : decode cX3_act 71 = .ok (.iload 5, 2) := by decide +kernel
theorem dX3_act_73 : decode cX3_act 73 = .ok (.aaload, 1) := by decide +kernel
theorem dX3_act_74 : decode cX3_act 74 = .ok (.aload_n 0, 1) := by decide +kernel
theorem dX3_act_75 : decode cX3_act 75 = .ok (.iload_n 1, 1) := by decide +kernel
theorem dX3_act_76 : decode cX3_act 76 = .ok (.aload_n 0, 1) := by decide +kernel
theorem dX3_act_77 : decode cX3_act 77 = .ok (.getfield 68, 3) := by decide +kernel
theorem dX3_act_80 : decode cX3_act 80 = .ok (.invokevirtual 82, 3) := by decide +kernel
theorem dX3_act_83 : decode cX3_act 83 = .ok (.iload 4, 2) := by decide +kernel
theorem dX3_act_85 : decode cX3_act 85 = .ok (.aload_n 0, 1) := by decide +kernel
theorem dX3_act_86 : decode cX3_act 86 = .ok (.getfield 68, 3) := by decide +kernel
theorem dX3_act_89 : decode cX3_act 89 = .ok (.iload_n 2, 1) := by decide +kernel
theorem dX3_act_90 : decode cX3_act 90 = .ok (.iload_n 3, 1) := by decide +kernel
theorem dX3_act_91 : decode cX3_act 91 = .ok (.invokevirtual 95, 3) := by decide +kernel
theorem dX3_act_94 : decode cX3_act 94 = .ok (.aload_n 0, 1) := by decide +kernel
theorem dX3_act_95 : decode cX3_act 95 = .ok (.dup, 1) := by decide +kernel
theorem dX3_act_96 : decode cX3_act 96 = .ok (.getfield 86, 3) := by decide +kernel
theorem dX3_act_99 : decode cX3_act 99 = .ok (.iconst 1, 1) := by decide +kernel
theorem dX3_act_100 : decode cX3_act 100 = .ok (.iadd, 1) := by decide +kernel
theorem dX3_act_101 : decode cX3_act 101 = .ok (.putfield 86, 3) := by decide +kernel
theorem dX3_act_104 : decode cX3_act 104 = .ok (.iload 5, 2) := by decide +kernel
theorem dX3_act_106 : decode cX3_act 106 = .ok (.ireturn, 1) := by decide +kernel
set_option maxRecDepth 20000 in
theorem ggX3_court_X3_needNumber : GoodIn wsX3_court wsX3_needNumber := goodIn_ca (goodIn_r _ [7, 8, 9] (by decide +kernel) (by decide +kernel)) (goodIn_sub (fun _ h => List.mem_cons_of_mem _ (List.mem_append_right _ h)) (by decide +kernel))
set_option maxRecDepth 20000 in
theorem gX3_court_X3_needNumber : GoodIn wsX3_court (va_wsS RX3 60 yX3_needNumber wsX3_needNumber) := goodIn_app (goodIn_of _ (by decide +kernel)) ggX3_court_X3_needNumber
theorem dX3_court_0 : decode cX3_court 0 = .ok (.iload_n 1, 1) := by decide +kernel
theorem dX3_court_1 : decode cX3_court 1 = .ok (.aload_n 0, 1) := by decide +kernel
theorem dX3_court_2 : decode cX3_court 2 = .ok (.getfield 86, 3) := by decide +kernel
theorem dX3_court_5 : decode cX3_court 5 = .ok (.invokestatic 60, 3) := by decide +kernel
theorem dX3_court_8 : decode cX3_court 8 = .ok (.aload_n 0, 1) := by decide +kernel
theorem dX3_court_9 : decode cX3_court 9 = .ok (.getfield 29, 3) := by decide +kernel
theorem dX3_court_12 : decode cX3_court 12 = .ok (.iload_n 1, 1) := by decide +kernel
theorem dX3_court_13 : decode cX3_court 13 = .ok (.aaload, 1) := by decide +kernel
theorem dX3_court_14 : decode cX3_court 14 = .ok (.getfield 99, 3) := by decide +kernel
theorem dX3_court_17 : decode cX3_court 17 = .ok (.istore_n 3, 1) := by decide +kernel
theorem dX3_court_18 : decode cX3_court 18 = .ok (.aload_n 0, 1) := by decide +kernel
theorem dX3_court_19 : decode cX3_court 19 = .ok (.getfield 29, 3) := by decide +kernel
theorem dX3_court_22 : decode cX3_court 22 = .ok (.iload_n 1, 1) := by decide +kernel
theorem dX3_court_23 : decode cX3_court 23 = .ok (.aaload, 1) := by decide +kernel
theorem dX3_court_24 : decode cX3_court 24 = .ok (.iload_n 2, 1) := by decide +kernel
theorem dX3_court_25 : decode cX3_court 25 = .ok (.putfield 99, 3) := by decide +kernel
theorem dX3_court_28 : decode cX3_court 28 = .ok (.iload_n 3, 1) := by decide +kernel
theorem dX3_court_29 : decode cX3_court 29 = .ok (.ireturn, 1) := by decide +kernel
set_option maxRecDepth 20000 in
theorem ggX3_waive_X3_needNumber : GoodIn wsX3_waive wsX3_needNumber := goodIn_ca (goodIn_r _ [7, 8, 9] (by decide +kernel) (by decide +kernel)) (goodIn_sub (fun _ h => List.mem_cons_of_mem _ (List.mem_append_right _ h)) (by decide +kernel))
set_option maxRecDepth 20000 in
theorem gX3_waive_X3_needNumber : GoodIn wsX3_waive (va_wsS RX3 60 yX3_needNumber wsX3_needNumber) := goodIn_app (goodIn_of _ (by decide +kernel)) ggX3_waive_X3_needNumber
theorem dX3_waive_0 : decode cX3_waive 0 = .ok (.iload_n 1, 1) := by decide +kernel
theorem dX3_waive_1 : decode cX3_waive 1 = .ok (.aload_n 0, 1) := by decide +kernel
theorem dX3_waive_2 : decode cX3_waive 2 = .ok (.getfield 86, 3) := by decide +kernel
theorem dX3_waive_5 : decode cX3_waive 5 = .ok (.invokestatic 60, 3) := by decide +kernel
theorem dX3_waive_8 : decode cX3_waive 8 = .ok (.aload_n 0, 1) := by decide +kernel
theorem dX3_waive_9 : decode cX3_waive 9 = .ok (.getfield 29, 3) := by decide +kernel
theorem dX3_waive_12 : decode cX3_waive 12 = .ok (.iload_n 1, 1) := by decide +kernel
theorem dX3_waive_13 : decode cX3_waive 13 = .ok (.aaload, 1) := by decide +kernel
theorem dX3_waive_14 : decode cX3_waive 14 = .ok (.getfield 103, 3) := by decide +kernel
theorem dX3_waive_17 : decode cX3_waive 17 = .ok (.istore_n 3, 1) := by decide +kernel
theorem dX3_waive_18 : decode cX3_waive 18 = .ok (.aload_n 0, 1) := by decide +kernel
theorem dX3_waive_19 : decode cX3_waive 19 = .ok (.getfield 29, 3) := by decide +kernel
theorem dX3_waive_22 : decode cX3_waive 22 = .ok (.iload_n 1, 1) := by decide +kernel
theorem dX3_waive_23 : decode cX3_waive 23 = .ok (.aaload, 1) := by decide +kernel
theorem dX3_waive_24 : decode cX3_waive 24 = .ok (.iload_n 2, 1) := by decide +kernel
theorem dX3_waive_25 : decode cX3_waive 25 = .ok (.putfield 103, 3) := by decide +kernel
theorem dX3_waive_28 : decode cX3_waive 28 = .ok (.iload_n 3, 1) := by decide +kernel
theorem dX3_waive_29 : decode cX3_waive 29 = .ok (.ireturn, 1) := by decide +kernel
set_option maxRecDepth 20000 in
theorem ggX3_plea_X3_needNumber : GoodIn wsX3_plea wsX3_needNumber := goodIn_ca (goodIn_r _ [10, 11, 12] (by decide +kernel) (by decide +kernel)) (goodIn_sub (fun _ h => List.mem_cons_of_mem _ (List.mem_append_right _ h)) (by decide +kernel))
set_option maxRecDepth 20000 in
theorem gX3_plea_X3_needNumber : GoodIn wsX3_plea (va_wsS RX3 60 yX3_needNumber wsX3_needNumber) := goodIn_app (goodIn_of _ (by decide +kernel)) ggX3_plea_X3_needNumber
theorem dX3_plea_0 : decode cX3_plea 0 = .ok (.iload_n 1, 1) := by decide +kernel
theorem dX3_plea_1 : decode cX3_plea 1 = .ok (.bipush 10, 2) := by decide +kernel
theorem dX3_plea_3 : decode cX3_plea 3 = .ok (.invokestatic 60, 3) := by decide +kernel
theorem dX3_plea_6 : decode cX3_plea 6 = .ok (.iload_n 2, 1) := by decide +kernel
theorem dX3_plea_7 : decode cX3_plea 7 = .ok (.aload_n 0, 1) := by decide +kernel
theorem dX3_plea_8 : decode cX3_plea 8 = .ok (.getfield 86, 3) := by decide +kernel
theorem dX3_plea_11 : decode cX3_plea 11 = .ok (.invokestatic 60, 3) := by decide +kernel
theorem dX3_plea_14 : decode cX3_plea 14 = .ok (.aload_n 0, 1) := by decide +kernel
theorem dX3_plea_15 : decode cX3_plea 15 = .ok (.getfield 29, 3) := by decide +kernel
theorem dX3_plea_18 : decode cX3_plea 18 = .ok (.iload_n 2, 1) := by decide +kernel
theorem dX3_plea_19 : decode cX3_plea 19 = .ok (.aaload, 1) := by decide +kernel
theorem dX3_plea_20 : decode cX3_plea 20 = .ok (.getfield 106, 3) := by decide +kernel
theorem dX3_plea_23 : decode cX3_plea 23 = .ok (.iload_n 1, 1) := by decide +kernel
theorem dX3_plea_24 : decode cX3_plea 24 = .ok (.iaload, 1) := by decide +kernel
theorem dX3_plea_25 : decode cX3_plea 25 = .ok (.iconst (-1), 1) := by decide +kernel
theorem dX3_plea_26 : decode cX3_plea 26 = .ok (.if_icmp .eq 13, 3) := by decide +kernel
theorem dX3_plea_29 : decode cX3_plea 29 = .ok (.new 52, 3) := by decide +kernel
theorem dX3_plea_32 : decode cX3_plea 32 = .ok (.dup, 1) := by decide +kernel
theorem dX3_plea_33 : decode cX3_plea 33 = .ok (.ldc 109, 2) := by decide +kernel
theorem dX3_plea_35 : decode cX3_plea 35 = .ok (.invokespecial 56, 3) := by decide +kernel
theorem dX3_plea_38 : decode cX3_plea 38 = .ok (.athrow, 1) := by decide +kernel
theorem dX3_plea_39 : decode cX3_plea 39 = .ok (.aload_n 0, 1) := by decide +kernel
theorem dX3_plea_40 : decode cX3_plea 40 = .ok (.getfield 29, 3) := by decide +kernel
theorem dX3_plea_43 : decode cX3_plea 43 = .ok (.iload_n 2, 1) := by decide +kernel
theorem dX3_plea_44 : decode cX3_plea 44 = .ok (.aaload, 1) := by decide +kernel
theorem dX3_plea_45 : decode cX3_plea 45 = .ok (.getfield 106, 3) := by decide +kernel
theorem dX3_plea_48 : decode cX3_plea 48 = .ok (.iload_n 1, 1) := by decide +kernel
theorem dX3_plea_49 : decode cX3_plea 49 = .ok (.aload_n 0, 1) := by decide +kernel
theorem dX3_plea_50 : decode cX3_plea 50 = .ok (.getfield 68, 3) := by decide +kernel
theorem dX3_plea_53 : decode cX3_plea 53 = .ok (.iastore, 1) := by decide +kernel
theorem dX3_plea_54 : decode cX3_plea 54 = .ok (.return_, 1) := by decide +kernel
set_option maxRecDepth 20000 in
theorem ggX3_bar_X3_needNumber : GoodIn wsX3_bar wsX3_needNumber := goodIn_ca (goodIn_r _ [7, 8, 9] (by decide +kernel) (by decide +kernel)) (goodIn_sub (fun _ h => List.mem_cons_of_mem _ (List.mem_append_right _ h)) (by decide +kernel))
set_option maxRecDepth 20000 in
theorem gX3_bar_X3_needNumber : GoodIn wsX3_bar (va_wsS RX3 60 yX3_needNumber wsX3_needNumber) := goodIn_app (goodIn_of _ (by decide +kernel)) ggX3_bar_X3_needNumber
set_option maxRecDepth 20000 in
theorem ggX3_bar_X0_barOn : GoodIn wsX3_bar wsX0_barOn := goodIn_r _ [14, 15, 16, 17, 18, 30, 31, 32, 33, 34, 35, 36, 37, 38] (by decide +kernel) (by decide +kernel)
set_option maxRecDepth 20000 in
theorem gX3_bar_X0_barOn : GoodIn wsX3_bar (wsV RX3 111 RX0 yX0_barOn wsX0_barOn) := goodIn_app (goodIn_of _ (by decide +kernel)) ggX3_bar_X0_barOn
theorem dX3_bar_0 : decode cX3_bar 0 = .ok (.iload_n 1, 1) := by decide +kernel
theorem dX3_bar_1 : decode cX3_bar 1 = .ok (.bipush 10, 2) := by decide +kernel
theorem dX3_bar_3 : decode cX3_bar 3 = .ok (.invokestatic 60, 3) := by decide +kernel
theorem dX3_bar_6 : decode cX3_bar 6 = .ok (.iload_n 2, 1) := by decide +kernel
theorem dX3_bar_7 : decode cX3_bar 7 = .ok (.aload_n 0, 1) := by decide +kernel
theorem dX3_bar_8 : decode cX3_bar 8 = .ok (.getfield 86, 3) := by decide +kernel
theorem dX3_bar_11 : decode cX3_bar 11 = .ok (.invokestatic 60, 3) := by decide +kernel
theorem dX3_bar_14 : decode cX3_bar 14 = .ok (.aload_n 0, 1) := by decide +kernel
theorem dX3_bar_15 : decode cX3_bar 15 = .ok (.getfield 29, 3) := by decide +kernel
theorem dX3_bar_18 : decode cX3_bar 18 = .ok (.iload_n 2, 1) := by decide +kernel
theorem dX3_bar_19 : decode cX3_bar 19 = .ok (.aaload, 1) := by decide +kernel
theorem dX3_bar_20 : decode cX3_bar 20 = .ok (.iload_n 1, 1) := by decide +kernel
theorem dX3_bar_21 : decode cX3_bar 21 = .ok (.aload_n 0, 1) := by decide +kernel
theorem dX3_bar_22 : decode cX3_bar 22 = .ok (.getfield 68, 3) := by decide +kernel
theorem dX3_bar_25 : decode cX3_bar 25 = .ok (.invokevirtual 111, 3) := by decide +kernel
theorem dX3_bar_28 : decode cX3_bar 28 = .ok (.ireturn, 1) := by decide +kernel
set_option maxRecDepth 20000 in
theorem ggX3_complain_X3_needNumber : GoodIn wsX3_complain wsX3_needNumber := goodIn_ca (goodIn_r _ [10, 11, 12] (by decide +kernel) (by decide +kernel)) (goodIn_sub (fun _ h => List.mem_cons_of_mem _ (List.mem_append_right _ h)) (by decide +kernel))
set_option maxRecDepth 20000 in
theorem gX3_complain_X3_needNumber : GoodIn wsX3_complain (va_wsS RX3 60 yX3_needNumber wsX3_needNumber) := goodIn_app (goodIn_of _ (by decide +kernel)) ggX3_complain_X3_needNumber
set_option maxRecDepth 20000 in
theorem ggX3_complain_X0_barOn : GoodIn wsX3_complain wsX0_barOn := goodIn_r _ [17, 18, 19, 20, 21, 59, 60, 61, 62, 63, 64, 65, 66, 67] (by decide +kernel) (by decide +kernel)
set_option maxRecDepth 20000 in
theorem gX3_complain_X0_barOn : GoodIn wsX3_complain (wsV RX3 111 RX0 yX0_barOn wsX0_barOn) := goodIn_app (goodIn_of _ (by decide +kernel)) ggX3_complain_X0_barOn
set_option maxRecDepth 20000 in
theorem ggX3_complain_X3_complaintToJoin : GoodIn wsX3_complain wsX3_complaintToJoin := goodIn_r _ [25, 26, 6, 27, 28, 48, 49, 50, 51, 52, 53, 54, 55, 56, 57, 58, 68, 69, 70, 71, 72, 73, 74, 75] (by decide +kernel) (by decide +kernel)
set_option maxRecDepth 20000 in
theorem gX3_complain_X3_complaintToJoin : GoodIn wsX3_complain (wsV RX3 116 RX3 yX3_complaintToJoin wsX3_complaintToJoin) := goodIn_app (goodIn_of _ (by decide +kernel)) ggX3_complain_X3_complaintToJoin
set_option maxRecDepth 20000 in
theorem ggX3_complain_X3_beginComplaint : GoodIn wsX3_complain wsX3_beginComplaint := goodIn_ca (goodIn_r _ [32, 1, 2, 26, 6, 33, 34, 35, 36, 37, 38, 39, 40, 41, 42, 48, 49, 50, 51, 52, 53, 54, 55, 56, 57, 58, 68, 69, 70, 71, 72, 73, 74, 75] (by decide +kernel) (by decide +kernel)) (goodIn_sub (fun _ h => List.mem_cons_of_mem _ (List.mem_append_left _ (List.mem_append_right _ h))) (by decide +kernel))
set_option maxRecDepth 20000 in
theorem gX3_complain_X3_beginComplaint : GoodIn wsX3_complain (wsV RX3 120 RX3 yX3_beginComplaint wsX3_beginComplaint) := goodIn_app (goodIn_of _ (by decide +kernel)) ggX3_complain_X3_beginComplaint
set_option maxRecDepth 20000 in
theorem ggX3_complain_X2_join : GoodIn wsX3_complain wsX2_join := goodIn_r _ [46, 47, 68, 69, 70, 71, 72, 73, 74, 75] (by decide +kernel) (by decide +kernel)
set_option maxRecDepth 20000 in
theorem gX3_complain_X2_join : GoodIn wsX3_complain (wsV RX3 123 RX2 yX2_join wsX2_join) := goodIn_app (goodIn_of _ (by decide +kernel)) ggX3_complain_X2_join
theorem dX3_complain_0 : decode cX3_complain 0 = .ok (.iload_n 1, 1) := by decide +kernel
theorem dX3_complain_1 : decode cX3_complain 1 = .ok (.bipush 10, 2) := by decide +kernel
theorem dX3_complain_3 : decode cX3_complain 3 = .ok (.invokestatic 60, 3) := by decide +kernel
theorem dX3_complain_6 : decode cX3_complain 6 = .ok (.iload_n 2, 1) := by decide +kernel
theorem dX3_complain_7 : decode cX3_complain 7 = .ok (.aload_n 0, 1) := by decide +kernel
theorem dX3_complain_8 : decode cX3_complain 8 = .ok (.getfield 86, 3) := by decide +kernel
theorem dX3_complain_11 : decode cX3_complain 11 = .ok (.invokestatic 60, 3) := by decide +kernel
theorem dX3_complain_14 : decode cX3_complain 14 = .ok (.aload_n 0, 1) := by decide +kernel
theorem dX3_complain_15 : decode cX3_complain 15 = .ok (.getfield 29, 3) := by decide +kernel
theorem dX3_complain_18 : decode cX3_complain 18 = .ok (.iload_n 2, 1) := by decide +kernel
theorem dX3_complain_19 : decode cX3_complain 19 = .ok (.aaload, 1) := by decide +kernel
theorem dX3_complain_20 : decode cX3_complain 20 = .ok (.iload_n 1, 1) := by decide +kernel
theorem dX3_complain_21 : decode cX3_complain 21 = .ok (.aload_n 0, 1) := by decide +kernel
theorem dX3_complain_22 : decode cX3_complain 22 = .ok (.getfield 68, 3) := by decide +kernel
theorem dX3_complain_25 : decode cX3_complain 25 = .ok (.invokevirtual 111, 3) := by decide +kernel
theorem dX3_complain_28 : decode cX3_complain 28 = .ok (.ifCond .eq 13, 3) := by decide +kernel
theorem dX3_complain_31 : decode cX3_complain 31 = .ok (.new 52, 3) := by decide +kernel
theorem dX3_complain_34 : decode cX3_complain 34 = .ok (.dup, 1) := by decide +kernel
theorem dX3_complain_35 : decode cX3_complain 35 = .ok (.ldc 114, 2) := by decide +kernel
theorem dX3_complain_37 : decode cX3_complain 37 = .ok (.invokespecial 56, 3) := by decide +kernel
theorem dX3_complain_40 : decode cX3_complain 40 = .ok (.athrow, 1) := by decide +kernel
theorem dX3_complain_41 : decode cX3_complain 41 = .ok (.aload_n 0, 1) := by decide +kernel
theorem dX3_complain_42 : decode cX3_complain 42 = .ok (.iload_n 2, 1) := by decide +kernel
theorem dX3_complain_43 : decode cX3_complain 43 = .ok (.invokevirtual 116, 3) := by decide +kernel
theorem dX3_complain_46 : decode cX3_complain 46 = .ok (.istore_n 3, 1) := by decide +kernel
theorem dX3_complain_47 : decode cX3_complain 47 = .ok (.iload_n 3, 1) := by decide +kernel
theorem dX3_complain_48 : decode cX3_complain 48 = .ok (.iconst (-1), 1) := by decide +kernel
theorem dX3_complain_49 : decode cX3_complain 49 = .ok (.if_icmp .ne 9, 3) := by decide +kernel
theorem dX3_complain_52 : decode cX3_complain 52 = .ok (.aload_n 0, 1) := by decide +kernel
theorem dX3_complain_53 : decode cX3_complain 53 = .ok (.iload_n 2, 1) := by decide +kernel
theorem dX3_complain_54 : decode cX3_complain 54 = .ok (.invokevirtual 120, 3) := by decide +kernel
theorem dX3_complain_57 : decode cX3_complain 57 = .ok (.istore_n 3, 1) := by decide +kernel
theorem dX3_complain_58 : decode cX3_complain 58 = .ok (.aload_n 0, 1) := by decide +kernel
theorem dX3_complain_59 : decode cX3_complain 59 = .ok (.getfield 36, 3) := by decide +kernel
theorem dX3_complain_62 : decode cX3_complain 62 = .ok (.iload_n 3, 1) := by decide +kernel
theorem dX3_complain_63 : decode cX3_complain 63 = .ok (.aaload, 1) := by decide +kernel
theorem dX3_complain_64 : decode cX3_complain 64 = .ok (.iload_n 1, 1) := by decide +kernel
theorem dX3_complain_65 : decode cX3_complain 65 = .ok (.invokevirtual 123, 3) := by decide +kernel
theorem dX3_complain_68 : decode cX3_complain 68 = .ok (.iload_n 3, 1) := by decide +kernel
theorem dX3_complain_69 : decode cX3_complain 69 = .ok (.ireturn, 1) := by decide +kernel
set_option maxRecDepth 20000 in
theorem ggX3_ask_X3_needNumber : GoodIn wsX3_ask wsX3_needNumber := goodIn_ca (goodIn_r _ [15, 16, 17] (by decide +kernel) (by decide +kernel)) (goodIn_sub (fun _ h => List.mem_cons_of_mem _ (List.mem_append_right _ h)) (by decide +kernel))
set_option maxRecDepth 20000 in
theorem gX3_ask_X3_needNumber : GoodIn wsX3_ask (va_wsS RX3 60 yX3_needNumber wsX3_needNumber) := goodIn_app (goodIn_of _ (by decide +kernel)) ggX3_ask_X3_needNumber
theorem dX3_ask_0 : decode cX3_ask 0 = .ok (.iload_n 1, 1) := by decide +kernel
theorem dX3_ask_1 : decode cX3_ask 1 = .ok (.aload_n 0, 1) := by decide +kernel
theorem dX3_ask_2 : decode cX3_ask 2 = .ok (.getfield 127, 3) := by decide +kernel
theorem dX3_ask_5 : decode cX3_ask 5 = .ok (.invokestatic 60, 3) := by decide +kernel
theorem dX3_ask_8 : decode cX3_ask 8 = .ok (.aload_n 0, 1) := by decide +kernel
theorem dX3_ask_9 : decode cX3_ask 9 = .ok (.getfield 36, 3) := by decide +kernel
theorem dX3_ask_12 : decode cX3_ask 12 = .ok (.iload_n 1, 1) := by decide +kernel
theorem dX3_ask_13 : decode cX3_ask 13 = .ok (.aaload, 1) := by decide +kernel
theorem dX3_ask_14 : decode cX3_ask 14 = .ok (.astore_n 2, 1) := by decide +kernel
theorem dX3_ask_15 : decode cX3_ask 15 = .ok (.aload_n 2, 1) := by decide +kernel
theorem dX3_ask_16 : decode cX3_ask 16 = .ok (.getfield 130, 3) := by decide +kernel
theorem dX3_ask_19 : decode cX3_ask 19 = .ok (.ifCond .ne 10, 3) := by decide +kernel
theorem dX3_ask_22 : decode cX3_ask 22 = .ok (.aload_n 2, 1) := by decide +kernel
theorem dX3_ask_23 : decode cX3_ask 23 = .ok (.getfield 133, 3) := by decide +kernel
theorem dX3_ask_26 : decode cX3_ask 26 = .ok (.ifCond .eq 13, 3) := by decide +kernel
theorem dX3_ask_29 : decode cX3_ask 29 = .ok (.new 52, 3) := by decide +kernel
theorem dX3_ask_32 : decode cX3_ask 32 = .ok (.dup, 1) := by decide +kernel
theorem dX3_ask_33 : decode cX3_ask 33 = .ok (.ldc 136, 2) := by decide +kernel
theorem dX3_ask_35 : decode cX3_ask 35 = .ok (.invokespecial 56, 3) := by decide +kernel
theorem dX3_ask_38 : decode cX3_ask 38 = .ok (.athrow, 1) := by decide +kernel
theorem dX3_ask_39 : decode cX3_ask 39 = .ok (.aload_n 2, 1) := by decide +kernel
theorem dX3_ask_40 : decode cX3_ask 40 = .ok (.iconst 1, 1) := by decide +kernel
theorem dX3_ask_41 : decode cX3_ask 41 = .ok (.putfield 133, 3) := by decide +kernel
theorem dX3_ask_44 : decode cX3_ask 44 = .ok (.aload_n 2, 1) := by decide +kernel
theorem dX3_ask_45 : decode cX3_ask 45 = .ok (.aload_n 0, 1) := by decide +kernel
theorem dX3_ask_46 : decode cX3_ask 46 = .ok (.getfield 68, 3) := by decide +kernel
theorem dX3_ask_49 : decode cX3_ask 49 = .ok (.putfield 138, 3) := by decide +kernel
theorem dX3_ask_52 : decode cX3_ask 52 = .ok (.aload_n 0, 1) := by decide +kernel
theorem dX3_ask_53 : decode cX3_ask 53 = .ok (.getfield 29, 3) := by decide +kernel
theorem dX3_ask_56 : decode cX3_ask 56 = .ok (.aload_n 2, 1) := by decide +kernel
theorem dX3_ask_57 : decode cX3_ask 57 = .ok (.getfield 141, 3) := by decide +kernel
theorem dX3_ask_60 : decode cX3_ask 60 = .ok (.aaload, 1) := by decide +kernel
theorem dX3_ask_61 : decode cX3_ask 61 = .ok (.getfield 144, 3) := by decide +kernel
theorem dX3_ask_64 : decode cX3_ask 64 = .ok (.ireturn, 1) := by decide +kernel
set_option maxRecDepth 20000 in
theorem ggX3_answer_X3_needNumber : GoodIn wsX3_answer wsX3_needNumber := goodIn_ca (goodIn_r _ [11, 12, 13] (by decide +kernel) (by decide +kernel)) (goodIn_sub (fun _ h => List.mem_cons_of_mem _ (List.mem_append_right _ h)) (by decide +kernel))
set_option maxRecDepth 20000 in
theorem gX3_answer_X3_needNumber : GoodIn wsX3_answer (va_wsS RX3 60 yX3_needNumber wsX3_needNumber) := goodIn_app (goodIn_of _ (by decide +kernel)) ggX3_answer_X3_needNumber
theorem dX3_answer_0 : decode cX3_answer 0 = .ok (.iload_n 1, 1) := by decide +kernel
theorem dX3_answer_1 : decode cX3_answer 1 = .ok (.aload_n 0, 1) := by decide +kernel
theorem dX3_answer_2 : decode cX3_answer 2 = .ok (.getfield 127, 3) := by decide +kernel
theorem dX3_answer_5 : decode cX3_answer 5 = .ok (.invokestatic 60, 3) := by decide +kernel
theorem dX3_answer_8 : decode cX3_answer 8 = .ok (.aload_n 0, 1) := by decide +kernel
theorem dX3_answer_9 : decode cX3_answer 9 = .ok (.getfield 36, 3) := by decide +kernel
theorem dX3_answer_12 : decode cX3_answer 12 = .ok (.iload_n 1, 1) := by decide +kernel
theorem dX3_answer_13 : decode cX3_answer 13 = .ok (.aaload, 1) := by decide +kernel
theorem dX3_answer_14 : decode cX3_answer 14 = .ok (.astore_n 2, 1) := by decide +kernel
theorem dX3_answer_15 : decode cX3_answer 15 = .ok (.aload_n 2, 1) := by decide +kernel
theorem dX3_answer_16 : decode cX3_answer 16 = .ok (.getfield 133, 3) := by decide +kernel
theorem dX3_answer_19 : decode cX3_answer 19 = .ok (.iconst 1, 1) := by decide +kernel
theorem dX3_answer_20 : decode cX3_answer 20 = .ok (.if_icmp .eq 13, 3) := by decide +kernel
theorem dX3_answer_23 : decode cX3_answer 23 = .ok (.new 52, 3) := by decide +kernel
theorem dX3_answer_26 : decode cX3_answer 26 = .ok (.dup, 1) := by decide +kernel
theorem dX3_answer_27 : decode cX3_answer 27 = .ok (.ldc 147, 2) := by decide +kernel
theorem dX3_answer_29 : decode cX3_answer 29 = .ok (.invokespecial 56, 3) := by decide +kernel
theorem dX3_answer_32 : decode cX3_answer 32 = .ok (.athrow, 1) := by decide +kernel
theorem dX3_answer_33 : decode cX3_answer 33 = .ok (.aload_n 2, 1) := by decide +kernel
theorem dX3_answer_34 : decode cX3_answer 34 = .ok (.iconst 2, 1) := by decide +kernel
theorem dX3_answer_35 : decode cX3_answer 35 = .ok (.putfield 133, 3) := by decide +kernel
theorem dX3_answer_38 : decode cX3_answer 38 = .ok (.aload_n 0, 1) := by decide +kernel
theorem dX3_answer_39 : decode cX3_answer 39 = .ok (.getfield 68, 3) := by decide +kernel
theorem dX3_answer_42 : decode cX3_answer 42 = .ok (.aload_n 2, 1) := by decide +kernel
theorem dX3_answer_43 : decode cX3_answer 43 = .ok (.getfield 138, 3) := by decide +kernel
theorem dX3_answer_46 : decode cX3_answer 46 = .ok (.isub, 1) := by decide +kernel
theorem dX3_answer_47 : decode cX3_answer 47 = .ok (.ireturn, 1) := by decide +kernel
set_option maxRecDepth 20000 in
theorem ggX3_hear_X3_needNumber : GoodIn wsX3_hear wsX3_needNumber := goodIn_ca (goodIn_r _ [11, 12, 13] (by decide +kernel) (by decide +kernel)) (goodIn_sub (fun _ h => List.mem_cons_of_mem _ (List.mem_append_right _ h)) (by decide +kernel))
set_option maxRecDepth 20000 in
theorem gX3_hear_X3_needNumber : GoodIn wsX3_hear (va_wsS RX3 60 yX3_needNumber wsX3_needNumber) := goodIn_app (goodIn_of _ (by decide +kernel)) ggX3_hear_X3_needNumber
theorem dX3_hear_0 : decode cX3_hear 0 = .ok (.iload_n 1, 1) := by decide +kernel
theorem dX3_hear_1 : decode cX3_hear 1 = .ok (.aload_n 0, 1) := by decide +kernel
theorem dX3_hear_2 : decode cX3_hear 2 = .ok (.getfield 127, 3) := by decide +kernel
theorem dX3_hear_5 : decode cX3_hear 5 = .ok (.invokestatic 60, 3) := by decide +kernel
theorem dX3_hear_8 : decode cX3_hear 8 = .ok (.aload_n 0, 1) := by decide +kernel
theorem dX3_hear_9 : decode cX3_hear 9 = .ok (.getfield 36, 3) := by decide +kernel
theorem dX3_hear_12 : decode cX3_hear 12 = .ok (.iload_n 1, 1) := by decide +kernel
theorem dX3_hear_13 : decode cX3_hear 13 = .ok (.aaload, 1) := by decide +kernel
theorem dX3_hear_14 : decode cX3_hear 14 = .ok (.astore_n 2, 1) := by decide +kernel
theorem dX3_hear_15 : decode cX3_hear 15 = .ok (.aload_n 2, 1) := by decide +kernel
theorem dX3_hear_16 : decode cX3_hear 16 = .ok (.getfield 130, 3) := by decide +kernel
theorem dX3_hear_19 : decode cX3_hear 19 = .ok (.ifCond .ne 18, 3) := by decide +kernel
theorem dX3_hear_22 : decode cX3_hear 22 = .ok (.aload_n 2, 1) := by decide +kernel
theorem dX3_hear_23 : decode cX3_hear 23 = .ok (.getfield 133, 3) := by decide +kernel
theorem dX3_hear_26 : decode cX3_hear 26 = .ok (.iconst 2, 1) := by decide +kernel
theorem dX3_hear_27 : decode cX3_hear 27 = .ok (.if_icmp .ne 10, 3) := by decide +kernel
theorem dX3_hear_30 : decode cX3_hear 30 = .ok (.aload_n 2, 1) := by decide +kernel
theorem dX3_hear_31 : decode cX3_hear 31 = .ok (.getfield 149, 3) := by decide +kernel
theorem dX3_hear_34 : decode cX3_hear 34 = .ok (.ifCond .eq 13, 3) := by decide +kernel
theorem dX3_hear_37 : decode cX3_hear 37 = .ok (.new 52, 3) := by decide +kernel
theorem dX3_hear_40 : decode cX3_hear 40 = .ok (.dup, 1) := by decide +kernel
theorem dX3_hear_41 : decode cX3_hear 41 = .ok (.ldc 152, 2) := by decide +kernel
theorem dX3_hear_43 : decode cX3_hear 43 = .ok (.invokespecial 56, 3) := by decide +kernel
theorem dX3_hear_46 : decode cX3_hear 46 = .ok (.athrow, 1) := by decide +kernel
theorem dX3_hear_47 : decode cX3_hear 47 = .ok (.aload_n 2, 1) := by decide +kernel
theorem dX3_hear_48 : decode cX3_hear 48 = .ok (.iconst 1, 1) := by decide +kernel
theorem dX3_hear_49 : decode cX3_hear 49 = .ok (.putfield 149, 3) := by decide +kernel
theorem dX3_hear_52 : decode cX3_hear 52 = .ok (.return_, 1) := by decide +kernel
set_option maxRecDepth 20000 in
theorem ggX3_find_X3_needNumber : GoodIn wsX3_find wsX3_needNumber := goodIn_ca (goodIn_r _ [12, 13, 14] (by decide +kernel) (by decide +kernel)) (goodIn_sub (fun _ h => List.mem_cons_of_mem _ (List.mem_append_right _ h)) (by decide +kernel))
set_option maxRecDepth 20000 in
theorem gX3_find_X3_needNumber : GoodIn wsX3_find (va_wsS RX3 60 yX3_needNumber wsX3_needNumber) := goodIn_app (goodIn_of _ (by decide +kernel)) ggX3_find_X3_needNumber
set_option maxRecDepth 20000 in
theorem ggX3_find_X3_faultOf : GoodIn wsX3_find wsX3_faultOf := goodIn_r _ [18, 19, 20, 21, 11, 22, 23, 24, 25, 26, 27, 28, 29, 30, 31, 32, 33, 34, 35, 36, 37, 38, 39, 40, 41, 42, 43, 44, 45, 46, 47, 48, 49, 50, 51, 52, 53, 54, 55, 56, 57, 58, 59, 60, 61, 62, 63, 64, 65, 74, 75, 76, 77, 78, 79, 80, 81, 82, 83, 84, 85, 86] (by decide +kernel) (by decide +kernel)
set_option maxRecDepth 20000 in
theorem gX3_find_X3_faultOf : GoodIn wsX3_find (wsV RX3 156 RX3 yX3_faultOf wsX3_faultOf) := goodIn_app (goodIn_of _ (by decide +kernel)) ggX3_find_X3_faultOf
theorem dX3_find_0 : decode cX3_find 0 = .ok (.iload_n 1, 1) := by decide +kernel
theorem dX3_find_1 : decode cX3_find 1 = .ok (.aload_n 0, 1) := by decide +kernel
theorem dX3_find_2 : decode cX3_find 2 = .ok (.getfield 127, 3) := by decide +kernel
theorem dX3_find_5 : decode cX3_find 5 = .ok (.invokestatic 60, 3) := by decide +kernel
theorem dX3_find_8 : decode cX3_find 8 = .ok (.aload_n 0, 1) := by decide +kernel
theorem dX3_find_9 : decode cX3_find 9 = .ok (.getfield 36, 3) := by decide +kernel
theorem dX3_find_12 : decode cX3_find 12 = .ok (.iload_n 1, 1) := by decide +kernel
theorem dX3_find_13 : decode cX3_find 13 = .ok (.aaload, 1) := by decide +kernel
theorem dX3_find_14 : decode cX3_find 14 = .ok (.astore_n 2, 1) := by decide +kernel
theorem dX3_find_15 : decode cX3_find 15 = .ok (.aload_n 2, 1) := by decide +kernel
theorem dX3_find_16 : decode cX3_find 16 = .ok (.getfield 130, 3) := by decide +kernel
theorem dX3_find_19 : decode cX3_find 19 = .ok (.ifCond .ne 10, 3) := by decide +kernel
theorem dX3_find_22 : decode cX3_find 22 = .ok (.aload_n 2, 1) := by decide +kernel
theorem dX3_find_23 : decode cX3_find 23 = .ok (.getfield 149, 3) := by decide +kernel
theorem dX3_find_26 : decode cX3_find 26 = .ok (.ifCond .ne 13, 3) := by decide +kernel
theorem dX3_find_29 : decode cX3_find 29 = .ok (.new 52, 3) := by decide +kernel
theorem dX3_find_32 : decode cX3_find 32 = .ok (.dup, 1) := by decide +kernel
theorem dX3_find_33 : decode cX3_find 33 = .ok (.ldc 154, 2) := by decide +kernel
theorem dX3_find_35 : decode cX3_find 35 = .ok (.invokespecial 56, 3) := by decide +kernel
theorem dX3_find_38 : decode cX3_find 38 = .ok (.athrow, 1) := by decide +kernel
theorem dX3_find_39 : decode cX3_find 39 = .ok (.aload_n 2, 1) := by decide +kernel
theorem dX3_find_40 : decode cX3_find 40 = .ok (.aload_n 0, 1) := by decide +kernel
theorem dX3_find_41 : decode cX3_find 41 = .ok (.aload_n 2, 1) := by decide +kernel
theorem dX3_find_42 : decode cX3_find 42 = .ok (.getfield 141, 3) := by decide +kernel
theorem dX3_find_45 : decode cX3_find 45 = .ok (.invokevirtual 156, 3) := by decide +kernel
theorem dX3_find_48 : decode cX3_find 48 = .ok (.putfield 159, 3) := by decide +kernel
theorem dX3_find_51 : decode cX3_find 51 = .ok (.aload_n 2, 1) := by decide +kernel
theorem dX3_find_52 : decode cX3_find 52 = .ok (.iconst 1, 1) := by decide +kernel
theorem dX3_find_53 : decode cX3_find 53 = .ok (.putfield 130, 3) := by decide +kernel
theorem dX3_find_56 : decode cX3_find 56 = .ok (.aload_n 2, 1) := by decide +kernel
theorem dX3_find_57 : decode cX3_find 57 = .ok (.getfield 159, 3) := by decide +kernel
theorem dX3_find_60 : decode cX3_find 60 = .ok (.ireturn, 1) := by decide +kernel
set_option maxRecDepth 20000 in
theorem ggX3_remedy_X3_needNumber : GoodIn wsX3_remedy wsX3_needNumber := goodIn_ca (goodIn_r _ [13, 14, 15] (by decide +kernel) (by decide +kernel)) (goodIn_sub (fun _ h => List.mem_cons_of_mem _ (List.mem_append_left _ (List.mem_append_right _ h))) (by decide +kernel))
set_option maxRecDepth 20000 in
theorem gX3_remedy_X3_needNumber : GoodIn wsX3_remedy (va_wsS RX3 60 yX3_needNumber wsX3_needNumber) := goodIn_app (goodIn_of _ (by decide +kernel)) ggX3_remedy_X3_needNumber
set_option maxRecDepth 20000 in
theorem ggX3_remedy_X3_needRange : GoodIn wsX3_remedy wsX3_needRange := goodIn_ca (goodIn_r _ [18, 19, 20] (by decide +kernel) (by decide +kernel)) (goodIn_sub (fun _ h => List.mem_cons_of_mem _ (List.mem_append_right _ h)) (by decide +kernel))
set_option maxRecDepth 20000 in
theorem gX3_remedy_X3_needRange : GoodIn wsX3_remedy (va_wsS RX3 79 yX3_needRange wsX3_needRange) := goodIn_app (goodIn_of _ (by decide +kernel)) ggX3_remedy_X3_needRange
set_option maxRecDepth 20000 in
theorem ggX3_remedy_X3_isLike : GoodIn wsX3_remedy wsX3_isLike := goodIn_r _ [24, 9, 25, 26, 66, 67, 68, 69, 70, 71, 72, 73, 74, 75, 76, 85, 86, 87, 88, 89, 90, 91, 92, 93] (by decide +kernel) (by decide +kernel)
set_option maxRecDepth 20000 in
theorem gX3_remedy_X3_isLike : GoodIn wsX3_remedy (wsV RX3 164 RX3 yX3_isLike wsX3_isLike) := goodIn_app (goodIn_of _ (by decide +kernel)) ggX3_remedy_X3_isLike
set_option maxRecDepth 20000 in
theorem ggX3_remedy_X3_faultOf : GoodIn wsX3_remedy wsX3_faultOf := goodIn_r _ [30, 31, 32, 33, 12, 34, 9, 35, 36, 25, 37, 38, 39, 40, 41, 42, 43, 44, 45, 46, 47, 48, 49, 50, 51, 52, 53, 54, 7, 21, 22, 23, 24, 26, 55, 56, 57, 58, 66, 67, 68, 69, 70, 71, 72, 73, 74, 75, 76, 85, 86, 87, 88, 89, 90, 91, 92, 93, 94, 95, 96, 97] (by decide +kernel) (by decide +kernel)
set_option maxRecDepth 20000 in
theorem gX3_remedy_X3_faultOf : GoodIn wsX3_remedy (wsV RX3 156 RX3 yX3_faultOf wsX3_faultOf) := goodIn_app (goodIn_of _ (by decide +kernel)) ggX3_remedy_X3_faultOf
set_option maxRecDepth 20000 in
theorem ggX3_remedy_X0_giveRemedy : GoodIn wsX3_remedy wsX0_giveRemedy := goodIn_r _ [63, 64, 65, 85, 86, 87, 88, 89, 90, 91, 92, 93] (by decide +kernel) (by decide +kernel)
set_option maxRecDepth 20000 in
theorem gX3_remedy_X0_giveRemedy : GoodIn wsX3_remedy (wsV RX3 168 RX0 yX0_giveRemedy wsX0_giveRemedy) := goodIn_app (goodIn_of _ (by decide +kernel)) ggX3_remedy_X0_giveRemedy
theorem dX3_remedy_0 : decode cX3_remedy 0 = .ok (.iload_n 1, 1) := by decide +kernel
theorem dX3_remedy_1 : decode cX3_remedy 1 = .ok (.aload_n 0, 1) := by decide +kernel
theorem dX3_remedy_2 : decode cX3_remedy 2 = .ok (.getfield 127, 3) := by decide +kernel
theorem dX3_remedy_5 : decode cX3_remedy 5 = .ok (.invokestatic 60, 3) := by decide +kernel
theorem dX3_remedy_8 : decode cX3_remedy 8 = .ok (.iload_n 2, 1) := by decide +kernel
theorem dX3_remedy_9 : decode cX3_remedy 9 = .ok (.iconst 0, 1) := by decide +kernel
theorem dX3_remedy_10 : decode cX3_remedy 10 = .ok (.bipush 100, 2) := by decide +kernel
theorem dX3_remedy_12 : decode cX3_remedy 12 = .ok (.invokestatic 79, 3) := by decide +kernel
theorem dX3_remedy_15 : decode cX3_remedy 15 = .ok (.aload_n 0, 1) := by decide +kernel
theorem dX3_remedy_16 : decode cX3_remedy 16 = .ok (.getfield 36, 3) := by decide +kernel
theorem dX3_remedy_19 : decode cX3_remedy 19 = .ok (.iload_n 1, 1) := by decide +kernel
theorem dX3_remedy_20 : decode cX3_remedy 20 = .ok (.aaload, 1) := by decide +kernel
theorem dX3_remedy_21 : decode cX3_remedy 21 = .ok (.astore_n 3, 1) := by decide +kernel
theorem dX3_remedy_22 : decode cX3_remedy 22 = .ok (.aload_n 3, 1) := by decide +kernel
theorem dX3_remedy_23 : decode cX3_remedy 23 = .ok (.getfield 130, 3) := by decide +kernel
theorem dX3_remedy_26 : decode cX3_remedy 26 = .ok (.iconst 1, 1) := by decide +kernel
theorem dX3_remedy_27 : decode cX3_remedy 27 = .ok (.if_icmp .ne 10, 3) := by decide +kernel
theorem dX3_remedy_30 : decode cX3_remedy 30 = .ok (.aload_n 3, 1) := by decide +kernel
theorem dX3_remedy_31 : decode cX3_remedy 31 = .ok (.getfield 159, 3) := by decide +kernel
theorem dX3_remedy_34 : decode cX3_remedy 34 = .ok (.ifCond .ne 13, 3) := by decide +kernel
theorem dX3_remedy_37 : decode cX3_remedy 37 = .ok (.new 52, 3) := by decide +kernel
theorem dX3_remedy_40 : decode cX3_remedy 40 = .ok (.dup, 1) := by decide +kernel
theorem dX3_remedy_41 : decode cX3_remedy 41 = .ok (.ldc 162, 2) := by decide +kernel
theorem dX3_remedy_43 : decode cX3_remedy 43 = .ok (.invokespecial 56, 3) := by decide +kernel
theorem dX3_remedy_46 : decode cX3_remedy 46 = .ok (.athrow, 1) := by decide +kernel
theorem dX3_remedy_47 : decode cX3_remedy 47 = .ok (.iconst 0, 1) := by decide +kernel
theorem dX3_remedy_48 : decode cX3_remedy 48 = .ok (.istore 4, 2) := by decide +kernel
theorem dX3_remedy_50 : decode cX3_remedy 50 = .ok (.iconst 0, 1) := by decide +kernel
theorem dX3_remedy_51 : decode cX3_remedy 51 = .ok (.istore 5, 2) := by decide +kernel
theorem dX3_remedy_53 : decode cX3_remedy 53 = .ok (.iload 5, 2) := by decide +kernel
theorem dX3_remedy_55 : decode cX3_remedy 55 = .ok (.aload_n 0, 1) := by decide +kernel
theorem dX3_remedy_56 : decode cX3_remedy 56 = .ok (.getfield 86, 3) := by decide +kernel
theorem dX3_remedy_59 : decode cX3_remedy 59 = .ok (.if_icmp .ge 54, 3) := by decide +kernel
theorem dX3_remedy_62 : decode cX3_remedy 62 = .ok (.iload 5, 2) := by decide +kernel
theorem dX3_remedy_64 : decode cX3_remedy 64 = .ok (.aload_n 3, 1) := by decide +kernel
theorem dX3_remedy_65 : decode cX3_remedy 65 = .ok (.getfield 141, 3) := by decide +kernel
theorem dX3_remedy_68 : decode cX3_remedy 68 = .ok (.if_icmp .eq 25, 3) := by decide +kernel
theorem dX3_remedy_71 : decode cX3_remedy 71 = .ok (.aload_n 0, 1) := by decide +kernel
theorem dX3_remedy_72 : decode cX3_remedy 72 = .ok (.aload_n 3, 1) := by decide +kernel
theorem dX3_remedy_73 : decode cX3_remedy 73 = .ok (.getfield 141, 3) := by decide +kernel
theorem dX3_remedy_76 : decode cX3_remedy 76 = .ok (.iload 5, 2) := by decide +kernel
theorem dX3_remedy_78 : decode cX3_remedy 78 = .ok (.invokevirtual 164, 3) := by decide +kernel
theorem dX3_remedy_81 : decode cX3_remedy 81 = .ok (.ifCond .eq 26, 3) := by decide +kernel
theorem dX3_remedy_84 : decode cX3_remedy 84 = .ok (.aload_n 0, 1) := by decide +kernel
theorem dX3_remedy_85 : decode cX3_remedy 85 = .ok (.iload 5, 2) := by decide +kernel
theorem dX3_remedy_87 : decode cX3_remedy 87 = .ok (.invokevirtual 156, 3) := by decide +kernel
theorem dX3_remedy_90 : decode cX3_remedy 90 = .ok (.ifCond .eq 17, 3) := by decide +kernel
theorem dX3_remedy_93 : decode cX3_remedy 93 = .ok (.aload_n 0, 1) := by decide +kernel
theorem dX3_remedy_94 : decode cX3_remedy 94 = .ok (.getfield 29, 3) := by decide +kernel
theorem dX3_remedy_97 : decode cX3_remedy 97 = .ok (.iload 5, 2) := by decide +kernel
theorem dX3_remedy_99 : decode cX3_remedy 99 = .ok (.aaload, 1) := by decide +kernel
theorem dX3_remedy_100 : decode cX3_remedy 100 = .ok (.iload_n 2, 1) := by decide +kernel
theorem dX3_remedy_101 : decode cX3_remedy 101 = .ok (.invokevirtual 168, 3) := by decide +kernel
theorem dX3_remedy_104 : decode cX3_remedy 104 = .ok (.iinc 4 1, 3) := by decide +kernel
theorem dX3_remedy_107 : decode cX3_remedy 107 = .ok (.iinc 5 1, 3) := by decide +kernel
theorem dX3_remedy_110 : decode cX3_remedy 110 = .ok (.goto (-57), 3) := by decide +kernel
theorem dX3_remedy_113 : decode cX3_remedy 113 = .ok (.iload 4, 2) := by decide +kernel
theorem dX3_remedy_115 : decode cX3_remedy 115 = .ok (.ireturn, 1) := by decide +kernel
set_option maxRecDepth 20000 in
theorem ggX3_pass_X3_needRange : GoodIn wsX3_pass wsX3_needRange := goodIn_ca (goodIn_r _ [9, 10, 11] (by decide +kernel) (by decide +kernel)) (goodIn_sub (fun _ h => List.mem_cons_of_mem _ (List.mem_append_right _ h)) (by decide +kernel))
set_option maxRecDepth 20000 in
theorem gX3_pass_X3_needRange : GoodIn wsX3_pass (va_wsS RX3 79 yX3_needRange wsX3_needRange) := goodIn_app (goodIn_of _ (by decide +kernel)) ggX3_pass_X3_needRange
set_option maxRecDepth 20000 in
theorem ggX3_pass_X2_letDaysGoBy : GoodIn wsX3_pass wsX2_letDaysGoBy := goodIn_r _ [16, 17, 18, 19, 20, 21, 22, 23, 35, 36, 37, 38, 39, 40, 41, 42] (by decide +kernel) (by decide +kernel)
set_option maxRecDepth 20000 in
theorem gX3_pass_X2_letDaysGoBy : GoodIn wsX3_pass (wsV RX3 173 RX2 yX2_letDaysGoBy wsX2_letDaysGoBy) := goodIn_app (goodIn_of _ (by decide +kernel)) ggX3_pass_X2_letDaysGoBy
theorem dX3_pass_0 : decode cX3_pass 0 = .ok (.iload_n 1, 1) := by decide +kernel
theorem dX3_pass_1 : decode cX3_pass 1 = .ok (.iconst 1, 1) := by decide +kernel
theorem dX3_pass_2 : decode cX3_pass 2 = .ok (.bipush 100, 2) := by decide +kernel
theorem dX3_pass_4 : decode cX3_pass 4 = .ok (.invokestatic 79, 3) := by decide +kernel
theorem dX3_pass_7 : decode cX3_pass 7 = .ok (.aload_n 0, 1) := by decide +kernel
theorem dX3_pass_8 : decode cX3_pass 8 = .ok (.getfield 68, 3) := by decide +kernel
theorem dX3_pass_11 : decode cX3_pass 11 = .ok (.iload_n 1, 1) := by decide +kernel
theorem dX3_pass_12 : decode cX3_pass 12 = .ok (.iadd, 1) := by decide +kernel
theorem dX3_pass_13 : decode cX3_pass 13 = .ok (.sipush 5000, 3) := by decide +kernel
theorem dX3_pass_16 : decode cX3_pass 16 = .ok (.if_icmp .le 13, 3) := by decide +kernel
theorem dX3_pass_19 : decode cX3_pass 19 = .ok (.new 52, 3) := by decide +kernel
theorem dX3_pass_22 : decode cX3_pass 22 = .ok (.dup, 1) := by decide +kernel
theorem dX3_pass_23 : decode cX3_pass 23 = .ok (.ldc 171, 2) := by decide +kernel
theorem dX3_pass_25 : decode cX3_pass 25 = .ok (.invokespecial 56, 3) := by decide +kernel
theorem dX3_pass_28 : decode cX3_pass 28 = .ok (.athrow, 1) := by decide +kernel
theorem dX3_pass_29 : decode cX3_pass 29 = .ok (.aload_n 0, 1) := by decide +kernel
theorem dX3_pass_30 : decode cX3_pass 30 = .ok (.dup, 1) := by decide +kernel
theorem dX3_pass_31 : decode cX3_pass 31 = .ok (.getfield 68, 3) := by decide +kernel
theorem dX3_pass_34 : decode cX3_pass 34 = .ok (.iload_n 1, 1) := by decide +kernel
theorem dX3_pass_35 : decode cX3_pass 35 = .ok (.iadd, 1) := by decide +kernel
theorem dX3_pass_36 : decode cX3_pass 36 = .ok (.putfield 68, 3) := by decide +kernel
theorem dX3_pass_39 : decode cX3_pass 39 = .ok (.iconst 0, 1) := by decide +kernel
theorem dX3_pass_40 : decode cX3_pass 40 = .ok (.istore_n 2, 1) := by decide +kernel
theorem dX3_pass_41 : decode cX3_pass 41 = .ok (.iload_n 2, 1) := by decide +kernel
theorem dX3_pass_42 : decode cX3_pass 42 = .ok (.aload_n 0, 1) := by decide +kernel
theorem dX3_pass_43 : decode cX3_pass 43 = .ok (.getfield 127, 3) := by decide +kernel
theorem dX3_pass_46 : decode cX3_pass 46 = .ok (.if_icmp .ge 19, 3) := by decide +kernel
theorem dX3_pass_49 : decode cX3_pass 49 = .ok (.aload_n 0, 1) := by decide +kernel
theorem dX3_pass_50 : decode cX3_pass 50 = .ok (.getfield 36, 3) := by decide +kernel
theorem dX3_pass_53 : decode cX3_pass 53 = .ok (.iload_n 2, 1) := by decide +kernel
theorem dX3_pass_54 : decode cX3_pass 54 = .ok (.aaload, 1) := by decide +kernel
theorem dX3_pass_55 : decode cX3_pass 55 = .ok (.iload_n 1, 1) := by decide +kernel
theorem dX3_pass_56 : decode cX3_pass 56 = .ok (.invokevirtual 173, 3) := by decide +kernel
theorem dX3_pass_59 : decode cX3_pass 59 = .ok (.iinc 2 1, 3) := by decide +kernel
theorem dX3_pass_62 : decode cX3_pass 62 = .ok (.goto (-21), 3) := by decide +kernel
theorem dX3_pass_65 : decode cX3_pass 65 = .ok (.aload_n 0, 1) := by decide +kernel
theorem dX3_pass_66 : decode cX3_pass 66 = .ok (.getfield 68, 3) := by decide +kernel
theorem dX3_pass_69 : decode cX3_pass 69 = .ok (.ireturn, 1) := by decide +kernel
set_option maxRecDepth 20000 in
theorem ggX3_about_X3_needNumber : GoodIn wsX3_about wsX3_needNumber := goodIn_ca (goodIn_r _ [12, 13, 14] (by decide +kernel) (by decide +kernel)) (goodIn_sub (fun _ h => List.mem_cons_of_mem _ (List.mem_append_left _ (List.mem_append_right _ h))) (by decide +kernel))
set_option maxRecDepth 20000 in
theorem gX3_about_X3_needNumber : GoodIn wsX3_about (va_wsS RX3 60 yX3_needNumber wsX3_needNumber) := goodIn_app (goodIn_of _ (by decide +kernel)) ggX3_about_X3_needNumber
set_option maxRecDepth 20000 in
theorem ggX3_about_X3_needRange : GoodIn wsX3_about wsX3_needRange := goodIn_ca (goodIn_r _ [17, 18, 19] (by decide +kernel) (by decide +kernel)) (goodIn_sub (fun _ h => List.mem_cons_of_mem _ (List.mem_append_right _ h)) (by decide +kernel))
set_option maxRecDepth 20000 in
theorem gX3_about_X3_needRange : GoodIn wsX3_about (va_wsS RX3 79 yX3_needRange wsX3_needRange) := goodIn_app (goodIn_of _ (by decide +kernel)) ggX3_about_X3_needRange
set_option maxRecDepth 20000 in
theorem ggX3_about_J6_bitCount_0f7a4 : GoodIn wsX3_about wsJ6_bitCount_0f7a4 := goodIn_r _ [23, 24, 25, 26] (by decide +kernel) (by decide +kernel)
set_option maxRecDepth 20000 in
theorem gX3_about_J6_bitCount_0f7a4 : GoodIn wsX3_about (va_wsS RX3 182 yJ6_bitCount_0f7a4 wsJ6_bitCount_0f7a4) := goodIn_app (goodIn_of _ (by decide +kernel)) ggX3_about_J6_bitCount_0f7a4
theorem dX3_about_0 : decode cX3_about 0 = .ok (.iload_n 1, 1) := by decide +kernel
theorem dX3_about_1 : decode cX3_about 1 = .ok (.aload_n 0, 1) := by decide +kernel
theorem dX3_about_2 : decode cX3_about 2 = .ok (.getfield 127, 3) := by decide +kernel
theorem dX3_about_5 : decode cX3_about 5 = .ok (.invokestatic 60, 3) := by decide +kernel
theorem dX3_about_8 : decode cX3_about 8 = .ok (.iload_n 2, 1) := by decide +kernel
theorem dX3_about_9 : decode cX3_about 9 = .ok (.iconst 0, 1) := by decide +kernel
theorem dX3_about_10 : decode cX3_about 10 = .ok (.iconst 5, 1) := by decide +kernel
theorem dX3_about_11 : decode cX3_about 11 = .ok (.invokestatic 79, 3) := by decide +kernel
theorem dX3_about_14 : decode cX3_about 14 = .ok (.aload_n 0, 1) := by decide +kernel
theorem dX3_about_15 : decode cX3_about 15 = .ok (.getfield 36, 3) := by decide +kernel
theorem dX3_about_18 : decode cX3_about 18 = .ok (.iload_n 1, 1) := by decide +kernel
theorem dX3_about_19 : decode cX3_about 19 = .ok (.aaload, 1) := by decide +kernel
theorem dX3_about_20 : decode cX3_about 20 = .ok (.astore_n 3, 1) := by decide +kernel
theorem dX3_about_21 : decode cX3_about 21 = .ok (.iload_n 2, 1) := by decide +kernel
theorem dX3_about_22 : decode cX3_about 22 = .ok (.tableswitch 71 0 4 #[34, 39, 44, 49, 57], 34) := by decide +kernel
theorem dX3_about_56 : decode cX3_about 56 = .ok (.aload_n 3, 1) := by decide +kernel
theorem dX3_about_57 : decode cX3_about 57 = .ok (.getfield 130, 3) := by decide +kernel
theorem dX3_about_60 : decode cX3_about 60 = .ok (.ireturn, 1) := by decide +kernel
theorem dX3_about_61 : decode cX3_about 61 = .ok (.aload_n 3, 1) := by decide +kernel
theorem dX3_about_62 : decode cX3_about 62 = .ok (.getfield 141, 3) := by decide +kernel
theorem dX3_about_65 : decode cX3_about 65 = .ok (.ireturn, 1) := by decide +kernel
theorem dX3_about_66 : decode cX3_about 66 = .ok (.aload_n 3, 1) := by decide +kernel
theorem dX3_about_67 : decode cX3_about 67 = .ok (.getfield 176, 3) := by decide +kernel
theorem dX3_about_70 : decode cX3_about 70 = .ok (.ireturn, 1) := by decide +kernel
theorem dX3_about_71 : decode cX3_about 71 = .ok (.aload_n 3, 1) := by decide +kernel
theorem dX3_about_72 : decode cX3_about 72 = .ok (.getfield 179, 3) := by decide +kernel
theorem dX3_about_75 : decode cX3_about 75 = .ok (.invokestatic 182, 3) := by decide +kernel
theorem dX3_about_78 : decode cX3_about 78 = .ok (.ireturn, 1) := by decide +kernel
theorem dX3_about_79 : decode cX3_about 79 = .ok (.aload_n 3, 1) := by decide +kernel
theorem dX3_about_80 : decode cX3_about 80 = .ok (.getfield 133, 3) := by decide +kernel
theorem dX3_about_83 : decode cX3_about 83 = .ok (.iconst 1, 1) := by decide +kernel
theorem dX3_about_84 : decode cX3_about 84 = .ok (.if_icmp .ne 7, 3) := by decide +kernel
theorem dX3_about_87 : decode cX3_about 87 = .ok (.iconst 1, 1) := by decide +kernel
theorem dX3_about_88 : decode cX3_about 88 = .ok (.goto 4, 3) := by decide +kernel
theorem dX3_about_91 : decode cX3_about 91 = .ok (.iconst 0, 1) := by decide +kernel
theorem dX3_about_92 : decode cX3_about 92 = .ok (.ireturn, 1) := by decide +kernel
theorem dX3_about_93 : decode cX3_about 93 = .ok (.aload_n 3, 1) := by decide +kernel
theorem dX3_about_94 : decode cX3_about 94 = .ok (.getfield 159, 3) := by decide +kernel
theorem dX3_about_97 : decode cX3_about 97 = .ok (.ireturn, 1) := by decide +kernel
set_option maxRecDepth 20000 in
theorem ggX3_reminder_X3_needNumber : GoodIn wsX3_reminder wsX3_needNumber := goodIn_ca (goodIn_r _ [12, 13, 14] (by decide +kernel) (by decide +kernel)) (goodIn_sub (fun _ h => List.mem_cons_of_mem _ (List.mem_append_right _ h)) (by decide +kernel))
set_option maxRecDepth 20000 in
theorem gX3_reminder_X3_needNumber : GoodIn wsX3_reminder (va_wsS RX3 60 yX3_needNumber wsX3_needNumber) := goodIn_app (goodIn_of _ (by decide +kernel)) ggX3_reminder_X3_needNumber
set_option maxRecDepth 20000 in
theorem ggX3_reminder_X3_climbFrom : GoodIn wsX3_reminder wsX3_climbFrom := goodIn_r _ [18, 19, 20, 21, 22, 23, 24, 25, 26, 27, 28, 29, 30] (by decide +kernel) (by decide +kernel)
set_option maxRecDepth 20000 in
theorem gX3_reminder_X3_climbFrom : GoodIn wsX3_reminder (wsV RX3 187 RX3 yX3_climbFrom wsX3_climbFrom) := goodIn_app (goodIn_of _ (by decide +kernel)) ggX3_reminder_X3_climbFrom
theorem dX3_reminder_0 : decode cX3_reminder 0 = .ok (.iload_n 1, 1) := by decide +kernel
theorem dX3_reminder_1 : decode cX3_reminder 1 = .ok (.aload_n 0, 1) := by decide +kernel
theorem dX3_reminder_2 : decode cX3_reminder 2 = .ok (.getfield 127, 3) := by decide +kernel
theorem dX3_reminder_5 : decode cX3_reminder 5 = .ok (.invokestatic 60, 3) := by decide +kernel
theorem dX3_reminder_8 : decode cX3_reminder 8 = .ok (.aload_n 0, 1) := by decide +kernel
theorem dX3_reminder_9 : decode cX3_reminder 9 = .ok (.getfield 36, 3) := by decide +kernel
theorem dX3_reminder_12 : decode cX3_reminder 12 = .ok (.iload_n 1, 1) := by decide +kernel
theorem dX3_reminder_13 : decode cX3_reminder 13 = .ok (.aaload, 1) := by decide +kernel
theorem dX3_reminder_14 : decode cX3_reminder 14 = .ok (.astore_n 2, 1) := by decide +kernel
theorem dX3_reminder_15 : decode cX3_reminder 15 = .ok (.aload_n 2, 1) := by decide +kernel
theorem dX3_reminder_16 : decode cX3_reminder 16 = .ok (.getfield 133, 3) := by decide +kernel
theorem dX3_reminder_19 : decode cX3_reminder 19 = .ok (.iconst 1, 1) := by decide +kernel
theorem dX3_reminder_20 : decode cX3_reminder 20 = .ok (.if_icmp .eq 5, 3) := by decide +kernel
theorem dX3_reminder_23 : decode cX3_reminder 23 = .ok (.iconst (-1), 1) := by decide +kernel
theorem dX3_reminder_24 : decode cX3_reminder 24 = .ok (.ireturn, 1) := by decide +kernel
theorem dX3_reminder_25 : decode cX3_reminder 25 = .ok (.aload_n 0, 1) := by decide +kernel
theorem dX3_reminder_26 : decode cX3_reminder 26 = .ok (.aload_n 0, 1) := by decide +kernel
theorem dX3_reminder_27 : decode cX3_reminder 27 = .ok (.getfield 29, 3) := by decide +kernel
theorem dX3_reminder_30 : decode cX3_reminder 30 = .ok (.aload_n 2, 1) := by decide +kernel
theorem dX3_reminder_31 : decode cX3_reminder 31 = .ok (.getfield 141, 3) := by decide +kernel
theorem dX3_reminder_34 : decode cX3_reminder 34 = .ok (.aaload, 1) := by decide +kernel
theorem dX3_reminder_35 : decode cX3_reminder 35 = .ok (.getfield 144, 3) := by decide +kernel
theorem dX3_reminder_38 : decode cX3_reminder 38 = .ok (.aload_n 0, 1) := by decide +kernel
theorem dX3_reminder_39 : decode cX3_reminder 39 = .ok (.getfield 68, 3) := by decide +kernel
theorem dX3_reminder_42 : decode cX3_reminder 42 = .ok (.aload_n 2, 1) := by decide +kernel
theorem dX3_reminder_43 : decode cX3_reminder 43 = .ok (.getfield 138, 3) := by decide +kernel
theorem dX3_reminder_46 : decode cX3_reminder 46 = .ok (.isub, 1) := by decide +kernel
theorem dX3_reminder_47 : decode cX3_reminder 47 = .ok (.bipush 10, 2) := by decide +kernel
theorem dX3_reminder_49 : decode cX3_reminder 49 = .ok (.idiv, 1) := by decide +kernel
theorem dX3_reminder_50 : decode cX3_reminder 50 = .ok (.invokevirtual 187, 3) := by decide +kernel
theorem dX3_reminder_53 : decode cX3_reminder 53 = .ok (.ireturn, 1) := by decide +kernel
set_option maxRecDepth 20000 in
theorem ggX3_fault_X3_needNumber : GoodIn wsX3_fault wsX3_needNumber := goodIn_ca (goodIn_r _ [5, 6, 7] (by decide +kernel) (by decide +kernel)) (goodIn_sub (fun _ h => List.mem_cons_of_mem _ (List.mem_append_right _ h)) (by decide +kernel))
set_option maxRecDepth 20000 in
theorem gX3_fault_X3_needNumber : GoodIn wsX3_fault (va_wsS RX3 60 yX3_needNumber wsX3_needNumber) := goodIn_app (goodIn_of _ (by decide +kernel)) ggX3_fault_X3_needNumber
set_option maxRecDepth 20000 in
theorem ggX3_fault_X3_faultOf : GoodIn wsX3_fault wsX3_faultOf := goodIn_r _ [11, 12, 13, 14, 4, 15, 16, 17, 18, 19, 20, 21, 22, 23, 24, 25, 26, 27, 28, 29, 30, 31, 32, 33, 34, 35, 36, 37, 1, 38, 39, 40, 41, 42, 43, 44, 45, 46, 47, 48, 49, 50, 51, 52, 53, 54, 55, 56, 57, 58, 59, 60, 61, 62, 63, 64, 65, 66, 67, 68, 69, 70] (by decide +kernel) (by decide +kernel)
set_option maxRecDepth 20000 in
theorem gX3_fault_X3_faultOf : GoodIn wsX3_fault (wsV RX3 156 RX3 yX3_faultOf wsX3_faultOf) := goodIn_app (goodIn_of _ (by decide +kernel)) ggX3_fault_X3_faultOf
theorem dX3_fault_0 : decode cX3_fault 0 = .ok (.iload_n 1, 1) := by decide +kernel
theorem dX3_fault_1 : decode cX3_fault 1 = .ok (.aload_n 0, 1) := by decide +kernel
theorem dX3_fault_2 : decode cX3_fault 2 = .ok (.getfield 86, 3) := by decide +kernel
theorem dX3_fault_5 : decode cX3_fault 5 = .ok (.invokestatic 60, 3) := by decide +kernel
theorem dX3_fault_8 : decode cX3_fault 8 = .ok (.aload_n 0, 1) := by decide +kernel
theorem dX3_fault_9 : decode cX3_fault 9 = .ok (.iload_n 1, 1) := by decide +kernel
theorem dX3_fault_10 : decode cX3_fault 10 = .ok (.invokevirtual 156, 3) := by decide +kernel
theorem dX3_fault_13 : decode cX3_fault 13 = .ok (.ireturn, 1) := by decide +kernel
set_option maxRecDepth 20000 in
theorem ggX3_likes_X3_needNumber : GoodIn wsX3_likes wsX3_needNumber := goodIn_ca (goodIn_r _ [5, 6, 7] (by decide +kernel) (by decide +kernel)) (goodIn_sub (fun _ h => List.mem_cons_of_mem _ (List.mem_append_right _ h)) (by decide +kernel))
set_option maxRecDepth 20000 in
theorem gX3_likes_X3_needNumber : GoodIn wsX3_likes (va_wsS RX3 60 yX3_needNumber wsX3_needNumber) := goodIn_app (goodIn_of _ (by decide +kernel)) ggX3_likes_X3_needNumber
set_option maxRecDepth 20000 in
theorem ggX3_likes_X3_countLikes : GoodIn wsX3_likes wsX3_countLikes := goodIn_r _ [11, 1, 12, 13, 14, 4, 15, 16, 17, 18, 19, 20, 21, 22, 23, 24, 25, 26, 27, 28, 29, 30, 31, 32, 33, 34, 35, 36, 37, 38] (by decide +kernel) (by decide +kernel)
set_option maxRecDepth 20000 in
theorem gX3_likes_X3_countLikes : GoodIn wsX3_likes (wsV RX3 190 RX3 yX3_countLikes wsX3_countLikes) := goodIn_app (goodIn_of _ (by decide +kernel)) ggX3_likes_X3_countLikes
theorem dX3_likes_0 : decode cX3_likes 0 = .ok (.iload_n 1, 1) := by decide +kernel
theorem dX3_likes_1 : decode cX3_likes 1 = .ok (.aload_n 0, 1) := by decide +kernel
theorem dX3_likes_2 : decode cX3_likes 2 = .ok (.getfield 86, 3) := by decide +kernel
theorem dX3_likes_5 : decode cX3_likes 5 = .ok (.invokestatic 60, 3) := by decide +kernel
theorem dX3_likes_8 : decode cX3_likes 8 = .ok (.aload_n 0, 1) := by decide +kernel
theorem dX3_likes_9 : decode cX3_likes 9 = .ok (.iload_n 1, 1) := by decide +kernel
theorem dX3_likes_10 : decode cX3_likes 10 = .ok (.invokevirtual 190, 3) := by decide +kernel
theorem dX3_likes_13 : decode cX3_likes 13 = .ok (.ireturn, 1) := by decide +kernel
set_option maxRecDepth 20000 in
theorem ggX3_remedied_X3_needNumber : GoodIn wsX3_remedied wsX3_needNumber := goodIn_ca (goodIn_r _ [7, 8, 9] (by decide +kernel) (by decide +kernel)) (goodIn_sub (fun _ h => List.mem_cons_of_mem _ (List.mem_append_right _ h)) (by decide +kernel))
set_option maxRecDepth 20000 in
theorem gX3_remedied_X3_needNumber : GoodIn wsX3_remedied (va_wsS RX3 60 yX3_needNumber wsX3_needNumber) := goodIn_app (goodIn_of _ (by decide +kernel)) ggX3_remedied_X3_needNumber
theorem dX3_remedied_0 : decode cX3_remedied 0 = .ok (.iload_n 1, 1) := by decide +kernel
theorem dX3_remedied_1 : decode cX3_remedied 1 = .ok (.aload_n 0, 1) := by decide +kernel
theorem dX3_remedied_2 : decode cX3_remedied 2 = .ok (.getfield 86, 3) := by decide +kernel
theorem dX3_remedied_5 : decode cX3_remedied 5 = .ok (.invokestatic 60, 3) := by decide +kernel
theorem dX3_remedied_8 : decode cX3_remedied 8 = .ok (.aload_n 0, 1) := by decide +kernel
theorem dX3_remedied_9 : decode cX3_remedied 9 = .ok (.getfield 29, 3) := by decide +kernel
theorem dX3_remedied_12 : decode cX3_remedied 12 = .ok (.iload_n 1, 1) := by decide +kernel
theorem dX3_remedied_13 : decode cX3_remedied 13 = .ok (.aaload, 1) := by decide +kernel
theorem dX3_remedied_14 : decode cX3_remedied 14 = .ok (.getfield 193, 3) := by decide +kernel
theorem dX3_remedied_17 : decode cX3_remedied 17 = .ok (.ireturn, 1) := by decide +kernel
set_option maxRecDepth 20000 in
theorem ggX3_gains_X3_needNumber : GoodIn wsX3_gains wsX3_needNumber := goodIn_ca (goodIn_r _ [8, 9, 10] (by decide +kernel) (by decide +kernel)) (goodIn_sub (fun _ h => List.mem_cons_of_mem _ (List.mem_append_left _ (List.mem_append_right _ h))) (by decide +kernel))
set_option maxRecDepth 20000 in
theorem gX3_gains_X3_needNumber : GoodIn wsX3_gains (va_wsS RX3 60 yX3_needNumber wsX3_needNumber) := goodIn_app (goodIn_of _ (by decide +kernel)) ggX3_gains_X3_needNumber
set_option maxRecDepth 20000 in
theorem ggX3_gains_X3_needRange : GoodIn wsX3_gains wsX3_needRange := goodIn_ca (goodIn_r _ [13, 14, 15] (by decide +kernel) (by decide +kernel)) (goodIn_sub (fun _ h => List.mem_cons_of_mem _ (List.mem_append_right _ h)) (by decide +kernel))
set_option maxRecDepth 20000 in
theorem gX3_gains_X3_needRange : GoodIn wsX3_gains (va_wsS RX3 79 yX3_needRange wsX3_needRange) := goodIn_app (goodIn_of _ (by decide +kernel)) ggX3_gains_X3_needRange
set_option maxRecDepth 20000 in
theorem ggX3_gains_X3_failsRule : GoodIn wsX3_gains wsX3_failsRule := goodIn_r _ [19, 2, 4, 20, 3, 21, 22, 23, 24, 25, 26, 27, 28, 29, 30, 31, 32, 33, 34, 35, 36, 37, 38, 39, 40, 41, 42, 43, 44, 45, 46, 47, 48, 49, 50, 51, 52, 53, 54] (by decide +kernel) (by decide +kernel)
set_option maxRecDepth 20000 in
theorem gX3_gains_X3_failsRule : GoodIn wsX3_gains (wsV RX3 202 RX3 yX3_failsRule wsX3_failsRule) := goodIn_app (goodIn_of _ (by decide +kernel)) ggX3_gains_X3_failsRule
theorem dX3_gains_0 : decode cX3_gains 0 = .ok (.iload_n 1, 1) := by decide +kernel
theorem dX3_gains_1 : decode cX3_gains 1 = .ok (.iconst 4, 1) := by decide +kernel
theorem dX3_gains_2 : decode cX3_gains 2 = .ok (.invokestatic 60, 3) := by decide +kernel
theorem dX3_gains_5 : decode cX3_gains 5 = .ok (.iload_n 2, 1) := by decide +kernel
theorem dX3_gains_6 : decode cX3_gains 6 = .ok (.iconst 0, 1) := by decide +kernel
theorem dX3_gains_7 : decode cX3_gains 7 = .ok (.bipush 100, 2) := by decide +kernel
theorem dX3_gains_9 : decode cX3_gains 9 = .ok (.invokestatic 79, 3) := by decide +kernel
theorem dX3_gains_12 : decode cX3_gains 12 = .ok (.iconst 0, 1) := by decide +kernel
theorem dX3_gains_13 : decode cX3_gains 13 = .ok (.istore_n 3, 1) := by decide +kernel
theorem dX3_gains_14 : decode cX3_gains 14 = .ok (.iconst 0, 1) := by decide +kernel
theorem dX3_gains_15 : decode cX3_gains 15 = .ok (.istore 4, 2) := by decide +kernel
theorem dX3_gains_17 : decode cX3_gains 17 = .ok (.iload 4, 2) := by decide +kernel
theorem dX3_gains_19 : decode cX3_gains 19 = .ok (.aload_n 0, 1) := by decide +kernel
theorem dX3_gains_20 : decode cX3_gains 20 = .ok (.getfield 86, 3) := by decide +kernel
theorem dX3_gains_23 : decode cX3_gains 23 = .ok (.if_icmp .ge 68, 3) := by decide +kernel
theorem dX3_gains_26 : decode cX3_gains 26 = .ok (.aload_n 0, 1) := by decide +kernel
theorem dX3_gains_27 : decode cX3_gains 27 = .ok (.getfield 29, 3) := by decide +kernel
theorem dX3_gains_30 : decode cX3_gains 30 = .ok (.iload 4, 2) := by decide +kernel
theorem dX3_gains_32 : decode cX3_gains 32 = .ok (.aaload, 1) := by decide +kernel
theorem dX3_gains_33 : decode cX3_gains 33 = .ok (.getfield 196, 3) := by decide +kernel
theorem dX3_gains_36 : decode cX3_gains 36 = .ok (.iload_n 1, 1) := by decide +kernel
theorem dX3_gains_37 : decode cX3_gains 37 = .ok (.if_icmp .ne 48, 3) := by decide +kernel
theorem dX3_gains_40 : decode cX3_gains 40 = .ok (.aload_n 0, 1) := by decide +kernel
theorem dX3_gains_41 : decode cX3_gains 41 = .ok (.getfield 29, 3) := by decide +kernel
theorem dX3_gains_44 : decode cX3_gains 44 = .ok (.iload 4, 2) := by decide +kernel
theorem dX3_gains_46 : decode cX3_gains 46 = .ok (.aaload, 1) := by decide +kernel
theorem dX3_gains_47 : decode cX3_gains 47 = .ok (.getfield 199, 3) := by decide +kernel
theorem dX3_gains_50 : decode cX3_gains 50 = .ok (.iload_n 2, 1) := by decide +kernel
theorem dX3_gains_51 : decode cX3_gains 51 = .ok (.if_icmp .le 7, 3) := by decide +kernel
theorem dX3_gains_54 : decode cX3_gains 54 = .ok (.iconst 1, 1) := by decide +kernel
theorem dX3_gains_55 : decode cX3_gains 55 = .ok (.goto 4, 3) := by decide +kernel
theorem dX3_gains_58 : decode cX3_gains 58 = .ok (.iconst 0, 1) := by decide +kernel
theorem dX3_gains_59 : decode cX3_gains 59 = .ok (.istore 5, 2) := by decide +kernel
theorem dX3_gains_61 : decode cX3_gains 61 = .ok (.aload_n 0, 1) := by decide +kernel
theorem dX3_gains_62 : decode cX3_gains 62 = .ok (.iload 4, 2) := by decide +kernel
theorem dX3_gains_64 : decode cX3_gains 64 = .ok (.invokevirtual 202, 3) := by decide +kernel
theorem dX3_gains_67 : decode cX3_gains 67 = .ok (.ifCond .eq 7, 3) := by decide +kernel
theorem dX3_gains_70 : decode cX3_gains 70 = .ok (.iconst 1, 1) := by decide +kernel
theorem dX3_gains_71 : decode cX3_gains 71 = .ok (.goto 4, 3) := by decide +kernel
theorem dX3_gains_74 : decode cX3_gains 74 = .ok (.iconst 0, 1) := by decide +kernel
theorem dX3_gains_75 : decode cX3_gains 75 = .ok (.istore 6, 2) := by decide +kernel
theorem dX3_gains_77 : decode cX3_gains 77 = .ok (.iload_n 3, 1) := by decide +kernel
theorem dX3_gains_78 : decode cX3_gains 78 = .ok (.iload 5, 2) := by decide +kernel
theorem dX3_gains_80 : decode cX3_gains 80 = .ok (.iload 6, 2) := by decide +kernel
theorem dX3_gains_82 : decode cX3_gains 82 = .ok (.isub, 1) := by decide +kernel
theorem dX3_gains_83 : decode cX3_gains 83 = .ok (.iadd, 1) := by decide +kernel
theorem dX3_gains_84 : decode cX3_gains 84 = .ok (.istore_n 3, 1) := by decide +kernel
theorem dX3_gains_85 : decode cX3_gains 85 = .ok (.iinc 4 1, 3) := by decide +kernel
theorem dX3_gains_88 : decode cX3_gains 88 = .ok (.goto (-71), 3) := by decide +kernel
theorem dX3_gains_91 : decode cX3_gains 91 = .ok (.iload_n 3, 1) := by decide +kernel
theorem dX3_gains_92 : decode cX3_gains 92 = .ok (.ireturn, 1) := by decide +kernel
theorem dX3_needNumber_0 : decode cX3_needNumber 0 = .ok (.iload_n 0, 1) := by decide +kernel
theorem dX3_needNumber_1 : decode cX3_needNumber 1 = .ok (.ifCond .lt 8, 3) := by decide +kernel
theorem dX3_needNumber_4 : decode cX3_needNumber 4 = .ok (.iload_n 0, 1) := by decide +kernel
theorem dX3_needNumber_5 : decode cX3_needNumber 5 = .ok (.iload_n 1, 1) := by decide +kernel
theorem dX3_needNumber_6 : decode cX3_needNumber 6 = .ok (.if_icmp .lt 13, 3) := by decide +kernel
theorem dX3_needNumber_9 : decode cX3_needNumber 9 = .ok (.new 206, 3) := by decide +kernel
theorem dX3_needNumber_12 : decode cX3_needNumber 12 = .ok (.dup, 1) := by decide +kernel
theorem dX3_needNumber_13 : decode cX3_needNumber 13 = .ok (.ldc 208, 2) := by decide +kernel
theorem dX3_needNumber_15 : decode cX3_needNumber 15 = .ok (.invokespecial 210, 3) := by decide +kernel
theorem dX3_needNumber_18 : decode cX3_needNumber 18 = .ok (.athrow, 1) := by decide +kernel
theorem dX3_needNumber_19 : decode cX3_needNumber 19 = .ok (.return_, 1) := by decide +kernel
theorem dX3_needRange_0 : decode cX3_needRange 0 = .ok (.iload_n 0, 1) := by decide +kernel
theorem dX3_needRange_1 : decode cX3_needRange 1 = .ok (.iload_n 1, 1) := by decide +kernel
theorem dX3_needRange_2 : decode cX3_needRange 2 = .ok (.if_icmp .lt 8, 3) := by decide +kernel
theorem dX3_needRange_5 : decode cX3_needRange 5 = .ok (.iload_n 0, 1) := by decide +kernel
theorem dX3_needRange_6 : decode cX3_needRange 6 = .ok (.iload_n 2, 1) := by decide +kernel
theorem dX3_needRange_7 : decode cX3_needRange 7 = .ok (.if_icmp .le 13, 3) := by decide +kernel
theorem dX3_needRange_10 : decode cX3_needRange 10 = .ok (.new 41, 3) := by decide +kernel
theorem dX3_needRange_13 : decode cX3_needRange 13 = .ok (.dup, 1) := by decide +kernel
theorem dX3_needRange_14 : decode cX3_needRange 14 = .ok (.ldc 211, 2) := by decide +kernel
theorem dX3_needRange_16 : decode cX3_needRange 16 = .ok (.invokespecial 45, 3) := by decide +kernel
theorem dX3_needRange_19 : decode cX3_needRange 19 = .ok (.athrow, 1) := by decide +kernel
theorem dX3_needRange_20 : decode cX3_needRange 20 = .ok (.return_, 1) := by decide +kernel
theorem dX3_wordOf_0 : decode cX3_wordOf 0 = .ok (.iload_n 0, 1) := by decide +kernel
theorem dX3_wordOf_1 : decode cX3_wordOf 1 = .ok (.tableswitch 36 0 2 #[27, 30, 33], 27) := by decide +kernel
theorem dX3_wordOf_28 : decode cX3_wordOf 28 = .ok (.ldc 213, 2) := by decide +kernel
theorem dX3_wordOf_30 : decode cX3_wordOf 30 = .ok (.areturn, 1) := by decide +kernel
theorem dX3_wordOf_31 : decode cX3_wordOf 31 = .ok (.ldc 215, 2) := by decide +kernel
theorem dX3_wordOf_33 : decode cX3_wordOf 33 = .ok (.areturn, 1) := by decide +kernel
theorem dX3_wordOf_34 : decode cX3_wordOf 34 = .ok (.ldc 217, 2) := by decide +kernel
theorem dX3_wordOf_36 : decode cX3_wordOf 36 = .ok (.areturn, 1) := by decide +kernel
theorem dX3_wordOf_37 : decode cX3_wordOf 37 = .ok (.ldc 219, 2) := by decide +kernel
theorem dX3_wordOf_39 : decode cX3_wordOf 39 = .ok (.areturn, 1) := by decide +kernel
set_option maxRecDepth 20000 in
theorem ggX3_typedKind_X3_wordOf : GoodIn wsX3_typedKind wsX3_wordOf := goodIn_r _ [4] (by decide +kernel) (by decide +kernel)
set_option maxRecDepth 20000 in
theorem gX3_typedKind_X3_wordOf : GoodIn wsX3_typedKind (va_wsS RX3 221 yX3_wordOf wsX3_wordOf) := goodIn_app (goodIn_of _ (by decide +kernel)) ggX3_typedKind_X3_wordOf
set_option maxRecDepth 20000 in
theorem ggX3_typedKind_X3_isTyped : GoodIn wsX3_typedKind wsX3_isTyped := goodIn_r _ [8, 9, 10, 11, 12, 13, 14, 15, 16, 17, 18, 19, 20, 21, 22, 23, 24, 25, 26, 27, 28, 29, 30, 31, 32, 33, 34, 35, 36, 37, 38, 39, 40, 41, 42, 43, 44, 45, 46, 47, 48, 49, 50, 51, 52, 53, 54, 55, 56, 57, 58, 59, 60, 61, 62, 63, 64, 65, 66, 67, 68, 69, 70] (by decide +kernel) (by decide +kernel)
set_option maxRecDepth 20000 in
theorem gX3_typedKind_X3_isTyped : GoodIn wsX3_typedKind (wsV RX3 225 RX3 yX3_isTyped wsX3_isTyped) := goodIn_app (goodIn_of _ (by decide +kernel)) ggX3_typedKind_X3_isTyped
theorem dX3_typedKind_0 : decode cX3_typedKind 0 = .ok (.iconst 0, 1) := by decide +kernel
theorem dX3_typedKind_1 : decode cX3_typedKind 1 = .ok (.istore_n 1, 1) := by decide +kernel
theorem dX3_typedKind_2 : decode cX3_typedKind 2 = .ok (.iload_n 1, 1) := by decide +kernel
theorem dX3_typedKind_3 : decode cX3_typedKind 3 = .ok (.iconst 4, 1) := by decide +kernel
theorem dX3_typedKind_4 : decode cX3_typedKind 4 = .ok (.if_icmp .ge 22, 3) := by decide +kernel
theorem dX3_typedKind_7 : decode cX3_typedKind 7 = .ok (.aload_n 0, 1) := by decide +kernel
theorem dX3_typedKind_8 : decode cX3_typedKind 8 = .ok (.iload_n 1, 1) := by decide +kernel
theorem dX3_typedKind_9 : decode cX3_typedKind 9 = .ok (.invokestatic 221, 3) := by decide +kernel
theorem dX3_typedKind_12 : decode cX3_typedKind 12 = .ok (.invokevirtual 225, 3) := by decide +kernel
theorem dX3_typedKind_15 : decode cX3_typedKind 15 = .ok (.ifCond .eq 5, 3) := by decide +kernel
theorem dX3_typedKind_18 : decode cX3_typedKind 18 = .ok (.iload_n 1, 1) := by decide +kernel
theorem dX3_typedKind_19 : decode cX3_typedKind 19 = .ok (.ireturn, 1) := by decide +kernel
theorem dX3_typedKind_20 : decode cX3_typedKind 20 = .ok (.iinc 1 1, 3) := by decide +kernel
theorem dX3_typedKind_23 : decode cX3_typedKind 23 = .ok (.goto (-21), 3) := by decide +kernel
theorem dX3_typedKind_26 : decode cX3_typedKind 26 = .ok (.iconst (-1), 1) := by decide +kernel
theorem dX3_typedKind_27 : decode cX3_typedKind 27 = .ok (.ireturn, 1) := by decide +kernel
set_option maxRecDepth 20000 in
theorem ggX3_isTyped_J0_length_8abf5 : GoodIn wsX3_isTyped wsJ0_length_8abf5 := goodIn_r _ [7, 8, 9, 10, 11, 6, 12, 13, 14] (by decide +kernel) (by decide +kernel)
set_option maxRecDepth 20000 in
theorem gX3_isTyped_J0_length_8abf5 : GoodIn wsX3_isTyped (wsV RX3 229 RJ0 yJ0_length_8abf5 wsJ0_length_8abf5) := goodIn_app (goodIn_of _ (by decide +kernel)) ggX3_isTyped_J0_length_8abf5
set_option maxRecDepth 20000 in
theorem ggX3_isTyped_J0_charAt_5068e : GoodIn wsX3_isTyped wsJ0_charAt_5068e := goodIn_r _ [18, 8, 19, 20, 21, 6, 22, 13, 14, 23, 24, 25, 26, 27, 28, 29, 30, 31, 32, 33, 34, 35, 36, 37, 38, 39, 40, 41, 42, 43, 44, 45, 46, 47, 48, 49, 50, 51] (by decide +kernel) (by decide +kernel)
set_option maxRecDepth 20000 in
theorem gX3_isTyped_J0_charAt_5068e : GoodIn wsX3_isTyped (wsV RX3 234 RJ0 yJ0_charAt_5068e wsJ0_charAt_5068e) := goodIn_app (goodIn_of _ (by decide +kernel)) ggX3_isTyped_J0_charAt_5068e
theorem dX3_isTyped_0 : decode cX3_isTyped 0 = .ok (.aload_n 1, 1) := by decide +kernel
theorem dX3_isTyped_1 : decode cX3_isTyped 1 = .ok (.invokevirtual 229, 3) := by decide +kernel
theorem dX3_isTyped_4 : decode cX3_isTyped 4 = .ok (.aload_n 0, 1) := by decide +kernel
theorem dX3_isTyped_5 : decode cX3_isTyped 5 = .ok (.getfield 48, 3) := by decide +kernel
theorem dX3_isTyped_8 : decode cX3_isTyped 8 = .ok (.if_icmp .eq 5, 3) := by decide +kernel
theorem dX3_isTyped_11 : decode cX3_isTyped 11 = .ok (.iconst 0, 1) := by decide +kernel
theorem dX3_isTyped_12 : decode cX3_isTyped 12 = .ok (.ireturn, 1) := by decide +kernel
theorem dX3_isTyped_13 : decode cX3_isTyped 13 = .ok (.iconst 0, 1) := by decide +kernel
theorem dX3_isTyped_14 : decode cX3_isTyped 14 = .ok (.istore_n 2, 1) := by decide +kernel
theorem dX3_isTyped_15 : decode cX3_isTyped 15 = .ok (.iload_n 2, 1) := by decide +kernel
theorem dX3_isTyped_16 : decode cX3_isTyped 16 = .ok (.aload_n 0, 1) := by decide +kernel
theorem dX3_isTyped_17 : decode cX3_isTyped 17 = .ok (.getfield 48, 3) := by decide +kernel
theorem dX3_isTyped_20 : decode cX3_isTyped 20 = .ok (.if_icmp .ge 25, 3) := by decide +kernel
theorem dX3_isTyped_23 : decode cX3_isTyped 23 = .ok (.aload_n 1, 1) := by decide +kernel
theorem dX3_isTyped_24 : decode cX3_isTyped 24 = .ok (.iload_n 2, 1) := by decide +kernel
theorem dX3_isTyped_25 : decode cX3_isTyped 25 = .ok (.invokevirtual 234, 3) := by decide +kernel
theorem dX3_isTyped_28 : decode cX3_isTyped 28 = .ok (.aload_n 0, 1) := by decide +kernel
theorem dX3_isTyped_29 : decode cX3_isTyped 29 = .ok (.getfield 9, 3) := by decide +kernel
theorem dX3_isTyped_32 : decode cX3_isTyped 32 = .ok (.iload_n 2, 1) := by decide +kernel
theorem dX3_isTyped_33 : decode cX3_isTyped 33 = .ok (.caload, 1) := by decide +kernel
theorem dX3_isTyped_34 : decode cX3_isTyped 34 = .ok (.if_icmp .eq 5, 3) := by decide +kernel
theorem dX3_isTyped_37 : decode cX3_isTyped 37 = .ok (.iconst 0, 1) := by decide +kernel
theorem dX3_isTyped_38 : decode cX3_isTyped 38 = .ok (.ireturn, 1) := by decide +kernel
theorem dX3_isTyped_39 : decode cX3_isTyped 39 = .ok (.iinc 2 1, 3) := by decide +kernel
theorem dX3_isTyped_42 : decode cX3_isTyped 42 = .ok (.goto (-27), 3) := by decide +kernel
theorem dX3_isTyped_45 : decode cX3_isTyped 45 = .ok (.iconst 1, 1) := by decide +kernel
theorem dX3_isTyped_46 : decode cX3_isTyped 46 = .ok (.ireturn, 1) := by decide +kernel
set_option maxRecDepth 20000 in
theorem ggX3_ownerOn_X1_valueOn : GoodIn wsX3_ownerOn wsX1_valueOn := goodIn_r _ [6, 7, 8, 9, 10, 22, 23, 24, 25] (by decide +kernel) (by decide +kernel)
set_option maxRecDepth 20000 in
theorem gX3_ownerOn_X1_valueOn : GoodIn wsX3_ownerOn (wsV RX3 71 RX1 yX1_valueOn wsX1_valueOn) := goodIn_app (goodIn_of _ (by decide +kernel)) ggX3_ownerOn_X1_valueOn
theorem dX3_ownerOn_0 : decode cX3_ownerOn 0 = .ok (.iload_n 1, 1) := by decide +kernel
theorem dX3_ownerOn_1 : decode cX3_ownerOn 1 = .ok (.istore_n 3, 1) := by decide +kernel
theorem dX3_ownerOn_2 : decode cX3_ownerOn 2 = .ok (.iconst 0, 1) := by decide +kernel
theorem dX3_ownerOn_3 : decode cX3_ownerOn 3 = .ok (.istore 4, 2) := by decide +kernel
theorem dX3_ownerOn_5 : decode cX3_ownerOn 5 = .ok (.iload 4, 2) := by decide +kernel
theorem dX3_ownerOn_7 : decode cX3_ownerOn 7 = .ok (.bipush 10, 2) := by decide +kernel
theorem dX3_ownerOn_9 : decode cX3_ownerOn 9 = .ok (.if_icmp .ge 32, 3) := by decide +kernel
theorem dX3_ownerOn_12 : decode cX3_ownerOn 12 = .ok (.aload_n 0, 1) := by decide +kernel
theorem dX3_ownerOn_13 : decode cX3_ownerOn 13 = .ok (.getfield 20, 3) := by decide +kernel
theorem dX3_ownerOn_16 : decode cX3_ownerOn 16 = .ok (.iload_n 3, 1) := by decide +kernel
theorem dX3_ownerOn_17 : decode cX3_ownerOn 17 = .ok (.iload_n 2, 1) := by decide +kernel
theorem dX3_ownerOn_18 : decode cX3_ownerOn 18 = .ok (.iconst (-1), 1) := by decide +kernel
theorem dX3_ownerOn_19 : decode cX3_ownerOn 19 = .ok (.invokevirtual 71, 3) := by decide +kernel
theorem dX3_ownerOn_22 : decode cX3_ownerOn 22 = .ok (.istore 5, 2) := by decide +kernel
theorem dX3_ownerOn_24 : decode cX3_ownerOn 24 = .ok (.iload 5, 2) := by decide +kernel
theorem dX3_ownerOn_26 : decode cX3_ownerOn 26 = .ok (.iconst (-1), 1) := by decide +kernel
theorem dX3_ownerOn_27 : decode cX3_ownerOn 27 = .ok (.if_icmp .ne 5, 3) := by decide +kernel
theorem dX3_ownerOn_30 : decode cX3_ownerOn 30 = .ok (.iload_n 3, 1) := by decide +kernel
theorem dX3_ownerOn_31 : decode cX3_ownerOn 31 = .ok (.ireturn, 1) := by decide +kernel
theorem dX3_ownerOn_32 : decode cX3_ownerOn 32 = .ok (.iload 5, 2) := by decide +kernel
theorem dX3_ownerOn_34 : decode cX3_ownerOn 34 = .ok (.istore_n 3, 1) := by decide +kernel
theorem dX3_ownerOn_35 : decode cX3_ownerOn 35 = .ok (.iinc 4 1, 3) := by decide +kernel
theorem dX3_ownerOn_38 : decode cX3_ownerOn 38 = .ok (.goto (-33), 3) := by decide +kernel
theorem dX3_ownerOn_41 : decode cX3_ownerOn 41 = .ok (.iload_n 3, 1) := by decide +kernel
theorem dX3_ownerOn_42 : decode cX3_ownerOn 42 = .ok (.ireturn, 1) := by decide +kernel
theorem dX3_climbFrom_0 : decode cX3_climbFrom 0 = .ok (.iload_n 1, 1) := by decide +kernel
theorem dX3_climbFrom_1 : decode cX3_climbFrom 1 = .ok (.istore_n 3, 1) := by decide +kernel
theorem dX3_climbFrom_2 : decode cX3_climbFrom 2 = .ok (.iconst 0, 1) := by decide +kernel
theorem dX3_climbFrom_3 : decode cX3_climbFrom 3 = .ok (.istore 4, 2) := by decide +kernel
theorem dX3_climbFrom_5 : decode cX3_climbFrom 5 = .ok (.iload 4, 2) := by decide +kernel
theorem dX3_climbFrom_7 : decode cX3_climbFrom 7 = .ok (.iload_n 2, 1) := by decide +kernel
theorem dX3_climbFrom_8 : decode cX3_climbFrom 8 = .ok (.if_icmp .ge 26, 3) := by decide +kernel
theorem dX3_climbFrom_11 : decode cX3_climbFrom 11 = .ok (.aload_n 0, 1) := by decide +kernel
theorem dX3_climbFrom_12 : decode cX3_climbFrom 12 = .ok (.getfield 13, 3) := by decide +kernel
theorem dX3_climbFrom_15 : decode cX3_climbFrom 15 = .ok (.iload_n 3, 1) := by decide +kernel
theorem dX3_climbFrom_16 : decode cX3_climbFrom 16 = .ok (.iaload, 1) := by decide +kernel
theorem dX3_climbFrom_17 : decode cX3_climbFrom 17 = .ok (.iconst (-1), 1) := by decide +kernel
theorem dX3_climbFrom_18 : decode cX3_climbFrom 18 = .ok (.if_icmp .eq 16, 3) := by decide +kernel
theorem dX3_climbFrom_21 : decode cX3_climbFrom 21 = .ok (.aload_n 0, 1) := by decide +kernel
theorem dX3_climbFrom_22 : decode cX3_climbFrom 22 = .ok (.getfield 13, 3) := by decide +kernel
theorem dX3_climbFrom_25 : decode cX3_climbFrom 25 = .ok (.iload_n 3, 1) := by decide +kernel
theorem dX3_climbFrom_26 : decode cX3_climbFrom 26 = .ok (.iaload, 1) := by decide +kernel
theorem dX3_climbFrom_27 : decode cX3_climbFrom 27 = .ok (.istore_n 3, 1) := by decide +kernel
theorem dX3_climbFrom_28 : decode cX3_climbFrom 28 = .ok (.iinc 4 1, 3) := by decide +kernel
theorem dX3_climbFrom_31 : decode cX3_climbFrom 31 = .ok (.goto (-26), 3) := by decide +kernel
theorem dX3_climbFrom_34 : decode cX3_climbFrom 34 = .ok (.iload_n 3, 1) := by decide +kernel
theorem dX3_climbFrom_35 : decode cX3_climbFrom 35 = .ok (.ireturn, 1) := by decide +kernel
theorem dX3_complaintToJoin_0 : decode cX3_complaintToJoin 0 = .ok (.iconst 0, 1) := by decide +kernel
theorem dX3_complaintToJoin_1 : decode cX3_complaintToJoin 1 = .ok (.istore_n 2, 1) := by decide +kernel
theorem dX3_complaintToJoin_2 : decode cX3_complaintToJoin 2 = .ok (.iload_n 2, 1) := by decide +kernel
theorem dX3_complaintToJoin_3 : decode cX3_complaintToJoin 3 = .ok (.aload_n 0, 1) := by decide +kernel
theorem dX3_complaintToJoin_4 : decode cX3_complaintToJoin 4 = .ok (.getfield 127, 3) := by decide +kernel
theorem dX3_complaintToJoin_7 : decode cX3_complaintToJoin 7 = .ok (.if_icmp .ge 37, 3) := by decide +kernel
theorem dX3_complaintToJoin_10 : decode cX3_complaintToJoin 10 = .ok (.aload_n 0, 1) := by decide +kernel
theorem dX3_complaintToJoin_11 : decode cX3_complaintToJoin 11 = .ok (.getfield 36, 3) := by decide +kernel
theorem dX3_complaintToJoin_14 : decode cX3_complaintToJoin 14 = .ok (.iload_n 2, 1) := by decide +kernel
theorem dX3_complaintToJoin_15 : decode cX3_complaintToJoin 15 = .ok (.aaload, 1) := by decide +kernel
theorem dX3_complaintToJoin_16 : decode cX3_complaintToJoin 16 = .ok (.getfield 141, 3) := by decide +kernel
theorem dX3_complaintToJoin_19 : decode cX3_complaintToJoin 19 = .ok (.iload_n 1, 1) := by decide +kernel
theorem dX3_complaintToJoin_20 : decode cX3_complaintToJoin 20 = .ok (.if_icmp .ne 18, 3) := by decide +kernel
theorem dX3_complaintToJoin_23 : decode cX3_complaintToJoin 23 = .ok (.aload_n 0, 1) := by decide +kernel
theorem dX3_complaintToJoin_24 : decode cX3_complaintToJoin 24 = .ok (.getfield 36, 3) := by decide +kernel
theorem dX3_complaintToJoin_27 : decode cX3_complaintToJoin 27 = .ok (.iload_n 2, 1) := by decide +kernel
theorem dX3_complaintToJoin_28 : decode cX3_complaintToJoin 28 = .ok (.aaload, 1) := by decide +kernel
theorem dX3_complaintToJoin_29 : decode cX3_complaintToJoin 29 = .ok (.getfield 130, 3) := by decide +kernel
theorem dX3_complaintToJoin_32 : decode cX3_complaintToJoin 32 = .ok (.iconst 2, 1) := by decide +kernel
theorem dX3_complaintToJoin_33 : decode cX3_complaintToJoin 33 = .ok (.if_icmp .eq 5, 3) := by decide +kernel
theorem dX3_complaintToJoin_36 : decode cX3_complaintToJoin 36 = .ok (.iload_n 2, 1) := by decide +kernel
theorem dX3_complaintToJoin_37 : decode cX3_complaintToJoin 37 = .ok (.ireturn, 1) := by decide +kernel
theorem dX3_complaintToJoin_38 : decode cX3_complaintToJoin 38 = .ok (.iinc 2 1, 3) := by decide +kernel
theorem dX3_complaintToJoin_41 : decode cX3_complaintToJoin 41 = .ok (.goto (-39), 3) := by decide +kernel
theorem dX3_complaintToJoin_44 : decode cX3_complaintToJoin 44 = .ok (.iconst (-1), 1) := by decide +kernel
theorem dX3_complaintToJoin_45 : decode cX3_complaintToJoin 45 = .ok (.ireturn, 1) := by decide +kernel
set_option maxRecDepth 20000 in
theorem ggX3_beginComplaint_X2_begin : GoodIn wsX3_beginComplaint wsX2_begin := goodIn_r _ [9, 10, 11, 12, 13, 14, 26, 27, 28, 29, 30, 31, 32, 33] (by decide +kernel) (by decide +kernel)
set_option maxRecDepth 20000 in
theorem gX3_beginComplaint_X2_begin : GoodIn wsX3_beginComplaint (wsV RX3 240 RX2 yX2_begin wsX2_begin) := goodIn_app (goodIn_of _ (by decide +kernel)) ggX3_beginComplaint_X2_begin
theorem dX3_beginComplaint_0 : decode cX3_beginComplaint 0 = .ok (.aload_n 0, 1) := by decide +kernel
theorem dX3_beginComplaint_1 : decode cX3_beginComplaint 1 = .ok (.getfield 127, 3) := by decide +kernel
theorem dX3_beginComplaint_4 : decode cX3_beginComplaint 4 = .ok (.bipush 16, 2) := by decide +kernel
theorem dX3_beginComplaint_6 : decode cX3_beginComplaint 6 = .ok (.if_icmp .lt 13, 3) := by decide +kernel
theorem dX3_beginComplaint_9 : decode cX3_beginComplaint 9 = .ok (.new 52, 3) := by decide +kernel
theorem dX3_beginComplaint_12 : decode cX3_beginComplaint 12 = .ok (.dup, 1) := by decide +kernel
theorem dX3_beginComplaint_13 : decode cX3_beginComplaint 13 = .ok (.ldc 238, 2) := by decide +kernel
theorem dX3_beginComplaint_15 : decode cX3_beginComplaint 15 = .ok (.invokespecial 56, 3) := by decide +kernel
theorem dX3_beginComplaint_18 : decode cX3_beginComplaint 18 = .ok (.athrow, 1) := by decide +kernel
theorem dX3_beginComplaint_19 : decode cX3_beginComplaint 19 = .ok (.aload_n 0, 1) := by decide +kernel
theorem dX3_beginComplaint_20 : decode cX3_beginComplaint 20 = .ok (.getfield 127, 3) := by decide +kernel
theorem dX3_beginComplaint_23 : decode cX3_beginComplaint 23 = .ok (.istore_n 2, 1) := by decide +kernel
theorem dX3_beginComplaint_24 : decode cX3_beginComplaint 24 = .ok (.aload_n 0, 1) := by decide +kernel
theorem dX3_beginComplaint_25 : decode cX3_beginComplaint 25 = .ok (.getfield 36, 3) := by decide +kernel
theorem dX3_beginComplaint_28 : decode cX3_beginComplaint 28 = .ok (.iload_n 2, 1) := by decide +kernel
theorem dX3_beginComplaint_29 : decode cX3_beginComplaint 29 = .ok (.aaload, 1) := by decide +kernel
theorem dX3_beginComplaint_30 : decode cX3_beginComplaint 30 = .ok (.iload_n 1, 1) := by decide +kernel
theorem dX3_beginComplaint_31 : decode cX3_beginComplaint 31 = .ok (.invokevirtual 240, 3) := by decide +kernel
theorem dX3_beginComplaint_34 : decode cX3_beginComplaint 34 = .ok (.aload_n 0, 1) := by decide +kernel
theorem dX3_beginComplaint_35 : decode cX3_beginComplaint 35 = .ok (.dup, 1) := by decide +kernel
theorem dX3_beginComplaint_36 : decode cX3_beginComplaint 36 = .ok (.getfield 127, 3) := by decide +kernel
theorem dX3_beginComplaint_39 : decode cX3_beginComplaint 39 = .ok (.iconst 1, 1) := by decide +kernel
theorem dX3_beginComplaint_40 : decode cX3_beginComplaint 40 = .ok (.iadd, 1) := by decide +kernel
theorem dX3_beginComplaint_41 : decode cX3_beginComplaint 41 = .ok (.putfield 127, 3) := by decide +kernel
theorem dX3_beginComplaint_44 : decode cX3_beginComplaint 44 = .ok (.iload_n 2, 1) := by decide +kernel
theorem dX3_beginComplaint_45 : decode cX3_beginComplaint 45 = .ok (.ireturn, 1) := by decide +kernel
theorem dX3_isLike_0 : decode cX3_isLike 0 = .ok (.iload_n 1, 1) := by decide +kernel
theorem dX3_isLike_1 : decode cX3_isLike 1 = .ok (.iload_n 2, 1) := by decide +kernel
theorem dX3_isLike_2 : decode cX3_isLike 2 = .ok (.if_icmp .eq 49, 3) := by decide +kernel
theorem dX3_isLike_5 : decode cX3_isLike 5 = .ok (.aload_n 0, 1) := by decide +kernel
theorem dX3_isLike_6 : decode cX3_isLike 6 = .ok (.getfield 29, 3) := by decide +kernel
theorem dX3_isLike_9 : decode cX3_isLike 9 = .ok (.iload_n 1, 1) := by decide +kernel
theorem dX3_isLike_10 : decode cX3_isLike 10 = .ok (.aaload, 1) := by decide +kernel
theorem dX3_isLike_11 : decode cX3_isLike 11 = .ok (.getfield 196, 3) := by decide +kernel
theorem dX3_isLike_14 : decode cX3_isLike 14 = .ok (.aload_n 0, 1) := by decide +kernel
theorem dX3_isLike_15 : decode cX3_isLike 15 = .ok (.getfield 29, 3) := by decide +kernel
theorem dX3_isLike_18 : decode cX3_isLike 18 = .ok (.iload_n 2, 1) := by decide +kernel
theorem dX3_isLike_19 : decode cX3_isLike 19 = .ok (.aaload, 1) := by decide +kernel
theorem dX3_isLike_20 : decode cX3_isLike 20 = .ok (.getfield 196, 3) := by decide +kernel
theorem dX3_isLike_23 : decode cX3_isLike 23 = .ok (.if_icmp .ne 28, 3) := by decide +kernel
theorem dX3_isLike_26 : decode cX3_isLike 26 = .ok (.aload_n 0, 1) := by decide +kernel
theorem dX3_isLike_27 : decode cX3_isLike 27 = .ok (.getfield 29, 3) := by decide +kernel
theorem dX3_isLike_30 : decode cX3_isLike 30 = .ok (.iload_n 1, 1) := by decide +kernel
theorem dX3_isLike_31 : decode cX3_isLike 31 = .ok (.aaload, 1) := by decide +kernel
theorem dX3_isLike_32 : decode cX3_isLike 32 = .ok (.getfield 144, 3) := by decide +kernel
theorem dX3_isLike_35 : decode cX3_isLike 35 = .ok (.aload_n 0, 1) := by decide +kernel
theorem dX3_isLike_36 : decode cX3_isLike 36 = .ok (.getfield 29, 3) := by decide +kernel
theorem dX3_isLike_39 : decode cX3_isLike 39 = .ok (.iload_n 2, 1) := by decide +kernel
theorem dX3_isLike_40 : decode cX3_isLike 40 = .ok (.aaload, 1) := by decide +kernel
theorem dX3_isLike_41 : decode cX3_isLike 41 = .ok (.getfield 144, 3) := by decide +kernel
theorem dX3_isLike_44 : decode cX3_isLike 44 = .ok (.if_icmp .ne 7, 3) := by decide +kernel
theorem dX3_isLike_47 : decode cX3_isLike 47 = .ok (.iconst 1, 1) := by decide +kernel
theorem dX3_isLike_48 : decode cX3_isLike 48 = .ok (.goto 4, 3) := by decide +kernel
theorem dX3_isLike_51 : decode cX3_isLike 51 = .ok (.iconst 0, 1) := by decide +kernel
theorem dX3_isLike_52 : decode cX3_isLike 52 = .ok (.ireturn, 1) := by decide +kernel
set_option maxRecDepth 20000 in
theorem ggX3_countLikes_X3_isLike : GoodIn wsX3_countLikes wsX3_isLike := goodIn_r _ [6, 7, 8, 9, 10, 11, 12, 13, 14, 15, 16, 17, 18, 19, 20, 21, 22, 23, 24, 25, 26, 27, 28, 29] (by decide +kernel) (by decide +kernel)
set_option maxRecDepth 20000 in
theorem gX3_countLikes_X3_isLike : GoodIn wsX3_countLikes (wsV RX3 164 RX3 yX3_isLike wsX3_isLike) := goodIn_app (goodIn_of _ (by decide +kernel)) ggX3_countLikes_X3_isLike
theorem dX3_countLikes_0 : decode cX3_countLikes 0 = .ok (.iconst 0, 1) := by decide +kernel
theorem dX3_countLikes_1 : decode cX3_countLikes 1 = .ok (.istore_n 2, 1) := by decide +kernel
theorem dX3_countLikes_2 : decode cX3_countLikes 2 = .ok (.iconst 0, 1) := by decide +kernel
theorem dX3_countLikes_3 : decode cX3_countLikes 3 = .ok (.istore_n 3, 1) := by decide +kernel
theorem dX3_countLikes_4 : decode cX3_countLikes 4 = .ok (.iload_n 3, 1) := by decide +kernel
theorem dX3_countLikes_5 : decode cX3_countLikes 5 = .ok (.aload_n 0, 1) := by decide +kernel
theorem dX3_countLikes_6 : decode cX3_countLikes 6 = .ok (.getfield 86, 3) := by decide +kernel
theorem dX3_countLikes_9 : decode cX3_countLikes 9 = .ok (.if_icmp .ge 21, 3) := by decide +kernel
theorem dX3_countLikes_12 : decode cX3_countLikes 12 = .ok (.aload_n 0, 1) := by decide +kernel
theorem dX3_countLikes_13 : decode cX3_countLikes 13 = .ok (.iload_n 1, 1) := by decide +kernel
theorem dX3_countLikes_14 : decode cX3_countLikes 14 = .ok (.iload_n 3, 1) := by decide +kernel
theorem dX3_countLikes_15 : decode cX3_countLikes 15 = .ok (.invokevirtual 164, 3) := by decide +kernel
theorem dX3_countLikes_18 : decode cX3_countLikes 18 = .ok (.ifCond .eq 6, 3) := by decide +kernel
theorem dX3_countLikes_21 : decode cX3_countLikes 21 = .ok (.iinc 2 1, 3) := by decide +kernel
theorem dX3_countLikes_24 : decode cX3_countLikes 24 = .ok (.iinc 3 1, 3) := by decide +kernel
theorem dX3_countLikes_27 : decode cX3_countLikes 27 = .ok (.goto (-23), 3) := by decide +kernel
theorem dX3_countLikes_30 : decode cX3_countLikes 30 = .ok (.iload_n 2, 1) := by decide +kernel
theorem dX3_countLikes_31 : decode cX3_countLikes 31 = .ok (.ireturn, 1) := by decide +kernel
set_option maxRecDepth 20000 in
theorem ggX3_sumOfLikes_X3_isLike : GoodIn wsX3_sumOfLikes wsX3_isLike := goodIn_r _ [8, 2, 9, 10, 11, 12, 13, 14, 15, 16, 17, 18, 19, 20, 21, 22, 23, 24, 25, 26, 27, 28, 29, 30] (by decide +kernel) (by decide +kernel)
set_option maxRecDepth 20000 in
theorem gX3_sumOfLikes_X3_isLike : GoodIn wsX3_sumOfLikes (wsV RX3 164 RX3 yX3_isLike wsX3_isLike) := goodIn_app (goodIn_of _ (by decide +kernel)) ggX3_sumOfLikes_X3_isLike
theorem dX3_sumOfLikes_0 : decode cX3_sumOfLikes 0 = .ok (.iconst 0, 1) := by decide +kernel
theorem dX3_sumOfLikes_1 : decode cX3_sumOfLikes 1 = .ok (.istore_n 2, 1) := by decide +kernel
theorem dX3_sumOfLikes_2 : decode cX3_sumOfLikes 2 = .ok (.iconst 0, 1) := by decide +kernel
theorem dX3_sumOfLikes_3 : decode cX3_sumOfLikes 3 = .ok (.istore_n 3, 1) := by decide +kernel
theorem dX3_sumOfLikes_4 : decode cX3_sumOfLikes 4 = .ok (.iload_n 3, 1) := by decide +kernel
theorem dX3_sumOfLikes_5 : decode cX3_sumOfLikes 5 = .ok (.aload_n 0, 1) := by decide +kernel
theorem dX3_sumOfLikes_6 : decode cX3_sumOfLikes 6 = .ok (.getfield 86, 3) := by decide +kernel
theorem dX3_sumOfLikes_9 : decode cX3_sumOfLikes 9 = .ok (.if_icmp .ge 30, 3) := by decide +kernel
theorem dX3_sumOfLikes_12 : decode cX3_sumOfLikes 12 = .ok (.aload_n 0, 1) := by decide +kernel
theorem dX3_sumOfLikes_13 : decode cX3_sumOfLikes 13 = .ok (.iload_n 1, 1) := by decide +kernel
theorem dX3_sumOfLikes_14 : decode cX3_sumOfLikes 14 = .ok (.iload_n 3, 1) := by decide +kernel
theorem dX3_sumOfLikes_15 : decode cX3_sumOfLikes 15 = .ok (.invokevirtual 164, 3) := by decide +kernel
theorem dX3_sumOfLikes_18 : decode cX3_sumOfLikes 18 = .ok (.ifCond .eq 15, 3) := by decide +kernel
theorem dX3_sumOfLikes_21 : decode cX3_sumOfLikes 21 = .ok (.iload_n 2, 1) := by decide +kernel
theorem dX3_sumOfLikes_22 : decode cX3_sumOfLikes 22 = .ok (.aload_n 0, 1) := by decide +kernel
theorem dX3_sumOfLikes_23 : decode cX3_sumOfLikes 23 = .ok (.getfield 29, 3) := by decide +kernel
theorem dX3_sumOfLikes_26 : decode cX3_sumOfLikes 26 = .ok (.iload_n 3, 1) := by decide +kernel
theorem dX3_sumOfLikes_27 : decode cX3_sumOfLikes 27 = .ok (.aaload, 1) := by decide +kernel
theorem dX3_sumOfLikes_28 : decode cX3_sumOfLikes 28 = .ok (.getfield 199, 3) := by decide +kernel
theorem dX3_sumOfLikes_31 : decode cX3_sumOfLikes 31 = .ok (.iadd, 1) := by decide +kernel
theorem dX3_sumOfLikes_32 : decode cX3_sumOfLikes 32 = .ok (.istore_n 2, 1) := by decide +kernel
theorem dX3_sumOfLikes_33 : decode cX3_sumOfLikes 33 = .ok (.iinc 3 1, 3) := by decide +kernel
theorem dX3_sumOfLikes_36 : decode cX3_sumOfLikes 36 = .ok (.goto (-32), 3) := by decide +kernel
theorem dX3_sumOfLikes_39 : decode cX3_sumOfLikes 39 = .ok (.iload_n 2, 1) := by decide +kernel
theorem dX3_sumOfLikes_40 : decode cX3_sumOfLikes 40 = .ok (.ireturn, 1) := by decide +kernel
set_option maxRecDepth 20000 in
theorem ggX3_failsRule_X1_valueOn : GoodIn wsX3_failsRule wsX1_valueOn := goodIn_r _ [10, 11, 12, 13, 14, 35, 36, 37, 38] (by decide +kernel) (by decide +kernel)
set_option maxRecDepth 20000 in
theorem gX3_failsRule_X1_valueOn : GoodIn wsX3_failsRule (wsV RX3 71 RX1 yX1_valueOn wsX1_valueOn) := goodIn_app (goodIn_of _ (by decide +kernel)) ggX3_failsRule_X1_valueOn
theorem dX3_failsRule_0 : decode cX3_failsRule 0 = .ok (.aload_n 0, 1) := by decide +kernel
theorem dX3_failsRule_1 : decode cX3_failsRule 1 = .ok (.getfield 29, 3) := by decide +kernel
theorem dX3_failsRule_4 : decode cX3_failsRule 4 = .ok (.iload_n 1, 1) := by decide +kernel
theorem dX3_failsRule_5 : decode cX3_failsRule 5 = .ok (.aaload, 1) := by decide +kernel
theorem dX3_failsRule_6 : decode cX3_failsRule 6 = .ok (.getfield 199, 3) := by decide +kernel
theorem dX3_failsRule_9 : decode cX3_failsRule 9 = .ok (.aload_n 0, 1) := by decide +kernel
theorem dX3_failsRule_10 : decode cX3_failsRule 10 = .ok (.getfield 24, 3) := by decide +kernel
theorem dX3_failsRule_13 : decode cX3_failsRule 13 = .ok (.aload_n 0, 1) := by decide +kernel
theorem dX3_failsRule_14 : decode cX3_failsRule 14 = .ok (.getfield 29, 3) := by decide +kernel
theorem dX3_failsRule_17 : decode cX3_failsRule 17 = .ok (.iload_n 1, 1) := by decide +kernel
theorem dX3_failsRule_18 : decode cX3_failsRule 18 = .ok (.aaload, 1) := by decide +kernel
theorem dX3_failsRule_19 : decode cX3_failsRule 19 = .ok (.getfield 196, 3) := by decide +kernel
theorem dX3_failsRule_22 : decode cX3_failsRule 22 = .ok (.aload_n 0, 1) := by decide +kernel
theorem dX3_failsRule_23 : decode cX3_failsRule 23 = .ok (.getfield 29, 3) := by decide +kernel
theorem dX3_failsRule_26 : decode cX3_failsRule 26 = .ok (.iload_n 1, 1) := by decide +kernel
theorem dX3_failsRule_27 : decode cX3_failsRule 27 = .ok (.aaload, 1) := by decide +kernel
theorem dX3_failsRule_28 : decode cX3_failsRule 28 = .ok (.getfield 242, 3) := by decide +kernel
theorem dX3_failsRule_31 : decode cX3_failsRule 31 = .ok (.bipush 30, 2) := by decide +kernel
theorem dX3_failsRule_33 : decode cX3_failsRule 33 = .ok (.invokevirtual 71, 3) := by decide +kernel
theorem dX3_failsRule_36 : decode cX3_failsRule 36 = .ok (.if_icmp .le 7, 3) := by decide +kernel
theorem dX3_failsRule_39 : decode cX3_failsRule 39 = .ok (.iconst 1, 1) := by decide +kernel
theorem dX3_failsRule_40 : decode cX3_failsRule 40 = .ok (.goto 4, 3) := by decide +kernel
theorem dX3_failsRule_43 : decode cX3_failsRule 43 = .ok (.iconst 0, 1) := by decide +kernel
theorem dX3_failsRule_44 : decode cX3_failsRule 44 = .ok (.ireturn, 1) := by decide +kernel
set_option maxRecDepth 20000 in
theorem ggX3_isUnequal_X3_countLikes : GoodIn wsX3_isUnequal wsX3_countLikes := goodIn_r _ [7, 8, 9, 10, 11, 6, 12, 1, 13, 14, 19, 20, 21, 22, 23, 24, 25, 26, 27, 28, 29, 30, 31, 32, 33, 34, 35, 36, 37, 38] (by decide +kernel) (by decide +kernel)
set_option maxRecDepth 20000 in
theorem gX3_isUnequal_X3_countLikes : GoodIn wsX3_isUnequal (wsV RX3 190 RX3 yX3_countLikes wsX3_countLikes) := goodIn_app (goodIn_of _ (by decide +kernel)) ggX3_isUnequal_X3_countLikes
set_option maxRecDepth 20000 in
theorem ggX3_isUnequal_X3_sumOfLikes : GoodIn wsX3_isUnequal wsX3_sumOfLikes := goodIn_r _ [18, 8, 1, 2, 9, 10, 11, 6, 12, 13, 14, 19, 20, 21, 22, 23, 24, 25, 26, 27, 28, 29, 30, 31, 32, 33, 34, 35, 36, 37, 38] (by decide +kernel) (by decide +kernel)
set_option maxRecDepth 20000 in
theorem gX3_isUnequal_X3_sumOfLikes : GoodIn wsX3_isUnequal (wsV RX3 245 RX3 yX3_sumOfLikes wsX3_sumOfLikes) := goodIn_app (goodIn_of _ (by decide +kernel)) ggX3_isUnequal_X3_sumOfLikes
theorem dX3_isUnequal_0 : decode cX3_isUnequal 0 = .ok (.aload_n 0, 1) := by decide +kernel
theorem dX3_isUnequal_1 : decode cX3_isUnequal 1 = .ok (.iload_n 1, 1) := by decide +kernel
theorem dX3_isUnequal_2 : decode cX3_isUnequal 2 = .ok (.invokevirtual 190, 3) := by decide +kernel
theorem dX3_isUnequal_5 : decode cX3_isUnequal 5 = .ok (.istore_n 2, 1) := by decide +kernel
theorem dX3_isUnequal_6 : decode cX3_isUnequal 6 = .ok (.iload_n 2, 1) := by decide +kernel
theorem dX3_isUnequal_7 : decode cX3_isUnequal 7 = .ok (.iconst 2, 1) := by decide +kernel
theorem dX3_isUnequal_8 : decode cX3_isUnequal 8 = .ok (.if_icmp .ge 5, 3) := by decide +kernel
theorem dX3_isUnequal_11 : decode cX3_isUnequal 11 = .ok (.iconst 0, 1) := by decide +kernel
theorem dX3_isUnequal_12 : decode cX3_isUnequal 12 = .ok (.ireturn, 1) := by decide +kernel
theorem dX3_isUnequal_13 : decode cX3_isUnequal 13 = .ok (.aload_n 0, 1) := by decide +kernel
theorem dX3_isUnequal_14 : decode cX3_isUnequal 14 = .ok (.iload_n 1, 1) := by decide +kernel
theorem dX3_isUnequal_15 : decode cX3_isUnequal 15 = .ok (.invokevirtual 245, 3) := by decide +kernel
theorem dX3_isUnequal_18 : decode cX3_isUnequal 18 = .ok (.iload_n 2, 1) := by decide +kernel
theorem dX3_isUnequal_19 : decode cX3_isUnequal 19 = .ok (.idiv, 1) := by decide +kernel
theorem dX3_isUnequal_20 : decode cX3_isUnequal 20 = .ok (.istore_n 3, 1) := by decide +kernel
theorem dX3_isUnequal_21 : decode cX3_isUnequal 21 = .ok (.aload_n 0, 1) := by decide +kernel
theorem dX3_isUnequal_22 : decode cX3_isUnequal 22 = .ok (.getfield 29, 3) := by decide +kernel
theorem dX3_isUnequal_25 : decode cX3_isUnequal 25 = .ok (.iload_n 1, 1) := by decide +kernel
theorem dX3_isUnequal_26 : decode cX3_isUnequal 26 = .ok (.aaload, 1) := by decide +kernel
theorem dX3_isUnequal_27 : decode cX3_isUnequal 27 = .ok (.getfield 199, 3) := by decide +kernel
theorem dX3_isUnequal_30 : decode cX3_isUnequal 30 = .ok (.iconst 2, 1) := by decide +kernel
theorem dX3_isUnequal_31 : decode cX3_isUnequal 31 = .ok (.iload_n 3, 1) := by decide +kernel
theorem dX3_isUnequal_32 : decode cX3_isUnequal 32 = .ok (.imul, 1) := by decide +kernel
theorem dX3_isUnequal_33 : decode cX3_isUnequal 33 = .ok (.if_icmp .le 7, 3) := by decide +kernel
theorem dX3_isUnequal_36 : decode cX3_isUnequal 36 = .ok (.iconst 1, 1) := by decide +kernel
theorem dX3_isUnequal_37 : decode cX3_isUnequal 37 = .ok (.goto 4, 3) := by decide +kernel
theorem dX3_isUnequal_40 : decode cX3_isUnequal 40 = .ok (.iconst 0, 1) := by decide +kernel
theorem dX3_isUnequal_41 : decode cX3_isUnequal 41 = .ok (.ireturn, 1) := by decide +kernel
set_option maxRecDepth 20000 in
theorem ggX3_faultOf_X3_failsRule : GoodIn wsX3_faultOf wsX3_failsRule := goodIn_r _ [5, 6, 7, 8, 9, 10, 11, 12, 13, 14, 15, 16, 17, 18, 19, 38, 39, 40, 41, 42, 43, 44, 45, 46, 47, 48, 49, 50, 51, 52, 53, 54, 55, 56, 57, 58, 59, 60, 61] (by decide +kernel) (by decide +kernel)
set_option maxRecDepth 20000 in
theorem gX3_faultOf_X3_failsRule : GoodIn wsX3_faultOf (wsV RX3 202 RX3 yX3_failsRule wsX3_failsRule) := goodIn_app (goodIn_of _ (by decide +kernel)) ggX3_faultOf_X3_failsRule
set_option maxRecDepth 20000 in
theorem ggX3_faultOf_X3_isUnequal : GoodIn wsX3_faultOf wsX3_isUnequal := goodIn_r _ [23, 6, 7, 24, 25, 26, 4, 27, 28, 29, 30, 31, 32, 9, 33, 34, 35, 36, 37, 38, 39, 40, 41, 42, 43, 44, 45, 46, 47, 48, 49, 50, 51, 52, 53, 54, 55, 56, 57] (by decide +kernel) (by decide +kernel)
set_option maxRecDepth 20000 in
theorem gX3_faultOf_X3_isUnequal : GoodIn wsX3_faultOf (wsV RX3 248 RX3 yX3_isUnequal wsX3_isUnequal) := goodIn_app (goodIn_of _ (by decide +kernel)) ggX3_faultOf_X3_isUnequal
theorem dX3_faultOf_0 : decode cX3_faultOf 0 = .ok (.iconst 0, 1) := by decide +kernel
theorem dX3_faultOf_1 : decode cX3_faultOf 1 = .ok (.istore_n 2, 1) := by decide +kernel
theorem dX3_faultOf_2 : decode cX3_faultOf 2 = .ok (.aload_n 0, 1) := by decide +kernel
theorem dX3_faultOf_3 : decode cX3_faultOf 3 = .ok (.iload_n 1, 1) := by decide +kernel
theorem dX3_faultOf_4 : decode cX3_faultOf 4 = .ok (.invokevirtual 202, 3) := by decide +kernel
theorem dX3_faultOf_7 : decode cX3_faultOf 7 = .ok (.ifCond .eq 6, 3) := by decide +kernel
theorem dX3_faultOf_10 : decode cX3_faultOf 10 = .ok (.iinc 2 1, 3) := by decide +kernel
theorem dX3_faultOf_13 : decode cX3_faultOf 13 = .ok (.aload_n 0, 1) := by decide +kernel
theorem dX3_faultOf_14 : decode cX3_faultOf 14 = .ok (.iload_n 1, 1) := by decide +kernel
theorem dX3_faultOf_15 : decode cX3_faultOf 15 = .ok (.invokevirtual 248, 3) := by decide +kernel
theorem dX3_faultOf_18 : decode cX3_faultOf 18 = .ok (.ifCond .eq 6, 3) := by decide +kernel
theorem dX3_faultOf_21 : decode cX3_faultOf 21 = .ok (.iinc 2 2, 3) := by decide +kernel
theorem dX3_faultOf_24 : decode cX3_faultOf 24 = .ok (.iload_n 2, 1) := by decide +kernel
theorem dX3_faultOf_25 : decode cX3_faultOf 25 = .ok (.ireturn, 1) := by decide +kernel
