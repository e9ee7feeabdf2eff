set_option maxRecDepth 20000 in
theorem ggL_sign_X7_sign : GoodIn wsL_sign wsX7_sign := goodIn_ca (goodIn_ca (goodIn_r _ [7, 8, 9, 10, 11, 12, 13, 14, 6, 15, 16, 17, 18, 19, 20, 21, 22, 23, 24, 25, 26, 27, 28, 29, 30, 31, 32, 33, 34, 35, 36, 37] (by decide +kernel) (by decide +kernel)) (goodIn_sub (fun _ h => List.mem_cons_of_mem _ (List.mem_append_left _ (List.mem_append_right _ h))) (by decide +kernel))) (goodIn_sub (fun _ h => List.mem_cons_of_mem _ (List.mem_append_right _ h)) (by decide +kernel))
set_option maxRecDepth 20000 in
theorem gL_sign_X7_sign : GoodIn wsL_sign (wsV RL 7 RX7 yX7_sign wsX7_sign) := goodIn_app (goodIn_of _ (by decide +kernel)) ggL_sign_X7_sign
theorem dL_sign_0 : decode cL_sign 0 = .ok (.aload_n 2, 1) := by decide +kernel
theorem dL_sign_1 : decode cL_sign 1 = .ok (.iconst 0, 1) := by decide +kernel
theorem dL_sign_2 : decode cL_sign 2 = .ok (.aload_n 0, 1) := by decide +kernel
theorem dL_sign_3 : decode cL_sign 3 = .ok (.iload_n 1, 1) := by decide +kernel
theorem dL_sign_4 : decode cL_sign 4 = .ok (.invokevirtual 7, 3) := by decide +kernel
theorem dL_sign_7 : decode cL_sign 7 = .ok (.i2l, 1) := by decide +kernel
theorem dL_sign_8 : decode cL_sign 8 = .ok (.lastore, 1) := by decide +kernel
theorem dL_sign_9 : decode cL_sign 9 = .ok (.goto 9, 3) := by decide +kernel
theorem dL_sign_12 : decode cL_sign 12 = .ok (.astore_n 3, 1) := by decide +kernel
theorem dL_sign_13 : decode cL_sign 13 = .ok (.iconst 1, 1) := by decide +kernel
theorem dL_sign_14 : decode cL_sign 14 = .ok (.ireturn, 1) := by decide +kernel
theorem dL_sign_15 : decode cL_sign 15 = .ok (.astore_n 3, 1) := by decide +kernel
theorem dL_sign_16 : decode cL_sign 16 = .ok (.iconst 2, 1) := by decide +kernel
theorem dL_sign_17 : decode cL_sign 17 = .ok (.ireturn, 1) := by decide +kernel
theorem dL_sign_18 : decode cL_sign 18 = .ok (.iconst 0, 1) := by decide +kernel
theorem dL_sign_19 : decode cL_sign 19 = .ok (.ireturn, 1) := by decide +kernel
set_option maxRecDepth 20000 in
theorem ggL_unit_X7_unit : GoodIn wsL_unit wsX7_unit := goodIn_ca (goodIn_ca (goodIn_r _ [7, 8, 9, 10, 11, 12, 13, 14, 15, 6, 16, 17, 18, 19, 20, 21, 22, 23, 24, 25, 26, 27, 28, 29, 30, 31, 32, 33, 34, 35, 36, 37, 38, 39, 40, 41, 42, 43, 44, 45, 46, 47, 48, 49, 50, 51, 52, 53, 54, 55, 56, 57, 58, 59, 60, 61, 62, 63, 64, 65, 66, 67, 68, 69, 70, 71, 72, 73, 74, 75, 76, 77, 78, 79, 80, 81, 82, 83, 84, 85, 86, 87, 88, 89, 90, 91, 92, 93, 94, 95, 96, 97, 98, 99, 100, 101, 102, 103, 104, 105, 106, 107, 108, 109, 110, 111, 112, 113, 114, 115, 116, 117, 118] (by decide +kernel) (by decide +kernel)) (goodIn_sub (fun _ h => List.mem_cons_of_mem _ (List.mem_append_left _ (List.mem_append_right _ h))) (by decide +kernel))) (goodIn_sub (fun _ h => List.mem_cons_of_mem _ (List.mem_append_right _ h)) (by decide +kernel))
set_option maxRecDepth 20000 in
theorem gL_unit_X7_unit : GoodIn wsL_unit (wsV RL 17 RX7 yX7_unit wsX7_unit) := goodIn_app (goodIn_of _ (by decide +kernel)) ggL_unit_X7_unit
theorem dL_unit_0 : decode cL_unit 0 = .ok (.aload 4, 2) := by decide +kernel
theorem dL_unit_2 : decode cL_unit 2 = .ok (.iconst 0, 1) := by decide +kernel
theorem dL_unit_3 : decode cL_unit 3 = .ok (.aload_n 0, 1) := by decide +kernel
theorem dL_unit_4 : decode cL_unit 4 = .ok (.iload_n 1, 1) := by decide +kernel
theorem dL_unit_5 : decode cL_unit 5 = .ok (.iload_n 2, 1) := by decide +kernel
theorem dL_unit_6 : decode cL_unit 6 = .ok (.iload_n 3, 1) := by decide +kernel
theorem dL_unit_7 : decode cL_unit 7 = .ok (.invokevirtual 17, 3) := by decide +kernel
theorem dL_unit_10 : decode cL_unit 10 = .ok (.i2l, 1) := by decide +kernel
theorem dL_unit_11 : decode cL_unit 11 = .ok (.lastore, 1) := by decide +kernel
theorem dL_unit_12 : decode cL_unit 12 = .ok (.goto 11, 3) := by decide +kernel
theorem dL_unit_15 : decode cL_unit 15 = .ok (.astore 5, 2) := by decide +kernel
theorem dL_unit_17 : decode cL_unit 17 = .ok (.iconst 1, 1) := by decide +kernel
theorem dL_unit_18 : decode cL_unit 18 = .ok (.ireturn, 1) := by decide +kernel
theorem dL_unit_19 : decode cL_unit 19 = .ok (.astore 5, 2) := by decide +kernel
theorem dL_unit_21 : decode cL_unit 21 = .ok (.iconst 2, 1) := by decide +kernel
theorem dL_unit_22 : decode cL_unit 22 = .ok (.ireturn, 1) := by decide +kernel
theorem dL_unit_23 : decode cL_unit 23 = .ok (.iconst 0, 1) := by decide +kernel
theorem dL_unit_24 : decode cL_unit 24 = .ok (.ireturn, 1) := by decide +kernel
set_option maxRecDepth 20000 in
theorem ggL_change_X7_change : GoodIn wsL_change wsX7_change := goodIn_ca (goodIn_ca (goodIn_ca (goodIn_ca (goodIn_r _ [9, 10, 11, 12, 13, 14, 15, 16, 8, 17, 18, 19, 20, 21, 22, 23, 24, 25, 26, 27, 28, 29, 30, 31, 32, 33, 34, 35, 36, 37, 38, 39, 40, 41, 42, 43, 44, 45, 46, 47, 48, 49, 50, 51, 52, 53, 54, 55, 56, 57, 58, 59, 60, 61, 62, 63, 64, 65, 66, 67, 68, 69, 70, 71, 72, 73, 74, 75, 76, 77, 78, 79, 80, 81, 82, 83, 84, 85, 86, 87, 88, 89, 90, 91, 92, 93, 94, 95, 96] (by decide +kernel) (by decide +kernel)) (goodIn_sub (fun _ h => List.mem_cons_of_mem _ (List.mem_append_left _ (List.mem_append_left _ (List.mem_append_left _ (List.mem_append_right _ h))))) (by decide +kernel))) (goodIn_sub (fun _ h => List.mem_cons_of_mem _ (List.mem_append_left _ (List.mem_append_left _ (List.mem_append_right _ h)))) (by decide +kernel))) (goodIn_sub (fun _ h => List.mem_cons_of_mem _ (List.mem_append_left _ (List.mem_append_right _ h))) (by decide +kernel))) (goodIn_sub (fun _ h => List.mem_cons_of_mem _ (List.mem_append_right _ h)) (by decide +kernel))
set_option maxRecDepth 20000 in
theorem gL_change_X7_change : GoodIn wsL_change (wsV RL 21 RX7 yX7_change wsX7_change) := goodIn_app (goodIn_of _ (by decide +kernel)) ggL_change_X7_change
theorem dL_change_0 : decode cL_change 0 = .ok (.aload 4, 2) := by decide +kernel
theorem dL_change_2 : decode cL_change 2 = .ok (.iconst 0, 1) := by decide +kernel
theorem dL_change_3 : decode cL_change 3 = .ok (.aload_n 0, 1) := by decide +kernel
theorem dL_change_4 : decode cL_change 4 = .ok (.iload_n 1, 1) := by decide +kernel
theorem dL_change_5 : decode cL_change 5 = .ok (.iload_n 2, 1) := by decide +kernel
theorem dL_change_6 : decode cL_change 6 = .ok (.iload_n 3, 1) := by decide +kernel
theorem dL_change_7 : decode cL_change 7 = .ok (.invokevirtual 21, 3) := by decide +kernel
theorem dL_change_10 : decode cL_change 10 = .ok (.ifCond .eq 7, 3) := by decide +kernel
theorem dL_change_13 : decode cL_change 13 = .ok (.lconst 1, 1) := by decide +kernel
theorem dL_change_14 : decode cL_change 14 = .ok (.goto 4, 3) := by decide +kernel
theorem dL_change_17 : decode cL_change 17 = .ok (.lconst 0, 1) := by decide +kernel
theorem dL_change_18 : decode cL_change 18 = .ok (.lastore, 1) := by decide +kernel
theorem dL_change_19 : decode cL_change 19 = .ok (.goto 19, 3) := by decide +kernel
theorem dL_change_22 : decode cL_change 22 = .ok (.astore 5, 2) := by decide +kernel
theorem dL_change_24 : decode cL_change 24 = .ok (.iconst 1, 1) := by decide +kernel
theorem dL_change_25 : decode cL_change 25 = .ok (.ireturn, 1) := by decide +kernel
theorem dL_change_26 : decode cL_change 26 = .ok (.astore 5, 2) := by decide +kernel
theorem dL_change_28 : decode cL_change 28 = .ok (.iconst 2, 1) := by decide +kernel
theorem dL_change_29 : decode cL_change 29 = .ok (.ireturn, 1) := by decide +kernel
theorem dL_change_30 : decode cL_change 30 = .ok (.astore 5, 2) := by decide +kernel
theorem dL_change_32 : decode cL_change 32 = .ok (.iconst 3, 1) := by decide +kernel
theorem dL_change_33 : decode cL_change 33 = .ok (.ireturn, 1) := by decide +kernel
theorem dL_change_34 : decode cL_change 34 = .ok (.astore 5, 2) := by decide +kernel
theorem dL_change_36 : decode cL_change 36 = .ok (.iconst 4, 1) := by decide +kernel
theorem dL_change_37 : decode cL_change 37 = .ok (.ireturn, 1) := by decide +kernel
theorem dL_change_38 : decode cL_change 38 = .ok (.iconst 0, 1) := by decide +kernel
theorem dL_change_39 : decode cL_change 39 = .ok (.ireturn, 1) := by decide +kernel
set_option maxRecDepth 20000 in
theorem ggL_gone_X7_gone : GoodIn wsL_gone wsX7_gone := goodIn_ca (goodIn_ca (goodIn_ca (goodIn_r _ [8, 9, 10, 11, 12, 13, 7, 14, 15, 16, 17, 18, 19, 20, 21, 22, 23, 24, 25, 26, 27, 28, 29, 30, 31, 32, 33, 34, 35, 36, 37, 38, 39, 40, 41, 42, 43, 44, 45, 46, 47, 48, 49, 50, 51, 52, 53, 54, 55, 56, 57, 58, 59, 60, 61, 62, 63, 64, 65, 66, 67, 68, 69, 70, 71, 72, 73, 74, 75, 76, 77, 78, 79, 80, 81, 82, 83, 84, 85, 86, 87, 88, 89, 90, 91, 92, 93, 94] (by decide +kernel) (by decide +kernel)) (goodIn_sub (fun _ h => List.mem_cons_of_mem _ (List.mem_append_left _ (List.mem_append_left _ (List.mem_append_right _ h)))) (by decide +kernel))) (goodIn_sub (fun _ h => List.mem_cons_of_mem _ (List.mem_append_left _ (List.mem_append_right _ h))) (by decide +kernel))) (goodIn_sub (fun _ h => List.mem_cons_of_mem _ (List.mem_append_right _ h)) (by decide +kernel))
set_option maxRecDepth 20000 in
theorem gL_gone_X7_gone : GoodIn wsL_gone (wsV RL 29 RX7 yX7_gone wsX7_gone) := goodIn_app (goodIn_of _ (by decide +kernel)) ggL_gone_X7_gone
theorem dL_gone_0 : decode cL_gone 0 = .ok (.aload_n 3, 1) := by decide +kernel
theorem dL_gone_1 : decode cL_gone 1 = .ok (.iconst 0, 1) := by decide +kernel
theorem dL_gone_2 : decode cL_gone 2 = .ok (.aload_n 0, 1) := by decide +kernel
theorem dL_gone_3 : decode cL_gone 3 = .ok (.iload_n 1, 1) := by decide +kernel
theorem dL_gone_4 : decode cL_gone 4 = .ok (.iload_n 2, 1) := by decide +kernel
theorem dL_gone_5 : decode cL_gone 5 = .ok (.invokevirtual 29, 3) := by decide +kernel
theorem dL_gone_8 : decode cL_gone 8 = .ok (.i2l, 1) := by decide +kernel
theorem dL_gone_9 : decode cL_gone 9 = .ok (.lastore, 1) := by decide +kernel
theorem dL_gone_10 : decode cL_gone 10 = .ok (.goto 15, 3) := by decide +kernel
theorem dL_gone_13 : decode cL_gone 13 = .ok (.astore 4, 2) := by decide +kernel
theorem dL_gone_15 : decode cL_gone 15 = .ok (.iconst 1, 1) := by decide +kernel
theorem dL_gone_16 : decode cL_gone 16 = .ok (.ireturn, 1) := by decide +kernel
theorem dL_gone_17 : decode cL_gone 17 = .ok (.astore 4, 2) := by decide +kernel
theorem dL_gone_19 : decode cL_gone 19 = .ok (.iconst 2, 1) := by decide +kernel
theorem dL_gone_20 : decode cL_gone 20 = .ok (.ireturn, 1) := by decide +kernel
theorem dL_gone_21 : decode cL_gone 21 = .ok (.astore 4, 2) := by decide +kernel
theorem dL_gone_23 : decode cL_gone 23 = .ok (.iconst 3, 1) := by decide +kernel
theorem dL_gone_24 : decode cL_gone 24 = .ok (.ireturn, 1) := by decide +kernel
theorem dL_gone_25 : decode cL_gone 25 = .ok (.iconst 0, 1) := by decide +kernel
theorem dL_gone_26 : decode cL_gone 26 = .ok (.ireturn, 1) := by decide +kernel
set_option maxRecDepth 20000 in
theorem ggL_move_X7_move : GoodIn wsL_move wsX7_move := goodIn_ca (goodIn_ca (goodIn_r _ [7, 8, 9, 10, 11, 12, 13, 14, 15, 16, 17, 6, 18, 19, 20, 21, 22, 23, 24, 25, 26, 27, 28, 29, 30, 31, 32, 33, 34, 35, 36, 37, 38, 39, 40, 41, 42, 43, 44, 45, 46, 47, 48, 49, 50, 51, 52, 53, 54, 55, 56, 57, 58, 59, 60, 61, 62, 63, 64, 65, 66, 67, 68, 69, 70, 71, 72, 73, 74, 75, 76, 77, 78, 79, 80, 81, 82, 83, 84, 85, 86, 87, 88, 89, 90, 91, 92, 93, 94, 95, 96, 97, 98, 99, 100, 101, 102, 103, 104, 105, 106, 107, 108, 109, 110, 111, 112, 113, 114, 115, 116, 117, 118, 119, 120, 121, 122, 123, 124, 125, 126, 127, 128, 129, 130, 131, 132] (by decide +kernel) (by decide +kernel)) (goodIn_sub (fun _ h => List.mem_cons_of_mem _ (List.mem_append_left _ (List.mem_append_right _ h))) (by decide +kernel))) (goodIn_sub (fun _ h => List.mem_cons_of_mem _ (List.mem_append_right _ h)) (by decide +kernel))
set_option maxRecDepth 20000 in
theorem gL_move_X7_move : GoodIn wsL_move (wsV RL 33 RX7 yX7_move wsX7_move) := goodIn_app (goodIn_of _ (by decide +kernel)) ggL_move_X7_move
theorem dL_move_0 : decode cL_move 0 = .ok (.aload 5, 2) := by decide +kernel
theorem dL_move_2 : decode cL_move 2 = .ok (.iconst 0, 1) := by decide +kernel
theorem dL_move_3 : decode cL_move 3 = .ok (.aload_n 0, 1) := by decide +kernel
theorem dL_move_4 : decode cL_move 4 = .ok (.iload_n 1, 1) := by decide +kernel
theorem dL_move_5 : decode cL_move 5 = .ok (.iload_n 2, 1) := by decide +kernel
theorem dL_move_6 : decode cL_move 6 = .ok (.iload_n 3, 1) := by decide +kernel
theorem dL_move_7 : decode cL_move 7 = .ok (.iload 4, 2) := by decide +kernel
theorem dL_move_9 : decode cL_move 9 = .ok (.invokevirtual 33, 3) := by decide +kernel
theorem dL_move_12 : decode cL_move 12 = .ok (.i2l, 1) := by decide +kernel
theorem dL_move_13 : decode cL_move 13 = .ok (.lastore, 1) := by decide +kernel
theorem dL_move_14 : decode cL_move 14 = .ok (.goto 11, 3) := by decide +kernel
theorem dL_move_17 : decode cL_move 17 = .ok (.astore 6, 2) := by decide +kernel
theorem dL_move_19 : decode cL_move 19 = .ok (.iconst 1, 1) := by decide +kernel
theorem dL_move_20 : decode cL_move 20 = .ok (.ireturn, 1) := by decide +kernel
theorem dL_move_21 : decode cL_move 21 = .ok (.astore 6, 2) := by decide +kernel
theorem dL_move_23 : decode cL_move 23 = .ok (.iconst 2, 1) := by decide +kernel
theorem dL_move_24 : decode cL_move 24 = .ok (.ireturn, 1) := by decide +kernel
theorem dL_move_25 : decode cL_move 25 = .ok (.iconst 0, 1) := by decide +kernel
theorem dL_move_26 : decode cL_move 26 = .ok (.ireturn, 1) := by decide +kernel
set_option maxRecDepth 20000 in
theorem ggL_sum_X7_sum : GoodIn wsL_sum wsX7_sum := goodIn_ca (goodIn_r _ [6, 7, 8, 5, 9, 10, 11, 12, 13, 14, 15, 16, 17, 18, 19, 20, 21, 22, 23, 24, 25, 26, 27, 28, 29, 30, 31, 32, 33, 34, 35, 36, 37, 38, 39, 40, 41, 42, 43, 44, 45, 46, 47, 48, 49, 50, 51, 52, 53, 54, 55, 56, 57, 58, 59, 60, 61, 62, 63, 64, 65, 66, 67, 68, 69, 70, 71, 72, 73, 74, 75, 76, 77, 78, 79, 80, 81, 82, 83, 84, 85, 86, 87, 88, 89, 90, 91, 92, 93, 94, 95, 96, 97, 98, 99, 100, 101, 102, 103, 104, 105, 106, 107, 108, 109, 110, 111, 112, 113, 114, 115, 116, 117, 118, 119, 120, 121, 122, 123, 124, 125, 126, 127, 128, 129, 130, 131, 132, 133, 134, 135, 136, 137, 138, 139, 140, 141, 142, 143, 144, 145, 146, 147, 148, 149, 150, 151, 152, 153, 154] (by decide +kernel) (by decide +kernel)) (goodIn_sub (fun _ h => List.mem_cons_of_mem _ (List.mem_append_right _ h)) (by decide +kernel))
set_option maxRecDepth 20000 in
theorem gL_sum_X7_sum : GoodIn wsL_sum (wsV RL 37 RX7 yX7_sum wsX7_sum) := goodIn_app (goodIn_of _ (by decide +kernel)) ggL_sum_X7_sum
theorem dL_sum_0 : decode cL_sum 0 = .ok (.aload_n 3, 1) := by decide +kernel
theorem dL_sum_1 : decode cL_sum 1 = .ok (.iconst 0, 1) := by decide +kernel
theorem dL_sum_2 : decode cL_sum 2 = .ok (.aload_n 0, 1) := by decide +kernel
theorem dL_sum_3 : decode cL_sum 3 = .ok (.iload_n 1, 1) := by decide +kernel
theorem dL_sum_4 : decode cL_sum 4 = .ok (.iload_n 2, 1) := by decide +kernel
theorem dL_sum_5 : decode cL_sum 5 = .ok (.invokevirtual 37, 3) := by decide +kernel
theorem dL_sum_8 : decode cL_sum 8 = .ok (.i2l, 1) := by decide +kernel
theorem dL_sum_9 : decode cL_sum 9 = .ok (.lastore, 1) := by decide +kernel
theorem dL_sum_10 : decode cL_sum 10 = .ok (.goto 7, 3) := by decide +kernel
theorem dL_sum_13 : decode cL_sum 13 = .ok (.astore 4, 2) := by decide +kernel
theorem dL_sum_15 : decode cL_sum 15 = .ok (.iconst 1, 1) := by decide +kernel
theorem dL_sum_16 : decode cL_sum 16 = .ok (.ireturn, 1) := by decide +kernel
theorem dL_sum_17 : decode cL_sum 17 = .ok (.iconst 0, 1) := by decide +kernel
theorem dL_sum_18 : decode cL_sum 18 = .ok (.ireturn, 1) := by decide +kernel
set_option maxRecDepth 20000 in
theorem ggL_days_X7_days : GoodIn wsL_days wsX7_days := goodIn_ca (goodIn_r _ [6, 7, 8, 5, 9, 10, 11, 12, 13, 14, 15, 16, 17, 18, 19, 20, 21, 22, 23, 24, 25, 26, 27, 28, 29, 30, 31, 32, 33, 34, 35, 36, 37, 38, 39, 40, 41, 42, 43, 44, 45, 46, 47, 48, 49, 50, 51, 52, 53, 54, 55, 56, 57, 58, 59, 60, 61, 62, 63, 64, 65, 66, 67, 68, 69, 70, 71, 72, 73, 74, 75, 76, 77, 78, 79, 80, 81, 82, 83] (by decide +kernel) (by decide +kernel)) (goodIn_sub (fun _ h => List.mem_cons_of_mem _ (List.mem_append_right _ h)) (by decide +kernel))
set_option maxRecDepth 20000 in
theorem gL_days_X7_days : GoodIn wsL_days (wsV RL 40 RX7 yX7_days wsX7_days) := goodIn_app (goodIn_of _ (by decide +kernel)) ggL_days_X7_days
theorem dL_days_0 : decode cL_days 0 = .ok (.aload_n 3, 1) := by decide +kernel
theorem dL_days_1 : decode cL_days 1 = .ok (.iconst 0, 1) := by decide +kernel
theorem dL_days_2 : decode cL_days 2 = .ok (.aload_n 0, 1) := by decide +kernel
theorem dL_days_3 : decode cL_days 3 = .ok (.iload_n 1, 1) := by decide +kernel
theorem dL_days_4 : decode cL_days 4 = .ok (.iload_n 2, 1) := by decide +kernel
theorem dL_days_5 : decode cL_days 5 = .ok (.invokevirtual 40, 3) := by decide +kernel
theorem dL_days_8 : decode cL_days 8 = .ok (.i2l, 1) := by decide +kernel
theorem dL_days_9 : decode cL_days 9 = .ok (.lastore, 1) := by decide +kernel
theorem dL_days_10 : decode cL_days 10 = .ok (.goto 7, 3) := by decide +kernel
theorem dL_days_13 : decode cL_days 13 = .ok (.astore 4, 2) := by decide +kernel
theorem dL_days_15 : decode cL_days 15 = .ok (.iconst 1, 1) := by decide +kernel
theorem dL_days_16 : decode cL_days 16 = .ok (.ireturn, 1) := by decide +kernel
theorem dL_days_17 : decode cL_days 17 = .ok (.iconst 0, 1) := by decide +kernel
theorem dL_days_18 : decode cL_days 18 = .ok (.ireturn, 1) := by decide +kernel
set_option maxRecDepth 20000 in
theorem ggL_average_X7_average : GoodIn wsL_average wsX7_average := goodIn_ca (goodIn_ca (goodIn_r _ [7, 8, 9, 10, 11, 6, 12, 13, 14, 15, 16, 17, 18, 19, 20, 21, 22, 23, 24, 25, 26, 27, 28, 29, 30, 31, 32, 33, 34, 35, 36, 37, 38, 39, 40, 41, 42, 43, 44, 45, 46, 47, 48, 49, 50, 51, 52, 53, 54, 55, 56, 57, 58, 59, 60, 61, 62, 63, 64, 65, 66, 67, 68, 69, 70, 71, 72, 73, 74, 75, 76, 77, 78, 79, 80, 81, 82, 83, 84, 85, 86, 87, 88, 89, 90, 91, 92, 93, 94, 95, 96, 97, 98, 99, 100, 101, 102, 103, 104, 105, 106, 107, 108, 109, 110, 111, 112, 113, 114, 115, 116, 117, 118, 119, 120, 121, 122, 123, 124, 125, 126, 127, 128, 129, 130, 131, 132, 133] (by decide +kernel) (by decide +kernel)) (goodIn_sub (fun _ h => List.mem_cons_of_mem _ (List.mem_append_left _ (List.mem_append_right _ h))) (by decide +kernel))) (goodIn_sub (fun _ h => List.mem_cons_of_mem _ (List.mem_append_right _ h)) (by decide +kernel))
set_option maxRecDepth 20000 in
theorem gL_average_X7_average : GoodIn wsL_average (wsV RL 43 RX7 yX7_average wsX7_average) := goodIn_app (goodIn_of _ (by decide +kernel)) ggL_average_X7_average
theorem dL_average_0 : decode cL_average 0 = .ok (.aload_n 3, 1) := by decide +kernel
theorem dL_average_1 : decode cL_average 1 = .ok (.iconst 0, 1) := by decide +kernel
theorem dL_average_2 : decode cL_average 2 = .ok (.aload_n 0, 1) := by decide +kernel
theorem dL_average_3 : decode cL_average 3 = .ok (.iload_n 1, 1) := by decide +kernel
theorem dL_average_4 : decode cL_average 4 = .ok (.iload_n 2, 1) := by decide +kernel
theorem dL_average_5 : decode cL_average 5 = .ok (.invokevirtual 43, 3) := by decide +kernel
theorem dL_average_8 : decode cL_average 8 = .ok (.i2l, 1) := by decide +kernel
theorem dL_average_9 : decode cL_average 9 = .ok (.lastore, 1) := by decide +kernel
theorem dL_average_10 : decode cL_average 10 = .ok (.goto 11, 3) := by decide +kernel
theorem dL_average_13 : decode cL_average 13 = .ok (.astore 4, 2) := by decide +kernel
theorem dL_average_15 : decode cL_average 15 = .ok (.iconst 1, 1) := by decide +kernel
theorem dL_average_16 : decode cL_average 16 = .ok (.ireturn, 1) := by decide +kernel
theorem dL_average_17 : decode cL_average 17 = .ok (.astore 4, 2) := by decide +kernel
theorem dL_average_19 : decode cL_average 19 = .ok (.iconst 2, 1) := by decide +kernel
theorem dL_average_20 : decode cL_average 20 = .ok (.ireturn, 1) := by decide +kernel
theorem dL_average_21 : decode cL_average 21 = .ok (.iconst 0, 1) := by decide +kernel
theorem dL_average_22 : decode cL_average 22 = .ok (.ireturn, 1) := by decide +kernel
set_option maxRecDepth 20000 in
theorem ggL_bill_X7_bill : GoodIn wsL_bill wsX7_bill := goodIn_ca (goodIn_ca (goodIn_r _ [7, 8, 9, 10, 11, 12, 13, 14, 15, 6, 16, 17, 18, 19, 20, 21, 22, 23, 24, 25, 26, 27, 28, 29, 30, 31, 32, 33, 34, 35, 36, 37, 38, 39, 40, 41, 42, 43, 44, 45, 46, 47, 48, 49, 50, 51, 52, 53, 54, 55, 56, 57, 58, 59, 60, 61, 62, 63, 64, 65, 66, 67, 68, 69, 70, 71, 72, 73, 74, 75, 76, 77, 78, 79, 80, 81, 82, 83, 84, 85, 86, 87, 88, 89, 90, 91, 92, 93, 94, 95, 96, 97, 98, 99, 100, 101, 102, 103, 104, 105, 106, 107, 108, 109, 110, 111, 112, 113, 114, 115, 116, 117, 118, 119, 120, 121, 122, 123, 124, 125, 126, 127, 128, 129, 130, 131, 132, 133, 134, 135, 136, 137, 138, 139, 140, 141, 142, 143, 144, 145, 146, 147, 148, 149, 150, 151, 152, 153, 154, 155, 156, 157, 158, 159, 160, 161, 162, 163, 164, 165, 166, 167, 168, 169, 170, 171, 172, 173, 174, 175, 176, 177, 178, 179, 180, 181, 182, 183, 184, 185, 186, 187, 188, 189, 190, 191, 192, 193, 194, 195, 196, 197, 198, 199, 200, 201, 202, 203, 204, 205, 206, 207, 208, 209, 210, 211, 212, 213, 214, 215, 216, 217, 218, 219, 220, 221, 222, 223, 224, 225, 226, 227, 228, 229, 230, 231, 232, 233, 234, 235, 236, 237] (by decide +kernel) (by decide +kernel)) (goodIn_sub (fun _ h => List.mem_cons_of_mem _ (List.mem_append_left _ (List.mem_append_right _ h))) (by decide +kernel))) (goodIn_sub (fun _ h => List.mem_cons_of_mem _ (List.mem_append_right _ h)) (by decide +kernel))
set_option maxRecDepth 20000 in
theorem gL_bill_X7_bill : GoodIn wsL_bill (wsV RL 48 RX7 yX7_bill wsX7_bill) := goodIn_app (goodIn_of _ (by decide +kernel)) ggL_bill_X7_bill
theorem dL_bill_0 : decode cL_bill 0 = .ok (.aload_n 3, 1) := by decide +kernel
theorem dL_bill_1 : decode cL_bill 1 = .ok (.iconst 0, 1) := by decide +kernel
theorem dL_bill_2 : decode cL_bill 2 = .ok (.aload_n 0, 1) := by decide +kernel
theorem dL_bill_3 : decode cL_bill 3 = .ok (.iload_n 1, 1) := by decide +kernel
theorem dL_bill_4 : decode cL_bill 4 = .ok (.iload_n 2, 1) := by decide +kernel
theorem dL_bill_5 : decode cL_bill 5 = .ok (.invokevirtual 48, 3) := by decide +kernel
theorem dL_bill_8 : decode cL_bill 8 = .ok (.i2l, 1) := by decide +kernel
theorem dL_bill_9 : decode cL_bill 9 = .ok (.lastore, 1) := by decide +kernel
theorem dL_bill_10 : decode cL_bill 10 = .ok (.goto 11, 3) := by decide +kernel
theorem dL_bill_13 : decode cL_bill 13 = .ok (.astore 4, 2) := by decide +kernel
theorem dL_bill_15 : decode cL_bill 15 = .ok (.iconst 1, 1) := by decide +kernel
theorem dL_bill_16 : decode cL_bill 16 = .ok (.ireturn, 1) := by decide +kernel
theorem dL_bill_17 : decode cL_bill 17 = .ok (.astore 4, 2) := by decide +kernel
theorem dL_bill_19 : decode cL_bill 19 = .ok (.iconst 2, 1) := by decide +kernel
theorem dL_bill_20 : decode cL_bill 20 = .ok (.ireturn, 1) := by decide +kernel
theorem dL_bill_21 : decode cL_bill 21 = .ok (.iconst 0, 1) := by decide +kernel
theorem dL_bill_22 : decode cL_bill 22 = .ok (.ireturn, 1) := by decide +kernel
set_option maxRecDepth 20000 in
theorem ggL_correct_X7_correct : GoodIn wsL_correct wsX7_correct := goodIn_ca (goodIn_ca (goodIn_r _ [7, 8, 9, 10, 11, 12, 13, 14, 15, 6, 16, 17, 18, 19, 20, 21, 22, 23, 24, 25, 26, 27, 28, 29, 30, 31, 32, 33, 34, 35, 36, 37, 38, 39, 40, 41, 42, 43, 44, 45, 46, 47, 48, 49, 50, 51, 52, 53, 54, 55, 56, 57, 58, 59, 60, 61, 62, 63, 64, 65, 66, 67, 68, 69, 70, 71, 72, 73, 74, 75, 76, 77, 78, 79, 80, 81, 82, 83, 84, 85, 86, 87, 88, 89, 90, 91, 92, 93, 94, 95, 96, 97, 98, 99, 100, 101, 102, 103, 104, 105, 106, 107, 108, 109, 110, 111, 112, 113, 114, 115, 116, 117, 118, 119, 120, 121, 122, 123, 124, 125, 126, 127, 128, 129, 130, 131, 132, 133, 134, 135, 136, 137, 138, 139, 140, 141, 142, 143, 144, 145, 146, 147, 148, 149, 150, 151, 152, 153, 154, 155, 156, 157, 158, 159, 160, 161, 162, 163, 164, 165, 166, 167, 168, 169, 170, 171, 172, 173, 174, 175, 176, 177, 178, 179, 180, 181, 182, 183, 184, 185, 186, 187, 188, 189, 190, 191, 192, 193, 194, 195, 196, 197, 198, 199, 200, 201, 202, 203, 204, 205, 206, 207, 208, 209, 210, 211, 212, 213, 214, 215, 216, 217, 218, 219, 220, 221, 222, 223, 224, 225, 226, 227, 228, 229, 230, 231, 232, 233, 234, 235, 236, 237, 238, 239, 240, 241] (by decide +kernel) (by decide +kernel)) (goodIn_sub (fun _ h => List.mem_cons_of_mem _ (List.mem_append_left _ (List.mem_append_right _ h))) (by decide +kernel))) (goodIn_sub (fun _ h => List.mem_cons_of_mem _ (List.mem_append_right _ h)) (by decide +kernel))
set_option maxRecDepth 20000 in
theorem gL_correct_X7_correct : GoodIn wsL_correct (wsV RL 51 RX7 yX7_correct wsX7_correct) := goodIn_app (goodIn_of _ (by decide +kernel)) ggL_correct_X7_correct
theorem dL_correct_0 : decode cL_correct 0 = .ok (.aload_n 3, 1) := by decide +kernel
theorem dL_correct_1 : decode cL_correct 1 = .ok (.iconst 0, 1) := by decide +kernel
theorem dL_correct_2 : decode cL_correct 2 = .ok (.aload_n 0, 1) := by decide +kernel
theorem dL_correct_3 : decode cL_correct 3 = .ok (.iload_n 1, 1) := by decide +kernel
theorem dL_correct_4 : decode cL_correct 4 = .ok (.iload_n 2, 1) := by decide +kernel
theorem dL_correct_5 : decode cL_correct 5 = .ok (.invokevirtual 51, 3) := by decide +kernel
theorem dL_correct_8 : decode cL_correct 8 = .ok (.i2l, 1) := by decide +kernel
theorem dL_correct_9 : decode cL_correct 9 = .ok (.lastore, 1) := by decide +kernel
theorem dL_correct_10 : decode cL_correct 10 = .ok (.goto 11, 3) := by decide +kernel
theorem dL_correct_13 : decode cL_correct 13 = .ok (.astore 4, 2) := by decide +kernel
theorem dL_correct_15 : decode cL_correct 15 = .ok (.iconst 1, 1) := by decide +kernel
theorem dL_correct_16 : decode cL_correct 16 = .ok (.ireturn, 1) := by decide +kernel
theorem dL_correct_17 : decode cL_correct 17 = .ok (.astore 4, 2) := by decide +kernel
theorem dL_correct_19 : decode cL_correct 19 = .ok (.iconst 2, 1) := by decide +kernel
theorem dL_correct_20 : decode cL_correct 20 = .ok (.ireturn, 1) := by decide +kernel
theorem dL_correct_21 : decode cL_correct 21 = .ok (.iconst 0, 1) := by decide +kernel
theorem dL_correct_22 : decode cL_correct 22 = .ok (.ireturn, 1) := by decide +kernel
set_option maxRecDepth 20000 in
theorem ggL_line_X7_line : GoodIn wsL_line wsX7_line := goodIn_ca (goodIn_ca (goodIn_r _ [7, 8, 9, 10, 11, 12, 13, 14, 6, 15, 16, 17, 18, 19, 20, 21, 22, 23, 24, 25, 26, 27, 28, 29, 30, 31, 32, 33, 34, 35, 36, 37, 38, 39, 40, 41, 42, 43, 44, 45, 46, 47, 48, 49, 50, 51, 52, 53, 54, 55, 56, 57, 58, 59, 60, 61, 62, 63] (by decide +kernel) (by decide +kernel)) (goodIn_sub (fun _ h => List.mem_cons_of_mem _ (List.mem_append_left _ (List.mem_append_right _ h))) (by decide +kernel))) (goodIn_sub (fun _ h => List.mem_cons_of_mem _ (List.mem_append_right _ h)) (by decide +kernel))
set_option maxRecDepth 20000 in
theorem gL_line_X7_line : GoodIn wsL_line (wsV RL 54 RX7 yX7_line wsX7_line) := goodIn_app (goodIn_of _ (by decide +kernel)) ggL_line_X7_line
theorem dL_line_0 : decode cL_line 0 = .ok (.aload 4, 2) := by decide +kernel
theorem dL_line_2 : decode cL_line 2 = .ok (.iconst 0, 1) := by decide +kernel
theorem dL_line_3 : decode cL_line 3 = .ok (.aload_n 0, 1) := by decide +kernel
theorem dL_line_4 : decode cL_line 4 = .ok (.iload_n 1, 1) := by decide +kernel
theorem dL_line_5 : decode cL_line 5 = .ok (.iload_n 2, 1) := by decide +kernel
theorem dL_line_6 : decode cL_line 6 = .ok (.iload_n 3, 1) := by decide +kernel
theorem dL_line_7 : decode cL_line 7 = .ok (.invokevirtual 54, 3) := by decide +kernel
theorem dL_line_10 : decode cL_line 10 = .ok (.i2l, 1) := by decide +kernel
theorem dL_line_11 : decode cL_line 11 = .ok (.lastore, 1) := by decide +kernel
theorem dL_line_12 : decode cL_line 12 = .ok (.goto 11, 3) := by decide +kernel
theorem dL_line_15 : decode cL_line 15 = .ok (.astore 5, 2) := by decide +kernel
theorem dL_line_17 : decode cL_line 17 = .ok (.iconst 1, 1) := by decide +kernel
theorem dL_line_18 : decode cL_line 18 = .ok (.ireturn, 1) := by decide +kernel
theorem dL_line_19 : decode cL_line 19 = .ok (.astore 5, 2) := by decide +kernel
theorem dL_line_21 : decode cL_line 21 = .ok (.iconst 2, 1) := by decide +kernel
theorem dL_line_22 : decode cL_line 22 = .ok (.ireturn, 1) := by decide +kernel
theorem dL_line_23 : decode cL_line 23 = .ok (.iconst 0, 1) := by decide +kernel
theorem dL_line_24 : decode cL_line 24 = .ok (.ireturn, 1) := by decide +kernel
set_option maxRecDepth 20000 in
theorem ggL_billed_X7_billed : GoodIn wsL_billed wsX7_billed := goodIn_ca (goodIn_r _ [6, 7, 8, 9, 5, 10, 11, 12, 13, 14, 15, 16, 17, 18, 19, 20, 21, 22, 23, 24, 25, 26, 27, 28, 29, 30, 31, 32, 33, 34, 35, 36, 37, 38, 39, 40, 41, 42, 43, 44, 45, 46, 47, 48, 49, 50, 51, 52, 53, 54, 55, 56, 57, 58, 59, 60] (by decide +kernel) (by decide +kernel)) (goodIn_sub (fun _ h => List.mem_cons_of_mem _ (List.mem_append_right _ h)) (by decide +kernel))
set_option maxRecDepth 20000 in
theorem gL_billed_X7_billed : GoodIn wsL_billed (wsV RL 57 RX7 yX7_billed wsX7_billed) := goodIn_app (goodIn_of _ (by decide +kernel)) ggL_billed_X7_billed
theorem dL_billed_0 : decode cL_billed 0 = .ok (.aload_n 2, 1) := by decide +kernel
theorem dL_billed_1 : decode cL_billed 1 = .ok (.iconst 0, 1) := by decide +kernel
theorem dL_billed_2 : decode cL_billed 2 = .ok (.aload_n 0, 1) := by decide +kernel
theorem dL_billed_3 : decode cL_billed 3 = .ok (.iload_n 1, 1) := by decide +kernel
theorem dL_billed_4 : decode cL_billed 4 = .ok (.invokevirtual 57, 3) := by decide +kernel
theorem dL_billed_7 : decode cL_billed 7 = .ok (.i2l, 1) := by decide +kernel
theorem dL_billed_8 : decode cL_billed 8 = .ok (.lastore, 1) := by decide +kernel
theorem dL_billed_9 : decode cL_billed 9 = .ok (.goto 6, 3) := by decide +kernel
theorem dL_billed_12 : decode cL_billed 12 = .ok (.astore_n 3, 1) := by decide +kernel
theorem dL_billed_13 : decode cL_billed 13 = .ok (.iconst 1, 1) := by decide +kernel
theorem dL_billed_14 : decode cL_billed 14 = .ok (.ireturn, 1) := by decide +kernel
theorem dL_billed_15 : decode cL_billed 15 = .ok (.iconst 0, 1) := by decide +kernel
theorem dL_billed_16 : decode cL_billed 16 = .ok (.ireturn, 1) := by decide +kernel
set_option maxRecDepth 20000 in
theorem ggL_compare_X7_compare : GoodIn wsL_compare wsX7_compare := goodIn_ca (goodIn_r _ [6, 7, 8, 5, 9, 10, 11, 12, 13, 14, 15, 16, 17, 18, 19, 20, 21, 22, 23, 24, 25, 26, 27, 28, 29, 30, 31, 32, 33, 34, 35, 36, 37, 38, 39, 40, 41, 42, 43, 44, 45, 46, 47, 48, 49, 50, 51, 52, 53, 54, 55, 56, 57, 58, 59, 60, 61, 62, 63, 64, 65, 66, 67, 68, 69, 70, 71, 72, 73, 74, 75, 76, 77, 78, 79, 80, 81, 82, 83, 84, 85, 86, 87, 88, 89, 90, 91, 92, 93, 94, 95, 96, 97, 98, 99, 100, 101, 102, 103, 104, 105, 106, 107, 108, 109, 110, 111, 112, 113, 114, 115, 116, 117, 118, 119, 120, 121, 122, 123, 124, 125, 126, 127, 128, 129, 130, 131, 132, 133, 134, 135, 136, 137, 138, 139, 140, 141, 142, 143, 144, 145, 146, 147, 148, 149, 150, 151, 152, 153, 154] (by decide +kernel) (by decide +kernel)) (goodIn_sub (fun _ h => List.mem_cons_of_mem _ (List.mem_append_right _ h)) (by decide +kernel))
set_option maxRecDepth 20000 in
theorem gL_compare_X7_compare : GoodIn wsL_compare (wsV RL 60 RX7 yX7_compare wsX7_compare) := goodIn_app (goodIn_of _ (by decide +kernel)) ggL_compare_X7_compare
theorem dL_compare_0 : decode cL_compare 0 = .ok (.aload 4, 2) := by decide +kernel
theorem dL_compare_2 : decode cL_compare 2 = .ok (.iconst 0, 1) := by decide +kernel
theorem dL_compare_3 : decode cL_compare 3 = .ok (.aload_n 0, 1) := by decide +kernel
theorem dL_compare_4 : decode cL_compare 4 = .ok (.iload_n 1, 1) := by decide +kernel
theorem dL_compare_5 : decode cL_compare 5 = .ok (.iload_n 2, 1) := by decide +kernel
theorem dL_compare_6 : decode cL_compare 6 = .ok (.iload_n 3, 1) := by decide +kernel
theorem dL_compare_7 : decode cL_compare 7 = .ok (.invokevirtual 60, 3) := by decide +kernel
theorem dL_compare_10 : decode cL_compare 10 = .ok (.i2l, 1) := by decide +kernel
theorem dL_compare_11 : decode cL_compare 11 = .ok (.lastore, 1) := by decide +kernel
theorem dL_compare_12 : decode cL_compare 12 = .ok (.goto 7, 3) := by decide +kernel
theorem dL_compare_15 : decode cL_compare 15 = .ok (.astore 5, 2) := by decide +kernel
theorem dL_compare_17 : decode cL_compare 17 = .ok (.iconst 1, 1) := by decide +kernel
theorem dL_compare_18 : decode cL_compare 18 = .ok (.ireturn, 1) := by decide +kernel
theorem dL_compare_19 : decode cL_compare 19 = .ok (.iconst 0, 1) := by decide +kernel
theorem dL_compare_20 : decode cL_compare 20 = .ok (.ireturn, 1) := by decide +kernel
set_option maxRecDepth 20000 in
theorem ggL_print_X7_print : GoodIn wsL_print wsX7_print := goodIn_ca (goodIn_r _ [6, 7, 8, 9, 10, 11, 5, 12, 13, 14, 15, 16, 17, 18, 19, 20, 21, 22, 23, 24, 25, 26, 27, 28, 29, 30, 31, 32, 33, 34, 35, 36, 37, 38, 39, 40, 41, 42, 43, 44, 45, 46, 47, 48, 49, 50, 51, 52, 53, 54, 55, 56, 57, 58, 59, 60, 61, 62, 63, 64, 65, 66, 67, 68, 69, 70, 71, 72, 73, 74, 75, 76, 77, 78, 79, 80, 81, 82, 83] (by decide +kernel) (by decide +kernel)) (goodIn_sub (fun _ h => List.mem_cons_of_mem _ (List.mem_append_right _ h)) (by decide +kernel))
set_option maxRecDepth 20000 in
theorem gL_print_X7_print : GoodIn wsL_print (wsV RL 63 RX7 yX7_print wsX7_print) := goodIn_app (goodIn_of _ (by decide +kernel)) ggL_print_X7_print
theorem dL_print_0 : decode cL_print 0 = .ok (.aload_n 2, 1) := by decide +kernel
theorem dL_print_1 : decode cL_print 1 = .ok (.iconst 0, 1) := by decide +kernel
theorem dL_print_2 : decode cL_print 2 = .ok (.aload_n 0, 1) := by decide +kernel
theorem dL_print_3 : decode cL_print 3 = .ok (.iload_n 1, 1) := by decide +kernel
theorem dL_print_4 : decode cL_print 4 = .ok (.invokevirtual 63, 3) := by decide +kernel
theorem dL_print_7 : decode cL_print 7 = .ok (.i2l, 1) := by decide +kernel
theorem dL_print_8 : decode cL_print 8 = .ok (.lastore, 1) := by decide +kernel
theorem dL_print_9 : decode cL_print 9 = .ok (.goto 6, 3) := by decide +kernel
theorem dL_print_12 : decode cL_print 12 = .ok (.astore_n 3, 1) := by decide +kernel
theorem dL_print_13 : decode cL_print 13 = .ok (.iconst 1, 1) := by decide +kernel
theorem dL_print_14 : decode cL_print 14 = .ok (.ireturn, 1) := by decide +kernel
theorem dL_print_15 : decode cL_print 15 = .ok (.iconst 0, 1) := by decide +kernel
theorem dL_print_16 : decode cL_print 16 = .ok (.ireturn, 1) := by decide +kernel
set_option maxRecDepth 20000 in
theorem ggL_at_X7_at : GoodIn wsL_at wsX7_at := goodIn_r _ [5, 6, 7, 8, 9, 10, 11, 4, 12, 13, 14, 15, 16, 17, 18, 19, 20, 21, 22, 23, 24, 25, 26, 27] (by decide +kernel) (by decide +kernel)
set_option maxRecDepth 20000 in
theorem gL_at_X7_at : GoodIn wsL_at (wsV RL 66 RX7 yX7_at wsX7_at) := goodIn_app (goodIn_of _ (by decide +kernel)) ggL_at_X7_at
theorem dL_at_0 : decode cL_at 0 = .ok (.aload_n 2, 1) := by decide +kernel
theorem dL_at_1 : decode cL_at 1 = .ok (.iconst 0, 1) := by decide +kernel
theorem dL_at_2 : decode cL_at 2 = .ok (.aload_n 0, 1) := by decide +kernel
theorem dL_at_3 : decode cL_at 3 = .ok (.iload_n 1, 1) := by decide +kernel
theorem dL_at_4 : decode cL_at 4 = .ok (.invokevirtual 66, 3) := by decide +kernel
theorem dL_at_7 : decode cL_at 7 = .ok (.i2l, 1) := by decide +kernel
theorem dL_at_8 : decode cL_at 8 = .ok (.lastore, 1) := by decide +kernel
theorem dL_at_9 : decode cL_at 9 = .ok (.goto 6, 3) := by decide +kernel
theorem dL_at_12 : decode cL_at 12 = .ok (.astore_n 3, 1) := by decide +kernel
theorem dL_at_13 : decode cL_at 13 = .ok (.iconst 1, 1) := by decide +kernel
theorem dL_at_14 : decode cL_at 14 = .ok (.ireturn, 1) := by decide +kernel
theorem dL_at_15 : decode cL_at 15 = .ok (.iconst 0, 1) := by decide +kernel
theorem dL_at_16 : decode cL_at 16 = .ok (.ireturn, 1) := by decide +kernel
