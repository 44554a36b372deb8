set_option maxRecDepth 100000 in
theorem ggL_feed_X5_feed : GoodIn wsL_feed wsX5_feed := goodIn_ca (goodIn_r _ [6, 7, 8, 9, 10, 11, 12, 13, 14, 15, 16, 17, 18, 19, 20, 21, 22, 23, 24, 25] rfl (by decide +kernel)) (goodIn_sub (fun _ h => List.mem_cons_of_mem _ (List.mem_append_right _ h)) (by decide +kernel))
set_option maxRecDepth 100000 in
theorem gL_feed_X5_feed : GoodIn wsL_feed (wsV RL 7 RX5 yX5_feed wsX5_feed) := goodIn_app (goodIn_of _ (by decide +kernel)) ggL_feed_X5_feed
theorem dL_feed_0 : decode cL_feed 0 = .ok (.aload 6, 2) := by decide +kernel
theorem dL_feed_2 : decode cL_feed 2 = .ok (.iconst 0, 1) := by decide +kernel
theorem dL_feed_3 : decode cL_feed 3 = .ok (.aload_n 0, 1) := by decide +kernel
theorem dL_feed_4 : decode cL_feed 4 = .ok (.iload_n 1, 1) := by decide +kernel
theorem dL_feed_5 : decode cL_feed 5 = .ok (.iload_n 2, 1) := by decide +kernel
theorem dL_feed_6 : decode cL_feed 6 = .ok (.iload_n 3, 1) := by decide +kernel
theorem dL_feed_7 : decode cL_feed 7 = .ok (.iload 4, 2) := by decide +kernel
theorem dL_feed_9 : decode cL_feed 9 = .ok (.iload 5, 2) := by decide +kernel
theorem dL_feed_11 : decode cL_feed 11 = .ok (.invokevirtual 7, 3) := by decide +kernel
theorem dL_feed_14 : decode cL_feed 14 = .ok (.i2l, 1) := by decide +kernel
theorem dL_feed_15 : decode cL_feed 15 = .ok (.lastore, 1) := by decide +kernel
theorem dL_feed_16 : decode cL_feed 16 = .ok (.goto 7, 3) := by decide +kernel
theorem dL_feed_19 : decode cL_feed 19 = .ok (.astore 7, 2) := by decide +kernel
theorem dL_feed_21 : decode cL_feed 21 = .ok (.iconst 1, 1) := by decide +kernel
theorem dL_feed_22 : decode cL_feed 22 = .ok (.ireturn, 1) := by decide +kernel
theorem dL_feed_23 : decode cL_feed 23 = .ok (.iconst 0, 1) := by decide +kernel
theorem dL_feed_24 : decode cL_feed 24 = .ok (.ireturn, 1) := by decide +kernel
set_option maxRecDepth 100000 in
theorem ggL_trim_X5_trim : GoodIn wsL_trim wsX5_trim := goodIn_ca (goodIn_r _ [6, 7, 8, 9, 10, 11, 12, 13, 14, 15, 16, 17, 18] rfl (by decide +kernel)) (goodIn_sub (fun _ h => List.mem_cons_of_mem _ (List.mem_append_right _ h)) (by decide +kernel))
set_option maxRecDepth 100000 in
theorem gL_trim_X5_trim : GoodIn wsL_trim (wsV RL 15 RX5 yX5_trim wsX5_trim) := goodIn_app (goodIn_of _ (by decide +kernel)) ggL_trim_X5_trim
theorem dL_trim_0 : decode cL_trim 0 = .ok (.aload_n 2, 1) := by decide +kernel
theorem dL_trim_1 : decode cL_trim 1 = .ok (.iconst 0, 1) := by decide +kernel
theorem dL_trim_2 : decode cL_trim 2 = .ok (.aload_n 0, 1) := by decide +kernel
theorem dL_trim_3 : decode cL_trim 3 = .ok (.iload_n 1, 1) := by decide +kernel
theorem dL_trim_4 : decode cL_trim 4 = .ok (.invokevirtual 15, 3) := by decide +kernel
theorem dL_trim_7 : decode cL_trim 7 = .ok (.i2l, 1) := by decide +kernel
theorem dL_trim_8 : decode cL_trim 8 = .ok (.lastore, 1) := by decide +kernel
theorem dL_trim_9 : decode cL_trim 9 = .ok (.goto 6, 3) := by decide +kernel
theorem dL_trim_12 : decode cL_trim 12 = .ok (.astore_n 3, 1) := by decide +kernel
theorem dL_trim_13 : decode cL_trim 13 = .ok (.iconst 1, 1) := by decide +kernel
theorem dL_trim_14 : decode cL_trim 14 = .ok (.ireturn, 1) := by decide +kernel
theorem dL_trim_15 : decode cL_trim 15 = .ok (.iconst 0, 1) := by decide +kernel
theorem dL_trim_16 : decode cL_trim 16 = .ok (.ireturn, 1) := by decide +kernel
set_option maxRecDepth 100000 in
theorem ggL_openAt_X5_openAt : GoodIn wsL_openAt wsX5_openAt := goodIn_ca (goodIn_ca (goodIn_r _ [7, 8, 9, 10, 11, 12, 13, 14, 15, 16, 6, 17, 18, 19, 20, 21, 22, 23, 24, 25, 26, 27, 28, 29, 30, 31, 32, 33, 34, 35, 36, 37, 38, 39, 40, 41, 42, 43, 44, 45, 46, 47, 48, 49, 50, 51, 52, 53, 54, 55, 56, 57, 58, 59, 60, 61, 62, 63, 64, 65, 66] rfl (by decide +kernel)) (goodIn_sub (fun _ h => List.mem_cons_of_mem _ (List.mem_append_left _ (List.mem_append_right _ h))) (by decide +kernel))) (goodIn_sub (fun _ h => List.mem_cons_of_mem _ (List.mem_append_right _ h)) (by decide +kernel))
set_option maxRecDepth 100000 in
theorem gL_openAt_X5_openAt : GoodIn wsL_openAt (wsV RL 21 RX5 yX5_openAt wsX5_openAt) := goodIn_app (goodIn_of _ (by decide +kernel)) ggL_openAt_X5_openAt
theorem dL_openAt_0 : decode cL_openAt 0 = .ok (.aload_n 3, 1) := by decide +kernel
theorem dL_openAt_1 : decode cL_openAt 1 = .ok (.iconst 0, 1) := by decide +kernel
theorem dL_openAt_2 : decode cL_openAt 2 = .ok (.aload_n 0, 1) := by decide +kernel
theorem dL_openAt_3 : decode cL_openAt 3 = .ok (.iload_n 1, 1) := by decide +kernel
theorem dL_openAt_4 : decode cL_openAt 4 = .ok (.iload_n 2, 1) := by decide +kernel
theorem dL_openAt_5 : decode cL_openAt 5 = .ok (.invokevirtual 21, 3) := by decide +kernel
theorem dL_openAt_8 : decode cL_openAt 8 = .ok (.i2l, 1) := by decide +kernel
theorem dL_openAt_9 : decode cL_openAt 9 = .ok (.lastore, 1) := by decide +kernel
theorem dL_openAt_10 : decode cL_openAt 10 = .ok (.goto 11, 3) := by decide +kernel
theorem dL_openAt_13 : decode cL_openAt 13 = .ok (.astore 4, 2) := by decide +kernel
theorem dL_openAt_15 : decode cL_openAt 15 = .ok (.iconst 1, 1) := by decide +kernel
theorem dL_openAt_16 : decode cL_openAt 16 = .ok (.ireturn, 1) := by decide +kernel
theorem dL_openAt_17 : decode cL_openAt 17 = .ok (.astore 4, 2) := by decide +kernel
theorem dL_openAt_19 : decode cL_openAt 19 = .ok (.iconst 2, 1) := by decide +kernel
theorem dL_openAt_20 : decode cL_openAt 20 = .ok (.ireturn, 1) := by decide +kernel
theorem dL_openAt_21 : decode cL_openAt 21 = .ok (.iconst 0, 1) := by decide +kernel
theorem dL_openAt_22 : decode cL_openAt 22 = .ok (.ireturn, 1) := by decide +kernel
set_option maxRecDepth 100000 in
theorem ggL_cell_X5_cell : GoodIn wsL_cell wsX5_cell := goodIn_ca (goodIn_r _ [6, 7, 8, 9, 10, 11, 12, 5, 13, 14, 15, 16, 17, 18, 19, 20, 21, 22, 23, 24, 25, 26, 27, 28, 29, 30, 31, 32, 33, 34, 35, 36, 37, 38, 39, 40, 41, 42, 43, 44, 45, 46, 47, 48, 49, 50, 51] rfl (by decide +kernel)) (goodIn_sub (fun _ h => List.mem_cons_of_mem _ (List.mem_append_right _ h)) (by decide +kernel))
set_option maxRecDepth 100000 in
theorem gL_cell_X5_cell : GoodIn wsL_cell (wsV RL 27 RX5 yX5_cell wsX5_cell) := goodIn_app (goodIn_of _ (by decide +kernel)) ggL_cell_X5_cell
theorem dL_cell_0 : decode cL_cell 0 = .ok (.aload 4, 2) := by decide +kernel
theorem dL_cell_2 : decode cL_cell 2 = .ok (.iconst 0, 1) := by decide +kernel
theorem dL_cell_3 : decode cL_cell 3 = .ok (.aload_n 0, 1) := by decide +kernel
theorem dL_cell_4 : decode cL_cell 4 = .ok (.iload_n 1, 1) := by decide +kernel
theorem dL_cell_5 : decode cL_cell 5 = .ok (.iload_n 2, 1) := by decide +kernel
theorem dL_cell_6 : decode cL_cell 6 = .ok (.iload_n 3, 1) := by decide +kernel
theorem dL_cell_7 : decode cL_cell 7 = .ok (.invokevirtual 27, 3) := by decide +kernel
theorem dL_cell_10 : decode cL_cell 10 = .ok (.i2l, 1) := by decide +kernel
theorem dL_cell_11 : decode cL_cell 11 = .ok (.lastore, 1) := by decide +kernel
theorem dL_cell_12 : decode cL_cell 12 = .ok (.goto 7, 3) := by decide +kernel
theorem dL_cell_15 : decode cL_cell 15 = .ok (.astore 5, 2) := by decide +kernel
theorem dL_cell_17 : decode cL_cell 17 = .ok (.iconst 1, 1) := by decide +kernel
theorem dL_cell_18 : decode cL_cell 18 = .ok (.ireturn, 1) := by decide +kernel
theorem dL_cell_19 : decode cL_cell 19 = .ok (.iconst 0, 1) := by decide +kernel
theorem dL_cell_20 : decode cL_cell 20 = .ok (.ireturn, 1) := by decide +kernel
set_option maxRecDepth 100000 in
theorem ggL_come_X5_come : GoodIn wsL_come wsX5_come := goodIn_ca (goodIn_ca (goodIn_ca (goodIn_r _ [8, 9, 10, 11, 12, 13, 14, 15, 16, 17, 18, 19, 20, 7, 21, 22, 23, 24, 25, 26, 27, 28, 29, 30, 31, 32, 33, 34, 35, 36, 37, 38, 39, 40, 41, 42, 43, 44, 45, 46, 47, 48, 49, 50, 51, 52, 53, 54, 55, 56, 57, 58, 59, 60, 61, 62, 63, 64, 65, 66, 67, 68, 69, 70, 71, 72, 73, 74, 75, 76, 77, 78, 79, 80, 81, 82, 83, 84, 85, 86, 87, 88, 89, 90] rfl (by decide +kernel)) (goodIn_sub (fun _ h => List.mem_cons_of_mem _ (List.mem_append_left _ (List.mem_append_left _ (List.mem_append_right _ h)))) (by decide +kernel))) (goodIn_sub (fun _ h => List.mem_cons_of_mem _ (List.mem_append_left _ (List.mem_append_right _ h))) (by decide +kernel))) (goodIn_sub (fun _ h => List.mem_cons_of_mem _ (List.mem_append_right _ h)) (by decide +kernel))
set_option maxRecDepth 100000 in
theorem gL_come_X5_come : GoodIn wsL_come (wsV RL 31 RX5 yX5_come wsX5_come) := goodIn_app (goodIn_of _ (by decide +kernel)) ggL_come_X5_come
theorem dL_come_0 : decode cL_come 0 = .ok (.aload 6, 2) := by decide +kernel
theorem dL_come_2 : decode cL_come 2 = .ok (.iconst 0, 1) := by decide +kernel
theorem dL_come_3 : decode cL_come 3 = .ok (.aload_n 0, 1) := by decide +kernel
theorem dL_come_4 : decode cL_come 4 = .ok (.iload_n 1, 1) := by decide +kernel
theorem dL_come_5 : decode cL_come 5 = .ok (.iload_n 2, 1) := by decide +kernel
theorem dL_come_6 : decode cL_come 6 = .ok (.iload_n 3, 1) := by decide +kernel
theorem dL_come_7 : decode cL_come 7 = .ok (.iload 4, 2) := by decide +kernel
theorem dL_come_9 : decode cL_come 9 = .ok (.iload 5, 2) := by decide +kernel
theorem dL_come_11 : decode cL_come 11 = .ok (.invokevirtual 31, 3) := by decide +kernel
theorem dL_come_14 : decode cL_come 14 = .ok (.i2l, 1) := by decide +kernel
theorem dL_come_15 : decode cL_come 15 = .ok (.lastore, 1) := by decide +kernel
theorem dL_come_16 : decode cL_come 16 = .ok (.goto 15, 3) := by decide +kernel
theorem dL_come_19 : decode cL_come 19 = .ok (.astore 7, 2) := by decide +kernel
theorem dL_come_21 : decode cL_come 21 = .ok (.iconst 1, 1) := by decide +kernel
theorem dL_come_22 : decode cL_come 22 = .ok (.ireturn, 1) := by decide +kernel
theorem dL_come_23 : decode cL_come 23 = .ok (.astore 7, 2) := by decide +kernel
theorem dL_come_25 : decode cL_come 25 = .ok (.iconst 2, 1) := by decide +kernel
theorem dL_come_26 : decode cL_come 26 = .ok (.ireturn, 1) := by decide +kernel
theorem dL_come_27 : decode cL_come 27 = .ok (.astore 7, 2) := by decide +kernel
theorem dL_come_29 : decode cL_come 29 = .ok (.iconst 3, 1) := by decide +kernel
theorem dL_come_30 : decode cL_come 30 = .ok (.ireturn, 1) := by decide +kernel
theorem dL_come_31 : decode cL_come 31 = .ok (.iconst 0, 1) := by decide +kernel
theorem dL_come_32 : decode cL_come 32 = .ok (.ireturn, 1) := by decide +kernel
set_option maxRecDepth 100000 in
theorem ggL_order_X5_order : GoodIn wsL_order wsX5_order := goodIn_ca (goodIn_ca (goodIn_ca (goodIn_r _ [8, 9, 10, 11, 12, 13, 14, 15, 16, 17, 18, 19, 20, 21, 22, 23, 24, 25, 26, 27, 28, 29, 30, 31, 32, 33, 34, 35, 36, 37, 38, 39, 40, 41, 42, 43, 44, 45, 46, 47, 48, 49, 50, 51, 52, 53, 54, 55, 56, 57, 58, 59, 60, 61, 62, 63] rfl (by decide +kernel)) (goodIn_sub (fun _ h => List.mem_cons_of_mem _ (List.mem_append_left _ (List.mem_append_left _ (List.mem_append_right _ h)))) (by decide +kernel))) (goodIn_sub (fun _ h => List.mem_cons_of_mem _ (List.mem_append_left _ (List.mem_append_right _ h))) (by decide +kernel))) (goodIn_sub (fun _ h => List.mem_cons_of_mem _ (List.mem_append_right _ h)) (by decide +kernel))
set_option maxRecDepth 100000 in
theorem gL_order_X5_order : GoodIn wsL_order (wsV RL 34 RX5 yX5_order wsX5_order) := goodIn_app (goodIn_of _ (by decide +kernel)) ggL_order_X5_order
theorem dL_order_0 : decode cL_order 0 = .ok (.aload 5, 2) := by decide +kernel
theorem dL_order_2 : decode cL_order 2 = .ok (.iconst 0, 1) := by decide +kernel
theorem dL_order_3 : decode cL_order 3 = .ok (.aload_n 0, 1) := by decide +kernel
theorem dL_order_4 : decode cL_order 4 = .ok (.iload_n 1, 1) := by decide +kernel
theorem dL_order_5 : decode cL_order 5 = .ok (.iload_n 2, 1) := by decide +kernel
theorem dL_order_6 : decode cL_order 6 = .ok (.iload_n 3, 1) := by decide +kernel
theorem dL_order_7 : decode cL_order 7 = .ok (.iload 4, 2) := by decide +kernel
theorem dL_order_9 : decode cL_order 9 = .ok (.invokevirtual 34, 3) := by decide +kernel
theorem dL_order_12 : decode cL_order 12 = .ok (.i2l, 1) := by decide +kernel
theorem dL_order_13 : decode cL_order 13 = .ok (.lastore, 1) := by decide +kernel
theorem dL_order_14 : decode cL_order 14 = .ok (.goto 15, 3) := by decide +kernel
theorem dL_order_17 : decode cL_order 17 = .ok (.astore 6, 2) := by decide +kernel
theorem dL_order_19 : decode cL_order 19 = .ok (.iconst 1, 1) := by decide +kernel
theorem dL_order_20 : decode cL_order 20 = .ok (.ireturn, 1) := by decide +kernel
theorem dL_order_21 : decode cL_order 21 = .ok (.astore 6, 2) := by decide +kernel
theorem dL_order_23 : decode cL_order 23 = .ok (.iconst 2, 1) := by decide +kernel
theorem dL_order_24 : decode cL_order 24 = .ok (.ireturn, 1) := by decide +kernel
theorem dL_order_25 : decode cL_order 25 = .ok (.astore 6, 2) := by decide +kernel
theorem dL_order_27 : decode cL_order 27 = .ok (.iconst 3, 1) := by decide +kernel
theorem dL_order_28 : decode cL_order 28 = .ok (.ireturn, 1) := by decide +kernel
theorem dL_order_29 : decode cL_order 29 = .ok (.iconst 0, 1) := by decide +kernel
theorem dL_order_30 : decode cL_order 30 = .ok (.ireturn, 1) := by decide +kernel
set_option maxRecDepth 100000 in
theorem ggL_clear_X5_clear : GoodIn wsL_clear wsX5_clear := goodIn_ca (goodIn_r _ [6, 7, 8, 9, 10, 11, 12, 13, 14, 15, 16, 17, 18, 19, 20, 21, 22, 23, 24, 25, 26, 27, 28, 29, 30, 31, 32, 33, 34, 35, 36, 37, 38, 39, 40, 41, 42, 43] rfl (by decide +kernel)) (goodIn_sub (fun _ h => List.mem_cons_of_mem _ (List.mem_append_right _ h)) (by decide +kernel))
set_option maxRecDepth 100000 in
theorem gL_clear_X5_clear : GoodIn wsL_clear (wsV RL 38 RX5 yX5_clear wsX5_clear) := goodIn_app (goodIn_of _ (by decide +kernel)) ggL_clear_X5_clear
theorem dL_clear_0 : decode cL_clear 0 = .ok (.aload_n 2, 1) := by decide +kernel
theorem dL_clear_1 : decode cL_clear 1 = .ok (.iconst 0, 1) := by decide +kernel
theorem dL_clear_2 : decode cL_clear 2 = .ok (.aload_n 0, 1) := by decide +kernel
theorem dL_clear_3 : decode cL_clear 3 = .ok (.iload_n 1, 1) := by decide +kernel
theorem dL_clear_4 : decode cL_clear 4 = .ok (.invokevirtual 38, 3) := by decide +kernel
theorem dL_clear_7 : decode cL_clear 7 = .ok (.i2l, 1) := by decide +kernel
theorem dL_clear_8 : decode cL_clear 8 = .ok (.lastore, 1) := by decide +kernel
theorem dL_clear_9 : decode cL_clear 9 = .ok (.goto 6, 3) := by decide +kernel
theorem dL_clear_12 : decode cL_clear 12 = .ok (.astore_n 3, 1) := by decide +kernel
theorem dL_clear_13 : decode cL_clear 13 = .ok (.iconst 1, 1) := by decide +kernel
theorem dL_clear_14 : decode cL_clear 14 = .ok (.ireturn, 1) := by decide +kernel
theorem dL_clear_15 : decode cL_clear 15 = .ok (.iconst 0, 1) := by decide +kernel
theorem dL_clear_16 : decode cL_clear 16 = .ok (.ireturn, 1) := by decide +kernel
set_option maxRecDepth 100000 in
theorem ggL_team_X5_team : GoodIn wsL_team wsX5_team := goodIn_ca (goodIn_r _ [6, 7, 8, 9, 10, 11, 12, 13, 14, 15, 16, 17, 18, 19, 20, 21, 22, 23, 24, 25, 26, 27, 28, 29, 30, 31, 32, 33, 34, 35, 36, 37, 38, 39, 40, 41, 42, 43, 44, 45, 46, 47, 48, 49, 50, 51, 52, 53, 54, 55, 56, 57, 58, 59, 60] rfl (by decide +kernel)) (goodIn_sub (fun _ h => List.mem_cons_of_mem _ (List.mem_append_right _ h)) (by decide +kernel))
set_option maxRecDepth 100000 in
theorem gL_team_X5_team : GoodIn wsL_team (wsV RL 41 RX5 yX5_team wsX5_team) := goodIn_app (goodIn_of _ (by decide +kernel)) ggL_team_X5_team
theorem dL_team_0 : decode cL_team 0 = .ok (.aload_n 3, 1) := by decide +kernel
theorem dL_team_1 : decode cL_team 1 = .ok (.iconst 0, 1) := by decide +kernel
theorem dL_team_2 : decode cL_team 2 = .ok (.aload_n 0, 1) := by decide +kernel
theorem dL_team_3 : decode cL_team 3 = .ok (.iload_n 1, 1) := by decide +kernel
theorem dL_team_4 : decode cL_team 4 = .ok (.iload_n 2, 1) := by decide +kernel
theorem dL_team_5 : decode cL_team 5 = .ok (.invokevirtual 41, 3) := by decide +kernel
theorem dL_team_8 : decode cL_team 8 = .ok (.i2l, 1) := by decide +kernel
theorem dL_team_9 : decode cL_team 9 = .ok (.lastore, 1) := by decide +kernel
theorem dL_team_10 : decode cL_team 10 = .ok (.goto 7, 3) := by decide +kernel
theorem dL_team_13 : decode cL_team 13 = .ok (.astore 4, 2) := by decide +kernel
theorem dL_team_15 : decode cL_team 15 = .ok (.iconst 1, 1) := by decide +kernel
theorem dL_team_16 : decode cL_team 16 = .ok (.ireturn, 1) := by decide +kernel
theorem dL_team_17 : decode cL_team 17 = .ok (.iconst 0, 1) := by decide +kernel
theorem dL_team_18 : decode cL_team 18 = .ok (.ireturn, 1) := by decide +kernel
set_option maxRecDepth 100000 in
theorem ggL_heard_X5_heard : GoodIn wsL_heard wsX5_heard := goodIn_ca (goodIn_r _ [6, 7, 8, 9, 10, 11, 12, 13, 14, 15, 16, 17, 18, 19, 20, 21, 22, 23, 24, 25, 26, 27, 28, 29, 30, 31, 32, 33, 34, 35, 36, 37, 38, 39, 40, 41, 42, 43, 44, 45, 46, 47, 48, 49, 50] rfl (by decide +kernel)) (goodIn_sub (fun _ h => List.mem_cons_of_mem _ (List.mem_append_right _ h)) (by decide +kernel))
set_option maxRecDepth 100000 in
theorem gL_heard_X5_heard : GoodIn wsL_heard (wsV RL 44 RX5 yX5_heard wsX5_heard) := goodIn_app (goodIn_of _ (by decide +kernel)) ggL_heard_X5_heard
theorem dL_heard_0 : decode cL_heard 0 = .ok (.aload_n 3, 1) := by decide +kernel
theorem dL_heard_1 : decode cL_heard 1 = .ok (.iconst 0, 1) := by decide +kernel
theorem dL_heard_2 : decode cL_heard 2 = .ok (.aload_n 0, 1) := by decide +kernel
theorem dL_heard_3 : decode cL_heard 3 = .ok (.iload_n 1, 1) := by decide +kernel
theorem dL_heard_4 : decode cL_heard 4 = .ok (.iload_n 2, 1) := by decide +kernel
theorem dL_heard_5 : decode cL_heard 5 = .ok (.invokevirtual 44, 3) := by decide +kernel
theorem dL_heard_8 : decode cL_heard 8 = .ok (.i2l, 1) := by decide +kernel
theorem dL_heard_9 : decode cL_heard 9 = .ok (.lastore, 1) := by decide +kernel
theorem dL_heard_10 : decode cL_heard 10 = .ok (.goto 7, 3) := by decide +kernel
theorem dL_heard_13 : decode cL_heard 13 = .ok (.astore 4, 2) := by decide +kernel
theorem dL_heard_15 : decode cL_heard 15 = .ok (.iconst 1, 1) := by decide +kernel
theorem dL_heard_16 : decode cL_heard 16 = .ok (.ireturn, 1) := by decide +kernel
theorem dL_heard_17 : decode cL_heard 17 = .ok (.iconst 0, 1) := by decide +kernel
theorem dL_heard_18 : decode cL_heard 18 = .ok (.ireturn, 1) := by decide +kernel
set_option maxRecDepth 100000 in
theorem ggL_pass_X5_pass : GoodIn wsL_pass wsX5_pass := goodIn_ca (goodIn_r _ [6, 7, 8, 9, 10, 11, 12, 13, 14, 15, 16, 17, 18, 19, 20, 21, 22, 23, 24, 25, 26, 27, 28, 29, 30, 31, 32, 33, 34, 35, 36, 37, 38, 39, 40, 41, 42, 43, 44, 45, 46, 47, 48, 49, 50, 51, 52, 53, 54, 5, 55, 56, 57, 58, 59, 60, 61, 62, 63, 64, 65, 66, 67, 68, 69, 70, 71, 72, 73, 74, 75, 76, 77, 78, 79, 80, 81, 82, 83, 84, 85, 86, 87, 88, 89, 90, 91, 92, 93, 94, 95, 96, 97, 98, 99, 100, 101, 102, 103, 104, 105, 106, 107, 108, 109, 110, 111, 112, 113, 114, 115, 116, 117, 118, 119, 120, 121, 122, 123, 124, 125, 126, 127, 128, 129, 130, 131, 132, 133, 134, 135, 136, 137, 138, 139, 140, 141, 142, 143, 144, 145, 146, 147, 148, 149, 150, 151, 152, 153, 154, 155, 156, 157, 158, 159, 160, 161, 162, 163, 164, 165, 166, 167, 168, 169, 170, 171, 172, 173, 174, 175, 176, 177, 178, 179, 180, 181, 182, 183, 184, 185, 186, 187, 188, 189, 190, 191, 192, 193, 194, 195, 196, 197, 198, 199, 200, 201, 202, 203, 204, 205, 206, 207, 208, 209, 210, 211, 212, 213, 214, 215, 216, 217, 218, 219, 220, 221, 222, 223, 224, 225, 226, 227, 228, 229, 230, 231, 232, 233, 234, 235, 236, 237, 238, 239, 240, 241, 242, 243, 244, 245, 246, 247, 248, 249, 250, 251, 252, 253, 254, 255, 256, 257, 258, 259, 260, 261, 262, 263, 264, 265, 266, 267, 268, 269, 270, 271, 272, 273, 274, 275] rfl (by decide +kernel)) (goodIn_sub (fun _ h => List.mem_cons_of_mem _ (List.mem_append_right _ h)) (by decide +kernel))
set_option maxRecDepth 100000 in
theorem gL_pass_X5_pass : GoodIn wsL_pass (wsV RL 47 RX5 yX5_pass wsX5_pass) := goodIn_app (goodIn_of _ (by decide +kernel)) ggL_pass_X5_pass
theorem dL_pass_0 : decode cL_pass 0 = .ok (.aload_n 2, 1) := by decide +kernel
theorem dL_pass_1 : decode cL_pass 1 = .ok (.iconst 0, 1) := by decide +kernel
theorem dL_pass_2 : decode cL_pass 2 = .ok (.aload_n 0, 1) := by decide +kernel
theorem dL_pass_3 : decode cL_pass 3 = .ok (.iload_n 1, 1) := by decide +kernel
theorem dL_pass_4 : decode cL_pass 4 = .ok (.invokevirtual 47, 3) := by decide +kernel
theorem dL_pass_7 : decode cL_pass 7 = .ok (.i2l, 1) := by decide +kernel
theorem dL_pass_8 : decode cL_pass 8 = .ok (.lastore, 1) := by decide +kernel
theorem dL_pass_9 : decode cL_pass 9 = .ok (.goto 6, 3) := by decide +kernel
theorem dL_pass_12 : decode cL_pass 12 = .ok (.astore_n 3, 1) := by decide +kernel
theorem dL_pass_13 : decode cL_pass 13 = .ok (.iconst 1, 1) := by decide +kernel
theorem dL_pass_14 : decode cL_pass 14 = .ok (.ireturn, 1) := by decide +kernel
theorem dL_pass_15 : decode cL_pass 15 = .ok (.iconst 0, 1) := by decide +kernel
theorem dL_pass_16 : decode cL_pass 16 = .ok (.ireturn, 1) := by decide +kernel
set_option maxRecDepth 100000 in
theorem ggL_count_X5_count : GoodIn wsL_count wsX5_count := goodIn_ca (goodIn_r _ [6, 7, 8, 9, 10, 11, 5, 12, 13, 14, 15, 16, 17, 18, 19, 20, 21, 22, 23, 24, 25, 26, 27, 28, 29, 30, 31, 32, 33, 34, 35, 36, 37, 38, 39, 40, 41, 42, 43, 44, 45, 46, 47, 48, 49, 50, 51, 52, 53, 54, 55, 56, 57, 58, 59, 60, 61, 62, 63, 64, 65, 66, 67, 68, 69, 70, 71, 72, 73, 74, 75, 76, 77, 78, 79, 80, 81, 82, 83, 84, 85, 86, 87, 88, 89, 90, 91, 92, 93, 94, 95, 96, 97, 98, 99] rfl (by decide +kernel)) (goodIn_sub (fun _ h => List.mem_cons_of_mem _ (List.mem_append_right _ h)) (by decide +kernel))
set_option maxRecDepth 100000 in
theorem gL_count_X5_count : GoodIn wsL_count (wsV RL 50 RX5 yX5_count wsX5_count) := goodIn_app (goodIn_of _ (by decide +kernel)) ggL_count_X5_count
theorem dL_count_0 : decode cL_count 0 = .ok (.aload_n 2, 1) := by decide +kernel
theorem dL_count_1 : decode cL_count 1 = .ok (.iconst 0, 1) := by decide +kernel
theorem dL_count_2 : decode cL_count 2 = .ok (.aload_n 0, 1) := by decide +kernel
theorem dL_count_3 : decode cL_count 3 = .ok (.iload_n 1, 1) := by decide +kernel
theorem dL_count_4 : decode cL_count 4 = .ok (.invokevirtual 50, 3) := by decide +kernel
theorem dL_count_7 : decode cL_count 7 = .ok (.i2l, 1) := by decide +kernel
theorem dL_count_8 : decode cL_count 8 = .ok (.lastore, 1) := by decide +kernel
theorem dL_count_9 : decode cL_count 9 = .ok (.goto 6, 3) := by decide +kernel
theorem dL_count_12 : decode cL_count 12 = .ok (.astore_n 3, 1) := by decide +kernel
theorem dL_count_13 : decode cL_count 13 = .ok (.iconst 1, 1) := by decide +kernel
theorem dL_count_14 : decode cL_count 14 = .ok (.ireturn, 1) := by decide +kernel
theorem dL_count_15 : decode cL_count 15 = .ok (.iconst 0, 1) := by decide +kernel
theorem dL_count_16 : decode cL_count 16 = .ok (.ireturn, 1) := by decide +kernel
set_option maxRecDepth 100000 in
theorem ggL_way_X5_way : GoodIn wsL_way wsX5_way := goodIn_ca (goodIn_r _ [6, 7, 8, 9, 10, 11, 12, 13, 14, 5, 15, 16, 17, 18, 19, 20, 21, 22, 23, 24, 25, 26, 27, 28, 29, 30, 31, 32, 33, 34, 35, 36, 37, 38, 39, 40, 41, 42, 43, 44, 45, 46, 47, 48, 49, 50, 51, 52, 53, 54, 55, 56, 57, 58, 59, 60, 61, 62, 63, 64, 65, 66, 67, 68, 69, 70, 71, 72, 73, 74, 75, 76, 77, 78, 79] rfl (by decide +kernel)) (goodIn_sub (fun _ h => List.mem_cons_of_mem _ (List.mem_append_right _ h)) (by decide +kernel))
set_option maxRecDepth 100000 in
theorem gL_way_X5_way : GoodIn wsL_way (wsV RL 53 RX5 yX5_way wsX5_way) := goodIn_app (goodIn_of _ (by decide +kernel)) ggL_way_X5_way
theorem dL_way_0 : decode cL_way 0 = .ok (.aload 5, 2) := by decide +kernel
theorem dL_way_2 : decode cL_way 2 = .ok (.iconst 0, 1) := by decide +kernel
theorem dL_way_3 : decode cL_way 3 = .ok (.aload_n 0, 1) := by decide +kernel
theorem dL_way_4 : decode cL_way 4 = .ok (.iload_n 1, 1) := by decide +kernel
theorem dL_way_5 : decode cL_way 5 = .ok (.iload_n 2, 1) := by decide +kernel
theorem dL_way_6 : decode cL_way 6 = .ok (.iload_n 3, 1) := by decide +kernel
theorem dL_way_7 : decode cL_way 7 = .ok (.iload 4, 2) := by decide +kernel
theorem dL_way_9 : decode cL_way 9 = .ok (.invokevirtual 53, 3) := by decide +kernel
theorem dL_way_12 : decode cL_way 12 = .ok (.i2l, 1) := by decide +kernel
theorem dL_way_13 : decode cL_way 13 = .ok (.lastore, 1) := by decide +kernel
theorem dL_way_14 : decode cL_way 14 = .ok (.goto 7, 3) := by decide +kernel
theorem dL_way_17 : decode cL_way 17 = .ok (.astore 6, 2) := by decide +kernel
theorem dL_way_19 : decode cL_way 19 = .ok (.iconst 1, 1) := by decide +kernel
theorem dL_way_20 : decode cL_way 20 = .ok (.ireturn, 1) := by decide +kernel
theorem dL_way_21 : decode cL_way 21 = .ok (.iconst 0, 1) := by decide +kernel
theorem dL_way_22 : decode cL_way 22 = .ok (.ireturn, 1) := by decide +kernel
set_option maxRecDepth 100000 in
theorem ggL_reach_X5_reach : GoodIn wsL_reach wsX5_reach := goodIn_ca (goodIn_r _ [6, 7, 8, 9, 10, 11, 12, 13, 14, 15, 16, 17, 18, 19, 20, 21, 22, 23, 5, 24, 25, 26, 27, 28, 29, 30, 31, 32, 33, 34, 35, 36, 37, 38, 39, 40, 41, 42, 43, 44, 45, 46, 47, 48, 49, 50, 51, 52, 53, 54, 55, 56, 57, 58, 59, 60, 61, 62, 63, 64, 65, 66, 67, 68, 69, 70, 71, 72, 73, 74, 75, 76, 77, 78, 79, 80, 81, 82, 83, 84, 85, 86, 87, 88, 89, 90, 91, 92, 93, 94, 95, 96, 97, 98, 99, 100, 101, 102, 103] rfl (by decide +kernel)) (goodIn_sub (fun _ h => List.mem_cons_of_mem _ (List.mem_append_right _ h)) (by decide +kernel))
set_option maxRecDepth 100000 in
theorem gL_reach_X5_reach : GoodIn wsL_reach (wsV RL 56 RX5 yX5_reach wsX5_reach) := goodIn_app (goodIn_of _ (by decide +kernel)) ggL_reach_X5_reach
theorem dL_reach_0 : decode cL_reach 0 = .ok (.aload 4, 2) := by decide +kernel
theorem dL_reach_2 : decode cL_reach 2 = .ok (.iconst 0, 1) := by decide +kernel
theorem dL_reach_3 : decode cL_reach 3 = .ok (.aload_n 0, 1) := by decide +kernel
theorem dL_reach_4 : decode cL_reach 4 = .ok (.iload_n 1, 1) := by decide +kernel
theorem dL_reach_5 : decode cL_reach 5 = .ok (.iload_n 2, 1) := by decide +kernel
theorem dL_reach_6 : decode cL_reach 6 = .ok (.iload_n 3, 1) := by decide +kernel
theorem dL_reach_7 : decode cL_reach 7 = .ok (.invokevirtual 56, 3) := by decide +kernel
theorem dL_reach_10 : decode cL_reach 10 = .ok (.i2l, 1) := by decide +kernel
theorem dL_reach_11 : decode cL_reach 11 = .ok (.lastore, 1) := by decide +kernel
theorem dL_reach_12 : decode cL_reach 12 = .ok (.goto 7, 3) := by decide +kernel
theorem dL_reach_15 : decode cL_reach 15 = .ok (.astore 5, 2) := by decide +kernel
theorem dL_reach_17 : decode cL_reach 17 = .ok (.iconst 1, 1) := by decide +kernel
theorem dL_reach_18 : decode cL_reach 18 = .ok (.ireturn, 1) := by decide +kernel
theorem dL_reach_19 : decode cL_reach 19 = .ok (.iconst 0, 1) := by decide +kernel
theorem dL_reach_20 : decode cL_reach 20 = .ok (.ireturn, 1) := by decide +kernel
set_option maxRecDepth 100000 in
theorem ggL_target_X5_target : GoodIn wsL_target wsX5_target := goodIn_ca (goodIn_r _ [6, 7, 8, 9, 10, 11, 12, 13, 14, 15, 16, 17, 18, 19, 20, 21, 22, 23, 24, 25, 26, 27, 28, 29, 30, 31, 32, 33, 34, 35, 36, 5, 37, 38, 39, 40, 41, 42, 43, 44, 45, 46, 47, 48, 49, 50, 51, 52, 53, 54, 55, 56, 57, 58, 59, 60, 61, 62, 63, 64, 65, 66, 67, 68, 69, 70, 71, 72, 73, 74, 75, 76, 77, 78, 79, 80, 81, 82, 83, 84, 85, 86, 87, 88, 89, 90, 91, 92, 93, 94, 95, 96, 97, 98, 99, 100, 101] rfl (by decide +kernel)) (goodIn_sub (fun _ h => List.mem_cons_of_mem _ (List.mem_append_right _ h)) (by decide +kernel))
set_option maxRecDepth 100000 in
theorem gL_target_X5_target : GoodIn wsL_target (wsV RL 59 RX5 yX5_target wsX5_target) := goodIn_app (goodIn_of _ (by decide +kernel)) ggL_target_X5_target
theorem dL_target_0 : decode cL_target 0 = .ok (.aload_n 2, 1) := by decide +kernel
theorem dL_target_1 : decode cL_target 1 = .ok (.iconst 0, 1) := by decide +kernel
theorem dL_target_2 : decode cL_target 2 = .ok (.aload_n 0, 1) := by decide +kernel
theorem dL_target_3 : decode cL_target 3 = .ok (.iload_n 1, 1) := by decide +kernel
theorem dL_target_4 : decode cL_target 4 = .ok (.invokevirtual 59, 3) := by decide +kernel
theorem dL_target_7 : decode cL_target 7 = .ok (.i2l, 1) := by decide +kernel
theorem dL_target_8 : decode cL_target 8 = .ok (.lastore, 1) := by decide +kernel
theorem dL_target_9 : decode cL_target 9 = .ok (.goto 6, 3) := by decide +kernel
theorem dL_target_12 : decode cL_target 12 = .ok (.astore_n 3, 1) := by decide +kernel
theorem dL_target_13 : decode cL_target 13 = .ok (.iconst 1, 1) := by decide +kernel
theorem dL_target_14 : decode cL_target 14 = .ok (.ireturn, 1) := by decide +kernel
theorem dL_target_15 : decode cL_target 15 = .ok (.iconst 0, 1) := by decide +kernel
theorem dL_target_16 : decode cL_target 16 = .ok (.ireturn, 1) := by decide +kernel
set_option maxRecDepth 100000 in
theorem ggL_foresee_X5_foresee : GoodIn wsL_foresee wsX5_foresee := goodIn_ca (goodIn_ca (goodIn_r _ [7, 8, 9, 10, 11, 12, 13, 14, 15, 16, 17, 18, 19, 20, 21, 22, 23, 24, 25, 26, 27, 28, 29, 30, 31, 32, 33, 34, 35, 36, 37, 38, 39, 40, 41, 42, 43, 44, 45, 46, 47, 48, 49, 50, 51, 52, 53, 54, 55, 56, 57, 58, 59, 60, 61, 62, 63, 64, 65, 66, 67, 68, 69, 70, 71, 72, 73, 74, 75, 76, 77, 78, 79, 80, 81, 82, 83, 84, 85, 86, 87, 88, 89, 90, 91, 92, 93, 94, 95, 96, 97, 6, 98, 99, 100, 101, 102, 103, 104, 105, 106, 107, 108, 109, 110, 111, 112, 113, 114, 115, 116, 117, 118, 119, 120, 121, 122, 123, 124, 125, 126, 127, 128, 129, 130, 131, 132, 133, 134, 135, 136, 137, 138, 139, 140, 141, 142, 143, 144, 145, 146, 147, 148, 149, 150, 151, 152, 153, 154, 155, 156, 157, 158, 159, 160, 161, 162, 163, 164, 165, 166, 167, 168, 169, 170, 171, 172, 173, 174, 175, 176, 177, 178, 179, 180, 181, 182, 183, 184, 185, 186, 187, 188, 189, 190, 191, 192, 193, 194, 195, 196, 197, 198, 199, 200, 201, 202, 203, 204, 205, 206, 207, 208, 209, 210, 211, 212, 213, 214, 215, 216, 217, 218, 219, 220, 221, 222, 223, 224, 225, 226, 227, 228, 229, 230, 231, 232, 233, 234, 235, 236, 237, 238, 239, 240, 241, 242, 243, 244, 245, 246, 247, 248, 249, 250, 251, 252, 253, 254, 255, 256, 257, 258, 259, 260, 261, 262, 263, 264, 265, 266, 267, 268, 269, 270, 271, 272, 273, 274, 275, 276, 277, 278, 279, 280, 281, 282, 283, 284, 285, 286, 287, 288, 289, 290, 291, 292, 293, 294, 295, 296, 297, 298, 299] rfl (by decide +kernel)) (goodIn_sub (fun _ h => List.mem_cons_of_mem _ (List.mem_append_left _ (List.mem_append_right _ h))) (by decide +kernel))) (goodIn_sub (fun _ h => List.mem_cons_of_mem _ (List.mem_append_right _ h)) (by decide +kernel))
set_option maxRecDepth 100000 in
theorem gL_foresee_X5_foresee : GoodIn wsL_foresee (wsV RL 62 RX5 yX5_foresee wsX5_foresee) := goodIn_app (goodIn_of _ (by decide +kernel)) ggL_foresee_X5_foresee
theorem dL_foresee_0 : decode cL_foresee 0 = .ok (.aload_n 3, 1) := by decide +kernel
theorem dL_foresee_1 : decode cL_foresee 1 = .ok (.iconst 0, 1) := by decide +kernel
theorem dL_foresee_2 : decode cL_foresee 2 = .ok (.aload_n 0, 1) := by decide +kernel
theorem dL_foresee_3 : decode cL_foresee 3 = .ok (.iload_n 1, 1) := by decide +kernel
theorem dL_foresee_4 : decode cL_foresee 4 = .ok (.iload_n 2, 1) := by decide +kernel
theorem dL_foresee_5 : decode cL_foresee 5 = .ok (.invokevirtual 62, 3) := by decide +kernel
theorem dL_foresee_8 : decode cL_foresee 8 = .ok (.i2l, 1) := by decide +kernel
theorem dL_foresee_9 : decode cL_foresee 9 = .ok (.lastore, 1) := by decide +kernel
theorem dL_foresee_10 : decode cL_foresee 10 = .ok (.goto 11, 3) := by decide +kernel
theorem dL_foresee_13 : decode cL_foresee 13 = .ok (.astore 4, 2) := by decide +kernel
theorem dL_foresee_15 : decode cL_foresee 15 = .ok (.iconst 1, 1) := by decide +kernel
theorem dL_foresee_16 : decode cL_foresee 16 = .ok (.ireturn, 1) := by decide +kernel
theorem dL_foresee_17 : decode cL_foresee 17 = .ok (.astore 4, 2) := by decide +kernel
theorem dL_foresee_19 : decode cL_foresee 19 = .ok (.iconst 2, 1) := by decide +kernel
theorem dL_foresee_20 : decode cL_foresee 20 = .ok (.ireturn, 1) := by decide +kernel
theorem dL_foresee_21 : decode cL_foresee 21 = .ok (.iconst 0, 1) := by decide +kernel
theorem dL_foresee_22 : decode cL_foresee 22 = .ok (.ireturn, 1) := by decide +kernel
set_option maxRecDepth 100000 in
theorem ggL_falls_X5_falls : GoodIn wsL_falls wsX5_falls := goodIn_ca (goodIn_r _ [6, 7, 8, 9, 10, 11, 12, 13, 14, 5, 15, 16, 17, 18, 19, 20, 21, 22, 23, 24, 25, 26, 27, 28, 29, 30, 31, 32, 33, 34, 35, 36, 37, 38, 39, 40, 41, 42, 43, 44, 45, 46, 47, 48, 49, 50, 51, 52, 53, 54, 55, 56, 57, 58, 59, 60, 61, 62, 63, 64, 65, 66, 67, 68, 69, 70, 71, 72, 73, 74, 75, 76, 77, 78, 79, 80, 81, 82, 83, 84, 85, 86, 87, 88, 89, 90, 91, 92, 93, 94, 95, 96, 97, 98, 99, 100, 101, 102, 103, 104, 105, 106, 107, 108, 109, 110, 111, 112, 113, 114, 115, 116, 117, 118, 119, 120, 121, 122, 123, 124, 125, 126, 127, 128, 129, 130, 131, 132, 133, 134, 135, 136, 137, 138, 139, 140, 141, 142, 143, 144, 145, 146, 147, 148, 149, 150, 151, 152, 153, 154, 155, 156, 157, 158, 159, 160, 161, 162, 163, 164, 165, 166, 167, 168, 169, 170, 171, 172, 173, 174, 175, 176, 177, 178, 179, 180, 181, 182, 183, 184, 185, 186, 187, 188, 189, 190, 191, 192, 193, 194, 195, 196, 197, 198, 199, 200, 201, 202, 203, 204, 205, 206, 207, 208, 209, 210, 211, 212, 213, 214, 215, 216, 217, 218, 219, 220, 221, 222, 223, 224, 225, 226, 227, 228, 229, 230, 231, 232, 233, 234, 235, 236, 237, 238, 239, 240, 241, 242, 243, 244, 245, 246, 247, 248, 249, 250, 251, 252, 253, 254, 255, 256, 257, 258, 259, 260, 261, 262, 263, 264, 265, 266, 267, 268, 269, 270, 271, 272, 273, 274, 275, 276, 277, 278, 279, 280, 281, 282, 283, 284, 285, 286, 287, 288, 289, 290, 291, 292, 293, 294, 295, 296, 297] rfl (by decide +kernel)) (goodIn_sub (fun _ h => List.mem_cons_of_mem _ (List.mem_append_right _ h)) (by decide +kernel))
set_option maxRecDepth 100000 in
theorem gL_falls_X5_falls : GoodIn wsL_falls (wsV RL 65 RX5 yX5_falls wsX5_falls) := goodIn_app (goodIn_of _ (by decide +kernel)) ggL_falls_X5_falls
theorem dL_falls_0 : decode cL_falls 0 = .ok (.aload_n 3, 1) := by decide +kernel
theorem dL_falls_1 : decode cL_falls 1 = .ok (.iconst 0, 1) := by decide +kernel
theorem dL_falls_2 : decode cL_falls 2 = .ok (.aload_n 0, 1) := by decide +kernel
theorem dL_falls_3 : decode cL_falls 3 = .ok (.iload_n 1, 1) := by decide +kernel
theorem dL_falls_4 : decode cL_falls 4 = .ok (.iload_n 2, 1) := by decide +kernel
theorem dL_falls_5 : decode cL_falls 5 = .ok (.invokevirtual 65, 3) := by decide +kernel
theorem dL_falls_8 : decode cL_falls 8 = .ok (.i2l, 1) := by decide +kernel
theorem dL_falls_9 : decode cL_falls 9 = .ok (.lastore, 1) := by decide +kernel
theorem dL_falls_10 : decode cL_falls 10 = .ok (.goto 7, 3) := by decide +kernel
theorem dL_falls_13 : decode cL_falls 13 = .ok (.astore 4, 2) := by decide +kernel
theorem dL_falls_15 : decode cL_falls 15 = .ok (.iconst 1, 1) := by decide +kernel
theorem dL_falls_16 : decode cL_falls 16 = .ok (.ireturn, 1) := by decide +kernel
theorem dL_falls_17 : decode cL_falls 17 = .ok (.iconst 0, 1) := by decide +kernel
theorem dL_falls_18 : decode cL_falls 18 = .ok (.ireturn, 1) := by decide +kernel
set_option maxRecDepth 100000 in
theorem ggL_lasts_X5_lasts : GoodIn wsL_lasts wsX5_lasts := goodIn_ca (goodIn_r _ [6, 7, 8, 9, 10, 11, 12, 13, 14, 15, 16, 17, 18, 19, 20, 21, 22, 23, 24, 25, 26, 27, 28, 29, 30, 31, 32, 33, 34, 35, 36, 37, 38, 39, 40, 41, 42, 43, 44, 45, 46, 47, 48, 49, 50, 51, 52, 53, 54, 55, 56, 57, 58, 59, 60, 61, 62, 63, 64, 65, 66, 67, 68, 69, 70, 71, 72, 73, 74, 75, 76, 77, 78, 79, 80, 81, 82, 83, 84, 85, 86, 87, 88, 89, 90, 91, 92, 93, 94, 95, 96, 97, 5, 98, 99, 100, 101, 102, 103, 104, 105, 106, 107, 108, 109, 110, 111, 112, 113, 114, 115, 116, 117, 118, 119, 120, 121, 122, 123, 124, 125, 126, 127, 128, 129, 130, 131, 132, 133, 134, 135, 136, 137, 138, 139, 140, 141, 142, 143, 144, 145, 146, 147, 148, 149, 150, 151, 152, 153, 154, 155, 156, 157, 158, 159, 160, 161, 162, 163, 164, 165, 166, 167, 168, 169, 170, 171, 172, 173, 174, 175, 176, 177, 178, 179, 180, 181, 182, 183, 184, 185, 186, 187, 188, 189, 190, 191, 192, 193, 194, 195, 196, 197, 198, 199, 200, 201, 202, 203, 204, 205, 206, 207, 208, 209, 210, 211, 212, 213, 214, 215, 216, 217, 218, 219, 220, 221, 222, 223, 224, 225, 226, 227, 228, 229, 230, 231, 232, 233, 234, 235, 236, 237, 238, 239, 240, 241, 242, 243, 244, 245, 246, 247, 248, 249, 250, 251, 252, 253, 254, 255, 256, 257, 258, 259, 260, 261, 262, 263, 264, 265, 266, 267, 268, 269, 270, 271, 272, 273, 274, 275, 276, 277, 278, 279, 280, 281, 282, 283, 284, 285, 286, 287, 288, 289, 290, 291, 292, 293, 294, 295] rfl (by decide +kernel)) (goodIn_sub (fun _ h => List.mem_cons_of_mem _ (List.mem_append_right _ h)) (by decide +kernel))
set_option maxRecDepth 100000 in
theorem gL_lasts_X5_lasts : GoodIn wsL_lasts (wsV RL 68 RX5 yX5_lasts wsX5_lasts) := goodIn_app (goodIn_of _ (by decide +kernel)) ggL_lasts_X5_lasts
theorem dL_lasts_0 : decode cL_lasts 0 = .ok (.aload_n 2, 1) := by decide +kernel
theorem dL_lasts_1 : decode cL_lasts 1 = .ok (.iconst 0, 1) := by decide +kernel
theorem dL_lasts_2 : decode cL_lasts 2 = .ok (.aload_n 0, 1) := by decide +kernel
theorem dL_lasts_3 : decode cL_lasts 3 = .ok (.iload_n 1, 1) := by decide +kernel
theorem dL_lasts_4 : decode cL_lasts 4 = .ok (.invokevirtual 68, 3) := by decide +kernel
theorem dL_lasts_7 : decode cL_lasts 7 = .ok (.i2l, 1) := by decide +kernel
theorem dL_lasts_8 : decode cL_lasts 8 = .ok (.lastore, 1) := by decide +kernel
theorem dL_lasts_9 : decode cL_lasts 9 = .ok (.goto 6, 3) := by decide +kernel
theorem dL_lasts_12 : decode cL_lasts 12 = .ok (.astore_n 3, 1) := by decide +kernel
theorem dL_lasts_13 : decode cL_lasts 13 = .ok (.iconst 1, 1) := by decide +kernel
theorem dL_lasts_14 : decode cL_lasts 14 = .ok (.ireturn, 1) := by decide +kernel
theorem dL_lasts_15 : decode cL_lasts 15 = .ok (.iconst 0, 1) := by decide +kernel
theorem dL_lasts_16 : decode cL_lasts 16 = .ok (.ireturn, 1) := by decide +kernel
set_option maxRecDepth 100000 in
theorem ggL_advise_X5_advise : GoodIn wsL_advise wsX5_advise := goodIn_ca (goodIn_ca (goodIn_r _ [7, 8, 9, 10, 11, 12, 13, 14, 15, 16, 17, 18, 19, 20, 21, 22, 23, 24, 25, 26, 27, 28, 6, 29, 30, 31, 32, 33, 34, 35, 36, 37, 38, 39, 40, 41, 42, 43, 44, 45, 46, 47, 48, 49, 50, 51, 52, 53, 54, 55, 56, 57, 58, 59, 60, 61, 62, 63, 64, 65, 66, 67, 68, 69, 70, 71, 72, 73, 74, 75, 76, 77, 78, 79, 80, 81, 82, 83, 84, 85, 86, 87, 88, 89, 90, 91, 92, 93, 94, 95, 96, 97, 98, 99, 100, 101, 102, 103, 104, 105, 106, 107, 108, 109, 110, 111, 112, 113, 114, 115, 116, 117, 118, 119, 120, 121, 122, 123, 124, 125, 126, 127, 128, 129, 130, 131, 132, 133, 134, 135, 136, 137, 138, 139, 140, 141, 142, 143, 144, 145, 146, 147, 148, 149, 150, 151, 152, 153, 154, 155, 156, 157, 158, 159, 160, 161, 162, 163, 164, 165, 166, 167, 168, 169, 170, 171, 172, 173, 174, 175, 176, 177, 178, 179, 180, 181, 182, 183, 184, 185, 186, 187, 188, 189, 190, 191, 192, 193, 194, 195, 196, 197, 198, 199, 200, 201, 202, 203, 204, 205, 206, 207, 208, 209, 210, 211, 212, 213, 214, 215, 216, 217, 218, 219, 220, 221, 222, 223, 224, 225, 226, 227, 228, 229, 230, 231, 232, 233, 234, 235, 236, 237, 238, 239, 240, 241, 242, 243, 244, 245, 246, 247, 248, 249, 250, 251, 252, 253, 254, 255, 256, 257, 258, 259, 260, 261, 262, 263, 264, 265, 266, 267, 268, 269, 270, 271, 272, 273, 274, 275, 276, 277, 278, 279, 280, 281, 282, 283, 284, 285, 286, 287, 288, 289, 290, 291, 292, 293, 294, 295, 296, 297, 298, 299, 300, 301, 302, 303, 304, 305, 306, 307, 308, 309, 310, 311, 312] rfl (by decide +kernel)) (goodIn_sub (fun _ h => List.mem_cons_of_mem _ (List.mem_append_left _ (List.mem_append_right _ h))) (by decide +kernel))) (goodIn_sub (fun _ h => List.mem_cons_of_mem _ (List.mem_append_right _ h)) (by decide +kernel))
set_option maxRecDepth 100000 in
theorem gL_advise_X5_advise : GoodIn wsL_advise (wsV RL 71 RX5 yX5_advise wsX5_advise) := goodIn_app (goodIn_of _ (by decide +kernel)) ggL_advise_X5_advise
theorem dL_advise_0 : decode cL_advise 0 = .ok (.aload_n 3, 1) := by decide +kernel
theorem dL_advise_1 : decode cL_advise 1 = .ok (.iconst 0, 1) := by decide +kernel
theorem dL_advise_2 : decode cL_advise 2 = .ok (.aload_n 0, 1) := by decide +kernel
theorem dL_advise_3 : decode cL_advise 3 = .ok (.iload_n 1, 1) := by decide +kernel
theorem dL_advise_4 : decode cL_advise 4 = .ok (.iload_n 2, 1) := by decide +kernel
theorem dL_advise_5 : decode cL_advise 5 = .ok (.invokevirtual 71, 3) := by decide +kernel
theorem dL_advise_8 : decode cL_advise 8 = .ok (.i2l, 1) := by decide +kernel
theorem dL_advise_9 : decode cL_advise 9 = .ok (.lastore, 1) := by decide +kernel
theorem dL_advise_10 : decode cL_advise 10 = .ok (.goto 11, 3) := by decide +kernel
theorem dL_advise_13 : decode cL_advise 13 = .ok (.astore 4, 2) := by decide +kernel
theorem dL_advise_15 : decode cL_advise 15 = .ok (.iconst 1, 1) := by decide +kernel
theorem dL_advise_16 : decode cL_advise 16 = .ok (.ireturn, 1) := by decide +kernel
theorem dL_advise_17 : decode cL_advise 17 = .ok (.astore 4, 2) := by decide +kernel
theorem dL_advise_19 : decode cL_advise 19 = .ok (.iconst 2, 1) := by decide +kernel
theorem dL_advise_20 : decode cL_advise 20 = .ok (.ireturn, 1) := by decide +kernel
theorem dL_advise_21 : decode cL_advise 21 = .ok (.iconst 0, 1) := by decide +kernel
theorem dL_advise_22 : decode cL_advise 22 = .ok (.ireturn, 1) := by decide +kernel
set_option maxRecDepth 100000 in
theorem ggL_byteAt_X5_byteAt : GoodIn wsL_byteAt wsX5_byteAt := goodIn_ca (goodIn_r _ [6, 7, 8, 9, 10, 11, 12, 13, 14, 15, 16] rfl (by decide +kernel)) (goodIn_sub (fun _ h => List.mem_cons_of_mem _ (List.mem_append_right _ h)) (by decide +kernel))
set_option maxRecDepth 100000 in
theorem gL_byteAt_X5_byteAt : GoodIn wsL_byteAt (wsV RL 74 RX5 yX5_byteAt wsX5_byteAt) := goodIn_app (goodIn_of _ (by decide +kernel)) ggL_byteAt_X5_byteAt
theorem dL_byteAt_0 : decode cL_byteAt 0 = .ok (.aload_n 2, 1) := by decide +kernel
theorem dL_byteAt_1 : decode cL_byteAt 1 = .ok (.iconst 0, 1) := by decide +kernel
theorem dL_byteAt_2 : decode cL_byteAt 2 = .ok (.aload_n 0, 1) := by decide +kernel
theorem dL_byteAt_3 : decode cL_byteAt 3 = .ok (.iload_n 1, 1) := by decide +kernel
theorem dL_byteAt_4 : decode cL_byteAt 4 = .ok (.invokevirtual 74, 3) := by decide +kernel
theorem dL_byteAt_7 : decode cL_byteAt 7 = .ok (.i2l, 1) := by decide +kernel
theorem dL_byteAt_8 : decode cL_byteAt 8 = .ok (.lastore, 1) := by decide +kernel
theorem dL_byteAt_9 : decode cL_byteAt 9 = .ok (.goto 6, 3) := by decide +kernel
theorem dL_byteAt_12 : decode cL_byteAt 12 = .ok (.astore_n 3, 1) := by decide +kernel
theorem dL_byteAt_13 : decode cL_byteAt 13 = .ok (.iconst 1, 1) := by decide +kernel
theorem dL_byteAt_14 : decode cL_byteAt 14 = .ok (.ireturn, 1) := by decide +kernel
theorem dL_byteAt_15 : decode cL_byteAt 15 = .ok (.iconst 0, 1) := by decide +kernel
theorem dL_byteAt_16 : decode cL_byteAt 16 = .ok (.ireturn, 1) := by decide +kernel
set_option maxRecDepth 100000 in
theorem ggL_law_X5_init : GoodIn wsL_law wsX5_init := goodIn_r _ [9, 10, 11, 12, 13, 14, 15, 16, 17, 18, 19, 20, 21, 22, 23, 24, 25, 26, 27, 28, 29, 30, 31, 32, 33, 34, 35, 36, 37, 38, 39, 40, 41, 42, 43, 44, 45, 46, 47, 48, 49, 50, 51, 52, 53, 54, 55, 56, 57, 58, 59, 60, 61, 62, 63, 64, 65, 66, 67, 68, 69, 70, 71, 72, 73, 74, 75, 76, 77, 78, 79, 80, 81, 82, 83, 84, 85, 86, 87, 88, 89, 90, 91, 92, 897, 898, 877, 878, 879, 880, 881, 882, 899, 900, 901, 902, 903, 904, 905, 906, 907, 908, 909, 910, 911, 912, 913, 914, 915, 916, 917, 918, 919, 920, 921, 922, 923, 924, 925, 926, 927, 928, 929, 930, 931, 932] rfl (by decide +kernel)
set_option maxRecDepth 100000 in
theorem gL_law_X5_init : GoodIn wsL_law (wsX5_init) := ggL_law_X5_init
set_option maxRecDepth 100000 in
theorem ggL_law_X7_init : GoodIn wsL_law wsX7_init := goodIn_r _ [95, 96, 11, 12, 17, 97, 98, 99, 100, 101, 102, 91, 103, 104, 105, 106, 107, 108, 109, 110, 111, 112, 113, 114, 115, 883, 884, 885, 886, 887, 888, 889, 890, 891, 892, 893, 894, 895, 896, 933, 934, 935, 936, 937] rfl (by decide +kernel)
set_option maxRecDepth 100000 in
theorem gL_law_X7_init : GoodIn wsL_law (wsX7_init) := ggL_law_X7_init
set_option maxRecDepth 100000 in
theorem ggL_law_L_feed : GoodIn wsL_law wsL_feed := goodIn_ca (goodIn_r _ [119, 120, 121, 122, 123, 2, 124, 125, 126, 16, 127, 128, 129, 130, 15, 131, 33, 32, 877, 878, 879, 880, 881, 882, 897, 898] rfl (by decide +kernel)) (goodIn_sub (fun _ h => List.mem_append_left _ (List.mem_append_left _ (List.mem_append_right _ h))) (by decide +kernel))
set_option maxRecDepth 100000 in
theorem gL_law_L_feed : GoodIn wsL_law (va_wsS RL 81 yL_feed wsL_feed) := goodIn_app (goodIn_of _ (by decide +kernel)) ggL_law_L_feed
set_option maxRecDepth 100000 in
theorem ggL_law_X7_feed : GoodIn wsL_law wsX7_feed := goodIn_r _ [135, 136, 137, 17, 97, 138, 139, 140, 5, 141, 883, 884, 885, 886, 887, 888, 889, 890, 891, 892, 893, 894, 895, 896] rfl (by decide +kernel)
set_option maxRecDepth 100000 in
theorem gL_law_X7_feed : GoodIn wsL_law (wsV RL 86 RX7 yX7_feed wsX7_feed) := goodIn_app (goodIn_of _ (by decide +kernel)) ggL_law_X7_feed
set_option maxRecDepth 100000 in
theorem ggL_law_X7_thrown : GoodIn wsL_law wsX7_thrown := goodIn_r _ [145, 136, 883, 884, 885, 886, 887, 888, 889, 890, 891, 892, 893, 894, 895, 896] rfl (by decide +kernel)
set_option maxRecDepth 100000 in
theorem gL_law_X7_thrown : GoodIn wsL_law (wsV RL 87 RX7 yX7_thrown wsX7_thrown) := goodIn_app (goodIn_of _ (by decide +kernel)) ggL_law_X7_thrown
set_option maxRecDepth 100000 in
theorem ggL_law_L_trim : GoodIn wsL_law wsL_trim := goodIn_ca (goodIn_r _ [148, 149, 150, 151, 152, 2, 153, 154, 155, 16, 127, 877, 878, 879, 880, 881, 882, 897, 898] rfl (by decide +kernel)) (goodIn_sub (fun _ h => List.mem_append_left _ (List.mem_append_right _ h)) (by decide +kernel))
set_option maxRecDepth 100000 in
theorem gL_law_L_trim : GoodIn wsL_law (va_wsS RL 91 yL_trim wsL_trim) := goodIn_app (goodIn_of _ (by decide +kernel)) ggL_law_L_trim
set_option maxRecDepth 100000 in
theorem ggL_law_X7_trim : GoodIn wsL_law wsX7_trim := goodIn_r _ [159, 136, 137, 160, 161, 5, 162, 138, 139, 140, 141, 883, 884, 885, 886, 887, 888, 889, 890, 891, 892, 893, 894, 895, 896] rfl (by decide +kernel)
set_option maxRecDepth 100000 in
theorem gL_law_X7_trim : GoodIn wsL_law (wsV RL 94 RX7 yX7_trim wsX7_trim) := goodIn_app (goodIn_of _ (by decide +kernel)) ggL_law_X7_trim
set_option maxRecDepth 100000 in
theorem ggL_law_X5_map : GoodIn wsL_law wsX5_map := goodIn_r _ [166, 16, 23, 167, 168, 169, 127, 170, 171, 172, 15, 173, 33, 174, 175, 176, 177, 32, 178, 179, 180, 40, 181, 182, 183, 184, 185, 53, 52, 186, 187, 188, 189, 54, 190, 191, 192, 193, 55, 56, 57, 58, 59, 194, 195, 196, 197, 877, 878, 879, 880, 881, 882, 899, 900, 901, 902, 897, 898, 905, 906, 907, 908, 909, 910, 911, 912, 913, 914, 915, 916] rfl (by decide +kernel)
set_option maxRecDepth 100000 in
theorem gL_law_X5_map : GoodIn wsL_law (wsV RL 95 RX5 yX5_map wsX5_map) := goodIn_app (goodIn_of _ (by decide +kernel)) ggL_law_X5_map
set_option maxRecDepth 100000 in
theorem ggL_law_X7_map : GoodIn wsL_law wsX7_map := goodIn_r _ [201, 136, 97, 202, 137, 203, 204, 205, 5, 206, 207, 208, 209, 210, 211, 212, 213, 108, 883, 884, 885, 886, 887, 888, 889, 890, 891, 892, 893, 894, 895, 896, 933, 934, 935, 936, 937] rfl (by decide +kernel)
set_option maxRecDepth 100000 in
theorem gL_law_X7_map : GoodIn wsL_law (wsV RL 98 RX7 yX7_map wsX7_map) := goodIn_app (goodIn_of _ (by decide +kernel)) ggL_law_X7_map
set_option maxRecDepth 100000 in
theorem ggL_law_L_openAt : GoodIn wsL_law wsL_openAt := goodIn_ca (goodIn_ca (goodIn_r _ [216, 217, 120, 218, 219, 220, 2, 221, 222, 223, 125, 126, 23, 167, 224, 225, 226, 227, 228, 229, 230, 231, 232, 233, 40, 234, 52, 235, 236, 237, 238, 54, 239, 195, 196, 197, 190, 191, 192, 193, 55, 56, 57, 58, 59, 877, 878, 879, 880, 881, 882, 899, 900, 901, 902, 905, 906, 907, 908, 909, 910, 911, 912, 913, 914, 915, 916] rfl (by decide +kernel)) (goodIn_sub (fun _ h => List.mem_append_right _ h) (by decide +kernel))) (goodIn_sub (fun _ h => List.mem_append_left _ (List.mem_append_left _ (List.mem_append_right _ h))) (by decide +kernel))
set_option maxRecDepth 100000 in
theorem gL_law_L_openAt : GoodIn wsL_law (va_wsS RL 99 yL_openAt wsL_openAt) := goodIn_app (goodIn_of _ (by decide +kernel)) ggL_law_L_openAt
set_option maxRecDepth 100000 in
theorem ggL_law_X7_openAt : GoodIn wsL_law wsX7_openAt := goodIn_r _ [243, 136, 108, 244, 245, 5, 246, 160, 161, 162, 138, 139, 140, 141, 247, 248, 249, 107, 250, 113, 251, 252, 253, 254, 883, 884, 885, 886, 887, 888, 889, 890, 891, 892, 893, 894, 895, 896, 933, 934, 935, 936, 937] rfl (by decide +kernel)
set_option maxRecDepth 100000 in
theorem gL_law_X7_openAt : GoodIn wsL_law (wsV RL 102 RX7 yX7_openAt wsX7_openAt) := goodIn_app (goodIn_of _ (by decide +kernel)) ggL_law_X7_openAt
set_option maxRecDepth 100000 in
theorem ggL_law_L_cell : GoodIn wsL_law wsL_cell := goodIn_ca (goodIn_r _ [257, 217, 258, 259, 260, 2, 261, 222, 223, 23, 167, 225, 226, 227, 228, 229, 230, 262, 263, 264, 40, 265, 52, 53, 54, 55, 56, 57, 58, 59, 877, 878, 879, 880, 881, 882, 899, 900, 901, 902, 905, 906, 907, 908, 909, 910, 911, 912, 913, 914, 915, 916] rfl (by decide +kernel)) (goodIn_sub (fun _ h => List.mem_append_right _ h) (by decide +kernel))
set_option maxRecDepth 100000 in
theorem gL_law_L_cell : GoodIn wsL_law (va_wsS RL 103 yL_cell wsL_cell) := goodIn_app (goodIn_of _ (by decide +kernel)) ggL_law_L_cell
set_option maxRecDepth 100000 in
theorem ggL_law_X7_cell : GoodIn wsL_law wsX7_cell := goodIn_r _ [269, 136, 244, 245, 5, 246, 160, 161, 162, 270, 271, 272, 273, 108, 138, 139, 140, 141, 883, 884, 885, 886, 887, 888, 889, 890, 891, 892, 893, 894, 895, 896, 933, 934, 935, 936, 937] rfl (by decide +kernel)
set_option maxRecDepth 100000 in
theorem gL_law_X7_cell : GoodIn wsL_law (wsV RL 106 RX7 yX7_cell wsX7_cell) := goodIn_app (goodIn_of _ (by decide +kernel)) ggL_law_X7_cell
set_option maxRecDepth 100000 in
theorem ggL_law_L_come : GoodIn wsL_law wsL_come := goodIn_ca (goodIn_ca (goodIn_ca (goodIn_r _ [276, 217, 149, 120, 277, 278, 279, 2, 280, 222, 223, 154, 155, 125, 126, 23, 169, 167, 281, 225, 226, 227, 228, 229, 230, 235, 236, 237, 40, 238, 54, 282, 283, 284, 47, 285, 71, 72, 73, 74, 75, 80, 81, 82, 83, 286, 287, 288, 289, 76, 77, 78, 79, 877, 878, 879, 880, 881, 882, 899, 900, 901, 902, 905, 906, 907, 908, 909, 910, 911, 912, 913, 914, 915, 916, 917, 918, 919, 920, 921, 922, 923, 924, 925, 926, 927, 928, 929, 930, 931, 932] rfl (by decide +kernel)) (goodIn_sub (fun _ h => List.mem_append_right _ h) (by decide +kernel))) (goodIn_sub (fun _ h => List.mem_append_left _ (List.mem_append_right _ h)) (by decide +kernel))) (goodIn_sub (fun _ h => List.mem_append_left _ (List.mem_append_left _ (List.mem_append_right _ h))) (by decide +kernel))
set_option maxRecDepth 100000 in
theorem gL_law_L_come : GoodIn wsL_law (va_wsS RL 107 yL_come wsL_come) := goodIn_app (goodIn_of _ (by decide +kernel)) ggL_law_L_come
set_option maxRecDepth 100000 in
theorem ggL_law_X7_come : GoodIn wsL_law wsX7_come := goodIn_r _ [293, 136, 202, 108, 17, 294, 295, 296, 297, 244, 245, 5, 246, 160, 161, 162, 138, 139, 140, 141, 247, 248, 249, 107, 250, 113, 883, 884, 885, 886, 887, 888, 889, 890, 891, 892, 893, 894, 895, 896, 933, 934, 935, 936, 937] rfl (by decide +kernel)
set_option maxRecDepth 100000 in
theorem gL_law_X7_come : GoodIn wsL_law (wsV RL 109 RX7 yX7_come wsX7_come) := goodIn_app (goodIn_of _ (by decide +kernel)) ggL_law_X7_come
set_option maxRecDepth 100000 in
theorem ggL_law_L_order : GoodIn wsL_law wsL_order := goodIn_ca (goodIn_ca (goodIn_ca (goodIn_r _ [300, 217, 149, 120, 301, 302, 303, 2, 304, 222, 223, 154, 155, 125, 126, 23, 281, 305, 306, 307, 308, 22, 309, 44, 310, 311, 312, 47, 313, 73, 314, 315, 316, 317, 83, 84, 85, 86, 877, 878, 879, 880, 881, 882, 899, 900, 901, 902, 917, 918, 919, 920, 921, 922, 923, 924, 925, 926, 927, 928, 929, 930, 931, 932] rfl (by decide +kernel)) (goodIn_sub (fun _ h => List.mem_append_right _ h) (by decide +kernel))) (goodIn_sub (fun _ h => List.mem_append_left _ (List.mem_append_right _ h)) (by decide +kernel))) (goodIn_sub (fun _ h => List.mem_append_left _ (List.mem_append_left _ (List.mem_append_right _ h))) (by decide +kernel))
set_option maxRecDepth 100000 in
theorem gL_law_L_order : GoodIn wsL_law (va_wsS RL 110 yL_order wsL_order) := goodIn_app (goodIn_of _ (by decide +kernel)) ggL_law_L_order
set_option maxRecDepth 100000 in
theorem ggL_law_X7_order : GoodIn wsL_law wsX7_order := goodIn_r _ [321, 136, 108, 322, 323, 324, 5, 325, 202, 160, 161, 162, 138, 139, 140, 141, 326, 327, 328, 107, 329, 114, 330, 331, 332, 883, 884, 885, 886, 887, 888, 889, 890, 891, 892, 893, 894, 895, 896, 933, 934, 935, 936, 937] rfl (by decide +kernel)
set_option maxRecDepth 100000 in
theorem gL_law_X7_order : GoodIn wsL_law (wsV RL 113 RX7 yX7_order wsX7_order) := goodIn_app (goodIn_of _ (by decide +kernel)) ggL_law_X7_order
set_option maxRecDepth 100000 in
theorem ggL_law_L_clear : GoodIn wsL_law wsL_clear := goodIn_ca (goodIn_r _ [335, 217, 336, 337, 338, 2, 339, 222, 223, 23, 281, 305, 306, 307, 308, 22, 309, 44, 877, 878, 879, 880, 881, 882, 899, 900, 901, 902, 917, 918, 919, 920, 921, 922, 923, 924, 925, 926, 927, 928, 929, 930, 931, 932] rfl (by decide +kernel)) (goodIn_sub (fun _ h => List.mem_append_right _ h) (by decide +kernel))
set_option maxRecDepth 100000 in
theorem gL_law_L_clear : GoodIn wsL_law (va_wsS RL 114 yL_clear wsL_clear) := goodIn_app (goodIn_of _ (by decide +kernel)) ggL_law_L_clear
set_option maxRecDepth 100000 in
theorem ggL_law_X7_clear : GoodIn wsL_law wsX7_clear := goodIn_r _ [343, 136, 108, 322, 323, 324, 5, 325, 202, 160, 161, 162, 138, 139, 140, 141, 883, 884, 885, 886, 887, 888, 889, 890, 891, 892, 893, 894, 895, 896, 933, 934, 935, 936, 937] rfl (by decide +kernel)
set_option maxRecDepth 100000 in
theorem gL_law_X7_clear : GoodIn wsL_law (wsV RL 116 RX7 yX7_clear wsX7_clear) := goodIn_app (goodIn_of _ (by decide +kernel)) ggL_law_X7_clear
set_option maxRecDepth 100000 in
theorem ggL_law_L_team : GoodIn wsL_law wsL_team := goodIn_ca (goodIn_r _ [346, 217, 347, 348, 349, 2, 350, 222, 223, 23, 281, 306, 307, 308, 22, 309, 44, 351, 352, 353, 47, 354, 71, 72, 73, 74, 83, 75, 76, 86, 355, 356, 357, 358, 84, 877, 878, 879, 880, 881, 882, 899, 900, 901, 902, 917, 918, 919, 920, 921, 922, 923, 924, 925, 926, 927, 928, 929, 930, 931, 932] rfl (by decide +kernel)) (goodIn_sub (fun _ h => List.mem_append_right _ h) (by decide +kernel))
set_option maxRecDepth 100000 in
theorem gL_law_L_team : GoodIn wsL_law (va_wsS RL 117 yL_team wsL_team) := goodIn_app (goodIn_of _ (by decide +kernel)) ggL_law_L_team
set_option maxRecDepth 100000 in
theorem ggL_law_X7_team : GoodIn wsL_law wsX7_team := goodIn_r _ [362, 136, 322, 323, 324, 5, 325, 202, 160, 161, 162, 363, 364, 365, 366, 108, 17, 367, 368, 369, 107, 370, 114, 138, 139, 140, 141, 883, 884, 885, 886, 887, 888, 889, 890, 891, 892, 893, 894, 895, 896, 933, 934, 935, 936, 937] rfl (by decide +kernel)
set_option maxRecDepth 100000 in
theorem gL_law_X7_team : GoodIn wsL_law (wsV RL 119 RX7 yX7_team wsX7_team) := goodIn_app (goodIn_of _ (by decide +kernel)) ggL_law_X7_team
set_option maxRecDepth 100000 in
theorem ggL_law_L_heard : GoodIn wsL_law wsL_heard := goodIn_ca (goodIn_r _ [373, 217, 374, 375, 376, 2, 377, 222, 223, 23, 281, 306, 307, 308, 22, 309, 44, 378, 379, 380, 47, 381, 80, 81, 82, 877, 878, 879, 880, 881, 882, 899, 900, 901, 902, 917, 918, 919, 920, 921, 922, 923, 924, 925, 926, 927, 928, 929, 930, 931, 932] rfl (by decide +kernel)) (goodIn_sub (fun _ h => List.mem_append_right _ h) (by decide +kernel))
set_option maxRecDepth 100000 in
theorem gL_law_L_heard : GoodIn wsL_law (va_wsS RL 120 yL_heard wsL_heard) := goodIn_app (goodIn_of _ (by decide +kernel)) ggL_law_L_heard
set_option maxRecDepth 100000 in
theorem ggL_law_X7_heard : GoodIn wsL_law wsX7_heard := goodIn_r _ [385, 136, 108, 322, 323, 324, 5, 325, 202, 160, 161, 162, 138, 139, 140, 141, 883, 884, 885, 886, 887, 888, 889, 890, 891, 892, 893, 894, 895, 896, 933, 934, 935, 936, 937] rfl (by decide +kernel)
set_option maxRecDepth 100000 in
theorem gL_law_X7_heard : GoodIn wsL_law (wsV RL 122 RX7 yX7_heard wsX7_heard) := goodIn_app (goodIn_of _ (by decide +kernel)) ggL_law_X7_heard
set_option maxRecDepth 100000 in
theorem ggL_law_L_pass : GoodIn wsL_law wsL_pass := goodIn_ca (goodIn_r _ [388, 149, 389, 390, 391, 2, 392, 154, 155, 23, 167, 393, 394, 395, 396, 22, 397, 41, 45, 398, 399, 400, 401, 44, 43, 402, 403, 404, 405, 406, 407, 287, 288, 47, 289, 76, 77, 78, 79, 408, 311, 312, 313, 73, 409, 410, 411, 412, 413, 414, 415, 416, 417, 72, 418, 419, 420, 421, 422, 423, 424, 425, 426, 427, 428, 429, 430, 431, 432, 433, 434, 435, 436, 437, 236, 237, 40, 238, 54, 438, 439, 440, 441, 442, 443, 356, 357, 358, 83, 84, 444, 445, 446, 447, 448, 449, 450, 451, 452, 453, 85, 454, 232, 233, 234, 52, 455, 456, 457, 458, 75, 459, 460, 461, 462, 86, 463, 464, 465, 466, 58, 467, 195, 196, 197, 190, 191, 192, 193, 55, 56, 57, 59, 468, 469, 470, 471, 472, 473, 474, 475, 476, 477, 478, 479, 480, 481, 482, 483, 484, 485, 486, 487, 488, 489, 490, 491, 492, 493, 494, 495, 496, 497, 498, 499, 500, 501, 502, 503, 504, 505, 506, 507, 508, 509, 510, 511, 512, 513, 514, 515, 516, 517, 518, 519, 520, 521, 80, 81, 82, 522, 523, 524, 525, 61, 526, 295, 296, 297, 527, 528, 529, 530, 531, 532, 533, 534, 535, 536, 537, 538, 539, 60, 540, 541, 542, 543, 544, 545, 546, 547, 548, 549, 550, 551, 62, 53, 63, 186, 187, 188, 189, 552, 553, 554, 555, 556, 557, 877, 878, 879, 880, 881, 882, 899, 900, 901, 902, 905, 906, 907, 908, 909, 910, 911, 912, 913, 914, 915, 916, 917, 918, 919, 920, 921, 922, 923, 924, 925, 926, 927, 928, 929, 930, 931, 932] rfl (by decide +kernel)) (goodIn_sub (fun _ h => List.mem_append_left _ (List.mem_append_right _ h)) (by decide +kernel))
set_option maxRecDepth 100000 in
theorem gL_law_L_pass : GoodIn wsL_law (va_wsS RL 123 yL_pass wsL_pass) := goodIn_app (goodIn_of _ (by decide +kernel)) ggL_law_L_pass
set_option maxRecDepth 100000 in
theorem ggL_law_X7_pass : GoodIn wsL_law wsX7_pass := goodIn_r _ [561, 136, 108, 160, 161, 5, 162, 562, 563, 564, 565, 566, 567, 568, 569, 202, 102, 104, 570, 571, 572, 573, 103, 326, 327, 328, 107, 329, 114, 574, 575, 576, 577, 578, 579, 580, 581, 582, 583, 584, 585, 367, 368, 369, 370, 586, 587, 588, 589, 421, 422, 423, 590, 591, 592, 593, 594, 595, 244, 245, 246, 247, 248, 249, 250, 113, 596, 597, 598, 599, 600, 601, 602, 17, 603, 604, 605, 251, 252, 253, 254, 606, 607, 608, 609, 610, 611, 612, 613, 614, 615, 616, 617, 618, 101, 619, 499, 500, 620, 433, 434, 621, 622, 623, 624, 625, 626, 627, 628, 629, 630, 631, 632, 633, 634, 635, 138, 139, 140, 141, 883, 884, 885, 886, 887, 888, 889, 890, 891, 892, 893, 894, 895, 896, 933, 934, 935, 936, 937] rfl (by decide +kernel)
set_option maxRecDepth 100000 in
theorem gL_law_X7_pass : GoodIn wsL_law (wsV RL 125 RX7 yX7_pass wsX7_pass) := goodIn_app (goodIn_of _ (by decide +kernel)) ggL_law_X7_pass
set_option maxRecDepth 100000 in
theorem ggL_law_L_count : GoodIn wsL_law wsL_count := goodIn_ca (goodIn_r _ [638, 217, 639, 640, 641, 2, 642, 222, 223, 643, 644, 645, 646, 23, 167, 647, 169, 648, 16, 127, 19, 649, 650, 651, 22, 652, 44, 43, 413, 408, 311, 312, 47, 313, 73, 653, 654, 655, 40, 656, 54, 657, 658, 659, 660, 53, 661, 662, 663, 664, 665, 529, 530, 531, 57, 666, 667, 668, 669, 670, 877, 878, 879, 880, 881, 882, 899, 900, 901, 902, 905, 906, 907, 908, 909, 910, 911, 912, 913, 914, 915, 916, 897, 898, 917, 918, 919, 920, 921, 922, 923, 924, 925, 926, 927, 928, 929, 930, 931, 932] rfl (by decide +kernel)) (goodIn_sub (fun _ h => List.mem_append_right _ h) (by decide +kernel))
set_option maxRecDepth 100000 in
theorem gL_law_L_count : GoodIn wsL_law (va_wsS RL 126 yL_count wsL_count) := goodIn_app (goodIn_of _ (by decide +kernel)) ggL_law_L_count
set_option maxRecDepth 100000 in
theorem ggL_law_X7_count : GoodIn wsL_law wsX7_count := goodIn_r _ [674, 136, 160, 161, 5, 162, 675, 676, 677, 678, 108, 202, 17, 137, 679, 680, 681, 682, 683, 326, 327, 328, 107, 329, 114, 684, 685, 686, 138, 139, 140, 141, 883, 884, 885, 886, 887, 888, 889, 890, 891, 892, 893, 894, 895, 896, 933, 934, 935, 936, 937] rfl (by decide +kernel)
set_option maxRecDepth 100000 in
theorem gL_law_X7_count : GoodIn wsL_law (wsV RL 128 RX7 yX7_count wsX7_count) := goodIn_app (goodIn_of _ (by decide +kernel)) ggL_law_X7_count
set_option maxRecDepth 100000 in
theorem ggL_law_L_way : GoodIn wsL_law wsL_way := goodIn_ca (goodIn_r _ [689, 217, 690, 691, 692, 2, 693, 222, 223, 23, 167, 28, 694, 225, 226, 227, 228, 229, 230, 235, 236, 237, 40, 238, 54, 695, 696, 697, 27, 698, 90, 92, 699, 700, 701, 702, 703, 704, 705, 706, 435, 436, 707, 708, 709, 710, 711, 232, 233, 234, 52, 712, 464, 465, 466, 58, 877, 878, 879, 880, 881, 882, 899, 900, 901, 902, 903, 904, 905, 906, 907, 908, 909, 910, 911, 912, 913, 914, 915, 916] rfl (by decide +kernel)) (goodIn_sub (fun _ h => List.mem_append_right _ h) (by decide +kernel))
set_option maxRecDepth 100000 in
theorem gL_law_L_way : GoodIn wsL_law (va_wsS RL 129 yL_way wsL_way) := goodIn_app (goodIn_of _ (by decide +kernel)) ggL_law_L_way
set_option maxRecDepth 100000 in
theorem ggL_law_X7_way : GoodIn wsL_law wsX7_way := goodIn_r _ [716, 136, 108, 99, 100, 244, 245, 5, 246, 160, 161, 162, 138, 139, 140, 141, 247, 248, 249, 107, 250, 113, 593, 594, 595, 883, 884, 885, 886, 887, 888, 889, 890, 891, 892, 893, 894, 895, 896, 933, 934, 935, 936, 937] rfl (by decide +kernel)
set_option maxRecDepth 100000 in
theorem gL_law_X7_way : GoodIn wsL_law (wsV RL 131 RX7 yX7_way wsX7_way) := goodIn_app (goodIn_of _ (by decide +kernel)) ggL_law_X7_way
set_option maxRecDepth 100000 in
theorem ggL_law_L_reach : GoodIn wsL_law wsL_reach := goodIn_ca (goodIn_r _ [719, 217, 720, 721, 722, 2, 723, 222, 223, 23, 281, 28, 167, 724, 725, 694, 306, 307, 308, 22, 309, 44, 225, 226, 227, 695, 696, 697, 27, 698, 90, 92, 699, 700, 701, 702, 703, 704, 705, 706, 435, 436, 707, 708, 709, 710, 236, 237, 40, 238, 54, 711, 232, 233, 234, 52, 712, 464, 465, 466, 58, 228, 229, 230, 877, 878, 879, 880, 881, 882, 899, 900, 901, 902, 917, 918, 919, 920, 921, 922, 923, 924, 925, 926, 927, 928, 929, 930, 931, 932, 903, 904, 905, 906, 907, 908, 909, 910, 911, 912, 913, 914, 915, 916] rfl (by decide +kernel)) (goodIn_sub (fun _ h => List.mem_append_right _ h) (by decide +kernel))
set_option maxRecDepth 100000 in
theorem gL_law_L_reach : GoodIn wsL_law (va_wsS RL 132 yL_reach wsL_reach) := goodIn_app (goodIn_of _ (by decide +kernel)) ggL_law_L_reach
set_option maxRecDepth 100000 in
theorem ggL_law_X7_reach : GoodIn wsL_law wsX7_reach := goodIn_r _ [729, 136, 99, 730, 322, 323, 324, 5, 325, 202, 160, 161, 162, 244, 245, 246, 138, 139, 140, 141, 731, 732, 733, 734, 108, 367, 368, 369, 107, 370, 114, 247, 248, 249, 250, 113, 593, 594, 595, 883, 884, 885, 886, 887, 888, 889, 890, 891, 892, 893, 894, 895, 896, 933, 934, 935, 936, 937] rfl (by decide +kernel)
set_option maxRecDepth 100000 in
theorem gL_law_X7_reach : GoodIn wsL_law (wsV RL 134 RX7 yX7_reach wsX7_reach) := goodIn_app (goodIn_of _ (by decide +kernel)) ggL_law_X7_reach
set_option maxRecDepth 100000 in
theorem ggL_law_L_target : GoodIn wsL_law wsL_target := goodIn_ca (goodIn_r _ [737, 217, 738, 739, 740, 2, 741, 222, 223, 23, 281, 28, 167, 724, 725, 306, 307, 308, 22, 309, 44, 695, 696, 697, 27, 698, 90, 92, 699, 700, 701, 702, 703, 704, 705, 706, 435, 436, 707, 708, 709, 710, 236, 237, 40, 238, 54, 711, 232, 233, 234, 52, 712, 464, 465, 466, 58, 742, 743, 744, 745, 746, 877, 878, 879, 880, 881, 882, 899, 900, 901, 902, 917, 918, 919, 920, 921, 922, 923, 924, 925, 926, 927, 928, 929, 930, 931, 932, 903, 904, 905, 906, 907, 908, 909, 910, 911, 912, 913, 914, 915, 916] rfl (by decide +kernel)) (goodIn_sub (fun _ h => List.mem_append_right _ h) (by decide +kernel))
set_option maxRecDepth 100000 in
theorem gL_law_L_target : GoodIn wsL_law (va_wsS RL 135 yL_target wsL_target) := goodIn_app (goodIn_of _ (by decide +kernel)) ggL_law_L_target
set_option maxRecDepth 100000 in
theorem ggL_law_X7_target : GoodIn wsL_law wsX7_target := goodIn_r _ [750, 136, 730, 108, 99, 322, 323, 324, 5, 325, 202, 160, 161, 162, 138, 139, 140, 141, 731, 732, 733, 734, 367, 368, 369, 107, 370, 114, 247, 248, 249, 250, 113, 593, 594, 595, 244, 245, 246, 883, 884, 885, 886, 887, 888, 889, 890, 891, 892, 893, 894, 895, 896, 933, 934, 935, 936, 937] rfl (by decide +kernel)
set_option maxRecDepth 100000 in
theorem gL_law_X7_target : GoodIn wsL_law (wsV RL 137 RX7 yX7_target wsX7_target) := goodIn_app (goodIn_of _ (by decide +kernel)) ggL_law_X7_target
set_option maxRecDepth 100000 in
theorem ggL_law_L_foresee : GoodIn wsL_law wsL_foresee := goodIn_ca (goodIn_ca (goodIn_r _ [753, 149, 217, 754, 755, 756, 2, 757, 154, 155, 222, 223, 24, 23, 167, 393, 648, 758, 759, 760, 22, 761, 41, 44, 45, 43, 762, 763, 764, 40, 765, 52, 526, 295, 296, 297, 53, 54, 55, 56, 57, 58, 59, 62, 63, 766, 767, 768, 47, 769, 71, 72, 73, 74, 75, 76, 77, 78, 79, 80, 81, 82, 83, 84, 770, 85, 86, 394, 395, 396, 397, 398, 399, 400, 401, 402, 403, 404, 405, 406, 407, 287, 288, 289, 408, 311, 312, 313, 409, 410, 411, 412, 413, 414, 415, 416, 417, 418, 419, 420, 421, 422, 423, 424, 425, 426, 427, 428, 429, 430, 431, 432, 433, 434, 435, 436, 437, 236, 237, 238, 438, 439, 440, 441, 442, 443, 356, 357, 358, 444, 445, 446, 447, 448, 449, 450, 451, 452, 453, 454, 232, 233, 234, 455, 456, 457, 458, 459, 460, 461, 462, 463, 464, 465, 466, 467, 195, 196, 197, 190, 191, 192, 193, 468, 469, 470, 471, 472, 473, 474, 475, 476, 477, 478, 479, 480, 481, 482, 483, 484, 485, 486, 487, 488, 489, 490, 491, 492, 493, 494, 495, 496, 497, 498, 499, 500, 501, 502, 503, 504, 505, 506, 507, 508, 509, 510, 511, 512, 513, 514, 515, 516, 517, 518, 519, 520, 521, 522, 523, 524, 525, 61, 527, 528, 529, 530, 531, 532, 533, 534, 535, 536, 537, 538, 539, 60, 540, 541, 542, 543, 544, 545, 546, 547, 548, 549, 550, 551, 186, 187, 188, 189, 552, 553, 554, 555, 556, 557, 649, 650, 651, 652, 877, 878, 879, 880, 881, 882, 899, 900, 901, 902, 905, 906, 907, 908, 909, 910, 911, 912, 913, 914, 915, 916, 917, 918, 919, 920, 921, 922, 923, 924, 925, 926, 927, 928, 929, 930, 931, 932] rfl (by decide +kernel)) (goodIn_sub (fun _ h => List.mem_append_left _ (List.mem_append_right _ h)) (by decide +kernel))) (goodIn_sub (fun _ h => List.mem_append_right _ h) (by decide +kernel))
set_option maxRecDepth 100000 in
theorem gL_law_L_foresee : GoodIn wsL_law (va_wsS RL 138 yL_foresee wsL_foresee) := goodIn_app (goodIn_of _ (by decide +kernel)) ggL_law_L_foresee
set_option maxRecDepth 100000 in
theorem ggL_law_X7_foresee : GoodIn wsL_law wsX7_foresee := goodIn_r _ [774, 136, 109, 108, 160, 161, 5, 162, 138, 139, 140, 141, 775, 776, 777, 107, 778, 779, 780, 113, 781, 295, 296, 297, 114, 115, 562, 563, 564, 565, 566, 567, 568, 569, 202, 102, 104, 570, 571, 572, 573, 103, 326, 327, 328, 329, 574, 575, 576, 577, 578, 579, 580, 581, 582, 583, 584, 585, 367, 368, 369, 370, 586, 587, 588, 589, 421, 422, 423, 590, 591, 592, 593, 594, 595, 244, 245, 246, 247, 248, 249, 250, 596, 597, 598, 599, 600, 601, 602, 17, 603, 604, 605, 251, 252, 253, 254, 606, 607, 608, 609, 610, 611, 612, 613, 614, 615, 616, 617, 618, 101, 619, 499, 500, 620, 433, 434, 621, 622, 623, 624, 625, 626, 627, 628, 629, 630, 631, 632, 633, 634, 635, 680, 681, 682, 683, 883, 884, 885, 886, 887, 888, 889, 890, 891, 892, 893, 894, 895, 896, 933, 934, 935, 936, 937] rfl (by decide +kernel)
set_option maxRecDepth 100000 in
theorem gL_law_X7_foresee : GoodIn wsL_law (wsV RL 140 RX7 yX7_foresee wsX7_foresee) := goodIn_app (goodIn_of _ (by decide +kernel)) ggL_law_X7_foresee
set_option maxRecDepth 100000 in
theorem ggL_law_L_falls : GoodIn wsL_law wsL_falls := goodIn_ca (goodIn_r _ [784, 217, 785, 786, 787, 2, 788, 222, 223, 24, 23, 167, 789, 225, 226, 227, 228, 229, 230, 758, 759, 760, 22, 761, 41, 44, 45, 43, 762, 763, 764, 40, 765, 52, 526, 295, 296, 297, 53, 54, 55, 56, 57, 58, 59, 62, 63, 766, 767, 768, 47, 769, 71, 72, 73, 74, 75, 76, 77, 78, 79, 80, 81, 82, 83, 84, 770, 85, 86, 394, 395, 396, 397, 398, 399, 400, 401, 402, 403, 404, 405, 406, 407, 287, 288, 289, 408, 311, 312, 313, 409, 410, 411, 412, 413, 414, 415, 416, 417, 418, 419, 420, 421, 422, 423, 424, 425, 426, 427, 428, 429, 430, 431, 432, 433, 434, 435, 436, 437, 236, 237, 238, 438, 439, 440, 441, 442, 443, 356, 357, 358, 444, 445, 446, 447, 448, 449, 450, 451, 452, 453, 454, 232, 233, 234, 455, 456, 457, 458, 459, 460, 461, 462, 463, 464, 465, 466, 467, 195, 196, 197, 190, 191, 192, 193, 468, 469, 470, 471, 472, 473, 474, 475, 476, 477, 478, 479, 480, 481, 482, 483, 484, 485, 486, 487, 488, 489, 490, 491, 492, 493, 494, 495, 496, 497, 498, 499, 500, 501, 502, 503, 504, 505, 506, 507, 508, 509, 510, 511, 512, 513, 514, 515, 516, 517, 518, 519, 520, 521, 522, 523, 524, 525, 61, 527, 528, 529, 530, 531, 532, 533, 534, 535, 536, 537, 538, 539, 60, 540, 541, 542, 543, 544, 545, 546, 547, 548, 549, 550, 551, 186, 187, 188, 189, 552, 553, 554, 555, 556, 557, 877, 878, 879, 880, 881, 882, 899, 900, 901, 902, 905, 906, 907, 908, 909, 910, 911, 912, 913, 914, 915, 916, 917, 918, 919, 920, 921, 922, 923, 924, 925, 926, 927, 928, 929, 930, 931, 932] rfl (by decide +kernel)) (goodIn_sub (fun _ h => List.mem_append_right _ h) (by decide +kernel))
set_option maxRecDepth 100000 in
theorem gL_law_L_falls : GoodIn wsL_law (va_wsS RL 141 yL_falls wsL_falls) := goodIn_app (goodIn_of _ (by decide +kernel)) ggL_law_L_falls
set_option maxRecDepth 100000 in
theorem ggL_law_X7_falls : GoodIn wsL_law wsX7_falls := goodIn_r _ [793, 136, 109, 108, 244, 245, 5, 246, 160, 161, 162, 138, 139, 140, 141, 775, 776, 777, 107, 778, 779, 780, 113, 781, 295, 296, 297, 114, 115, 794, 795, 796, 797, 202, 570, 571, 572, 573, 102, 103, 104, 326, 327, 328, 329, 574, 575, 576, 577, 578, 579, 580, 581, 582, 583, 584, 585, 367, 368, 369, 370, 586, 587, 588, 589, 421, 422, 423, 590, 591, 592, 593, 594, 595, 247, 248, 249, 250, 596, 597, 598, 599, 600, 601, 602, 17, 603, 604, 605, 251, 252, 253, 254, 606, 607, 608, 609, 610, 611, 612, 613, 614, 615, 616, 617, 618, 101, 619, 499, 500, 620, 433, 434, 625, 626, 627, 628, 629, 630, 631, 632, 633, 634, 635, 883, 884, 885, 886, 887, 888, 889, 890, 891, 892, 893, 894, 895, 896, 933, 934, 935, 936, 937] rfl (by decide +kernel)
set_option maxRecDepth 100000 in
theorem gL_law_X7_falls : GoodIn wsL_law (wsV RL 143 RX7 yX7_falls wsX7_falls) := goodIn_app (goodIn_of _ (by decide +kernel)) ggL_law_X7_falls
set_option maxRecDepth 100000 in
theorem ggL_law_L_lasts : GoodIn wsL_law wsL_lasts := goodIn_ca (goodIn_r _ [800, 217, 801, 802, 803, 2, 804, 222, 223, 23, 281, 24, 306, 307, 308, 22, 309, 44, 310, 311, 312, 47, 313, 73, 758, 759, 760, 761, 41, 45, 43, 762, 763, 764, 40, 765, 52, 526, 295, 296, 297, 53, 54, 55, 56, 57, 58, 59, 62, 63, 766, 767, 768, 769, 71, 72, 74, 75, 76, 77, 78, 79, 80, 81, 82, 83, 84, 770, 85, 86, 394, 395, 396, 397, 398, 399, 400, 401, 402, 403, 404, 405, 406, 407, 287, 288, 289, 408, 409, 410, 411, 412, 413, 414, 415, 416, 417, 418, 419, 420, 421, 422, 423, 424, 425, 426, 427, 428, 429, 430, 431, 432, 433, 434, 435, 436, 437, 236, 237, 238, 438, 439, 440, 441, 442, 443, 356, 357, 358, 444, 445, 446, 447, 448, 449, 450, 451, 452, 453, 454, 232, 233, 234, 455, 456, 457, 458, 459, 460, 461, 462, 463, 464, 465, 466, 467, 195, 196, 197, 190, 191, 192, 193, 468, 469, 470, 471, 472, 473, 474, 475, 476, 477, 478, 479, 480, 481, 482, 483, 484, 485, 486, 487, 488, 489, 490, 491, 492, 493, 494, 495, 496, 497, 498, 499, 500, 501, 502, 503, 504, 505, 506, 507, 508, 509, 510, 511, 512, 513, 514, 515, 516, 517, 518, 519, 520, 521, 522, 523, 524, 525, 61, 527, 528, 529, 530, 531, 532, 533, 534, 535, 536, 537, 538, 539, 60, 540, 541, 542, 543, 544, 545, 546, 547, 548, 549, 550, 551, 186, 187, 188, 189, 552, 553, 554, 555, 556, 557, 877, 878, 879, 880, 881, 882, 899, 900, 901, 902, 917, 918, 919, 920, 921, 922, 923, 924, 925, 926, 927, 928, 929, 930, 931, 932, 905, 906, 907, 908, 909, 910, 911, 912, 913, 914, 915, 916] rfl (by decide +kernel)) (goodIn_sub (fun _ h => List.mem_append_right _ h) (by decide +kernel))
set_option maxRecDepth 100000 in
theorem gL_law_L_lasts : GoodIn wsL_law (va_wsS RL 144 yL_lasts wsL_lasts) := goodIn_app (goodIn_of _ (by decide +kernel)) ggL_law_L_lasts
set_option maxRecDepth 100000 in
theorem ggL_law_X7_lasts : GoodIn wsL_law wsX7_lasts := goodIn_r _ [808, 136, 109, 108, 322, 323, 324, 5, 325, 202, 160, 161, 162, 138, 139, 140, 141, 775, 776, 777, 107, 778, 779, 780, 113, 781, 295, 296, 297, 114, 115, 326, 327, 328, 329, 566, 567, 568, 569, 102, 104, 570, 571, 572, 573, 103, 574, 575, 576, 577, 578, 579, 580, 581, 582, 583, 584, 585, 367, 368, 369, 370, 586, 587, 588, 589, 421, 422, 423, 590, 591, 592, 593, 594, 595, 244, 245, 246, 247, 248, 249, 250, 596, 597, 598, 599, 600, 601, 602, 17, 603, 604, 605, 251, 252, 253, 254, 606, 607, 608, 609, 610, 611, 612, 613, 614, 615, 616, 617, 618, 101, 619, 499, 500, 620, 433, 434, 621, 622, 623, 624, 625, 626, 627, 628, 629, 630, 631, 632, 633, 634, 635, 883, 884, 885, 886, 887, 888, 889, 890, 891, 892, 893, 894, 895, 896, 933, 934, 935, 936, 937] rfl (by decide +kernel)
set_option maxRecDepth 100000 in
theorem gL_law_X7_lasts : GoodIn wsL_law (wsV RL 146 RX7 yX7_lasts wsX7_lasts) := goodIn_app (goodIn_of _ (by decide +kernel)) ggL_law_X7_lasts
set_option maxRecDepth 100000 in
theorem ggL_law_L_advise : GoodIn wsL_law wsL_advise := goodIn_ca (goodIn_ca (goodIn_r _ [811, 217, 149, 812, 813, 814, 2, 815, 222, 223, 154, 155, 23, 281, 306, 307, 308, 22, 309, 44, 310, 311, 312, 47, 313, 73, 816, 817, 818, 819, 24, 305, 167, 758, 759, 760, 761, 41, 45, 43, 762, 763, 764, 40, 765, 52, 526, 295, 296, 297, 53, 54, 55, 56, 57, 58, 59, 62, 63, 766, 767, 768, 769, 71, 72, 74, 75, 76, 77, 78, 79, 80, 81, 82, 83, 84, 770, 85, 86, 314, 315, 316, 317, 394, 395, 396, 397, 398, 399, 400, 401, 402, 403, 404, 405, 406, 407, 287, 288, 289, 408, 409, 410, 411, 412, 413, 414, 415, 416, 417, 418, 419, 420, 421, 422, 423, 424, 425, 426, 427, 428, 429, 430, 431, 432, 433, 434, 435, 436, 437, 236, 237, 238, 438, 439, 440, 441, 442, 443, 356, 357, 358, 444, 445, 446, 447, 448, 449, 450, 451, 452, 453, 454, 232, 233, 234, 455, 456, 457, 458, 459, 460, 461, 462, 463, 464, 465, 466, 467, 195, 196, 197, 190, 191, 192, 193, 468, 469, 470, 471, 472, 473, 474, 475, 476, 477, 478, 479, 480, 481, 482, 483, 484, 485, 486, 487, 488, 489, 490, 491, 492, 493, 494, 495, 496, 497, 498, 499, 500, 501, 502, 503, 504, 505, 506, 507, 508, 509, 510, 511, 512, 513, 514, 515, 516, 517, 518, 519, 520, 521, 522, 523, 524, 525, 61, 527, 528, 529, 530, 531, 532, 533, 534, 535, 536, 537, 538, 539, 60, 540, 541, 542, 543, 544, 545, 546, 547, 548, 549, 550, 551, 186, 187, 188, 189, 552, 553, 554, 555, 556, 557, 653, 654, 655, 656, 877, 878, 879, 880, 881, 882, 899, 900, 901, 902, 917, 918, 919, 920, 921, 922, 923, 924, 925, 926, 927, 928, 929, 930, 931, 932, 905, 906, 907, 908, 909, 910, 911, 912, 913, 914, 915, 916] rfl (by decide +kernel)) (goodIn_sub (fun _ h => List.mem_append_right _ h) (by decide +kernel))) (goodIn_sub (fun _ h => List.mem_append_left _ (List.mem_append_right _ h)) (by decide +kernel))
set_option maxRecDepth 100000 in
theorem gL_law_L_advise : GoodIn wsL_law (va_wsS RL 147 yL_advise wsL_advise) := goodIn_app (goodIn_of _ (by decide +kernel)) ggL_law_L_advise
set_option maxRecDepth 100000 in
theorem ggL_law_X7_advise : GoodIn wsL_law wsX7_advise := goodIn_r _ [823, 136, 108, 109, 322, 323, 324, 5, 325, 202, 160, 161, 162, 138, 139, 140, 141, 326, 327, 328, 107, 329, 114, 775, 776, 777, 778, 779, 780, 113, 781, 295, 296, 297, 115, 330, 331, 332, 562, 563, 564, 565, 566, 567, 568, 569, 102, 104, 570, 571, 572, 573, 103, 574, 575, 576, 577, 578, 579, 580, 581, 582, 583, 584, 585, 367, 368, 369, 370, 586, 587, 588, 589, 421, 422, 423, 590, 591, 592, 593, 594, 595, 244, 245, 246, 247, 248, 249, 250, 596, 597, 598, 599, 600, 601, 602, 17, 603, 604, 605, 251, 252, 253, 254, 606, 607, 608, 609, 610, 611, 612, 613, 614, 615, 616, 617, 618, 101, 619, 499, 500, 620, 433, 434, 621, 622, 623, 624, 625, 626, 627, 628, 629, 630, 631, 632, 633, 634, 635, 684, 685, 686, 883, 884, 885, 886, 887, 888, 889, 890, 891, 892, 893, 894, 895, 896, 933, 934, 935, 936, 937] rfl (by decide +kernel)
set_option maxRecDepth 100000 in
theorem gL_law_X7_advise : GoodIn wsL_law (wsV RL 149 RX7 yX7_advise wsX7_advise) := goodIn_app (goodIn_of _ (by decide +kernel)) ggL_law_X7_advise
set_option maxRecDepth 100000 in
theorem ggL_law_X5_draw : GoodIn wsL_law wsX5_draw := goodIn_r _ [827, 18, 19, 228, 229, 2, 230, 828, 829, 830, 831, 23, 167, 832, 833, 224, 834, 835, 836, 22, 837, 44, 43, 405, 413, 408, 311, 312, 47, 313, 73, 235, 236, 237, 40, 238, 54, 231, 232, 233, 234, 52, 877, 878, 879, 880, 881, 882, 899, 900, 901, 902, 905, 906, 907, 908, 909, 910, 911, 912, 913, 914, 915, 916, 917, 918, 919, 920, 921, 922, 923, 924, 925, 926, 927, 928, 929, 930, 931, 932] rfl (by decide +kernel)
set_option maxRecDepth 100000 in
theorem gL_law_X5_draw : GoodIn wsL_law (wsV RL 150 RX5 yX5_draw wsX5_draw) := goodIn_app (goodIn_of _ (by decide +kernel)) ggL_law_X5_draw
set_option maxRecDepth 100000 in
theorem ggL_law_X7_draw : GoodIn wsL_law wsX7_draw := goodIn_r _ [841, 136, 98, 679, 842, 843, 844, 5, 845, 202, 108, 326, 327, 328, 107, 329, 114, 367, 368, 369, 370, 247, 248, 249, 250, 113, 883, 884, 885, 886, 887, 888, 889, 890, 891, 892, 893, 894, 895, 896, 933, 934, 935, 936, 937] rfl (by decide +kernel)
set_option maxRecDepth 100000 in
theorem gL_law_X7_draw : GoodIn wsL_law (wsV RL 153 RX7 yX7_draw wsX7_draw) := goodIn_app (goodIn_of _ (by decide +kernel)) ggL_law_X7_draw
set_option maxRecDepth 100000 in
theorem ggL_law_L_byteAt : GoodIn wsL_law wsL_byteAt := goodIn_ca (goodIn_r _ [848, 217, 849, 850, 851, 2, 852, 222, 223, 19, 18, 877, 878, 879, 880, 881, 882] rfl (by decide +kernel)) (goodIn_sub (fun _ h => List.mem_append_right _ h) (by decide +kernel))
set_option maxRecDepth 100000 in
theorem gL_law_L_byteAt : GoodIn wsL_law (va_wsS RL 154 yL_byteAt wsL_byteAt) := goodIn_app (goodIn_of _ (by decide +kernel)) ggL_law_L_byteAt
set_option maxRecDepth 100000 in
theorem ggL_law_X7_byteAt : GoodIn wsL_law wsX7_byteAt := goodIn_r _ [856, 136, 679, 98, 160, 161, 5, 162, 138, 139, 140, 141, 883, 884, 885, 886, 887, 888, 889, 890, 891, 892, 893, 894, 895, 896] rfl (by decide +kernel)
set_option maxRecDepth 100000 in
theorem gL_law_X7_byteAt : GoodIn wsL_law (wsV RL 156 RX7 yX7_byteAt wsX7_byteAt) := goodIn_app (goodIn_of _ (by decide +kernel)) ggL_law_X7_byteAt
set_option maxRecDepth 100000 in
theorem ggL_law_X5_share : GoodIn wsL_law wsX5_share := goodIn_r _ [860, 23, 167, 661, 662, 663, 40, 664, 53, 657, 658, 659, 660, 877, 878, 879, 880, 881, 882, 899, 900, 901, 902, 905, 906, 907, 908, 909, 910, 911, 912, 913, 914, 915, 916] rfl (by decide +kernel)
set_option maxRecDepth 100000 in
theorem gL_law_X5_share : GoodIn wsL_law (wsV RL 157 RX5 yX5_share wsX5_share) := goodIn_app (goodIn_of _ (by decide +kernel)) ggL_law_X5_share
set_option maxRecDepth 100000 in
theorem ggL_law_X7_share : GoodIn wsL_law wsX7_share := goodIn_r _ [864, 136, 675, 676, 677, 5, 678, 108, 202, 17, 137, 679, 680, 681, 682, 683, 326, 327, 328, 107, 329, 114, 684, 685, 686, 883, 884, 885, 886, 887, 888, 889, 890, 891, 892, 893, 894, 895, 896, 933, 934, 935, 936, 937] rfl (by decide +kernel)
set_option maxRecDepth 100000 in
theorem gL_law_X7_share : GoodIn wsL_law (wsV RL 161 RX7 yX7_share wsX7_share) := goodIn_app (goodIn_of _ (by decide +kernel)) ggL_law_X7_share
set_option maxRecDepth 100000 in
theorem ggL_law_X5_digest : GoodIn wsL_law wsX5_digest := goodIn_r _ [868, 869, 870, 23, 167, 169, 281, 19, 18, 643, 644, 645, 2, 646, 647, 648, 16, 127, 649, 650, 651, 22, 652, 44, 43, 413, 408, 311, 312, 47, 313, 73, 653, 654, 655, 40, 656, 54, 657, 658, 659, 660, 53, 661, 662, 663, 664, 665, 529, 530, 531, 57, 666, 667, 668, 669, 670, 262, 263, 264, 265, 52, 55, 56, 58, 59, 351, 352, 353, 354, 71, 72, 74, 83, 75, 76, 86, 355, 356, 357, 358, 84, 378, 379, 380, 381, 80, 81, 82, 877, 878, 879, 880, 881, 882, 899, 900, 901, 902, 905, 906, 907, 908, 909, 910, 911, 912, 913, 914, 915, 916, 897, 898, 917, 918, 919, 920, 921, 922, 923, 924, 925, 926, 927, 928, 929, 930, 931, 932] rfl (by decide +kernel)
set_option maxRecDepth 100000 in
theorem gL_law_X5_digest : GoodIn wsL_law (wsV RL 162 RX5 yX5_digest wsX5_digest) := goodIn_app (goodIn_of _ (by decide +kernel)) ggL_law_X5_digest
set_option maxRecDepth 100000 in
theorem ggL_law_X7_digest : GoodIn wsL_law wsX7_digest := goodIn_r _ [874, 136, 875, 876, 108, 202, 679, 98, 675, 676, 677, 5, 678, 17, 137, 680, 681, 682, 683, 326, 327, 328, 107, 329, 114, 684, 685, 686, 363, 364, 365, 366, 367, 368, 369, 370, 883, 884, 885, 886, 887, 888, 889, 890, 891, 892, 893, 894, 895, 896, 933, 934, 935, 936, 937] rfl (by decide +kernel)
set_option maxRecDepth 100000 in
theorem gL_law_X7_digest : GoodIn wsL_law (wsV RL 166 RX7 yX7_digest wsX7_digest) := goodIn_app (goodIn_of _ (by decide +kernel)) ggL_law_X7_digest
