theorem dL_addShip_0 : decode cL_addShip 0 = .ok (.aload 4, 2) := by decide +kernel
theorem dL_addShip_2 : decode cL_addShip 2 = .ok (.iconst 0, 1) := by decide +kernel
theorem dL_addShip_3 : decode cL_addShip 3 = .ok (.aload_n 0, 1) := by decide +kernel
theorem dL_addShip_4 : decode cL_addShip 4 = .ok (.iload_n 1, 1) := by decide +kernel
theorem dL_addShip_5 : decode cL_addShip 5 = .ok (.iload_n 2, 1) := by decide +kernel
theorem dL_addShip_6 : decode cL_addShip 6 = .ok (.iload_n 3, 1) := by decide +kernel
theorem dL_addShip_7 : decode cL_addShip 7 = .ok (.invokevirtual 7, 3) := by decide +kernel
theorem dL_addShip_10 : decode cL_addShip 10 = .ok (.i2l, 1) := by decide +kernel
theorem dL_addShip_11 : decode cL_addShip 11 = .ok (.lastore, 1) := by decide +kernel
theorem dL_addShip_12 : decode cL_addShip 12 = .ok (.goto 11, 3) := by decide +kernel
theorem dL_addShip_15 : decode cL_addShip 15 = .ok (.astore 5, 2) := by decide +kernel
theorem dL_addShip_17 : decode cL_addShip 17 = .ok (.iconst 1, 1) := by decide +kernel
theorem dL_addShip_18 : decode cL_addShip 18 = .ok (.ireturn, 1) := by decide +kernel
theorem dL_addShip_19 : decode cL_addShip 19 = .ok (.astore 5, 2) := by decide +kernel
theorem dL_addShip_21 : decode cL_addShip 21 = .ok (.iconst 2, 1) := by decide +kernel
theorem dL_addShip_22 : decode cL_addShip 22 = .ok (.ireturn, 1) := by decide +kernel
theorem dL_addShip_23 : decode cL_addShip 23 = .ok (.iconst 0, 1) := by decide +kernel
theorem dL_addShip_24 : decode cL_addShip 24 = .ok (.ireturn, 1) := by decide +kernel
set_option maxRecDepth 20000 in
theorem ggL_setRate_X3_setRate : GoodIn wsL_setRate wsX3_setRate := goodIn_ca (goodIn_ca (goodIn_r _ [7, 8, 9, 10, 11, 12, 6, 13, 14, 15, 16, 17, 18, 19, 20, 21, 22, 23, 24, 25, 26, 27, 28, 29] (by decide +kernel) (by decide +kernel)) (goodIn_sub (fun _ h => List.mem_cons_of_mem _ (List.mem_append_left _ (List.mem_append_right _ h))) (by decide +kernel))) (goodIn_sub (fun _ h => List.mem_cons_of_mem _ (List.mem_append_right _ h)) (by decide +kernel))
set_option maxRecDepth 20000 in
theorem gL_setRate_X3_setRate : GoodIn wsL_setRate (wsV RL 17 RX3 yX3_setRate wsX3_setRate) := goodIn_app (goodIn_of _ (by decide +kernel)) ggL_setRate_X3_setRate
theorem dL_setRate_0 : decode cL_setRate 0 = .ok (.aload_n 3, 1) := by decide +kernel
theorem dL_setRate_1 : decode cL_setRate 1 = .ok (.iconst 0, 1) := by decide +kernel
theorem dL_setRate_2 : decode cL_setRate 2 = .ok (.aload_n 0, 1) := by decide +kernel
theorem dL_setRate_3 : decode cL_setRate 3 = .ok (.iload_n 1, 1) := by decide +kernel
theorem dL_setRate_4 : decode cL_setRate 4 = .ok (.iload_n 2, 1) := by decide +kernel
theorem dL_setRate_5 : decode cL_setRate 5 = .ok (.invokevirtual 17, 3) := by decide +kernel
theorem dL_setRate_8 : decode cL_setRate 8 = .ok (.i2l, 1) := by decide +kernel
theorem dL_setRate_9 : decode cL_setRate 9 = .ok (.lastore, 1) := by decide +kernel
theorem dL_setRate_10 : decode cL_setRate 10 = .ok (.goto 11, 3) := by decide +kernel
theorem dL_setRate_13 : decode cL_setRate 13 = .ok (.astore 4, 2) := by decide +kernel
theorem dL_setRate_15 : decode cL_setRate 15 = .ok (.iconst 1, 1) := by decide +kernel
theorem dL_setRate_16 : decode cL_setRate 16 = .ok (.ireturn, 1) := by decide +kernel
theorem dL_setRate_17 : decode cL_setRate 17 = .ok (.astore 4, 2) := by decide +kernel
theorem dL_setRate_19 : decode cL_setRate 19 = .ok (.iconst 2, 1) := by decide +kernel
theorem dL_setRate_20 : decode cL_setRate 20 = .ok (.ireturn, 1) := by decide +kernel
theorem dL_setRate_21 : decode cL_setRate 21 = .ok (.iconst 0, 1) := by decide +kernel
theorem dL_setRate_22 : decode cL_setRate 22 = .ok (.ireturn, 1) := by decide +kernel
set_option maxRecDepth 20000 in
theorem ggL_setRules_X3_setRules : GoodIn wsL_setRules wsX3_setRules := goodIn_ca (goodIn_r _ [6, 7, 8, 9, 10, 11, 12, 13, 14, 15, 16, 17, 18, 19, 20] (by decide +kernel) (by decide +kernel)) (goodIn_sub (fun _ h => List.mem_cons_of_mem _ (List.mem_append_right _ h)) (by decide +kernel))
set_option maxRecDepth 20000 in
theorem gL_setRules_X3_setRules : GoodIn wsL_setRules (wsV RL 23 RX3 yX3_setRules wsX3_setRules) := goodIn_app (goodIn_of _ (by decide +kernel)) ggL_setRules_X3_setRules
theorem dL_setRules_0 : decode cL_setRules 0 = .ok (.aload_n 0, 1) := by decide +kernel
theorem dL_setRules_1 : decode cL_setRules 1 = .ok (.iload_n 1, 1) := by decide +kernel
theorem dL_setRules_2 : decode cL_setRules 2 = .ok (.iload_n 2, 1) := by decide +kernel
theorem dL_setRules_3 : decode cL_setRules 3 = .ok (.invokevirtual 23, 3) := by decide +kernel
theorem dL_setRules_6 : decode cL_setRules 6 = .ok (.goto 6, 3) := by decide +kernel
theorem dL_setRules_9 : decode cL_setRules 9 = .ok (.astore_n 3, 1) := by decide +kernel
theorem dL_setRules_10 : decode cL_setRules 10 = .ok (.iconst 1, 1) := by decide +kernel
theorem dL_setRules_11 : decode cL_setRules 11 = .ok (.ireturn, 1) := by decide +kernel
theorem dL_setRules_12 : decode cL_setRules 12 = .ok (.iconst 0, 1) := by decide +kernel
theorem dL_setRules_13 : decode cL_setRules 13 = .ok (.ireturn, 1) := by decide +kernel
set_option maxRecDepth 20000 in
theorem ggL_fork_X3_fork : GoodIn wsL_fork wsX3_fork := goodIn_ca (goodIn_ca (goodIn_r _ [7, 8, 9, 10, 11, 12, 13, 14, 15, 16, 17, 6, 18, 19, 20, 21, 22, 23, 24, 25, 26, 27, 28, 29, 30, 31, 32, 33, 34, 35, 36, 37, 38, 39, 40, 41, 42, 43, 44, 45, 46, 47, 48] (by decide +kernel) (by decide +kernel)) (goodIn_sub (fun _ h => List.mem_cons_of_mem _ (List.mem_append_left _ (List.mem_append_right _ h))) (by decide +kernel))) (goodIn_sub (fun _ h => List.mem_cons_of_mem _ (List.mem_append_right _ h)) (by decide +kernel))
set_option maxRecDepth 20000 in
theorem gL_fork_X3_fork : GoodIn wsL_fork (wsV RL 27 RX3 yX3_fork wsX3_fork) := goodIn_app (goodIn_of _ (by decide +kernel)) ggL_fork_X3_fork
theorem dL_fork_0 : decode cL_fork 0 = .ok (.aload_n 3, 1) := by decide +kernel
theorem dL_fork_1 : decode cL_fork 1 = .ok (.iconst 0, 1) := by decide +kernel
theorem dL_fork_2 : decode cL_fork 2 = .ok (.aload_n 0, 1) := by decide +kernel
theorem dL_fork_3 : decode cL_fork 3 = .ok (.iload_n 1, 1) := by decide +kernel
theorem dL_fork_4 : decode cL_fork 4 = .ok (.iload_n 2, 1) := by decide +kernel
theorem dL_fork_5 : decode cL_fork 5 = .ok (.invokevirtual 27, 3) := by decide +kernel
theorem dL_fork_8 : decode cL_fork 8 = .ok (.i2l, 1) := by decide +kernel
theorem dL_fork_9 : decode cL_fork 9 = .ok (.lastore, 1) := by decide +kernel
theorem dL_fork_10 : decode cL_fork 10 = .ok (.goto 11, 3) := by decide +kernel
theorem dL_fork_13 : decode cL_fork 13 = .ok (.astore 4, 2) := by decide +kernel
theorem dL_fork_15 : decode cL_fork 15 = .ok (.iconst 1, 1) := by decide +kernel
theorem dL_fork_16 : decode cL_fork 16 = .ok (.ireturn, 1) := by decide +kernel
theorem dL_fork_17 : decode cL_fork 17 = .ok (.astore 4, 2) := by decide +kernel
theorem dL_fork_19 : decode cL_fork 19 = .ok (.iconst 2, 1) := by decide +kernel
theorem dL_fork_20 : decode cL_fork 20 = .ok (.ireturn, 1) := by decide +kernel
theorem dL_fork_21 : decode cL_fork 21 = .ok (.iconst 0, 1) := by decide +kernel
theorem dL_fork_22 : decode cL_fork 22 = .ok (.ireturn, 1) := by decide +kernel
set_option maxRecDepth 20000 in
theorem ggL_order_X3_order : GoodIn wsL_order wsX3_order := goodIn_ca (goodIn_ca (goodIn_ca (goodIn_r _ [8, 9, 10, 11, 12, 13, 14, 15, 7, 16, 17, 18, 19, 20, 21, 22, 23, 24, 25, 26, 27, 28, 29, 30, 31, 32, 33, 34, 35, 36, 37, 38, 39, 40, 41, 42, 43, 44, 45, 46, 47, 48, 49, 50, 51, 52, 53, 54, 55, 56, 57, 58, 59, 60, 61, 62, 63, 64, 65, 66, 67, 68, 69, 70] (by decide +kernel) (by decide +kernel)) (goodIn_sub (fun _ h => List.mem_cons_of_mem _ (List.mem_append_left _ (List.mem_append_left _ (List.mem_append_right _ h)))) (by decide +kernel))) (goodIn_sub (fun _ h => List.mem_cons_of_mem _ (List.mem_append_left _ (List.mem_append_right _ h))) (by decide +kernel))) (goodIn_sub (fun _ h => List.mem_cons_of_mem _ (List.mem_append_right _ h)) (by decide +kernel))
set_option maxRecDepth 20000 in
theorem gL_order_X3_order : GoodIn wsL_order (wsV RL 30 RX3 yX3_order wsX3_order) := goodIn_app (goodIn_of _ (by decide +kernel)) ggL_order_X3_order
theorem dL_order_0 : decode cL_order 0 = .ok (.aload 6, 2) := by decide +kernel
theorem dL_order_2 : decode cL_order 2 = .ok (.iconst 0, 1) := by decide +kernel
theorem dL_order_3 : decode cL_order 3 = .ok (.aload_n 0, 1) := by decide +kernel
theorem dL_order_4 : decode cL_order 4 = .ok (.iload_n 1, 1) := by decide +kernel
theorem dL_order_5 : decode cL_order 5 = .ok (.iload_n 2, 1) := by decide +kernel
theorem dL_order_6 : decode cL_order 6 = .ok (.iload_n 3, 1) := by decide +kernel
theorem dL_order_7 : decode cL_order 7 = .ok (.iload 4, 2) := by decide +kernel
theorem dL_order_9 : decode cL_order 9 = .ok (.iload 5, 2) := by decide +kernel
theorem dL_order_11 : decode cL_order 11 = .ok (.invokevirtual 30, 3) := by decide +kernel
theorem dL_order_14 : decode cL_order 14 = .ok (.ifCond .eq 7, 3) := by decide +kernel
theorem dL_order_17 : decode cL_order 17 = .ok (.lconst 1, 1) := by decide +kernel
theorem dL_order_18 : decode cL_order 18 = .ok (.goto 4, 3) := by decide +kernel
theorem dL_order_21 : decode cL_order 21 = .ok (.lconst 0, 1) := by decide +kernel
theorem dL_order_22 : decode cL_order 22 = .ok (.lastore, 1) := by decide +kernel
theorem dL_order_23 : decode cL_order 23 = .ok (.goto 15, 3) := by decide +kernel
theorem dL_order_26 : decode cL_order 26 = .ok (.astore 7, 2) := by decide +kernel
theorem dL_order_28 : decode cL_order 28 = .ok (.iconst 1, 1) := by decide +kernel
theorem dL_order_29 : decode cL_order 29 = .ok (.ireturn, 1) := by decide +kernel
theorem dL_order_30 : decode cL_order 30 = .ok (.astore 7, 2) := by decide +kernel
theorem dL_order_32 : decode cL_order 32 = .ok (.iconst 2, 1) := by decide +kernel
theorem dL_order_33 : decode cL_order 33 = .ok (.ireturn, 1) := by decide +kernel
theorem dL_order_34 : decode cL_order 34 = .ok (.astore 7, 2) := by decide +kernel
theorem dL_order_36 : decode cL_order 36 = .ok (.iconst 3, 1) := by decide +kernel
theorem dL_order_37 : decode cL_order 37 = .ok (.ireturn, 1) := by decide +kernel
theorem dL_order_38 : decode cL_order 38 = .ok (.iconst 0, 1) := by decide +kernel
theorem dL_order_39 : decode cL_order 39 = .ok (.ireturn, 1) := by decide +kernel
set_option maxRecDepth 20000 in
theorem ggL_takeAway_X3_takeAway : GoodIn wsL_takeAway wsX3_takeAway := goodIn_ca (goodIn_r _ [6, 7, 8, 9, 5, 10, 11, 12, 13, 14, 15, 16, 17, 18, 19, 20, 21, 22, 23, 24, 25, 26, 27, 28, 29, 30, 31, 32, 33, 34, 35, 36, 37, 38, 39] (by decide +kernel) (by decide +kernel)) (goodIn_sub (fun _ h => List.mem_cons_of_mem _ (List.mem_append_right _ h)) (by decide +kernel))
set_option maxRecDepth 20000 in
theorem gL_takeAway_X3_takeAway : GoodIn wsL_takeAway (wsV RL 34 RX3 yX3_takeAway wsX3_takeAway) := goodIn_app (goodIn_of _ (by decide +kernel)) ggL_takeAway_X3_takeAway
theorem dL_takeAway_0 : decode cL_takeAway 0 = .ok (.aload_n 3, 1) := by decide +kernel
theorem dL_takeAway_1 : decode cL_takeAway 1 = .ok (.iconst 0, 1) := by decide +kernel
theorem dL_takeAway_2 : decode cL_takeAway 2 = .ok (.aload_n 0, 1) := by decide +kernel
theorem dL_takeAway_3 : decode cL_takeAway 3 = .ok (.iload_n 1, 1) := by decide +kernel
theorem dL_takeAway_4 : decode cL_takeAway 4 = .ok (.iload_n 2, 1) := by decide +kernel
theorem dL_takeAway_5 : decode cL_takeAway 5 = .ok (.invokevirtual 34, 3) := by decide +kernel
theorem dL_takeAway_8 : decode cL_takeAway 8 = .ok (.ifCond .eq 7, 3) := by decide +kernel
theorem dL_takeAway_11 : decode cL_takeAway 11 = .ok (.lconst 1, 1) := by decide +kernel
theorem dL_takeAway_12 : decode cL_takeAway 12 = .ok (.goto 4, 3) := by decide +kernel
theorem dL_takeAway_15 : decode cL_takeAway 15 = .ok (.lconst 0, 1) := by decide +kernel
theorem dL_takeAway_16 : decode cL_takeAway 16 = .ok (.lastore, 1) := by decide +kernel
theorem dL_takeAway_17 : decode cL_takeAway 17 = .ok (.goto 7, 3) := by decide +kernel
theorem dL_takeAway_20 : decode cL_takeAway 20 = .ok (.astore 4, 2) := by decide +kernel
theorem dL_takeAway_22 : decode cL_takeAway 22 = .ok (.iconst 1, 1) := by decide +kernel
theorem dL_takeAway_23 : decode cL_takeAway 23 = .ok (.ireturn, 1) := by decide +kernel
theorem dL_takeAway_24 : decode cL_takeAway 24 = .ok (.iconst 0, 1) := by decide +kernel
theorem dL_takeAway_25 : decode cL_takeAway 25 = .ok (.ireturn, 1) := by decide +kernel
set_option maxRecDepth 20000 in
theorem ggL_orderOf_X3_orderOf : GoodIn wsL_orderOf wsX3_orderOf := goodIn_ca (goodIn_r _ [6, 7, 8, 9, 5, 10, 11, 12, 13, 14, 15, 16, 17, 18, 19, 20, 21, 22, 23, 24, 25, 26, 27, 28, 29, 30, 31, 32, 33, 34, 35, 36, 37, 38, 39, 40] (by decide +kernel) (by decide +kernel)) (goodIn_sub (fun _ h => List.mem_cons_of_mem _ (List.mem_append_right _ h)) (by decide +kernel))
set_option maxRecDepth 20000 in
theorem gL_orderOf_X3_orderOf : GoodIn wsL_orderOf (wsV RL 38 RX3 yX3_orderOf wsX3_orderOf) := goodIn_app (goodIn_of _ (by decide +kernel)) ggL_orderOf_X3_orderOf
theorem dL_orderOf_0 : decode cL_orderOf 0 = .ok (.aload_n 3, 1) := by decide +kernel
theorem dL_orderOf_1 : decode cL_orderOf 1 = .ok (.iconst 0, 1) := by decide +kernel
theorem dL_orderOf_2 : decode cL_orderOf 2 = .ok (.aload_n 0, 1) := by decide +kernel
theorem dL_orderOf_3 : decode cL_orderOf 3 = .ok (.iload_n 1, 1) := by decide +kernel
theorem dL_orderOf_4 : decode cL_orderOf 4 = .ok (.iload_n 2, 1) := by decide +kernel
theorem dL_orderOf_5 : decode cL_orderOf 5 = .ok (.invokevirtual 38, 3) := by decide +kernel
theorem dL_orderOf_8 : decode cL_orderOf 8 = .ok (.i2l, 1) := by decide +kernel
theorem dL_orderOf_9 : decode cL_orderOf 9 = .ok (.lastore, 1) := by decide +kernel
theorem dL_orderOf_10 : decode cL_orderOf 10 = .ok (.goto 7, 3) := by decide +kernel
theorem dL_orderOf_13 : decode cL_orderOf 13 = .ok (.astore 4, 2) := by decide +kernel
theorem dL_orderOf_15 : decode cL_orderOf 15 = .ok (.iconst 1, 1) := by decide +kernel
theorem dL_orderOf_16 : decode cL_orderOf 16 = .ok (.ireturn, 1) := by decide +kernel
theorem dL_orderOf_17 : decode cL_orderOf 17 = .ok (.iconst 0, 1) := by decide +kernel
theorem dL_orderOf_18 : decode cL_orderOf 18 = .ok (.ireturn, 1) := by decide +kernel
set_option maxRecDepth 20000 in
theorem ggL_differences_X3_differences : GoodIn wsL_differences wsX3_differences := goodIn_ca (goodIn_r _ [6, 7, 8, 9, 5, 10, 11, 12, 13, 14, 15, 16, 17, 18, 19, 20, 21, 22, 23, 24, 25, 26, 27, 28, 29, 30, 31, 32, 33, 34] (by decide +kernel) (by decide +kernel)) (goodIn_sub (fun _ h => List.mem_cons_of_mem _ (List.mem_append_right _ h)) (by decide +kernel))
set_option maxRecDepth 20000 in
theorem gL_differences_X3_differences : GoodIn wsL_differences (wsV RL 41 RX3 yX3_differences wsX3_differences) := goodIn_app (goodIn_of _ (by decide +kernel)) ggL_differences_X3_differences
theorem dL_differences_0 : decode cL_differences 0 = .ok (.aload_n 3, 1) := by decide +kernel
theorem dL_differences_1 : decode cL_differences 1 = .ok (.iconst 0, 1) := by decide +kernel
theorem dL_differences_2 : decode cL_differences 2 = .ok (.aload_n 0, 1) := by decide +kernel
theorem dL_differences_3 : decode cL_differences 3 = .ok (.iload_n 1, 1) := by decide +kernel
theorem dL_differences_4 : decode cL_differences 4 = .ok (.iload_n 2, 1) := by decide +kernel
theorem dL_differences_5 : decode cL_differences 5 = .ok (.invokevirtual 41, 3) := by decide +kernel
theorem dL_differences_8 : decode cL_differences 8 = .ok (.i2l, 1) := by decide +kernel
theorem dL_differences_9 : decode cL_differences 9 = .ok (.lastore, 1) := by decide +kernel
theorem dL_differences_10 : decode cL_differences 10 = .ok (.goto 7, 3) := by decide +kernel
theorem dL_differences_13 : decode cL_differences 13 = .ok (.astore 4, 2) := by decide +kernel
theorem dL_differences_15 : decode cL_differences 15 = .ok (.iconst 1, 1) := by decide +kernel
theorem dL_differences_16 : decode cL_differences 16 = .ok (.ireturn, 1) := by decide +kernel
theorem dL_differences_17 : decode cL_differences 17 = .ok (.iconst 0, 1) := by decide +kernel
theorem dL_differences_18 : decode cL_differences 18 = .ok (.ireturn, 1) := by decide +kernel
set_option maxRecDepth 20000 in
theorem ggL_where_X3_where : GoodIn wsL_where wsX3_where := goodIn_ca (goodIn_r _ [6, 7, 8, 9, 5, 10, 11, 12, 13, 14, 15, 16, 17, 18, 19, 20, 21, 22, 23, 24, 25, 26, 27, 28, 29, 30, 31, 32, 33, 34, 35, 36, 37, 38, 39, 40, 41, 42, 43, 44, 45, 46, 47, 48, 49, 50, 51, 52, 53, 54, 55, 56, 57, 58, 59, 60, 61, 62, 63, 64, 65, 66, 67, 68, 69, 70, 71, 72, 73, 74, 75, 76, 77, 78, 79, 80, 81, 82, 83, 84, 85, 86, 87, 88, 89, 90, 91, 92, 93, 94, 95, 96, 97, 98, 99, 100, 101, 102, 103, 104, 105, 106, 107, 108, 109, 110, 111, 112, 113, 114, 115, 116, 117, 118] (by decide +kernel) (by decide +kernel)) (goodIn_sub (fun _ h => List.mem_cons_of_mem _ (List.mem_append_right _ h)) (by decide +kernel))
set_option maxRecDepth 20000 in
theorem gL_where_X3_where : GoodIn wsL_where (wsV RL 44 RX3 yX3_where wsX3_where) := goodIn_app (goodIn_of _ (by decide +kernel)) ggL_where_X3_where
theorem dL_where_0 : decode cL_where 0 = .ok (.aload 4, 2) := by decide +kernel
theorem dL_where_2 : decode cL_where 2 = .ok (.iconst 0, 1) := by decide +kernel
theorem dL_where_3 : decode cL_where 3 = .ok (.aload_n 0, 1) := by decide +kernel
theorem dL_where_4 : decode cL_where 4 = .ok (.iload_n 1, 1) := by decide +kernel
theorem dL_where_5 : decode cL_where 5 = .ok (.iload_n 2, 1) := by decide +kernel
theorem dL_where_6 : decode cL_where 6 = .ok (.iload_n 3, 1) := by decide +kernel
theorem dL_where_7 : decode cL_where 7 = .ok (.invokevirtual 44, 3) := by decide +kernel
theorem dL_where_10 : decode cL_where 10 = .ok (.i2l, 1) := by decide +kernel
theorem dL_where_11 : decode cL_where 11 = .ok (.lastore, 1) := by decide +kernel
theorem dL_where_12 : decode cL_where 12 = .ok (.goto 7, 3) := by decide +kernel
theorem dL_where_15 : decode cL_where 15 = .ok (.astore 5, 2) := by decide +kernel
theorem dL_where_17 : decode cL_where 17 = .ok (.iconst 1, 1) := by decide +kernel
theorem dL_where_18 : decode cL_where 18 = .ok (.ireturn, 1) := by decide +kernel
theorem dL_where_19 : decode cL_where 19 = .ok (.iconst 0, 1) := by decide +kernel
theorem dL_where_20 : decode cL_where 20 = .ok (.ireturn, 1) := by decide +kernel
set_option maxRecDepth 20000 in
theorem ggL_cargo_X3_cargo : GoodIn wsL_cargo wsX3_cargo := goodIn_ca (goodIn_r _ [6, 7, 8, 9, 5, 10, 11, 12, 13, 14, 15, 16, 17, 18, 19, 20, 21, 22, 23, 24, 25, 26, 27, 28, 29, 30, 31, 32, 33, 34, 35, 36, 37, 38, 39, 40, 41, 42, 43, 44, 45, 46, 47, 48, 49, 50, 51, 52, 53, 54, 55, 56, 57, 58, 59, 60, 61, 62, 63, 64, 65, 66, 67, 68, 69, 70, 71, 72, 73, 74, 75, 76, 77, 78, 79, 80, 81, 82, 83, 84, 85, 86, 87, 88, 89, 90, 91, 92, 93, 94, 95, 96, 97, 98, 99, 100, 101, 102, 103, 104, 105, 106, 107, 108, 109, 110, 111, 112, 113, 114, 115, 116, 117, 118] (by decide +kernel) (by decide +kernel)) (goodIn_sub (fun _ h => List.mem_cons_of_mem _ (List.mem_append_right _ h)) (by decide +kernel))
set_option maxRecDepth 20000 in
theorem gL_cargo_X3_cargo : GoodIn wsL_cargo (wsV RL 47 RX3 yX3_cargo wsX3_cargo) := goodIn_app (goodIn_of _ (by decide +kernel)) ggL_cargo_X3_cargo
theorem dL_cargo_0 : decode cL_cargo 0 = .ok (.aload 4, 2) := by decide +kernel
theorem dL_cargo_2 : decode cL_cargo 2 = .ok (.iconst 0, 1) := by decide +kernel
theorem dL_cargo_3 : decode cL_cargo 3 = .ok (.aload_n 0, 1) := by decide +kernel
theorem dL_cargo_4 : decode cL_cargo 4 = .ok (.iload_n 1, 1) := by decide +kernel
theorem dL_cargo_5 : decode cL_cargo 5 = .ok (.iload_n 2, 1) := by decide +kernel
theorem dL_cargo_6 : decode cL_cargo 6 = .ok (.iload_n 3, 1) := by decide +kernel
theorem dL_cargo_7 : decode cL_cargo 7 = .ok (.invokevirtual 47, 3) := by decide +kernel
theorem dL_cargo_10 : decode cL_cargo 10 = .ok (.i2l, 1) := by decide +kernel
theorem dL_cargo_11 : decode cL_cargo 11 = .ok (.lastore, 1) := by decide +kernel
theorem dL_cargo_12 : decode cL_cargo 12 = .ok (.goto 7, 3) := by decide +kernel
theorem dL_cargo_15 : decode cL_cargo 15 = .ok (.astore 5, 2) := by decide +kernel
theorem dL_cargo_17 : decode cL_cargo 17 = .ok (.iconst 1, 1) := by decide +kernel
theorem dL_cargo_18 : decode cL_cargo 18 = .ok (.ireturn, 1) := by decide +kernel
theorem dL_cargo_19 : decode cL_cargo 19 = .ok (.iconst 0, 1) := by decide +kernel
theorem dL_cargo_20 : decode cL_cargo 20 = .ok (.ireturn, 1) := by decide +kernel
set_option maxRecDepth 20000 in
theorem ggL_failures_X3_failures : GoodIn wsL_failures wsX3_failures := goodIn_ca (goodIn_r _ [6, 7, 8, 9, 10, 5, 11, 12, 13, 14, 15, 16, 17, 18, 19, 20, 21, 22, 23, 24, 25, 26, 27, 28, 29, 30, 31, 32, 33, 34, 35, 36, 37, 38, 39, 40, 41, 42, 43, 44, 45, 46, 47, 48, 49, 50, 51, 52, 53, 54, 55, 56, 57, 58, 59, 60, 61, 62, 63, 64, 65, 66, 67, 68, 69, 70, 71, 72, 73, 74, 75, 76, 77, 78, 79, 80, 81, 82, 83, 84, 85, 86, 87, 88, 89, 90, 91, 92, 93, 94, 95, 96, 97, 98, 99, 100, 101, 102, 103, 104] (by decide +kernel) (by decide +kernel)) (goodIn_sub (fun _ h => List.mem_cons_of_mem _ (List.mem_append_right _ h)) (by decide +kernel))
set_option maxRecDepth 20000 in
theorem gL_failures_X3_failures : GoodIn wsL_failures (wsV RL 50 RX3 yX3_failures wsX3_failures) := goodIn_app (goodIn_of _ (by decide +kernel)) ggL_failures_X3_failures
theorem dL_failures_0 : decode cL_failures 0 = .ok (.aload_n 2, 1) := by decide +kernel
theorem dL_failures_1 : decode cL_failures 1 = .ok (.iconst 0, 1) := by decide +kernel
theorem dL_failures_2 : decode cL_failures 2 = .ok (.aload_n 0, 1) := by decide +kernel
theorem dL_failures_3 : decode cL_failures 3 = .ok (.iload_n 1, 1) := by decide +kernel
theorem dL_failures_4 : decode cL_failures 4 = .ok (.invokevirtual 50, 3) := by decide +kernel
theorem dL_failures_7 : decode cL_failures 7 = .ok (.i2l, 1) := by decide +kernel
theorem dL_failures_8 : decode cL_failures 8 = .ok (.lastore, 1) := by decide +kernel
theorem dL_failures_9 : decode cL_failures 9 = .ok (.goto 6, 3) := by decide +kernel
theorem dL_failures_12 : decode cL_failures 12 = .ok (.astore_n 3, 1) := by decide +kernel
theorem dL_failures_13 : decode cL_failures 13 = .ok (.iconst 1, 1) := by decide +kernel
theorem dL_failures_14 : decode cL_failures 14 = .ok (.ireturn, 1) := by decide +kernel
theorem dL_failures_15 : decode cL_failures 15 = .ok (.iconst 0, 1) := by decide +kernel
theorem dL_failures_16 : decode cL_failures 16 = .ok (.ireturn, 1) := by decide +kernel
set_option maxRecDepth 20000 in
theorem ggL_look_X3_look : GoodIn wsL_look wsX3_look := goodIn_ca (goodIn_r _ [6, 7, 8, 9, 10, 11, 12, 13, 5, 14, 15, 16, 17, 18, 19, 20, 21, 22, 23, 24, 25, 26, 27, 28, 29, 30, 31, 32, 33, 34, 35, 36, 37, 38, 39, 40, 41, 42, 43, 44, 45, 46, 47, 48, 49, 50, 51, 52, 53, 54, 55, 56, 57, 58, 59, 60, 61, 62, 63, 64, 65, 66, 67, 68, 69, 70, 71, 72, 73, 74, 75, 76, 77, 78, 79, 80, 81, 82, 83, 84, 85, 86, 87, 88, 89, 90, 91, 92, 93, 94, 95, 96, 97, 98, 99, 100, 101, 102, 103, 104, 105, 106, 107, 108, 109, 110, 111, 112, 113, 114, 115, 116, 117] (by decide +kernel) (by decide +kernel)) (goodIn_sub (fun _ h => List.mem_cons_of_mem _ (List.mem_append_right _ h)) (by decide +kernel))
set_option maxRecDepth 20000 in
theorem gL_look_X3_look : GoodIn wsL_look (wsV RL 54 RX3 yX3_look wsX3_look) := goodIn_app (goodIn_of _ (by decide +kernel)) ggL_look_X3_look
theorem dL_look_0 : decode cL_look 0 = .ok (.aload_n 3, 1) := by decide +kernel
theorem dL_look_1 : decode cL_look 1 = .ok (.iconst 0, 1) := by decide +kernel
theorem dL_look_2 : decode cL_look 2 = .ok (.aload_n 0, 1) := by decide +kernel
theorem dL_look_3 : decode cL_look 3 = .ok (.iload_n 1, 1) := by decide +kernel
theorem dL_look_4 : decode cL_look 4 = .ok (.iload_n 2, 1) := by decide +kernel
theorem dL_look_5 : decode cL_look 5 = .ok (.invokevirtual 54, 3) := by decide +kernel
theorem dL_look_8 : decode cL_look 8 = .ok (.i2l, 1) := by decide +kernel
theorem dL_look_9 : decode cL_look 9 = .ok (.lastore, 1) := by decide +kernel
theorem dL_look_10 : decode cL_look 10 = .ok (.goto 7, 3) := by decide +kernel
theorem dL_look_13 : decode cL_look 13 = .ok (.astore 4, 2) := by decide +kernel
theorem dL_look_15 : decode cL_look 15 = .ok (.iconst 1, 1) := by decide +kernel
theorem dL_look_16 : decode cL_look 16 = .ok (.ireturn, 1) := by decide +kernel
theorem dL_look_17 : decode cL_look 17 = .ok (.iconst 0, 1) := by decide +kernel
theorem dL_look_18 : decode cL_look 18 = .ok (.ireturn, 1) := by decide +kernel
set_option maxRecDepth 20000 in
theorem ggL_seen_X3_seen : GoodIn wsL_seen wsX3_seen := goodIn_ca (goodIn_r _ [6, 7, 8, 9, 5, 10, 11, 12, 13, 14, 15, 16, 17, 18, 19, 20, 21, 22, 23] (by decide +kernel) (by decide +kernel)) (goodIn_sub (fun _ h => List.mem_cons_of_mem _ (List.mem_append_right _ h)) (by decide +kernel))
set_option maxRecDepth 20000 in
theorem gL_seen_X3_seen : GoodIn wsL_seen (wsV RL 57 RX3 yX3_seen wsX3_seen) := goodIn_app (goodIn_of _ (by decide +kernel)) ggL_seen_X3_seen
theorem dL_seen_0 : decode cL_seen 0 = .ok (.aload_n 2, 1) := by decide +kernel
theorem dL_seen_1 : decode cL_seen 1 = .ok (.iconst 0, 1) := by decide +kernel
theorem dL_seen_2 : decode cL_seen 2 = .ok (.aload_n 0, 1) := by decide +kernel
theorem dL_seen_3 : decode cL_seen 3 = .ok (.iload_n 1, 1) := by decide +kernel
theorem dL_seen_4 : decode cL_seen 4 = .ok (.invokevirtual 57, 3) := by decide +kernel
theorem dL_seen_7 : decode cL_seen 7 = .ok (.i2l, 1) := by decide +kernel
theorem dL_seen_8 : decode cL_seen 8 = .ok (.lastore, 1) := by decide +kernel
theorem dL_seen_9 : decode cL_seen 9 = .ok (.goto 6, 3) := by decide +kernel
theorem dL_seen_12 : decode cL_seen 12 = .ok (.astore_n 3, 1) := by decide +kernel
theorem dL_seen_13 : decode cL_seen 13 = .ok (.iconst 1, 1) := by decide +kernel
theorem dL_seen_14 : decode cL_seen 14 = .ok (.ireturn, 1) := by decide +kernel
theorem dL_seen_15 : decode cL_seen 15 = .ok (.iconst 0, 1) := by decide +kernel
theorem dL_seen_16 : decode cL_seen 16 = .ok (.ireturn, 1) := by decide +kernel
set_option maxRecDepth 20000 in
theorem ggL_ahead_X3_ahead : GoodIn wsL_ahead wsX3_ahead := goodIn_ca (goodIn_r _ [6, 7, 8, 9, 5, 10, 11, 12, 13, 14, 15, 16, 17, 18, 19, 20, 21, 22, 23] (by decide +kernel) (by decide +kernel)) (goodIn_sub (fun _ h => List.mem_cons_of_mem _ (List.mem_append_right _ h)) (by decide +kernel))
set_option maxRecDepth 20000 in
theorem gL_ahead_X3_ahead : GoodIn wsL_ahead (wsV RL 60 RX3 yX3_ahead wsX3_ahead) := goodIn_app (goodIn_of _ (by decide +kernel)) ggL_ahead_X3_ahead
theorem dL_ahead_0 : decode cL_ahead 0 = .ok (.aload_n 2, 1) := by decide +kernel
theorem dL_ahead_1 : decode cL_ahead 1 = .ok (.iconst 0, 1) := by decide +kernel
theorem dL_ahead_2 : decode cL_ahead 2 = .ok (.aload_n 0, 1) := by decide +kernel
theorem dL_ahead_3 : decode cL_ahead 3 = .ok (.iload_n 1, 1) := by decide +kernel
theorem dL_ahead_4 : decode cL_ahead 4 = .ok (.invokevirtual 60, 3) := by decide +kernel
theorem dL_ahead_7 : decode cL_ahead 7 = .ok (.i2l, 1) := by decide +kernel
theorem dL_ahead_8 : decode cL_ahead 8 = .ok (.lastore, 1) := by decide +kernel
theorem dL_ahead_9 : decode cL_ahead 9 = .ok (.goto 6, 3) := by decide +kernel
theorem dL_ahead_12 : decode cL_ahead 12 = .ok (.astore_n 3, 1) := by decide +kernel
theorem dL_ahead_13 : decode cL_ahead 13 = .ok (.iconst 1, 1) := by decide +kernel
theorem dL_ahead_14 : decode cL_ahead 14 = .ok (.ireturn, 1) := by decide +kernel
theorem dL_ahead_15 : decode cL_ahead 15 = .ok (.iconst 0, 1) := by decide +kernel
theorem dL_ahead_16 : decode cL_ahead 16 = .ok (.ireturn, 1) := by decide +kernel
set_option maxRecDepth 20000 in
theorem ggL_mark_X3_mark : GoodIn wsL_mark wsX3_mark := goodIn_ca (goodIn_r _ [6, 7, 8, 9, 10, 5, 11, 12, 13, 14, 15, 16, 17, 18, 19, 20, 21, 22, 23, 24, 25, 26, 27, 28, 29, 30, 31, 32, 33, 34, 35, 36, 37, 38, 39, 40, 41, 42, 43, 44, 45, 46, 47, 48, 49, 50, 51, 52, 53, 54, 55, 56, 57, 58, 59, 60, 61, 62, 63, 64, 65, 66, 67, 68, 69, 70, 71, 72, 73, 74, 75, 76, 77, 78, 79, 80, 81, 82, 83, 84, 85, 86, 87, 88, 89, 90, 91, 92, 93, 94, 95, 96, 97, 98, 99, 100, 101, 102, 103, 104, 105, 106, 107, 108, 109, 110, 111, 112, 113, 114, 115, 116, 117] (by decide +kernel) (by decide +kernel)) (goodIn_sub (fun _ h => List.mem_cons_of_mem _ (List.mem_append_right _ h)) (by decide +kernel))
set_option maxRecDepth 20000 in
theorem gL_mark_X3_mark : GoodIn wsL_mark (wsV RL 63 RX3 yX3_mark wsX3_mark) := goodIn_app (goodIn_of _ (by decide +kernel)) ggL_mark_X3_mark
theorem dL_mark_0 : decode cL_mark 0 = .ok (.aload_n 2, 1) := by decide +kernel
theorem dL_mark_1 : decode cL_mark 1 = .ok (.iconst 0, 1) := by decide +kernel
theorem dL_mark_2 : decode cL_mark 2 = .ok (.aload_n 0, 1) := by decide +kernel
theorem dL_mark_3 : decode cL_mark 3 = .ok (.iload_n 1, 1) := by decide +kernel
theorem dL_mark_4 : decode cL_mark 4 = .ok (.invokevirtual 63, 3) := by decide +kernel
theorem dL_mark_7 : decode cL_mark 7 = .ok (.i2l, 1) := by decide +kernel
theorem dL_mark_8 : decode cL_mark 8 = .ok (.lastore, 1) := by decide +kernel
theorem dL_mark_9 : decode cL_mark 9 = .ok (.goto 6, 3) := by decide +kernel
theorem dL_mark_12 : decode cL_mark 12 = .ok (.astore_n 3, 1) := by decide +kernel
theorem dL_mark_13 : decode cL_mark 13 = .ok (.iconst 1, 1) := by decide +kernel
theorem dL_mark_14 : decode cL_mark 14 = .ok (.ireturn, 1) := by decide +kernel
theorem dL_mark_15 : decode cL_mark 15 = .ok (.iconst 0, 1) := by decide +kernel
theorem dL_mark_16 : decode cL_mark 16 = .ok (.ireturn, 1) := by decide +kernel
set_option maxRecDepth 20000 in
theorem ggL_law_X3_init : GoodIn wsL_law wsX3_init := goodIn_r _ [9, 10, 11, 12, 13, 14, 15, 16, 17, 18, 19, 20, 21, 22, 23, 24, 25, 26, 27, 28, 29, 30, 31, 32, 33, 34, 35, 36, 37, 38, 39, 40, 41, 42, 43, 443, 444, 445, 446, 447, 448, 449, 421, 422, 423, 424, 450, 451, 452, 453, 454, 455] (by decide +kernel) (by decide +kernel)
set_option maxRecDepth 20000 in
theorem gL_law_X3_init : GoodIn wsL_law (wsX3_init) := ggL_law_X3_init
set_option maxRecDepth 20000 in
theorem ggL_law_X4_init : GoodIn wsL_law wsX4_init := goodIn_r _ [46, 47, 11, 12, 29, 48, 49, 50, 51, 52, 53, 54, 55, 56, 57, 58, 59, 60, 61, 62, 425, 426, 427, 428, 429, 430, 431, 432, 433, 434, 435, 436, 437, 438, 439, 440, 441, 442] (by decide +kernel) (by decide +kernel)
set_option maxRecDepth 20000 in
theorem gL_law_X4_init : GoodIn wsL_law (wsX4_init) := ggL_law_X4_init
set_option maxRecDepth 20000 in
theorem ggL_law_L_addShip : GoodIn wsL_law wsL_addShip := goodIn_ca (goodIn_ca (goodIn_r _ [66, 67, 68, 69, 70, 71, 2, 72, 73, 74, 75, 76, 16, 77, 78, 79, 80, 81, 82, 83, 84, 85, 11, 12, 86, 87, 88, 89, 90, 91, 15, 92, 93, 28, 27, 421, 422, 423, 424, 443, 444, 445, 446, 447, 448, 449, 456, 457, 458, 459, 460] (by decide +kernel) (by decide +kernel)) (goodIn_sub (fun _ h => List.mem_append_left _ (List.mem_append_left _ (List.mem_append_right _ h))) (by decide +kernel))) (goodIn_sub (fun _ h => List.mem_append_left _ (List.mem_append_right _ h)) (by decide +kernel))
set_option maxRecDepth 20000 in
theorem gL_law_L_addShip : GoodIn wsL_law (va_wsS RL 70 yL_addShip wsL_addShip) := goodIn_app (goodIn_of _ (by decide +kernel)) ggL_law_L_addShip
set_option maxRecDepth 20000 in
theorem ggL_law_X4_addShip : GoodIn wsL_law wsX4_addShip := goodIn_r _ [97, 98, 48, 49, 50, 99, 100, 5, 101, 102, 103, 104, 105, 106, 107, 108, 109, 425, 426, 427, 428, 429, 430, 431, 432, 433, 434, 435, 436, 437, 438, 439, 440, 441, 442] (by decide +kernel) (by decide +kernel)
set_option maxRecDepth 20000 in
theorem gL_law_X4_addShip : GoodIn wsL_law (wsV RL 75 RX4 yX4_addShip wsX4_addShip) := goodIn_app (goodIn_of _ (by decide +kernel)) ggL_law_X4_addShip
set_option maxRecDepth 20000 in
theorem ggL_law_X4_thrown : GoodIn wsL_law wsX4_thrown := goodIn_r _ [113, 109, 425, 426, 427, 428, 429, 430, 431, 432, 433, 434, 435, 436, 437, 438, 439, 440, 441, 442] (by decide +kernel) (by decide +kernel)
set_option maxRecDepth 20000 in
theorem gL_law_X4_thrown : GoodIn wsL_law (wsV RL 76 RX4 yX4_thrown wsX4_thrown) := goodIn_app (goodIn_of _ (by decide +kernel)) ggL_law_X4_thrown
set_option maxRecDepth 20000 in
theorem ggL_law_L_setRate : GoodIn wsL_law wsL_setRate := goodIn_ca (goodIn_ca (goodIn_r _ [116, 117, 67, 118, 119, 120, 2, 121, 73, 74, 16, 122, 123, 124, 125, 126, 127, 128, 129, 421, 422, 423, 424, 443, 444, 445, 446, 447, 448, 449] (by decide +kernel) (by decide +kernel)) (goodIn_sub (fun _ h => List.mem_append_left _ (List.mem_append_left _ (List.mem_append_right _ h))) (by decide +kernel))) (goodIn_sub (fun _ h => List.mem_append_right _ h) (by decide +kernel))
set_option maxRecDepth 20000 in
theorem gL_law_L_setRate : GoodIn wsL_law (va_wsS RL 80 yL_setRate wsL_setRate) := goodIn_app (goodIn_of _ (by decide +kernel)) ggL_law_L_setRate
set_option maxRecDepth 20000 in
theorem ggL_law_X4_setRate : GoodIn wsL_law wsX4_setRate := goodIn_r _ [133, 51, 134, 135, 5, 136, 102, 103, 104, 105, 106, 107, 108, 109, 425, 426, 427, 428, 429, 430, 431, 432, 433, 434, 435, 436, 437, 438, 439, 440, 441, 442] (by decide +kernel) (by decide +kernel)
set_option maxRecDepth 20000 in
theorem gL_law_X4_setRate : GoodIn wsL_law (wsV RL 83 RX4 yX4_setRate wsX4_setRate) := goodIn_app (goodIn_of _ (by decide +kernel)) ggL_law_X4_setRate
set_option maxRecDepth 20000 in
theorem ggL_law_L_setRules : GoodIn wsL_law wsL_setRules := goodIn_ca (goodIn_r _ [139, 67, 140, 141, 142, 2, 143, 73, 74, 16, 421, 422, 423, 424, 443, 444, 445, 446, 447, 448, 449] (by decide +kernel) (by decide +kernel)) (goodIn_sub (fun _ h => List.mem_append_left _ (List.mem_append_left _ (List.mem_append_right _ h))) (by decide +kernel))
set_option maxRecDepth 20000 in
theorem gL_law_L_setRules : GoodIn wsL_law (va_wsS RL 84 yL_setRules wsL_setRules) := goodIn_app (goodIn_of _ (by decide +kernel)) ggL_law_L_setRules
set_option maxRecDepth 20000 in
theorem ggL_law_X4_setRules : GoodIn wsL_law wsX4_setRules := goodIn_r _ [147, 52, 53, 102, 103, 5, 104, 105, 106, 107, 108, 109, 425, 426, 427, 428, 429, 430, 431, 432, 433, 434, 435, 436, 437, 438, 439, 440, 441, 442] (by decide +kernel) (by decide +kernel)
set_option maxRecDepth 20000 in
theorem gL_law_X4_setRules : GoodIn wsL_law (wsV RL 87 RX4 yX4_setRules wsX4_setRules) := goodIn_app (goodIn_of _ (by decide +kernel)) ggL_law_X4_setRules
set_option maxRecDepth 20000 in
theorem ggL_law_L_fork : GoodIn wsL_law wsL_fork := goodIn_ca (goodIn_ca (goodIn_r _ [150, 117, 68, 151, 152, 153, 2, 154, 75, 76, 22, 21, 17, 18, 19, 155, 156, 157, 158, 125, 126, 159, 160, 161, 80, 81, 82, 35, 36, 37, 11, 12, 29, 38, 39, 40, 41, 42, 43, 421, 422, 423, 424, 450, 451, 452, 453, 454, 455] (by decide +kernel) (by decide +kernel)) (goodIn_sub (fun _ h => List.mem_append_left _ (List.mem_append_right _ h)) (by decide +kernel))) (goodIn_sub (fun _ h => List.mem_append_right _ h) (by decide +kernel))
set_option maxRecDepth 20000 in
theorem gL_law_L_fork : GoodIn wsL_law (va_wsS RL 88 yL_fork wsL_fork) := goodIn_app (goodIn_of _ (by decide +kernel)) ggL_law_L_fork
set_option maxRecDepth 20000 in
theorem ggL_law_X4_fork : GoodIn wsL_law wsX4_fork := goodIn_r _ [165, 54, 55, 56, 57, 166, 167, 168, 5, 169, 102, 103, 104, 99, 100, 101, 105, 106, 107, 108, 109, 425, 426, 427, 428, 429, 430, 431, 432, 433, 434, 435, 436, 437, 438, 439, 440, 441, 442] (by decide +kernel) (by decide +kernel)
set_option maxRecDepth 20000 in
theorem gL_law_X4_fork : GoodIn wsL_law (wsV RL 90 RX4 yX4_fork wsX4_fork) := goodIn_app (goodIn_of _ (by decide +kernel)) ggL_law_X4_fork
set_option maxRecDepth 20000 in
theorem ggL_law_L_order : GoodIn wsL_law wsL_order := goodIn_ca (goodIn_ca (goodIn_ca (goodIn_r _ [172, 117, 67, 68, 173, 174, 175, 2, 176, 73, 74, 75, 76, 155, 156, 157, 158, 125, 126, 21, 159, 160, 161, 80, 81, 82, 177, 178, 179, 180, 16, 181, 15, 182, 183, 27, 122, 123, 124, 127, 128, 129, 184, 185, 186, 187, 19, 188, 189, 41, 43, 40, 39, 38, 450, 451, 452, 453, 454, 455, 421, 422, 423, 424, 443, 444, 445, 446, 447, 448, 449] (by decide +kernel) (by decide +kernel)) (goodIn_sub (fun _ h => List.mem_append_left _ (List.mem_append_left _ (List.mem_append_right _ h))) (by decide +kernel))) (goodIn_sub (fun _ h => List.mem_append_left _ (List.mem_append_right _ h)) (by decide +kernel))) (goodIn_sub (fun _ h => List.mem_append_right _ h) (by decide +kernel))
set_option maxRecDepth 20000 in
theorem gL_law_L_order : GoodIn wsL_law (va_wsS RL 91 yL_order wsL_order) := goodIn_app (goodIn_of _ (by decide +kernel)) ggL_law_L_order
set_option maxRecDepth 20000 in
theorem ggL_law_X4_order : GoodIn wsL_law wsX4_order := goodIn_r _ [193, 56, 58, 60, 57, 166, 167, 168, 5, 169, 54, 102, 103, 104, 99, 100, 101, 194, 195, 196, 197, 98, 134, 135, 136, 105, 106, 107, 108, 109, 425, 426, 427, 428, 429, 430, 431, 432, 433, 434, 435, 436, 437, 438, 439, 440, 441, 442] (by decide +kernel) (by decide +kernel)
set_option maxRecDepth 20000 in
theorem gL_law_X4_order : GoodIn wsL_law (wsV RL 94 RX4 yX4_order wsX4_order) := goodIn_app (goodIn_of _ (by decide +kernel)) ggL_law_X4_order
set_option maxRecDepth 20000 in
theorem ggL_law_L_takeAway : GoodIn wsL_law wsL_takeAway := goodIn_ca (goodIn_r _ [200, 117, 201, 202, 203, 2, 204, 155, 156, 157, 158, 125, 126, 21, 159, 160, 161, 80, 81, 82, 205, 19, 206, 207, 39, 40, 208, 209, 210, 211, 421, 422, 423, 424, 450, 451, 452, 453, 454, 455] (by decide +kernel) (by decide +kernel)) (goodIn_sub (fun _ h => List.mem_append_right _ h) (by decide +kernel))
set_option maxRecDepth 20000 in
theorem gL_law_L_takeAway : GoodIn wsL_law (va_wsS RL 95 yL_takeAway wsL_takeAway) := goodIn_app (goodIn_of _ (by decide +kernel)) ggL_law_L_takeAway
set_option maxRecDepth 20000 in
theorem ggL_law_X4_takeAway : GoodIn wsL_law wsX4_takeAway := goodIn_r _ [215, 166, 167, 168, 5, 169, 54, 102, 103, 104, 99, 100, 101, 105, 106, 107, 108, 109, 216, 217, 218, 219, 58, 220, 221, 222, 223, 60, 425, 426, 427, 428, 429, 430, 431, 432, 433, 434, 435, 436, 437, 438, 439, 440, 441, 442] (by decide +kernel) (by decide +kernel)
set_option maxRecDepth 20000 in
theorem gL_law_X4_takeAway : GoodIn wsL_law (wsV RL 97 RX4 yX4_takeAway wsX4_takeAway) := goodIn_app (goodIn_of _ (by decide +kernel)) ggL_law_X4_takeAway
set_option maxRecDepth 20000 in
theorem ggL_law_L_orderOf : GoodIn wsL_law wsL_orderOf := goodIn_ca (goodIn_r _ [226, 117, 227, 228, 229, 2, 230, 155, 156, 157, 158, 125, 126, 21, 159, 160, 161, 80, 81, 82, 231, 19, 232, 233, 38, 41, 208, 209, 210, 211, 39, 421, 422, 423, 424, 450, 451, 452, 453, 454, 455] (by decide +kernel) (by decide +kernel)) (goodIn_sub (fun _ h => List.mem_append_right _ h) (by decide +kernel))
set_option maxRecDepth 20000 in
theorem gL_law_L_orderOf : GoodIn wsL_law (va_wsS RL 98 yL_orderOf wsL_orderOf) := goodIn_app (goodIn_of _ (by decide +kernel)) ggL_law_L_orderOf
set_option maxRecDepth 20000 in
theorem ggL_law_X4_orderOf : GoodIn wsL_law wsX4_orderOf := goodIn_r _ [237, 166, 167, 168, 5, 169, 54, 102, 103, 104, 99, 100, 101, 105, 106, 107, 108, 109, 238, 239, 240, 241, 55, 58, 216, 217, 218, 219, 425, 426, 427, 428, 429, 430, 431, 432, 433, 434, 435, 436, 437, 438, 439, 440, 441, 442] (by decide +kernel) (by decide +kernel)
set_option maxRecDepth 20000 in
theorem gL_law_X4_orderOf : GoodIn wsL_law (wsV RL 100 RX4 yX4_orderOf wsX4_orderOf) := goodIn_app (goodIn_of _ (by decide +kernel)) ggL_law_X4_orderOf
set_option maxRecDepth 20000 in
theorem ggL_law_L_differences : GoodIn wsL_law wsL_differences := goodIn_ca (goodIn_r _ [244, 117, 245, 246, 247, 2, 248, 155, 156, 157, 158, 125, 126, 21, 231, 19, 232, 233, 38, 41, 208, 209, 210, 211, 39, 421, 422, 423, 424, 450, 451, 452, 453, 454, 455] (by decide +kernel) (by decide +kernel)) (goodIn_sub (fun _ h => List.mem_append_right _ h) (by decide +kernel))
set_option maxRecDepth 20000 in
theorem gL_law_L_differences : GoodIn wsL_law (va_wsS RL 101 yL_differences wsL_differences) := goodIn_app (goodIn_of _ (by decide +kernel)) ggL_law_L_differences
set_option maxRecDepth 20000 in
theorem ggL_law_X4_differences : GoodIn wsL_law wsX4_differences := goodIn_r _ [252, 166, 167, 168, 5, 169, 54, 102, 103, 104, 105, 106, 107, 108, 109, 238, 239, 240, 241, 55, 58, 216, 217, 218, 219, 425, 426, 427, 428, 429, 430, 431, 432, 433, 434, 435, 436, 437, 438, 439, 440, 441, 442] (by decide +kernel) (by decide +kernel)
set_option maxRecDepth 20000 in
theorem gL_law_X4_differences : GoodIn wsL_law (wsV RL 103 RX4 yX4_differences wsX4_differences) := goodIn_app (goodIn_of _ (by decide +kernel)) ggL_law_X4_differences
set_option maxRecDepth 20000 in
theorem ggL_law_L_where : GoodIn wsL_law wsL_where := goodIn_ca (goodIn_r _ [255, 117, 256, 257, 258, 2, 259, 260, 261, 262, 263, 16, 155, 156, 157, 158, 125, 126, 21, 177, 178, 179, 180, 181, 15, 182, 183, 27, 159, 160, 161, 80, 81, 82, 264, 265, 266, 33, 34, 267, 79, 268, 269, 86, 89, 90, 231, 19, 232, 233, 38, 41, 208, 209, 210, 211, 39, 270, 271, 272, 273, 274, 275, 276, 277, 278, 279, 280, 281, 282, 283, 284, 285, 286, 287, 288, 289, 290, 291, 292, 293, 128, 129, 294, 295, 296, 297, 31, 30, 32, 298, 299, 300, 301, 302, 303, 304, 456, 457, 458, 459, 460, 421, 422, 423, 424, 443, 444, 445, 446, 447, 448, 449, 450, 451, 452, 453, 454, 455] (by decide +kernel) (by decide +kernel)) (goodIn_sub (fun _ h => List.mem_append_right _ h) (by decide +kernel))
set_option maxRecDepth 20000 in
theorem gL_law_L_where : GoodIn wsL_law (va_wsS RL 104 yL_where wsL_where) := goodIn_app (goodIn_of _ (by decide +kernel)) ggL_law_L_where
set_option maxRecDepth 20000 in
theorem ggL_law_X4_where : GoodIn wsL_law wsX4_where := goodIn_r _ [308, 61, 309, 310, 311, 5, 312, 166, 167, 168, 169, 54, 102, 103, 104, 194, 195, 196, 197, 98, 99, 100, 101, 105, 106, 107, 108, 109, 313, 314, 315, 316, 317, 318, 62, 50, 48, 51, 52, 53, 238, 239, 240, 241, 55, 58, 216, 217, 218, 219, 319, 320, 321, 322, 323, 324, 325, 326, 49, 425, 426, 427, 428, 429, 430, 431, 432, 433, 434, 435, 436, 437, 438, 439, 440, 441, 442] (by decide +kernel) (by decide +kernel)
set_option maxRecDepth 20000 in
theorem gL_law_X4_where : GoodIn wsL_law (wsV RL 106 RX4 yX4_where wsX4_where) := goodIn_app (goodIn_of _ (by decide +kernel)) ggL_law_X4_where
set_option maxRecDepth 20000 in
theorem ggL_law_L_cargo : GoodIn wsL_law wsL_cargo := goodIn_ca (goodIn_r _ [329, 117, 330, 331, 332, 2, 333, 260, 261, 262, 263, 16, 155, 156, 157, 158, 125, 126, 21, 177, 178, 179, 180, 181, 15, 182, 183, 27, 159, 160, 161, 80, 81, 82, 264, 265, 266, 33, 34, 267, 79, 268, 269, 86, 89, 90, 231, 19, 232, 233, 38, 41, 208, 209, 210, 211, 39, 270, 271, 272, 273, 274, 275, 276, 277, 278, 279, 280, 281, 282, 283, 284, 285, 286, 287, 288, 289, 290, 291, 292, 293, 128, 129, 294, 295, 296, 297, 31, 30, 32, 298, 299, 300, 301, 302, 303, 304, 456, 457, 458, 459, 460, 421, 422, 423, 424, 443, 444, 445, 446, 447, 448, 449, 450, 451, 452, 453, 454, 455] (by decide +kernel) (by decide +kernel)) (goodIn_sub (fun _ h => List.mem_append_right _ h) (by decide +kernel))
set_option maxRecDepth 20000 in
theorem gL_law_L_cargo : GoodIn wsL_law (va_wsS RL 107 yL_cargo wsL_cargo) := goodIn_app (goodIn_of _ (by decide +kernel)) ggL_law_L_cargo
set_option maxRecDepth 20000 in
theorem ggL_law_X4_cargo : GoodIn wsL_law wsX4_cargo := goodIn_r _ [337, 62, 309, 310, 311, 5, 312, 166, 167, 168, 169, 54, 102, 103, 104, 194, 195, 196, 197, 98, 99, 100, 101, 105, 106, 107, 108, 109, 313, 314, 315, 316, 317, 318, 61, 50, 48, 51, 52, 53, 238, 239, 240, 241, 55, 58, 216, 217, 218, 219, 319, 320, 321, 322, 323, 324, 325, 326, 49, 425, 426, 427, 428, 429, 430, 431, 432, 433, 434, 435, 436, 437, 438, 439, 440, 441, 442] (by decide +kernel) (by decide +kernel)
set_option maxRecDepth 20000 in
theorem gL_law_X4_cargo : GoodIn wsL_law (wsV RL 109 RX4 yX4_cargo wsX4_cargo) := goodIn_app (goodIn_of _ (by decide +kernel)) ggL_law_X4_cargo
set_option maxRecDepth 20000 in
theorem ggL_law_L_failures : GoodIn wsL_law wsL_failures := goodIn_ca (goodIn_r _ [340, 117, 341, 342, 343, 2, 344, 16, 155, 156, 157, 158, 125, 126, 21, 264, 15, 265, 266, 33, 34, 27, 267, 79, 268, 269, 86, 89, 90, 231, 19, 232, 233, 38, 41, 208, 209, 210, 211, 39, 270, 271, 272, 273, 274, 275, 276, 277, 278, 279, 280, 281, 181, 182, 183, 282, 283, 284, 285, 286, 287, 288, 289, 290, 291, 292, 293, 128, 129, 294, 295, 296, 297, 31, 30, 32, 298, 299, 300, 301, 302, 303, 304, 421, 422, 423, 424, 443, 444, 445, 446, 447, 448, 449, 456, 457, 458, 459, 460, 450, 451, 452, 453, 454, 455] (by decide +kernel) (by decide +kernel)) (goodIn_sub (fun _ h => List.mem_append_right _ h) (by decide +kernel))
set_option maxRecDepth 20000 in
theorem gL_law_L_failures : GoodIn wsL_law (va_wsS RL 110 yL_failures wsL_failures) := goodIn_app (goodIn_of _ (by decide +kernel)) ggL_law_L_failures
set_option maxRecDepth 20000 in
theorem ggL_law_X4_failures : GoodIn wsL_law wsX4_failures := goodIn_r _ [348, 318, 166, 167, 168, 5, 169, 54, 102, 103, 104, 105, 106, 107, 108, 109, 313, 314, 315, 316, 317, 98, 61, 62, 50, 48, 51, 52, 53, 238, 239, 240, 241, 55, 58, 216, 217, 218, 219, 319, 320, 321, 322, 323, 324, 325, 326, 49, 425, 426, 427, 428, 429, 430, 431, 432, 433, 434, 435, 436, 437, 438, 439, 440, 441, 442] (by decide +kernel) (by decide +kernel)
set_option maxRecDepth 20000 in
theorem gL_law_X4_failures : GoodIn wsL_law (wsV RL 113 RX4 yX4_failures wsX4_failures) := goodIn_app (goodIn_of _ (by decide +kernel)) ggL_law_X4_failures
set_option maxRecDepth 20000 in
theorem ggL_law_L_look : GoodIn wsL_law wsL_look := goodIn_ca (goodIn_r _ [351, 117, 352, 353, 354, 2, 355, 356, 357, 303, 358, 155, 156, 157, 158, 125, 126, 21, 159, 160, 161, 80, 81, 82, 359, 360, 361, 362, 16, 264, 15, 265, 266, 33, 34, 27, 267, 79, 268, 269, 86, 89, 90, 231, 19, 232, 233, 38, 41, 208, 209, 210, 211, 39, 270, 271, 272, 273, 274, 275, 276, 277, 278, 279, 280, 281, 181, 182, 183, 282, 283, 284, 285, 286, 287, 288, 289, 290, 291, 292, 293, 128, 129, 294, 295, 296, 297, 31, 30, 32, 298, 299, 300, 301, 302, 304, 450, 451, 452, 453, 454, 455, 421, 422, 423, 424, 443, 444, 445, 446, 447, 448, 449, 456, 457, 458, 459, 460] (by decide +kernel) (by decide +kernel)) (goodIn_sub (fun _ h => List.mem_append_right _ h) (by decide +kernel))
set_option maxRecDepth 20000 in
theorem gL_law_L_look : GoodIn wsL_law (va_wsS RL 114 yL_look wsL_look) := goodIn_app (goodIn_of _ (by decide +kernel)) ggL_law_L_look
set_option maxRecDepth 20000 in
theorem ggL_law_X4_look : GoodIn wsL_law wsX4_look := goodIn_r _ [366, 57, 317, 166, 167, 168, 5, 169, 54, 102, 103, 104, 99, 100, 101, 105, 106, 107, 108, 109, 313, 314, 315, 316, 318, 98, 61, 62, 50, 48, 51, 52, 53, 238, 239, 240, 241, 55, 58, 216, 217, 218, 219, 319, 320, 321, 322, 323, 324, 325, 326, 49, 425, 426, 427, 428, 429, 430, 431, 432, 433, 434, 435, 436, 437, 438, 439, 440, 441, 442] (by decide +kernel) (by decide +kernel)
set_option maxRecDepth 20000 in
theorem gL_law_X4_look : GoodIn wsL_law (wsV RL 116 RX4 yX4_look wsX4_look) := goodIn_app (goodIn_of _ (by decide +kernel)) ggL_law_X4_look
set_option maxRecDepth 20000 in
theorem ggL_law_L_seen : GoodIn wsL_law wsL_seen := goodIn_ca (goodIn_r _ [369, 117, 370, 371, 372, 2, 373, 155, 156, 157, 158, 125, 126, 21, 450, 451, 452, 453, 454, 455, 421, 422, 423, 424] (by decide +kernel) (by decide +kernel)) (goodIn_sub (fun _ h => List.mem_append_right _ h) (by decide +kernel))
set_option maxRecDepth 20000 in
theorem gL_law_L_seen : GoodIn wsL_law (va_wsS RL 117 yL_seen wsL_seen) := goodIn_app (goodIn_of _ (by decide +kernel)) ggL_law_L_seen
set_option maxRecDepth 20000 in
theorem ggL_law_X4_seen : GoodIn wsL_law wsX4_seen := goodIn_r _ [377, 57, 166, 167, 168, 5, 169, 54, 102, 103, 104, 105, 106, 107, 108, 109, 425, 426, 427, 428, 429, 430, 431, 432, 433, 434, 435, 436, 437, 438, 439, 440, 441, 442] (by decide +kernel) (by decide +kernel)
set_option maxRecDepth 20000 in
theorem gL_law_X4_seen : GoodIn wsL_law (wsV RL 119 RX4 yX4_seen wsX4_seen) := goodIn_app (goodIn_of _ (by decide +kernel)) ggL_law_X4_seen
set_option maxRecDepth 20000 in
theorem ggL_law_L_ahead : GoodIn wsL_law wsL_ahead := goodIn_ca (goodIn_r _ [380, 117, 381, 382, 383, 2, 384, 155, 156, 157, 158, 125, 126, 21, 450, 451, 452, 453, 454, 455, 421, 422, 423, 424] (by decide +kernel) (by decide +kernel)) (goodIn_sub (fun _ h => List.mem_append_right _ h) (by decide +kernel))
set_option maxRecDepth 20000 in
theorem gL_law_L_ahead : GoodIn wsL_law (va_wsS RL 120 yL_ahead wsL_ahead) := goodIn_app (goodIn_of _ (by decide +kernel)) ggL_law_L_ahead
set_option maxRecDepth 20000 in
theorem ggL_law_X4_ahead : GoodIn wsL_law wsX4_ahead := goodIn_r _ [388, 166, 167, 168, 5, 169, 54, 102, 103, 104, 105, 106, 107, 108, 109, 389, 390, 391, 392, 60, 425, 426, 427, 428, 429, 430, 431, 432, 433, 434, 435, 436, 437, 438, 439, 440, 441, 442] (by decide +kernel) (by decide +kernel)
set_option maxRecDepth 20000 in
theorem gL_law_X4_ahead : GoodIn wsL_law (wsV RL 122 RX4 yX4_ahead wsX4_ahead) := goodIn_app (goodIn_of _ (by decide +kernel)) ggL_law_X4_ahead
set_option maxRecDepth 20000 in
theorem ggL_law_L_mark : GoodIn wsL_law wsL_mark := goodIn_ca (goodIn_r _ [395, 117, 396, 397, 398, 2, 399, 20, 155, 156, 157, 158, 125, 126, 21, 359, 360, 361, 362, 16, 264, 15, 265, 266, 33, 34, 27, 267, 79, 268, 269, 86, 89, 90, 231, 19, 232, 233, 38, 41, 208, 209, 210, 211, 39, 270, 271, 272, 273, 274, 275, 276, 277, 278, 279, 280, 281, 181, 182, 183, 282, 283, 284, 285, 286, 287, 288, 289, 290, 291, 292, 293, 128, 129, 294, 295, 296, 297, 31, 30, 32, 298, 299, 300, 301, 302, 303, 304, 400, 401, 402, 403, 404, 356, 357, 358, 421, 422, 423, 424, 443, 444, 445, 446, 447, 448, 449, 456, 457, 458, 459, 460, 450, 451, 452, 453, 454, 455] (by decide +kernel) (by decide +kernel)) (goodIn_sub (fun _ h => List.mem_append_right _ h) (by decide +kernel))
set_option maxRecDepth 20000 in
theorem gL_law_L_mark : GoodIn wsL_law (va_wsS RL 123 yL_mark wsL_mark) := goodIn_app (goodIn_of _ (by decide +kernel)) ggL_law_L_mark
set_option maxRecDepth 20000 in
theorem ggL_law_X4_mark : GoodIn wsL_law wsX4_mark := goodIn_r _ [408, 166, 167, 168, 5, 169, 54, 102, 103, 104, 105, 106, 107, 108, 109, 409, 410, 411, 412, 317, 313, 314, 315, 316, 318, 98, 61, 62, 50, 48, 51, 52, 53, 238, 239, 240, 241, 55, 58, 216, 217, 218, 219, 319, 320, 321, 322, 323, 324, 325, 326, 49, 389, 390, 391, 392, 60, 425, 426, 427, 428, 429, 430, 431, 432, 433, 434, 435, 436, 437, 438, 439, 440, 441, 442] (by decide +kernel) (by decide +kernel)
set_option maxRecDepth 20000 in
theorem gL_law_X4_mark : GoodIn wsL_law (wsV RL 125 RX4 yX4_mark wsX4_mark) := goodIn_app (goodIn_of _ (by decide +kernel)) ggL_law_X4_mark
set_option maxRecDepth 20000 in
theorem ggL_law_X3_best : GoodIn wsL_law wsX3_best := goodIn_r _ [416, 20, 21, 359, 360, 361, 2, 362, 16, 264, 15, 265, 266, 33, 34, 27, 267, 79, 268, 269, 86, 89, 90, 231, 19, 232, 233, 38, 41, 208, 209, 210, 211, 39, 270, 271, 272, 273, 274, 275, 276, 277, 278, 279, 280, 281, 181, 182, 183, 282, 283, 284, 285, 286, 287, 288, 289, 290, 291, 292, 293, 128, 129, 294, 295, 296, 297, 31, 30, 32, 298, 299, 300, 301, 302, 303, 304, 400, 401, 402, 403, 404, 356, 357, 358, 421, 422, 423, 424, 443, 444, 445, 446, 447, 448, 449, 456, 457, 458, 459, 460, 450, 451, 452, 453, 454, 455] (by decide +kernel) (by decide +kernel)
set_option maxRecDepth 20000 in
theorem gL_law_X3_best : GoodIn wsL_law (wsV RL 126 RX3 yX3_best wsX3_best) := goodIn_app (goodIn_of _ (by decide +kernel)) ggL_law_X3_best
set_option maxRecDepth 20000 in
theorem ggL_law_X4_best : GoodIn wsL_law wsX4_best := goodIn_r _ [420, 109, 54, 409, 410, 411, 5, 412, 317, 313, 314, 315, 316, 318, 98, 61, 62, 50, 48, 51, 52, 53, 238, 239, 240, 241, 55, 58, 216, 217, 218, 219, 319, 320, 321, 322, 323, 324, 325, 326, 49, 389, 390, 391, 392, 60, 425, 426, 427, 428, 429, 430, 431, 432, 433, 434, 435, 436, 437, 438, 439, 440, 441, 442] (by decide +kernel) (by decide +kernel)
set_option maxRecDepth 20000 in
theorem gL_law_X4_best : GoodIn wsL_law (wsV RL 129 RX4 yX4_best wsX4_best) := goodIn_app (goodIn_of _ (by decide +kernel)) ggL_law_X4_best
