theorem dX3_init_0 : decode cX3_init 0 = .ok (.aload_n 0, 1) := by decide +kernel
theorem dX3_init_1 : decode cX3_init 1 = .ok (.invokespecial 3, 3) := by decide +kernel
theorem dX3_init_4 : decode cX3_init 4 = .ok (.aload_n 0, 1) := by decide +kernel
theorem dX3_init_5 : decode cX3_init 5 = .ok (.new 9, 3) := by decide +kernel
theorem dX3_init_8 : decode cX3_init 8 = .ok (.dup, 1) := by decide +kernel
theorem dX3_init_9 : decode cX3_init 9 = .ok (.invokespecial 11, 3) := by decide +kernel
theorem dX3_init_12 : decode cX3_init 12 = .ok (.putfield 12, 3) := by decide +kernel
theorem dX3_init_15 : decode cX3_init 15 = .ok (.aload_n 0, 1) := by decide +kernel
theorem dX3_init_16 : decode cX3_init 16 = .ok (.new 16, 3) := by decide +kernel
theorem dX3_init_19 : decode cX3_init 19 = .ok (.dup, 1) := by decide +kernel
theorem dX3_init_20 : decode cX3_init 20 = .ok (.aconst_null, 1) := by decide +kernel
theorem dX3_init_21 : decode cX3_init 21 = .ok (.iconst 0, 1) := by decide +kernel
theorem dX3_init_22 : decode cX3_init 22 = .ok (.invokespecial 18, 3) := by decide +kernel
theorem dX3_init_25 : decode cX3_init 25 = .ok (.putfield 21, 3) := by decide +kernel
theorem dX3_init_28 : decode cX3_init 28 = .ok (.aload_n 0, 1) := by decide +kernel
theorem dX3_init_29 : decode cX3_init 29 = .ok (.bipush 9, 2) := by decide +kernel
theorem dX3_init_31 : decode cX3_init 31 = .ok (.anewarray 16, 3) := by decide +kernel
theorem dX3_init_34 : decode cX3_init 34 = .ok (.putfield 25, 3) := by decide +kernel
theorem dX3_init_37 : decode cX3_init 37 = .ok (.aload_n 0, 1) := by decide +kernel
theorem dX3_init_38 : decode cX3_init 38 = .ok (.iconst 0, 1) := by decide +kernel
theorem dX3_init_39 : decode cX3_init 39 = .ok (.putfield 29, 3) := by decide +kernel
theorem dX3_init_42 : decode cX3_init 42 = .ok (.aload_n 0, 1) := by decide +kernel
theorem dX3_init_43 : decode cX3_init 43 = .ok (.getfield 25, 3) := by decide +kernel
theorem dX3_init_46 : decode cX3_init 46 = .ok (.iconst 0, 1) := by decide +kernel
theorem dX3_init_47 : decode cX3_init 47 = .ok (.aload_n 0, 1) := by decide +kernel
theorem dX3_init_48 : decode cX3_init 48 = .ok (.getfield 21, 3) := by decide +kernel
theorem dX3_init_51 : decode cX3_init 51 = .ok (.aastore, 1) := by decide +kernel
theorem dX3_init_52 : decode cX3_init 52 = .ok (.return_, 1) := by decide +kernel
set_option maxRecDepth 20000 in
theorem ggX3_addShip_X3_isTurn : GoodIn wsX3_addShip wsX3_isTurn := goodIn_r _ [12] (by decide +kernel) (by decide +kernel)
set_option maxRecDepth 20000 in
theorem gX3_addShip_X3_isTurn : GoodIn wsX3_addShip (va_wsS RX3 33 yX3_isTurn wsX3_isTurn) := goodIn_app (goodIn_of _ (by decide +kernel)) ggX3_addShip_X3_isTurn
set_option maxRecDepth 20000 in
theorem ggX3_addShip_X2_init : GoodIn wsX3_addShip wsX2_init := goodIn_r _ [14, 15, 16, 17, 18, 19, 20, 21, 22, 40, 41, 42, 43, 44] (by decide +kernel) (by decide +kernel)
set_option maxRecDepth 20000 in
theorem gX3_addShip_X2_init_n58 : GoodIn wsX3_addShip (wsX2_init) := ggX3_addShip_X2_init
set_option maxRecDepth 20000 in
theorem ggX3_addShip_X0_admit : GoodIn wsX3_addShip wsX0_admit := goodIn_r _ [26, 27, 28, 33, 34, 35, 36, 37, 38, 39] (by decide +kernel) (by decide +kernel)
set_option maxRecDepth 20000 in
theorem gX3_addShip_X0_admit_n61 : GoodIn wsX3_addShip (wsX0_admit) := ggX3_addShip_X0_admit
theorem dX3_addShip_0 : decode cX3_addShip 0 = .ok (.iload_n 1, 1) := by decide +kernel
theorem dX3_addShip_1 : decode cX3_addShip 1 = .ok (.invokestatic 33, 3) := by decide +kernel
theorem dX3_addShip_4 : decode cX3_addShip 4 = .ok (.ifCond .ne 13, 3) := by decide +kernel
theorem dX3_addShip_7 : decode cX3_addShip 7 = .ok (.new 37, 3) := by decide +kernel
theorem dX3_addShip_10 : decode cX3_addShip 10 = .ok (.dup, 1) := by decide +kernel
theorem dX3_addShip_11 : decode cX3_addShip 11 = .ok (.ldc 39, 2) := by decide +kernel
theorem dX3_addShip_13 : decode cX3_addShip 13 = .ok (.invokespecial 41, 3) := by decide +kernel
theorem dX3_addShip_16 : decode cX3_addShip 16 = .ok (.athrow, 1) := by decide +kernel
theorem dX3_addShip_17 : decode cX3_addShip 17 = .ok (.iload_n 2, 1) := by decide +kernel
theorem dX3_addShip_18 : decode cX3_addShip 18 = .ok (.ifCond .lt 8, 3) := by decide +kernel
theorem dX3_addShip_21 : decode cX3_addShip 21 = .ok (.iload_n 2, 1) := by decide +kernel
theorem dX3_addShip_22 : decode cX3_addShip 22 = .ok (.iconst 2, 1) := by decide +kernel
theorem dX3_addShip_23 : decode cX3_addShip 23 = .ok (.if_icmp .le 13, 3) := by decide +kernel
theorem dX3_addShip_26 : decode cX3_addShip 26 = .ok (.new 37, 3) := by decide +kernel
theorem dX3_addShip_29 : decode cX3_addShip 29 = .ok (.dup, 1) := by decide +kernel
theorem dX3_addShip_30 : decode cX3_addShip 30 = .ok (.ldc 44, 2) := by decide +kernel
theorem dX3_addShip_32 : decode cX3_addShip 32 = .ok (.invokespecial 41, 3) := by decide +kernel
theorem dX3_addShip_35 : decode cX3_addShip 35 = .ok (.athrow, 1) := by decide +kernel
theorem dX3_addShip_36 : decode cX3_addShip 36 = .ok (.iload_n 3, 1) := by decide +kernel
theorem dX3_addShip_37 : decode cX3_addShip 37 = .ok (.iconst 1, 1) := by decide +kernel
theorem dX3_addShip_38 : decode cX3_addShip 38 = .ok (.if_icmp .lt 9, 3) := by decide +kernel
theorem dX3_addShip_41 : decode cX3_addShip 41 = .ok (.iload_n 3, 1) := by decide +kernel
theorem dX3_addShip_42 : decode cX3_addShip 42 = .ok (.bipush 100, 2) := by decide +kernel
theorem dX3_addShip_44 : decode cX3_addShip 44 = .ok (.if_icmp .le 13, 3) := by decide +kernel
theorem dX3_addShip_47 : decode cX3_addShip 47 = .ok (.new 37, 3) := by decide +kernel
theorem dX3_addShip_50 : decode cX3_addShip 50 = .ok (.dup, 1) := by decide +kernel
theorem dX3_addShip_51 : decode cX3_addShip 51 = .ok (.ldc 46, 2) := by decide +kernel
theorem dX3_addShip_53 : decode cX3_addShip 53 = .ok (.invokespecial 41, 3) := by decide +kernel
theorem dX3_addShip_56 : decode cX3_addShip 56 = .ok (.athrow, 1) := by decide +kernel
theorem dX3_addShip_57 : decode cX3_addShip 57 = .ok (.aload_n 0, 1) := by decide +kernel
theorem dX3_addShip_58 : decode cX3_addShip 58 = .ok (.getfield 12, 3) := by decide +kernel
theorem dX3_addShip_61 : decode cX3_addShip 61 = .ok (.getfield 48, 3) := by decide +kernel
theorem dX3_addShip_64 : decode cX3_addShip 64 = .ok (.bipush 8, 2) := by decide +kernel
theorem dX3_addShip_66 : decode cX3_addShip 66 = .ok (.if_icmp .lt 13, 3) := by decide +kernel
theorem dX3_addShip_69 : decode cX3_addShip 69 = .ok (.new 51, 3) := by decide +kernel
theorem dX3_addShip_72 : decode cX3_addShip 72 = .ok (.dup, 1) := by decide +kernel
theorem dX3_addShip_73 : decode cX3_addShip 73 = .ok (.ldc 53, 2) := by decide +kernel
theorem dX3_addShip_75 : decode cX3_addShip 75 = .ok (.invokespecial 55, 3) := by decide +kernel
theorem dX3_addShip_78 : decode cX3_addShip 78 = .ok (.athrow, 1) := by decide +kernel
theorem dX3_addShip_79 : decode cX3_addShip 79 = .ok (.aload_n 0, 1) := by decide +kernel
theorem dX3_addShip_80 : decode cX3_addShip 80 = .ok (.getfield 12, 3) := by decide +kernel
theorem dX3_addShip_83 : decode cX3_addShip 83 = .ok (.new 56, 3) := by decide +kernel
theorem dX3_addShip_86 : decode cX3_addShip 86 = .ok (.dup, 1) := by decide +kernel
theorem dX3_addShip_87 : decode cX3_addShip 87 = .ok (.iload_n 1, 1) := by decide +kernel
theorem dX3_addShip_88 : decode cX3_addShip 88 = .ok (.iload_n 2, 1) := by decide +kernel
theorem dX3_addShip_89 : decode cX3_addShip 89 = .ok (.iload_n 3, 1) := by decide +kernel
theorem dX3_addShip_90 : decode cX3_addShip 90 = .ok (.invokespecial 58, 3) := by decide +kernel
theorem dX3_addShip_93 : decode cX3_addShip 93 = .ok (.invokevirtual 61, 3) := by decide +kernel
theorem dX3_addShip_96 : decode cX3_addShip 96 = .ok (.ireturn, 1) := by decide +kernel
set_option maxRecDepth 20000 in
theorem ggX3_setRate_X3_checkBerth : GoodIn wsX3_setRate wsX3_checkBerth := goodIn_ca (goodIn_r _ [7, 8, 9, 10, 11, 6, 12] (by decide +kernel) (by decide +kernel)) (goodIn_sub (fun _ h => List.mem_cons_of_mem _ (List.mem_append_right _ h)) (by decide +kernel))
set_option maxRecDepth 20000 in
theorem gX3_setRate_X3_checkBerth : GoodIn wsX3_setRate (va_wsS RX3 65 yX3_checkBerth wsX3_checkBerth) := goodIn_app (goodIn_of _ (by decide +kernel)) ggX3_setRate_X3_checkBerth
theorem dX3_setRate_0 : decode cX3_setRate 0 = .ok (.iload_n 1, 1) := by decide +kernel
theorem dX3_setRate_1 : decode cX3_setRate 1 = .ok (.invokestatic 65, 3) := by decide +kernel
theorem dX3_setRate_4 : decode cX3_setRate 4 = .ok (.iload_n 2, 1) := by decide +kernel
theorem dX3_setRate_5 : decode cX3_setRate 5 = .ok (.ifCond .lt 9, 3) := by decide +kernel
theorem dX3_setRate_8 : decode cX3_setRate 8 = .ok (.iload_n 2, 1) := by decide +kernel
theorem dX3_setRate_9 : decode cX3_setRate 9 = .ok (.bipush 20, 2) := by decide +kernel
theorem dX3_setRate_11 : decode cX3_setRate 11 = .ok (.if_icmp .le 13, 3) := by decide +kernel
theorem dX3_setRate_14 : decode cX3_setRate 14 = .ok (.new 37, 3) := by decide +kernel
theorem dX3_setRate_17 : decode cX3_setRate 17 = .ok (.dup, 1) := by decide +kernel
theorem dX3_setRate_18 : decode cX3_setRate 18 = .ok (.ldc 69, 2) := by decide +kernel
theorem dX3_setRate_20 : decode cX3_setRate 20 = .ok (.invokespecial 41, 3) := by decide +kernel
theorem dX3_setRate_23 : decode cX3_setRate 23 = .ok (.athrow, 1) := by decide +kernel
theorem dX3_setRate_24 : decode cX3_setRate 24 = .ok (.aload_n 0, 1) := by decide +kernel
theorem dX3_setRate_25 : decode cX3_setRate 25 = .ok (.getfield 12, 3) := by decide +kernel
theorem dX3_setRate_28 : decode cX3_setRate 28 = .ok (.getfield 71, 3) := by decide +kernel
theorem dX3_setRate_31 : decode cX3_setRate 31 = .ok (.iload_n 1, 1) := by decide +kernel
theorem dX3_setRate_32 : decode cX3_setRate 32 = .ok (.iaload, 1) := by decide +kernel
theorem dX3_setRate_33 : decode cX3_setRate 33 = .ok (.istore_n 3, 1) := by decide +kernel
theorem dX3_setRate_34 : decode cX3_setRate 34 = .ok (.aload_n 0, 1) := by decide +kernel
theorem dX3_setRate_35 : decode cX3_setRate 35 = .ok (.getfield 12, 3) := by decide +kernel
theorem dX3_setRate_38 : decode cX3_setRate 38 = .ok (.getfield 71, 3) := by decide +kernel
theorem dX3_setRate_41 : decode cX3_setRate 41 = .ok (.iload_n 1, 1) := by decide +kernel
theorem dX3_setRate_42 : decode cX3_setRate 42 = .ok (.iload_n 2, 1) := by decide +kernel
theorem dX3_setRate_43 : decode cX3_setRate 43 = .ok (.iastore, 1) := by decide +kernel
theorem dX3_setRate_44 : decode cX3_setRate 44 = .ok (.iload_n 3, 1) := by decide +kernel
theorem dX3_setRate_45 : decode cX3_setRate 45 = .ok (.ireturn, 1) := by decide +kernel
theorem dX3_setRules_0 : decode cX3_setRules 0 = .ok (.iload_n 1, 1) := by decide +kernel
theorem dX3_setRules_1 : decode cX3_setRules 1 = .ok (.ifCond .lt 9, 3) := by decide +kernel
theorem dX3_setRules_4 : decode cX3_setRules 4 = .ok (.iload_n 1, 1) := by decide +kernel
theorem dX3_setRules_5 : decode cX3_setRules 5 = .ok (.bipush 100, 2) := by decide +kernel
theorem dX3_setRules_7 : decode cX3_setRules 7 = .ok (.if_icmp .le 13, 3) := by decide +kernel
theorem dX3_setRules_10 : decode cX3_setRules 10 = .ok (.new 37, 3) := by decide +kernel
theorem dX3_setRules_13 : decode cX3_setRules 13 = .ok (.dup, 1) := by decide +kernel
theorem dX3_setRules_14 : decode cX3_setRules 14 = .ok (.ldc 75, 2) := by decide +kernel
theorem dX3_setRules_16 : decode cX3_setRules 16 = .ok (.invokespecial 41, 3) := by decide +kernel
theorem dX3_setRules_19 : decode cX3_setRules 19 = .ok (.athrow, 1) := by decide +kernel
theorem dX3_setRules_20 : decode cX3_setRules 20 = .ok (.iload_n 2, 1) := by decide +kernel
theorem dX3_setRules_21 : decode cX3_setRules 21 = .ok (.ifCond .lt 9, 3) := by decide +kernel
theorem dX3_setRules_24 : decode cX3_setRules 24 = .ok (.iload_n 2, 1) := by decide +kernel
theorem dX3_setRules_25 : decode cX3_setRules 25 = .ok (.bipush 100, 2) := by decide +kernel
theorem dX3_setRules_27 : decode cX3_setRules 27 = .ok (.if_icmp .le 13, 3) := by decide +kernel
theorem dX3_setRules_30 : decode cX3_setRules 30 = .ok (.new 37, 3) := by decide +kernel
theorem dX3_setRules_33 : decode cX3_setRules 33 = .ok (.dup, 1) := by decide +kernel
theorem dX3_setRules_34 : decode cX3_setRules 34 = .ok (.ldc 77, 2) := by decide +kernel
theorem dX3_setRules_36 : decode cX3_setRules 36 = .ok (.invokespecial 41, 3) := by decide +kernel
theorem dX3_setRules_39 : decode cX3_setRules 39 = .ok (.athrow, 1) := by decide +kernel
theorem dX3_setRules_40 : decode cX3_setRules 40 = .ok (.aload_n 0, 1) := by decide +kernel
theorem dX3_setRules_41 : decode cX3_setRules 41 = .ok (.getfield 12, 3) := by decide +kernel
theorem dX3_setRules_44 : decode cX3_setRules 44 = .ok (.iload_n 1, 1) := by decide +kernel
theorem dX3_setRules_45 : decode cX3_setRules 45 = .ok (.putfield 79, 3) := by decide +kernel
theorem dX3_setRules_48 : decode cX3_setRules 48 = .ok (.aload_n 0, 1) := by decide +kernel
theorem dX3_setRules_49 : decode cX3_setRules 49 = .ok (.getfield 12, 3) := by decide +kernel
theorem dX3_setRules_52 : decode cX3_setRules 52 = .ok (.iload_n 2, 1) := by decide +kernel
theorem dX3_setRules_53 : decode cX3_setRules 53 = .ok (.putfield 82, 3) := by decide +kernel
theorem dX3_setRules_56 : decode cX3_setRules 56 = .ok (.return_, 1) := by decide +kernel
set_option maxRecDepth 20000 in
theorem ggX3_fork_X3_lineNumbered : GoodIn wsX3_fork wsX3_lineNumbered := goodIn_ca (goodIn_r _ [12, 13, 14, 4, 33, 34, 35, 36] (by decide +kernel) (by decide +kernel)) (goodIn_sub (fun _ h => List.mem_cons_of_mem _ (List.mem_append_right _ h)) (by decide +kernel))
set_option maxRecDepth 20000 in
theorem gX3_fork_X3_lineNumbered : GoodIn wsX3_fork (wsV RX3 85 RX3 yX3_lineNumbered wsX3_lineNumbered) := goodIn_app (goodIn_of _ (by decide +kernel)) ggX3_fork_X3_lineNumbered
set_option maxRecDepth 20000 in
theorem ggX3_fork_X3_checkTurn : GoodIn wsX3_fork wsX3_checkTurn := goodIn_ca (goodIn_r _ [17, 13, 14, 18, 19, 11, 20] (by decide +kernel) (by decide +kernel)) (goodIn_sub (fun _ h => List.mem_cons_of_mem _ (List.mem_append_right _ h)) (by decide +kernel))
set_option maxRecDepth 20000 in
theorem gX3_fork_X3_checkTurn : GoodIn wsX3_fork (va_wsS RX3 89 yX3_checkTurn wsX3_checkTurn) := goodIn_app (goodIn_of _ (by decide +kernel)) ggX3_fork_X3_checkTurn
set_option maxRecDepth 20000 in
theorem ggX3_fork_X1_init : GoodIn wsX3_fork wsX1_init := goodIn_r _ [22, 23, 24, 25, 26, 27, 28, 29, 30, 31, 32, 37, 38, 39, 40, 41, 42] (by decide +kernel) (by decide +kernel)
set_option maxRecDepth 20000 in
theorem gX3_fork_X1_init_n18 : GoodIn wsX3_fork (wsX1_init) := ggX3_fork_X1_init
theorem dX3_fork_0 : decode cX3_fork 0 = .ok (.aload_n 0, 1) := by decide +kernel
theorem dX3_fork_1 : decode cX3_fork 1 = .ok (.iload_n 1, 1) := by decide +kernel
theorem dX3_fork_2 : decode cX3_fork 2 = .ok (.invokevirtual 85, 3) := by decide +kernel
theorem dX3_fork_5 : decode cX3_fork 5 = .ok (.astore_n 3, 1) := by decide +kernel
theorem dX3_fork_6 : decode cX3_fork 6 = .ok (.iload_n 2, 1) := by decide +kernel
theorem dX3_fork_7 : decode cX3_fork 7 = .ok (.invokestatic 89, 3) := by decide +kernel
theorem dX3_fork_10 : decode cX3_fork 10 = .ok (.aload_n 0, 1) := by decide +kernel
theorem dX3_fork_11 : decode cX3_fork 11 = .ok (.getfield 29, 3) := by decide +kernel
theorem dX3_fork_14 : decode cX3_fork 14 = .ok (.bipush 8, 2) := by decide +kernel
theorem dX3_fork_16 : decode cX3_fork 16 = .ok (.if_icmp .lt 13, 3) := by decide +kernel
theorem dX3_fork_19 : decode cX3_fork 19 = .ok (.new 51, 3) := by decide +kernel
theorem dX3_fork_22 : decode cX3_fork 22 = .ok (.dup, 1) := by decide +kernel
theorem dX3_fork_23 : decode cX3_fork 23 = .ok (.ldc 92, 2) := by decide +kernel
theorem dX3_fork_25 : decode cX3_fork 25 = .ok (.invokespecial 55, 3) := by decide +kernel
theorem dX3_fork_28 : decode cX3_fork 28 = .ok (.athrow, 1) := by decide +kernel
theorem dX3_fork_29 : decode cX3_fork 29 = .ok (.aload_n 0, 1) := by decide +kernel
theorem dX3_fork_30 : decode cX3_fork 30 = .ok (.dup, 1) := by decide +kernel
theorem dX3_fork_31 : decode cX3_fork 31 = .ok (.getfield 29, 3) := by decide +kernel
theorem dX3_fork_34 : decode cX3_fork 34 = .ok (.iconst 1, 1) := by decide +kernel
theorem dX3_fork_35 : decode cX3_fork 35 = .ok (.iadd, 1) := by decide +kernel
theorem dX3_fork_36 : decode cX3_fork 36 = .ok (.putfield 29, 3) := by decide +kernel
theorem dX3_fork_39 : decode cX3_fork 39 = .ok (.aload_n 0, 1) := by decide +kernel
theorem dX3_fork_40 : decode cX3_fork 40 = .ok (.getfield 25, 3) := by decide +kernel
theorem dX3_fork_43 : decode cX3_fork 43 = .ok (.aload_n 0, 1) := by decide +kernel
theorem dX3_fork_44 : decode cX3_fork 44 = .ok (.getfield 29, 3) := by decide +kernel
theorem dX3_fork_47 : decode cX3_fork 47 = .ok (.new 16, 3) := by decide +kernel
theorem dX3_fork_50 : decode cX3_fork 50 = .ok (.dup, 1) := by decide +kernel
theorem dX3_fork_51 : decode cX3_fork 51 = .ok (.aload_n 3, 1) := by decide +kernel
theorem dX3_fork_52 : decode cX3_fork 52 = .ok (.iload_n 2, 1) := by decide +kernel
theorem dX3_fork_53 : decode cX3_fork 53 = .ok (.invokespecial 18, 3) := by decide +kernel
theorem dX3_fork_56 : decode cX3_fork 56 = .ok (.aastore, 1) := by decide +kernel
theorem dX3_fork_57 : decode cX3_fork 57 = .ok (.aload_n 0, 1) := by decide +kernel
theorem dX3_fork_58 : decode cX3_fork 58 = .ok (.getfield 29, 3) := by decide +kernel
theorem dX3_fork_61 : decode cX3_fork 61 = .ok (.ireturn, 1) := by decide +kernel
set_option maxRecDepth 20000 in
theorem ggX3_order_X3_lineNumbered : GoodIn wsX3_order wsX3_lineNumbered := goodIn_ca (goodIn_r _ [9, 10, 11, 12, 53, 54, 55, 56] (by decide +kernel) (by decide +kernel)) (goodIn_sub (fun _ h => List.mem_cons_of_mem _ (List.mem_append_right _ h)) (by decide +kernel))
set_option maxRecDepth 20000 in
theorem gX3_order_X3_lineNumbered : GoodIn wsX3_order (wsV RX3 85 RX3 yX3_lineNumbered wsX3_lineNumbered) := goodIn_app (goodIn_of _ (by decide +kernel)) ggX3_order_X3_lineNumbered
set_option maxRecDepth 20000 in
theorem ggX3_order_X3_checkTurn : GoodIn wsX3_order wsX3_checkTurn := goodIn_ca (goodIn_r _ [15, 10, 11, 16, 17, 8, 18] (by decide +kernel) (by decide +kernel)) (goodIn_sub (fun _ h => List.mem_cons_of_mem _ (List.mem_append_right _ h)) (by decide +kernel))
set_option maxRecDepth 20000 in
theorem gX3_order_X3_checkTurn : GoodIn wsX3_order (va_wsS RX3 89 yX3_checkTurn wsX3_checkTurn) := goodIn_app (goodIn_of _ (by decide +kernel)) ggX3_order_X3_checkTurn
set_option maxRecDepth 20000 in
theorem ggX3_order_X3_shipNumbered : GoodIn wsX3_order wsX3_shipNumbered := goodIn_ca (goodIn_r _ [22, 10, 11, 23, 24, 25, 26, 27, 28, 53, 54, 55, 56, 57, 58, 59, 60, 61, 62, 63] (by decide +kernel) (by decide +kernel)) (goodIn_sub (fun _ h => List.mem_cons_of_mem _ (List.mem_append_right _ h)) (by decide +kernel))
set_option maxRecDepth 20000 in
theorem gX3_order_X3_shipNumbered : GoodIn wsX3_order (wsV RX3 94 RX3 yX3_shipNumbered wsX3_shipNumbered) := goodIn_app (goodIn_of _ (by decide +kernel)) ggX3_order_X3_shipNumbered
set_option maxRecDepth 20000 in
theorem ggX3_order_X3_checkBerth : GoodIn wsX3_order wsX3_checkBerth := goodIn_ca (goodIn_r _ [31, 10, 11, 32, 33, 8, 34] (by decide +kernel) (by decide +kernel)) (goodIn_sub (fun _ h => List.mem_cons_of_mem _ (List.mem_append_right _ h)) (by decide +kernel))
set_option maxRecDepth 20000 in
theorem gX3_order_X3_checkBerth : GoodIn wsX3_order (va_wsS RX3 65 yX3_checkBerth wsX3_checkBerth) := goodIn_app (goodIn_of _ (by decide +kernel)) ggX3_order_X3_checkBerth
set_option maxRecDepth 20000 in
theorem ggX3_order_X3_codeOf : GoodIn wsX3_order wsX3_codeOf := goodIn_r _ [37] (by decide +kernel) (by decide +kernel)
set_option maxRecDepth 20000 in
theorem gX3_order_X3_codeOf : GoodIn wsX3_order (va_wsS RX3 105 yX3_codeOf wsX3_codeOf) := goodIn_app (goodIn_of _ (by decide +kernel)) ggX3_order_X3_codeOf
set_option maxRecDepth 20000 in
theorem ggX3_order_X1_give : GoodIn wsX3_order wsX1_give := goodIn_r _ [41, 42, 43, 44, 45, 46, 47, 48, 49, 50, 51, 52] (by decide +kernel) (by decide +kernel)
set_option maxRecDepth 20000 in
theorem gX3_order_X1_give_n109 : GoodIn wsX3_order (wsX1_give) := ggX3_order_X1_give
theorem dX3_order_0 : decode cX3_order 0 = .ok (.aload_n 0, 1) := by decide +kernel
theorem dX3_order_1 : decode cX3_order 1 = .ok (.iload_n 1, 1) := by decide +kernel
theorem dX3_order_2 : decode cX3_order 2 = .ok (.invokevirtual 85, 3) := by decide +kernel
theorem dX3_order_5 : decode cX3_order 5 = .ok (.astore 6, 2) := by decide +kernel
theorem dX3_order_7 : decode cX3_order 7 = .ok (.iload_n 2, 1) := by decide +kernel
theorem dX3_order_8 : decode cX3_order 8 = .ok (.invokestatic 89, 3) := by decide +kernel
theorem dX3_order_11 : decode cX3_order 11 = .ok (.aload_n 0, 1) := by decide +kernel
theorem dX3_order_12 : decode cX3_order 12 = .ok (.iload 4, 2) := by decide +kernel
theorem dX3_order_14 : decode cX3_order 14 = .ok (.invokevirtual 94, 3) := by decide +kernel
theorem dX3_order_17 : decode cX3_order 17 = .ok (.pop, 1) := by decide +kernel
theorem dX3_order_18 : decode cX3_order 18 = .ok (.iload 5, 2) := by decide +kernel
theorem dX3_order_20 : decode cX3_order 20 = .ok (.invokestatic 65, 3) := by decide +kernel
theorem dX3_order_23 : decode cX3_order 23 = .ok (.iload_n 3, 1) := by decide +kernel
theorem dX3_order_24 : decode cX3_order 24 = .ok (.ifCond .eq 23, 3) := by decide +kernel
theorem dX3_order_27 : decode cX3_order 27 = .ok (.iload_n 3, 1) := by decide +kernel
theorem dX3_order_28 : decode cX3_order 28 = .ok (.iconst 1, 1) := by decide +kernel
theorem dX3_order_29 : decode cX3_order 29 = .ok (.if_icmp .eq 18, 3) := by decide +kernel
theorem dX3_order_32 : decode cX3_order 32 = .ok (.iload_n 3, 1) := by decide +kernel
theorem dX3_order_33 : decode cX3_order 33 = .ok (.iconst 2, 1) := by decide +kernel
theorem dX3_order_34 : decode cX3_order 34 = .ok (.if_icmp .eq 13, 3) := by decide +kernel
theorem dX3_order_37 : decode cX3_order 37 = .ok (.new 37, 3) := by decide +kernel
theorem dX3_order_40 : decode cX3_order 40 = .ok (.dup, 1) := by decide +kernel
theorem dX3_order_41 : decode cX3_order 41 = .ok (.ldc 98, 2) := by decide +kernel
theorem dX3_order_43 : decode cX3_order 43 = .ok (.invokespecial 41, 3) := by decide +kernel
theorem dX3_order_46 : decode cX3_order 46 = .ok (.athrow, 1) := by decide +kernel
theorem dX3_order_47 : decode cX3_order 47 = .ok (.iload_n 2, 1) := by decide +kernel
theorem dX3_order_48 : decode cX3_order 48 = .ok (.aload 6, 2) := by decide +kernel
theorem dX3_order_50 : decode cX3_order 50 = .ok (.getfield 100, 3) := by decide +kernel
theorem dX3_order_53 : decode cX3_order 53 = .ok (.if_icmp .ge 13, 3) := by decide +kernel
theorem dX3_order_56 : decode cX3_order 56 = .ok (.new 51, 3) := by decide +kernel
theorem dX3_order_59 : decode cX3_order 59 = .ok (.dup, 1) := by decide +kernel
theorem dX3_order_60 : decode cX3_order 60 = .ok (.ldc 103, 2) := by decide +kernel
theorem dX3_order_62 : decode cX3_order 62 = .ok (.invokespecial 55, 3) := by decide +kernel
theorem dX3_order_65 : decode cX3_order 65 = .ok (.athrow, 1) := by decide +kernel
theorem dX3_order_66 : decode cX3_order 66 = .ok (.aload 6, 2) := by decide +kernel
theorem dX3_order_68 : decode cX3_order 68 = .ok (.iload_n 2, 1) := by decide +kernel
theorem dX3_order_69 : decode cX3_order 69 = .ok (.iload_n 3, 1) := by decide +kernel
theorem dX3_order_70 : decode cX3_order 70 = .ok (.iload 4, 2) := by decide +kernel
theorem dX3_order_72 : decode cX3_order 72 = .ok (.iload 5, 2) := by decide +kernel
theorem dX3_order_74 : decode cX3_order 74 = .ok (.invokestatic 105, 3) := by decide +kernel
theorem dX3_order_77 : decode cX3_order 77 = .ok (.invokevirtual 109, 3) := by decide +kernel
theorem dX3_order_80 : decode cX3_order 80 = .ok (.ireturn, 1) := by decide +kernel
set_option maxRecDepth 20000 in
theorem ggX3_takeAway_X3_lineNumbered : GoodIn wsX3_takeAway wsX3_lineNumbered := goodIn_ca (goodIn_r _ [5, 6, 7, 8, 25, 26, 27, 28] (by decide +kernel) (by decide +kernel)) (goodIn_sub (fun _ h => List.mem_cons_of_mem _ (List.mem_append_right _ h)) (by decide +kernel))
set_option maxRecDepth 20000 in
theorem gX3_takeAway_X3_lineNumbered : GoodIn wsX3_takeAway (wsV RX3 85 RX3 yX3_lineNumbered wsX3_lineNumbered) := goodIn_app (goodIn_of _ (by decide +kernel)) ggX3_takeAway_X3_lineNumbered
set_option maxRecDepth 20000 in
theorem ggX3_takeAway_X3_checkTurn : GoodIn wsX3_takeAway wsX3_checkTurn := goodIn_ca (goodIn_r _ [11, 6, 7, 12, 13, 4, 14] (by decide +kernel) (by decide +kernel)) (goodIn_sub (fun _ h => List.mem_cons_of_mem _ (List.mem_append_right _ h)) (by decide +kernel))
set_option maxRecDepth 20000 in
theorem gX3_takeAway_X3_checkTurn : GoodIn wsX3_takeAway (va_wsS RX3 89 yX3_checkTurn wsX3_checkTurn) := goodIn_app (goodIn_of _ (by decide +kernel)) ggX3_takeAway_X3_checkTurn
set_option maxRecDepth 20000 in
theorem ggX3_takeAway_X1_drop : GoodIn wsX3_takeAway wsX1_drop := goodIn_r _ [18, 19, 20, 21, 22, 23, 16, 24, 29, 30, 31, 32, 33, 34] (by decide +kernel) (by decide +kernel)
set_option maxRecDepth 20000 in
theorem gX3_takeAway_X1_drop_n113 : GoodIn wsX3_takeAway (wsX1_drop) := ggX3_takeAway_X1_drop
theorem dX3_takeAway_0 : decode cX3_takeAway 0 = .ok (.aload_n 0, 1) := by decide +kernel
theorem dX3_takeAway_1 : decode cX3_takeAway 1 = .ok (.iload_n 1, 1) := by decide +kernel
theorem dX3_takeAway_2 : decode cX3_takeAway 2 = .ok (.invokevirtual 85, 3) := by decide +kernel
theorem dX3_takeAway_5 : decode cX3_takeAway 5 = .ok (.astore_n 3, 1) := by decide +kernel
theorem dX3_takeAway_6 : decode cX3_takeAway 6 = .ok (.iload_n 2, 1) := by decide +kernel
theorem dX3_takeAway_7 : decode cX3_takeAway 7 = .ok (.invokestatic 89, 3) := by decide +kernel
theorem dX3_takeAway_10 : decode cX3_takeAway 10 = .ok (.aload_n 3, 1) := by decide +kernel
theorem dX3_takeAway_11 : decode cX3_takeAway 11 = .ok (.iload_n 2, 1) := by decide +kernel
theorem dX3_takeAway_12 : decode cX3_takeAway 12 = .ok (.invokevirtual 113, 3) := by decide +kernel
theorem dX3_takeAway_15 : decode cX3_takeAway 15 = .ok (.ireturn, 1) := by decide +kernel
set_option maxRecDepth 20000 in
theorem ggX3_orderOf_X3_lineNumbered : GoodIn wsX3_orderOf wsX3_lineNumbered := goodIn_ca (goodIn_r _ [5, 6, 7, 8, 26, 27, 28, 29] (by decide +kernel) (by decide +kernel)) (goodIn_sub (fun _ h => List.mem_cons_of_mem _ (List.mem_append_right _ h)) (by decide +kernel))
set_option maxRecDepth 20000 in
theorem gX3_orderOf_X3_lineNumbered : GoodIn wsX3_orderOf (wsV RX3 85 RX3 yX3_lineNumbered wsX3_lineNumbered) := goodIn_app (goodIn_of _ (by decide +kernel)) ggX3_orderOf_X3_lineNumbered
set_option maxRecDepth 20000 in
theorem ggX3_orderOf_X3_checkTurn : GoodIn wsX3_orderOf wsX3_checkTurn := goodIn_ca (goodIn_r _ [11, 6, 7, 12, 13, 4, 14] (by decide +kernel) (by decide +kernel)) (goodIn_sub (fun _ h => List.mem_cons_of_mem _ (List.mem_append_right _ h)) (by decide +kernel))
set_option maxRecDepth 20000 in
theorem gX3_orderOf_X3_checkTurn : GoodIn wsX3_orderOf (va_wsS RX3 89 yX3_checkTurn wsX3_checkTurn) := goodIn_app (goodIn_of _ (by decide +kernel)) ggX3_orderOf_X3_checkTurn
set_option maxRecDepth 20000 in
theorem ggX3_orderOf_X1_orderFor : GoodIn wsX3_orderOf wsX1_orderFor := goodIn_r _ [18, 19, 20, 21, 22, 23, 16, 24, 25, 30, 31, 32, 33, 34, 35] (by decide +kernel) (by decide +kernel)
set_option maxRecDepth 20000 in
theorem gX3_orderOf_X1_orderFor_n116 : GoodIn wsX3_orderOf (wsX1_orderFor) := ggX3_orderOf_X1_orderFor
theorem dX3_orderOf_0 : decode cX3_orderOf 0 = .ok (.aload_n 0, 1) := by decide +kernel
theorem dX3_orderOf_1 : decode cX3_orderOf 1 = .ok (.iload_n 1, 1) := by decide +kernel
theorem dX3_orderOf_2 : decode cX3_orderOf 2 = .ok (.invokevirtual 85, 3) := by decide +kernel
theorem dX3_orderOf_5 : decode cX3_orderOf 5 = .ok (.astore_n 3, 1) := by decide +kernel
theorem dX3_orderOf_6 : decode cX3_orderOf 6 = .ok (.iload_n 2, 1) := by decide +kernel
theorem dX3_orderOf_7 : decode cX3_orderOf 7 = .ok (.invokestatic 89, 3) := by decide +kernel
theorem dX3_orderOf_10 : decode cX3_orderOf 10 = .ok (.aload_n 3, 1) := by decide +kernel
theorem dX3_orderOf_11 : decode cX3_orderOf 11 = .ok (.iload_n 2, 1) := by decide +kernel
theorem dX3_orderOf_12 : decode cX3_orderOf 12 = .ok (.invokevirtual 116, 3) := by decide +kernel
theorem dX3_orderOf_15 : decode cX3_orderOf 15 = .ok (.ireturn, 1) := by decide +kernel
set_option maxRecDepth 20000 in
theorem ggX3_differences_X3_lineNumbered : GoodIn wsX3_differences wsX3_lineNumbered := goodIn_ca (goodIn_r _ [5, 6, 7, 8, 20, 21, 22, 23] (by decide +kernel) (by decide +kernel)) (goodIn_sub (fun _ h => List.mem_cons_of_mem _ (List.mem_append_right _ h)) (by decide +kernel))
set_option maxRecDepth 20000 in
theorem gX3_differences_X3_lineNumbered : GoodIn wsX3_differences (wsV RX3 85 RX3 yX3_lineNumbered wsX3_lineNumbered) := goodIn_app (goodIn_of _ (by decide +kernel)) ggX3_differences_X3_lineNumbered
set_option maxRecDepth 20000 in
theorem ggX3_differences_X1_orderFor : GoodIn wsX3_differences wsX1_orderFor := goodIn_r _ [12, 13, 14, 15, 16, 17, 10, 18, 19, 24, 25, 26, 27, 28, 29] (by decide +kernel) (by decide +kernel)
set_option maxRecDepth 20000 in
theorem gX3_differences_X1_orderFor_n116 : GoodIn wsX3_differences (wsX1_orderFor) := ggX3_differences_X1_orderFor
theorem dX3_differences_0 : decode cX3_differences 0 = .ok (.aload_n 0, 1) := by decide +kernel
theorem dX3_differences_1 : decode cX3_differences 1 = .ok (.iload_n 1, 1) := by decide +kernel
theorem dX3_differences_2 : decode cX3_differences 2 = .ok (.invokevirtual 85, 3) := by decide +kernel
theorem dX3_differences_5 : decode cX3_differences 5 = .ok (.astore_n 3, 1) := by decide +kernel
theorem dX3_differences_6 : decode cX3_differences 6 = .ok (.aload_n 0, 1) := by decide +kernel
theorem dX3_differences_7 : decode cX3_differences 7 = .ok (.iload_n 2, 1) := by decide +kernel
theorem dX3_differences_8 : decode cX3_differences 8 = .ok (.invokevirtual 85, 3) := by decide +kernel
theorem dX3_differences_11 : decode cX3_differences 11 = .ok (.astore 4, 2) := by decide +kernel
theorem dX3_differences_13 : decode cX3_differences 13 = .ok (.iconst 0, 1) := by decide +kernel
theorem dX3_differences_14 : decode cX3_differences 14 = .ok (.istore 5, 2) := by decide +kernel
theorem dX3_differences_16 : decode cX3_differences 16 = .ok (.iconst 0, 1) := by decide +kernel
theorem dX3_differences_17 : decode cX3_differences 17 = .ok (.istore 6, 2) := by decide +kernel
theorem dX3_differences_19 : decode cX3_differences 19 = .ok (.iload 6, 2) := by decide +kernel
theorem dX3_differences_21 : decode cX3_differences 21 = .ok (.bipush 30, 2) := by decide +kernel
theorem dX3_differences_23 : decode cX3_differences 23 = .ok (.if_icmp .ge 34, 3) := by decide +kernel
theorem dX3_differences_26 : decode cX3_differences 26 = .ok (.aload_n 3, 1) := by decide +kernel
theorem dX3_differences_27 : decode cX3_differences 27 = .ok (.iload 6, 2) := by decide +kernel
theorem dX3_differences_29 : decode cX3_differences 29 = .ok (.invokevirtual 116, 3) := by decide +kernel
theorem dX3_differences_32 : decode cX3_differences 32 = .ok (.aload 4, 2) := by decide +kernel
theorem dX3_differences_34 : decode cX3_differences 34 = .ok (.iload 6, 2) := by decide +kernel
theorem dX3_differences_36 : decode cX3_differences 36 = .ok (.invokevirtual 116, 3) := by decide +kernel
theorem dX3_differences_39 : decode cX3_differences 39 = .ok (.if_icmp .eq 12, 3) := by decide +kernel
theorem dX3_differences_42 : decode cX3_differences 42 = .ok (.iload 5, 2) := by decide +kernel
theorem dX3_differences_44 : decode cX3_differences 44 = .ok (.iconst 1, 1) := by decide +kernel
theorem dX3_differences_45 : decode cX3_differences 45 = .ok (.iload 6, 2) := by decide +kernel
theorem dX3_differences_47 : decode cX3_differences 47 = .ok (.ishl, 1) := by decide +kernel
theorem dX3_differences_48 : decode cX3_differences 48 = .ok (.ior, 1) := by decide +kernel
theorem dX3_differences_49 : decode cX3_differences 49 = .ok (.istore 5, 2) := by decide +kernel
theorem dX3_differences_51 : decode cX3_differences 51 = .ok (.iinc 6 1, 3) := by decide +kernel
theorem dX3_differences_54 : decode cX3_differences 54 = .ok (.goto (-35), 3) := by decide +kernel
theorem dX3_differences_57 : decode cX3_differences 57 = .ok (.iload 5, 2) := by decide +kernel
theorem dX3_differences_59 : decode cX3_differences 59 = .ok (.ireturn, 1) := by decide +kernel
set_option maxRecDepth 20000 in
theorem ggX3_where_X3_shipBehind : GoodIn wsX3_where wsX3_shipBehind := goodIn_ca (goodIn_r _ [5, 6, 7, 8, 9, 4, 10, 11, 12, 13, 14, 15, 16, 17, 18, 19, 20, 21, 22, 23, 24, 25, 26, 27, 28, 29, 30, 31, 32, 33, 34, 35, 36, 37, 38, 39, 40, 41, 42, 43, 44, 45, 46, 47, 48, 49, 50, 51, 52, 53, 54, 55, 56, 57, 58, 59, 60, 61, 62, 63, 64, 65, 66, 67, 68, 69, 70, 71, 72, 73, 74, 75, 76, 77, 78, 79, 80, 81, 82, 83, 84, 85, 86, 87, 88, 89, 90, 91, 97, 98, 99, 100, 101, 102, 103, 104, 105, 106, 107, 92, 93, 94, 95, 96, 108, 109, 110, 111, 112, 113] (by decide +kernel) (by decide +kernel)) (goodIn_sub (fun _ h => List.mem_cons_of_mem _ (List.mem_append_right _ h)) (by decide +kernel))
set_option maxRecDepth 20000 in
theorem gX3_where_X3_shipBehind : GoodIn wsX3_where (wsV RX3 120 RX3 yX3_shipBehind wsX3_shipBehind) := goodIn_app (goodIn_of _ (by decide +kernel)) ggX3_where_X3_shipBehind
theorem dX3_where_0 : decode cX3_where 0 = .ok (.aload_n 0, 1) := by decide +kernel
theorem dX3_where_1 : decode cX3_where 1 = .ok (.iload_n 1, 1) := by decide +kernel
theorem dX3_where_2 : decode cX3_where 2 = .ok (.iload_n 2, 1) := by decide +kernel
theorem dX3_where_3 : decode cX3_where 3 = .ok (.iload_n 3, 1) := by decide +kernel
theorem dX3_where_4 : decode cX3_where 4 = .ok (.invokevirtual 120, 3) := by decide +kernel
theorem dX3_where_7 : decode cX3_where 7 = .ok (.getfield 124, 3) := by decide +kernel
theorem dX3_where_10 : decode cX3_where 10 = .ok (.ireturn, 1) := by decide +kernel
set_option maxRecDepth 20000 in
theorem ggX3_cargo_X3_shipBehind : GoodIn wsX3_cargo wsX3_shipBehind := goodIn_ca (goodIn_r _ [5, 6, 7, 8, 9, 4, 10, 11, 12, 13, 14, 15, 16, 17, 18, 19, 20, 21, 22, 23, 24, 25, 26, 27, 28, 29, 30, 31, 32, 33, 34, 35, 36, 37, 38, 39, 40, 41, 42, 43, 44, 45, 46, 47, 48, 49, 50, 51, 52, 53, 54, 55, 56, 57, 58, 59, 60, 61, 62, 63, 64, 65, 66, 67, 68, 69, 70, 71, 72, 73, 74, 75, 76, 77, 78, 79, 80, 81, 82, 83, 84, 85, 86, 87, 88, 89, 90, 91, 97, 98, 99, 100, 101, 102, 103, 104, 105, 106, 107, 92, 93, 94, 95, 96, 108, 109, 110, 111, 112, 113] (by decide +kernel) (by decide +kernel)) (goodIn_sub (fun _ h => List.mem_cons_of_mem _ (List.mem_append_right _ h)) (by decide +kernel))
set_option maxRecDepth 20000 in
theorem gX3_cargo_X3_shipBehind : GoodIn wsX3_cargo (wsV RX3 120 RX3 yX3_shipBehind wsX3_shipBehind) := goodIn_app (goodIn_of _ (by decide +kernel)) ggX3_cargo_X3_shipBehind
theorem dX3_cargo_0 : decode cX3_cargo 0 = .ok (.aload_n 0, 1) := by decide +kernel
theorem dX3_cargo_1 : decode cX3_cargo 1 = .ok (.iload_n 1, 1) := by decide +kernel
theorem dX3_cargo_2 : decode cX3_cargo 2 = .ok (.iload_n 2, 1) := by decide +kernel
theorem dX3_cargo_3 : decode cX3_cargo 3 = .ok (.iload_n 3, 1) := by decide +kernel
theorem dX3_cargo_4 : decode cX3_cargo 4 = .ok (.invokevirtual 120, 3) := by decide +kernel
theorem dX3_cargo_7 : decode cX3_cargo 7 = .ok (.getfield 127, 3) := by decide +kernel
theorem dX3_cargo_10 : decode cX3_cargo 10 = .ok (.ireturn, 1) := by decide +kernel
set_option maxRecDepth 20000 in
theorem ggX3_failures_X3_lineNumbered : GoodIn wsX3_failures wsX3_lineNumbered := goodIn_ca (goodIn_r _ [6, 7, 8, 9, 78, 79, 80, 81] (by decide +kernel) (by decide +kernel)) (goodIn_sub (fun _ h => List.mem_cons_of_mem _ (List.mem_append_right _ h)) (by decide +kernel))
set_option maxRecDepth 20000 in
theorem gX3_failures_X3_lineNumbered : GoodIn wsX3_failures (wsV RX3 85 RX3 yX3_lineNumbered wsX3_lineNumbered) := goodIn_app (goodIn_of _ (by decide +kernel)) ggX3_failures_X3_lineNumbered
set_option maxRecDepth 20000 in
theorem ggX3_failures_X0_play : GoodIn wsX3_failures wsX0_play := goodIn_r _ [13, 14, 15, 16, 17, 18, 19, 20, 21, 22, 23, 24, 25, 26, 27, 28, 29, 30, 31, 32, 33, 34, 35, 36, 37, 11, 38, 39, 40, 41, 42, 43, 44, 45, 46, 47, 48, 49, 50, 51, 52, 53, 54, 55, 56, 57, 58, 59, 60, 61, 62, 5, 63, 64, 65, 66, 67, 68, 69, 70, 71, 72, 73, 74, 75, 76, 77, 82, 83, 84, 85, 86, 87, 88, 89, 90, 91, 92, 93, 94, 95, 96, 97, 98, 99] (by decide +kernel) (by decide +kernel)
set_option maxRecDepth 20000 in
theorem gX3_failures_X0_play_n130 : GoodIn wsX3_failures (wsX0_play) := ggX3_failures_X0_play
theorem dX3_failures_0 : decode cX3_failures 0 = .ok (.aload_n 0, 1) := by decide +kernel
theorem dX3_failures_1 : decode cX3_failures 1 = .ok (.iload_n 1, 1) := by decide +kernel
theorem dX3_failures_2 : decode cX3_failures 2 = .ok (.invokevirtual 85, 3) := by decide +kernel
theorem dX3_failures_5 : decode cX3_failures 5 = .ok (.astore_n 2, 1) := by decide +kernel
theorem dX3_failures_6 : decode cX3_failures 6 = .ok (.aload_n 0, 1) := by decide +kernel
theorem dX3_failures_7 : decode cX3_failures 7 = .ok (.getfield 12, 3) := by decide +kernel
theorem dX3_failures_10 : decode cX3_failures 10 = .ok (.aload_n 2, 1) := by decide +kernel
theorem dX3_failures_11 : decode cX3_failures 11 = .ok (.bipush 29, 2) := by decide +kernel
theorem dX3_failures_13 : decode cX3_failures 13 = .ok (.invokevirtual 130, 3) := by decide +kernel
theorem dX3_failures_16 : decode cX3_failures 16 = .ok (.aload_n 0, 1) := by decide +kernel
theorem dX3_failures_17 : decode cX3_failures 17 = .ok (.getfield 12, 3) := by decide +kernel
theorem dX3_failures_20 : decode cX3_failures 20 = .ok (.getfield 133, 3) := by decide +kernel
theorem dX3_failures_23 : decode cX3_failures 23 = .ok (.ireturn, 1) := by decide +kernel
set_option maxRecDepth 20000 in
theorem ggX3_look_X3_lineNumbered : GoodIn wsX3_look wsX3_lineNumbered := goodIn_ca (goodIn_r _ [9, 10, 11, 12, 97, 98, 99, 100] (by decide +kernel) (by decide +kernel)) (goodIn_sub (fun _ h => List.mem_cons_of_mem _ (List.mem_append_right _ h)) (by decide +kernel))
set_option maxRecDepth 20000 in
theorem gX3_look_X3_lineNumbered : GoodIn wsX3_look (wsV RX3 85 RX3 yX3_lineNumbered wsX3_lineNumbered) := goodIn_app (goodIn_of _ (by decide +kernel)) ggX3_look_X3_lineNumbered
set_option maxRecDepth 20000 in
theorem ggX3_look_X3_checkTurn : GoodIn wsX3_look wsX3_checkTurn := goodIn_ca (goodIn_r _ [15, 10, 11, 16, 17, 8, 18] (by decide +kernel) (by decide +kernel)) (goodIn_sub (fun _ h => List.mem_cons_of_mem _ (List.mem_append_right _ h)) (by decide +kernel))
set_option maxRecDepth 20000 in
theorem gX3_look_X3_checkTurn : GoodIn wsX3_look (va_wsS RX3 89 yX3_checkTurn wsX3_checkTurn) := goodIn_app (goodIn_of _ (by decide +kernel)) ggX3_look_X3_checkTurn
set_option maxRecDepth 20000 in
theorem ggX3_look_X3_earningOf : GoodIn wsX3_look wsX3_earningOf := goodIn_r _ [22, 23, 24, 25, 26, 27, 28, 29, 30, 31, 32, 33, 34, 35, 36, 37, 38, 39, 40, 41, 42, 43, 44, 45, 46, 47, 48, 49, 50, 51, 52, 53, 54, 55, 56, 57, 58, 59, 60, 61, 62, 63, 64, 65, 66, 67, 68, 69, 70, 71, 72, 73, 74, 75, 76, 8, 77, 78, 79, 80, 81, 82, 83, 84, 85, 86, 87, 88, 89, 3, 90, 97, 98, 99, 100, 101, 102, 103, 104, 105, 106, 107, 108, 109, 110, 111, 112, 91, 92, 93, 94, 95, 96] (by decide +kernel) (by decide +kernel)
set_option maxRecDepth 20000 in
theorem gX3_look_X3_earningOf : GoodIn wsX3_look (wsV RX3 145 RX3 yX3_earningOf wsX3_earningOf) := goodIn_app (goodIn_of _ (by decide +kernel)) ggX3_look_X3_earningOf
theorem dX3_look_0 : decode cX3_look 0 = .ok (.aload_n 0, 1) := by decide +kernel
theorem dX3_look_1 : decode cX3_look 1 = .ok (.iload_n 1, 1) := by decide +kernel
theorem dX3_look_2 : decode cX3_look 2 = .ok (.invokevirtual 85, 3) := by decide +kernel
theorem dX3_look_5 : decode cX3_look 5 = .ok (.astore_n 3, 1) := by decide +kernel
theorem dX3_look_6 : decode cX3_look 6 = .ok (.iload_n 2, 1) := by decide +kernel
theorem dX3_look_7 : decode cX3_look 7 = .ok (.invokestatic 89, 3) := by decide +kernel
theorem dX3_look_10 : decode cX3_look 10 = .ok (.aload_n 3, 1) := by decide +kernel
theorem dX3_look_11 : decode cX3_look 11 = .ok (.aload_n 3, 1) := by decide +kernel
theorem dX3_look_12 : decode cX3_look 12 = .ok (.getfield 136, 3) := by decide +kernel
theorem dX3_look_15 : decode cX3_look 15 = .ok (.iload_n 2, 1) := by decide +kernel
theorem dX3_look_16 : decode cX3_look 16 = .ok (.invokestatic 139, 3) := by decide +kernel
theorem dX3_look_19 : decode cX3_look 19 = .ok (.putfield 136, 3) := by decide +kernel
theorem dX3_look_22 : decode cX3_look 22 = .ok (.aload_n 0, 1) := by decide +kernel
theorem dX3_look_23 : decode cX3_look 23 = .ok (.aload_n 3, 1) := by decide +kernel
theorem dX3_look_24 : decode cX3_look 24 = .ok (.iload_n 2, 1) := by decide +kernel
theorem dX3_look_25 : decode cX3_look 25 = .ok (.invokevirtual 145, 3) := by decide +kernel
theorem dX3_look_28 : decode cX3_look 28 = .ok (.ireturn, 1) := by decide +kernel
set_option maxRecDepth 20000 in
theorem ggX3_seen_X3_lineNumbered : GoodIn wsX3_seen wsX3_lineNumbered := goodIn_ca (goodIn_r _ [5, 6, 7, 8, 15, 16, 17, 18] (by decide +kernel) (by decide +kernel)) (goodIn_sub (fun _ h => List.mem_cons_of_mem _ (List.mem_append_right _ h)) (by decide +kernel))
set_option maxRecDepth 20000 in
theorem gX3_seen_X3_lineNumbered : GoodIn wsX3_seen (wsV RX3 85 RX3 yX3_lineNumbered wsX3_lineNumbered) := goodIn_app (goodIn_of _ (by decide +kernel)) ggX3_seen_X3_lineNumbered
theorem dX3_seen_0 : decode cX3_seen 0 = .ok (.aload_n 0, 1) := by decide +kernel
theorem dX3_seen_1 : decode cX3_seen 1 = .ok (.iload_n 1, 1) := by decide +kernel
theorem dX3_seen_2 : decode cX3_seen 2 = .ok (.invokevirtual 85, 3) := by decide +kernel
theorem dX3_seen_5 : decode cX3_seen 5 = .ok (.getfield 136, 3) := by decide +kernel
theorem dX3_seen_8 : decode cX3_seen 8 = .ok (.ireturn, 1) := by decide +kernel
set_option maxRecDepth 20000 in
theorem ggX3_ahead_X3_lineNumbered : GoodIn wsX3_ahead wsX3_lineNumbered := goodIn_ca (goodIn_r _ [5, 6, 7, 8, 15, 16, 17, 18] (by decide +kernel) (by decide +kernel)) (goodIn_sub (fun _ h => List.mem_cons_of_mem _ (List.mem_append_right _ h)) (by decide +kernel))
set_option maxRecDepth 20000 in
theorem gX3_ahead_X3_lineNumbered : GoodIn wsX3_ahead (wsV RX3 85 RX3 yX3_lineNumbered wsX3_lineNumbered) := goodIn_app (goodIn_of _ (by decide +kernel)) ggX3_ahead_X3_lineNumbered
theorem dX3_ahead_0 : decode cX3_ahead 0 = .ok (.aload_n 0, 1) := by decide +kernel
theorem dX3_ahead_1 : decode cX3_ahead 1 = .ok (.iload_n 1, 1) := by decide +kernel
theorem dX3_ahead_2 : decode cX3_ahead 2 = .ok (.invokevirtual 85, 3) := by decide +kernel
theorem dX3_ahead_5 : decode cX3_ahead 5 = .ok (.getfield 149, 3) := by decide +kernel
theorem dX3_ahead_8 : decode cX3_ahead 8 = .ok (.ireturn, 1) := by decide +kernel
set_option maxRecDepth 20000 in
theorem ggX3_mark_X3_lineNumbered : GoodIn wsX3_mark wsX3_lineNumbered := goodIn_ca (goodIn_r _ [6, 7, 8, 9, 91, 92, 93, 94] (by decide +kernel) (by decide +kernel)) (goodIn_sub (fun _ h => List.mem_cons_of_mem _ (List.mem_append_right _ h)) (by decide +kernel))
set_option maxRecDepth 20000 in
theorem gX3_mark_X3_lineNumbered : GoodIn wsX3_mark (wsV RX3 85 RX3 yX3_lineNumbered wsX3_lineNumbered) := goodIn_app (goodIn_of _ (by decide +kernel)) ggX3_mark_X3_lineNumbered
set_option maxRecDepth 20000 in
theorem ggX3_mark_X3_earningOf : GoodIn wsX3_mark wsX3_earningOf := goodIn_r _ [13, 14, 15, 16, 17, 18, 19, 20, 21, 22, 23, 24, 25, 26, 27, 28, 29, 30, 31, 32, 33, 34, 35, 36, 37, 38, 39, 40, 41, 42, 43, 44, 45, 46, 47, 48, 49, 50, 51, 52, 53, 54, 55, 56, 57, 58, 59, 60, 61, 62, 63, 64, 65, 66, 67, 5, 68, 69, 70, 71, 72, 73, 74, 75, 76, 77, 78, 79, 80, 81, 82, 91, 92, 93, 94, 95, 96, 97, 98, 99, 100, 101, 102, 103, 104, 105, 106, 107, 108, 109, 110, 111, 112] (by decide +kernel) (by decide +kernel)
set_option maxRecDepth 20000 in
theorem gX3_mark_X3_earningOf : GoodIn wsX3_mark (wsV RX3 145 RX3 yX3_earningOf wsX3_earningOf) := goodIn_app (goodIn_of _ (by decide +kernel)) ggX3_mark_X3_earningOf
set_option maxRecDepth 20000 in
theorem ggX3_mark_X3_markAgainst : GoodIn wsX3_mark wsX3_markAgainst := goodIn_r _ [86, 87, 80, 81, 82, 88, 89, 90, 10, 11, 12, 5, 13, 14, 15, 16, 17, 18, 19, 20, 21, 22, 23, 24, 25, 26, 27, 28, 29, 30, 31, 32, 33, 34, 35, 36, 37, 38, 39, 40, 41, 42, 43, 44, 45, 46, 47, 48, 49, 50, 51, 52, 53, 54, 55, 56, 57, 58, 59, 60, 61, 62, 63, 64, 65, 66, 67, 68, 69, 70, 71, 72, 73, 74, 75, 76, 77, 78, 79, 107, 108, 109, 110, 111, 112, 91, 92, 93, 94, 95, 96, 97, 98, 99, 100, 101, 102, 103, 104, 105, 106] (by decide +kernel) (by decide +kernel)
set_option maxRecDepth 20000 in
theorem gX3_mark_X3_markAgainst : GoodIn wsX3_mark (wsV RX3 152 RX3 yX3_markAgainst wsX3_markAgainst) := goodIn_app (goodIn_of _ (by decide +kernel)) ggX3_mark_X3_markAgainst
theorem dX3_mark_0 : decode cX3_mark 0 = .ok (.aload_n 0, 1) := by decide +kernel
theorem dX3_mark_1 : decode cX3_mark 1 = .ok (.iload_n 1, 1) := by decide +kernel
theorem dX3_mark_2 : decode cX3_mark 2 = .ok (.invokevirtual 85, 3) := by decide +kernel
theorem dX3_mark_5 : decode cX3_mark 5 = .ok (.astore_n 2, 1) := by decide +kernel
theorem dX3_mark_6 : decode cX3_mark 6 = .ok (.aload_n 0, 1) := by decide +kernel
theorem dX3_mark_7 : decode cX3_mark 7 = .ok (.aload_n 2, 1) := by decide +kernel
theorem dX3_mark_8 : decode cX3_mark 8 = .ok (.aload_n 0, 1) := by decide +kernel
theorem dX3_mark_9 : decode cX3_mark 9 = .ok (.aload_n 0, 1) := by decide +kernel
theorem dX3_mark_10 : decode cX3_mark 10 = .ok (.getfield 21, 3) := by decide +kernel
theorem dX3_mark_13 : decode cX3_mark 13 = .ok (.bipush 29, 2) := by decide +kernel
theorem dX3_mark_15 : decode cX3_mark 15 = .ok (.invokevirtual 145, 3) := by decide +kernel
theorem dX3_mark_18 : decode cX3_mark 18 = .ok (.invokevirtual 152, 3) := by decide +kernel
theorem dX3_mark_21 : decode cX3_mark 21 = .ok (.ireturn, 1) := by decide +kernel
set_option maxRecDepth 20000 in
theorem ggX3_best_X3_earningOf : GoodIn wsX3_best wsX3_earningOf := goodIn_r _ [7, 8, 9, 10, 11, 12, 13, 14, 15, 16, 17, 18, 19, 20, 21, 22, 23, 24, 25, 26, 27, 28, 29, 30, 31, 32, 33, 34, 35, 36, 37, 38, 39, 40, 41, 42, 43, 44, 45, 46, 47, 48, 49, 50, 51, 52, 53, 54, 55, 56, 57, 58, 59, 60, 61, 6, 62, 63, 64, 65, 66, 67, 68, 69, 70, 71, 72, 73, 74, 75, 76, 85, 86, 87, 88, 89, 90, 91, 92, 93, 94, 95, 96, 97, 98, 99, 100, 101, 102, 103, 104, 105, 106] (by decide +kernel) (by decide +kernel)
set_option maxRecDepth 20000 in
theorem gX3_best_X3_earningOf : GoodIn wsX3_best (wsV RX3 145 RX3 yX3_earningOf wsX3_earningOf) := goodIn_app (goodIn_of _ (by decide +kernel)) ggX3_best_X3_earningOf
set_option maxRecDepth 20000 in
theorem ggX3_best_X3_markAgainst : GoodIn wsX3_best wsX3_markAgainst := goodIn_r _ [80, 81, 74, 75, 76, 82, 83, 84, 3, 4, 5, 6, 7, 8, 9, 10, 11, 12, 13, 14, 15, 16, 17, 18, 19, 20, 21, 22, 23, 24, 25, 26, 27, 28, 29, 30, 31, 32, 33, 34, 35, 36, 37, 38, 39, 40, 41, 42, 43, 44, 45, 46, 47, 48, 49, 50, 51, 52, 53, 54, 55, 56, 57, 58, 59, 60, 61, 62, 63, 64, 65, 66, 67, 68, 69, 70, 71, 72, 73, 101, 102, 103, 104, 105, 106, 85, 86, 87, 88, 89, 90, 91, 92, 93, 94, 95, 96, 97, 98, 99, 100] (by decide +kernel) (by decide +kernel)
set_option maxRecDepth 20000 in
theorem gX3_best_X3_markAgainst : GoodIn wsX3_best (wsV RX3 152 RX3 yX3_markAgainst wsX3_markAgainst) := goodIn_app (goodIn_of _ (by decide +kernel)) ggX3_best_X3_markAgainst
theorem dX3_best_0 : decode cX3_best 0 = .ok (.aload_n 0, 1) := by decide +kernel
theorem dX3_best_1 : decode cX3_best 1 = .ok (.aload_n 0, 1) := by decide +kernel
theorem dX3_best_2 : decode cX3_best 2 = .ok (.getfield 21, 3) := by decide +kernel
theorem dX3_best_5 : decode cX3_best 5 = .ok (.bipush 29, 2) := by decide +kernel
theorem dX3_best_7 : decode cX3_best 7 = .ok (.invokevirtual 145, 3) := by decide +kernel
theorem dX3_best_10 : decode cX3_best 10 = .ok (.istore_n 1, 1) := by decide +kernel
theorem dX3_best_11 : decode cX3_best 11 = .ok (.iconst (-1), 1) := by decide +kernel
theorem dX3_best_12 : decode cX3_best 12 = .ok (.istore_n 2, 1) := by decide +kernel
theorem dX3_best_13 : decode cX3_best 13 = .ok (.iconst (-1), 1) := by decide +kernel
theorem dX3_best_14 : decode cX3_best 14 = .ok (.istore_n 3, 1) := by decide +kernel
theorem dX3_best_15 : decode cX3_best 15 = .ok (.iconst 1, 1) := by decide +kernel
theorem dX3_best_16 : decode cX3_best 16 = .ok (.istore 4, 2) := by decide +kernel
theorem dX3_best_18 : decode cX3_best 18 = .ok (.iload 4, 2) := by decide +kernel
theorem dX3_best_20 : decode cX3_best 20 = .ok (.aload_n 0, 1) := by decide +kernel
theorem dX3_best_21 : decode cX3_best 21 = .ok (.getfield 25, 3) := by decide +kernel
theorem dX3_best_24 : decode cX3_best 24 = .ok (.arraylength, 1) := by decide +kernel
theorem dX3_best_25 : decode cX3_best 25 = .ok (.if_icmp .ge 48, 3) := by decide +kernel
theorem dX3_best_28 : decode cX3_best 28 = .ok (.aload_n 0, 1) := by decide +kernel
theorem dX3_best_29 : decode cX3_best 29 = .ok (.getfield 25, 3) := by decide +kernel
theorem dX3_best_32 : decode cX3_best 32 = .ok (.iload 4, 2) := by decide +kernel
theorem dX3_best_34 : decode cX3_best 34 = .ok (.aaload, 1) := by decide +kernel
theorem dX3_best_35 : decode cX3_best 35 = .ok (.astore 5, 2) := by decide +kernel
theorem dX3_best_37 : decode cX3_best 37 = .ok (.aload 5, 2) := by decide +kernel
theorem dX3_best_39 : decode cX3_best 39 = .ok (.ifnonnull 7, 3) := by decide +kernel
theorem dX3_best_42 : decode cX3_best 42 = .ok (.iconst (-1), 1) := by decide +kernel
theorem dX3_best_43 : decode cX3_best 43 = .ok (.goto 10, 3) := by decide +kernel
theorem dX3_best_46 : decode cX3_best 46 = .ok (.aload_n 0, 1) := by decide +kernel
theorem dX3_best_47 : decode cX3_best 47 = .ok (.aload 5, 2) := by decide +kernel
theorem dX3_best_49 : decode cX3_best 49 = .ok (.iload_n 1, 1) := by decide +kernel
theorem dX3_best_50 : decode cX3_best 50 = .ok (.invokevirtual 152, 3) := by decide +kernel
theorem dX3_best_53 : decode cX3_best 53 = .ok (.istore 6, 2) := by decide +kernel
theorem dX3_best_55 : decode cX3_best 55 = .ok (.iload 6, 2) := by decide +kernel
theorem dX3_best_57 : decode cX3_best 57 = .ok (.iload_n 3, 1) := by decide +kernel
theorem dX3_best_58 : decode cX3_best 58 = .ok (.if_icmp .le 9, 3) := by decide +kernel
theorem dX3_best_61 : decode cX3_best 61 = .ok (.iload 4, 2) := by decide +kernel
theorem dX3_best_63 : decode cX3_best 63 = .ok (.istore_n 2, 1) := by decide +kernel
theorem dX3_best_64 : decode cX3_best 64 = .ok (.iload 6, 2) := by decide +kernel
theorem dX3_best_66 : decode cX3_best 66 = .ok (.istore_n 3, 1) := by decide +kernel
theorem dX3_best_67 : decode cX3_best 67 = .ok (.iinc 4 1, 3) := by decide +kernel
theorem dX3_best_70 : decode cX3_best 70 = .ok (.goto (-52), 3) := by decide +kernel
theorem dX3_best_73 : decode cX3_best 73 = .ok (.iload_n 2, 1) := by decide +kernel
theorem dX3_best_74 : decode cX3_best 74 = .ok (.ireturn, 1) := by decide +kernel
set_option maxRecDepth 20000 in
theorem ggX3_shipBehind_X3_lineNumbered : GoodIn wsX3_shipBehind wsX3_lineNumbered := goodIn_ca (goodIn_r _ [6, 7, 8, 9, 88, 89, 90, 91] (by decide +kernel) (by decide +kernel)) (goodIn_sub (fun _ h => List.mem_cons_of_mem _ (List.mem_append_right _ h)) (by decide +kernel))
set_option maxRecDepth 20000 in
theorem gX3_shipBehind_X3_lineNumbered : GoodIn wsX3_shipBehind (wsV RX3 85 RX3 yX3_lineNumbered wsX3_lineNumbered) := goodIn_app (goodIn_of _ (by decide +kernel)) ggX3_shipBehind_X3_lineNumbered
set_option maxRecDepth 20000 in
theorem ggX3_shipBehind_X3_shipNumbered : GoodIn wsX3_shipBehind wsX3_shipNumbered := goodIn_ca (goodIn_r _ [13, 7, 8, 1, 14, 15, 16, 17, 18, 88, 89, 90, 91, 92, 93, 94, 95, 96, 97, 98] (by decide +kernel) (by decide +kernel)) (goodIn_sub (fun _ h => List.mem_cons_of_mem _ (List.mem_append_right _ h)) (by decide +kernel))
set_option maxRecDepth 20000 in
theorem gX3_shipBehind_X3_shipNumbered : GoodIn wsX3_shipBehind (wsV RX3 94 RX3 yX3_shipNumbered wsX3_shipNumbered) := goodIn_app (goodIn_of _ (by decide +kernel)) ggX3_shipBehind_X3_shipNumbered
set_option maxRecDepth 20000 in
theorem ggX3_shipBehind_X3_checkTurn : GoodIn wsX3_shipBehind wsX3_checkTurn := goodIn_ca (goodIn_r _ [21, 7, 8, 22, 23, 5, 24] (by decide +kernel) (by decide +kernel)) (goodIn_sub (fun _ h => List.mem_cons_of_mem _ (List.mem_append_right _ h)) (by decide +kernel))
set_option maxRecDepth 20000 in
theorem gX3_shipBehind_X3_checkTurn : GoodIn wsX3_shipBehind (va_wsS RX3 89 yX3_checkTurn wsX3_checkTurn) := goodIn_app (goodIn_of _ (by decide +kernel)) ggX3_shipBehind_X3_checkTurn
set_option maxRecDepth 20000 in
theorem ggX3_shipBehind_X0_play : GoodIn wsX3_shipBehind wsX0_play := goodIn_r _ [27, 28, 29, 18, 30, 31, 32, 33, 34, 35, 36, 37, 38, 39, 40, 41, 42, 43, 44, 45, 46, 47, 48, 49, 50, 15, 51, 52, 53, 54, 55, 56, 57, 58, 59, 14, 16, 17, 60, 61, 62, 63, 64, 65, 66, 67, 68, 69, 70, 71, 72, 5, 73, 74, 75, 76, 77, 78, 79, 80, 81, 82, 83, 84, 85, 86, 87, 92, 93, 94, 95, 96, 97, 98, 99, 100, 101, 102, 103, 104, 105, 106, 107, 108, 109] (by decide +kernel) (by decide +kernel)
set_option maxRecDepth 20000 in
theorem gX3_shipBehind_X0_play_n130 : GoodIn wsX3_shipBehind (wsX0_play) := ggX3_shipBehind_X0_play
theorem dX3_shipBehind_0 : decode cX3_shipBehind 0 = .ok (.aload_n 0, 1) := by decide +kernel
theorem dX3_shipBehind_1 : decode cX3_shipBehind 1 = .ok (.iload_n 1, 1) := by decide +kernel
theorem dX3_shipBehind_2 : decode cX3_shipBehind 2 = .ok (.invokevirtual 85, 3) := by decide +kernel
theorem dX3_shipBehind_5 : decode cX3_shipBehind 5 = .ok (.astore 4, 2) := by decide +kernel
theorem dX3_shipBehind_7 : decode cX3_shipBehind 7 = .ok (.aload_n 0, 1) := by decide +kernel
theorem dX3_shipBehind_8 : decode cX3_shipBehind 8 = .ok (.iload_n 2, 1) := by decide +kernel
theorem dX3_shipBehind_9 : decode cX3_shipBehind 9 = .ok (.invokevirtual 94, 3) := by decide +kernel
theorem dX3_shipBehind_12 : decode cX3_shipBehind 12 = .ok (.astore 5, 2) := by decide +kernel
theorem dX3_shipBehind_14 : decode cX3_shipBehind 14 = .ok (.iload_n 3, 1) := by decide +kernel
theorem dX3_shipBehind_15 : decode cX3_shipBehind 15 = .ok (.invokestatic 89, 3) := by decide +kernel
theorem dX3_shipBehind_18 : decode cX3_shipBehind 18 = .ok (.aload_n 0, 1) := by decide +kernel
theorem dX3_shipBehind_19 : decode cX3_shipBehind 19 = .ok (.getfield 12, 3) := by decide +kernel
theorem dX3_shipBehind_22 : decode cX3_shipBehind 22 = .ok (.aload 4, 2) := by decide +kernel
theorem dX3_shipBehind_24 : decode cX3_shipBehind 24 = .ok (.iload_n 3, 1) := by decide +kernel
theorem dX3_shipBehind_25 : decode cX3_shipBehind 25 = .ok (.invokevirtual 130, 3) := by decide +kernel
theorem dX3_shipBehind_28 : decode cX3_shipBehind 28 = .ok (.aload 5, 2) := by decide +kernel
theorem dX3_shipBehind_30 : decode cX3_shipBehind 30 = .ok (.areturn, 1) := by decide +kernel
set_option maxRecDepth 20000 in
theorem ggX3_earningOf_X0_play : GoodIn wsX3_earningOf wsX0_play := goodIn_r _ [5, 6, 7, 8, 9, 10, 11, 12, 13, 14, 15, 16, 17, 18, 19, 20, 21, 22, 23, 24, 25, 26, 27, 28, 29, 3, 30, 31, 32, 33, 34, 35, 36, 37, 38, 39, 40, 41, 42, 43, 44, 45, 46, 47, 48, 49, 50, 51, 52, 53, 54, 55, 56, 57, 58, 59, 60, 61, 62, 63, 64, 65, 66, 67, 68, 69, 70, 75, 76, 77, 78, 79, 80, 81, 82, 83, 84, 85, 86, 87, 88, 89, 90, 91, 92] (by decide +kernel) (by decide +kernel)
set_option maxRecDepth 20000 in
theorem gX3_earningOf_X0_play_n130 : GoodIn wsX3_earningOf (wsX0_play) := ggX3_earningOf_X0_play
theorem dX3_earningOf_0 : decode cX3_earningOf 0 = .ok (.aload_n 0, 1) := by decide +kernel
theorem dX3_earningOf_1 : decode cX3_earningOf 1 = .ok (.getfield 12, 3) := by decide +kernel
theorem dX3_earningOf_4 : decode cX3_earningOf 4 = .ok (.aload_n 1, 1) := by decide +kernel
theorem dX3_earningOf_5 : decode cX3_earningOf 5 = .ok (.iload_n 2, 1) := by decide +kernel
theorem dX3_earningOf_6 : decode cX3_earningOf 6 = .ok (.invokevirtual 130, 3) := by decide +kernel
theorem dX3_earningOf_9 : decode cX3_earningOf 9 = .ok (.aload_n 0, 1) := by decide +kernel
theorem dX3_earningOf_10 : decode cX3_earningOf 10 = .ok (.getfield 12, 3) := by decide +kernel
theorem dX3_earningOf_13 : decode cX3_earningOf 13 = .ok (.getfield 155, 3) := by decide +kernel
theorem dX3_earningOf_16 : decode cX3_earningOf 16 = .ok (.ireturn, 1) := by decide +kernel
set_option maxRecDepth 20000 in
theorem ggX3_markAgainst_X3_earningOf : GoodIn wsX3_markAgainst wsX3_earningOf := goodIn_r _ [12, 13, 14, 15, 16, 17, 18, 19, 20, 21, 22, 23, 24, 25, 26, 27, 28, 29, 30, 31, 32, 33, 34, 35, 36, 37, 38, 39, 40, 41, 42, 43, 44, 45, 46, 47, 48, 49, 50, 51, 52, 53, 54, 55, 56, 57, 58, 59, 60, 61, 62, 63, 64, 65, 66, 11, 67, 68, 69, 70, 71, 72, 73, 74, 75, 76, 77, 78, 2, 3, 4, 85, 86, 87, 88, 89, 90, 91, 92, 93, 94, 95, 96, 97, 98, 99, 100, 79, 80, 81, 82, 83, 84] (by decide +kernel) (by decide +kernel)
set_option maxRecDepth 20000 in
theorem gX3_markAgainst_X3_earningOf : GoodIn wsX3_markAgainst (wsV RX3 145 RX3 yX3_earningOf wsX3_earningOf) := goodIn_app (goodIn_of _ (by decide +kernel)) ggX3_markAgainst_X3_earningOf
theorem dX3_markAgainst_0 : decode cX3_markAgainst 0 = .ok (.aload_n 1, 1) := by decide +kernel
theorem dX3_markAgainst_1 : decode cX3_markAgainst 1 = .ok (.getfield 149, 3) := by decide +kernel
theorem dX3_markAgainst_4 : decode cX3_markAgainst 4 = .ok (.ifCond .eq 5, 3) := by decide +kernel
theorem dX3_markAgainst_7 : decode cX3_markAgainst 7 = .ok (.iconst 0, 1) := by decide +kernel
theorem dX3_markAgainst_8 : decode cX3_markAgainst 8 = .ok (.ireturn, 1) := by decide +kernel
theorem dX3_markAgainst_9 : decode cX3_markAgainst 9 = .ok (.bipush 50, 2) := by decide +kernel
theorem dX3_markAgainst_11 : decode cX3_markAgainst 11 = .ok (.aload_n 0, 1) := by decide +kernel
theorem dX3_markAgainst_12 : decode cX3_markAgainst 12 = .ok (.aload_n 1, 1) := by decide +kernel
theorem dX3_markAgainst_13 : decode cX3_markAgainst 13 = .ok (.bipush 29, 2) := by decide +kernel
theorem dX3_markAgainst_15 : decode cX3_markAgainst 15 = .ok (.invokevirtual 145, 3) := by decide +kernel
theorem dX3_markAgainst_18 : decode cX3_markAgainst 18 = .ok (.iadd, 1) := by decide +kernel
theorem dX3_markAgainst_19 : decode cX3_markAgainst 19 = .ok (.iload_n 2, 1) := by decide +kernel
theorem dX3_markAgainst_20 : decode cX3_markAgainst 20 = .ok (.isub, 1) := by decide +kernel
theorem dX3_markAgainst_21 : decode cX3_markAgainst 21 = .ok (.istore_n 3, 1) := by decide +kernel
theorem dX3_markAgainst_22 : decode cX3_markAgainst 22 = .ok (.iconst 0, 1) := by decide +kernel
theorem dX3_markAgainst_23 : decode cX3_markAgainst 23 = .ok (.bipush 100, 2) := by decide +kernel
theorem dX3_markAgainst_25 : decode cX3_markAgainst 25 = .ok (.iload_n 3, 1) := by decide +kernel
theorem dX3_markAgainst_26 : decode cX3_markAgainst 26 = .ok (.invokestatic 158, 3) := by decide +kernel
theorem dX3_markAgainst_29 : decode cX3_markAgainst 29 = .ok (.invokestatic 139, 3) := by decide +kernel
theorem dX3_markAgainst_32 : decode cX3_markAgainst 32 = .ok (.ireturn, 1) := by decide +kernel
theorem dX3_codeOf_0 : decode cX3_codeOf 0 = .ok (.iload_n 0, 1) := by decide +kernel
theorem dX3_codeOf_1 : decode cX3_codeOf 1 = .ok (.ifCond .ne 5, 3) := by decide +kernel
theorem dX3_codeOf_4 : decode cX3_codeOf 4 = .ok (.iconst 0, 1) := by decide +kernel
theorem dX3_codeOf_5 : decode cX3_codeOf 5 = .ok (.ireturn, 1) := by decide +kernel
theorem dX3_codeOf_6 : decode cX3_codeOf 6 = .ok (.bipush 100, 2) := by decide +kernel
theorem dX3_codeOf_8 : decode cX3_codeOf 8 = .ok (.iload_n 0, 1) := by decide +kernel
theorem dX3_codeOf_9 : decode cX3_codeOf 9 = .ok (.imul, 1) := by decide +kernel
theorem dX3_codeOf_10 : decode cX3_codeOf 10 = .ok (.bipush 10, 2) := by decide +kernel
theorem dX3_codeOf_12 : decode cX3_codeOf 12 = .ok (.iload_n 1, 1) := by decide +kernel
theorem dX3_codeOf_13 : decode cX3_codeOf 13 = .ok (.imul, 1) := by decide +kernel
theorem dX3_codeOf_14 : decode cX3_codeOf 14 = .ok (.iadd, 1) := by decide +kernel
theorem dX3_codeOf_15 : decode cX3_codeOf 15 = .ok (.iload_n 0, 1) := by decide +kernel
theorem dX3_codeOf_16 : decode cX3_codeOf 16 = .ok (.iconst 1, 1) := by decide +kernel
theorem dX3_codeOf_17 : decode cX3_codeOf 17 = .ok (.if_icmp .ne 7, 3) := by decide +kernel
theorem dX3_codeOf_20 : decode cX3_codeOf 20 = .ok (.iload_n 2, 1) := by decide +kernel
theorem dX3_codeOf_21 : decode cX3_codeOf 21 = .ok (.goto 4, 3) := by decide +kernel
theorem dX3_codeOf_24 : decode cX3_codeOf 24 = .ok (.iconst 0, 1) := by decide +kernel
theorem dX3_codeOf_25 : decode cX3_codeOf 25 = .ok (.iadd, 1) := by decide +kernel
theorem dX3_codeOf_26 : decode cX3_codeOf 26 = .ok (.ireturn, 1) := by decide +kernel
theorem dX3_lineNumbered_0 : decode cX3_lineNumbered 0 = .ok (.iload_n 1, 1) := by decide +kernel
theorem dX3_lineNumbered_1 : decode cX3_lineNumbered 1 = .ok (.ifCond .lt 21, 3) := by decide +kernel
theorem dX3_lineNumbered_4 : decode cX3_lineNumbered 4 = .ok (.iload_n 1, 1) := by decide +kernel
theorem dX3_lineNumbered_5 : decode cX3_lineNumbered 5 = .ok (.aload_n 0, 1) := by decide +kernel
theorem dX3_lineNumbered_6 : decode cX3_lineNumbered 6 = .ok (.getfield 25, 3) := by decide +kernel
theorem dX3_lineNumbered_9 : decode cX3_lineNumbered 9 = .ok (.arraylength, 1) := by decide +kernel
theorem dX3_lineNumbered_10 : decode cX3_lineNumbered 10 = .ok (.if_icmp .ge 12, 3) := by decide +kernel
theorem dX3_lineNumbered_13 : decode cX3_lineNumbered 13 = .ok (.aload_n 0, 1) := by decide +kernel
theorem dX3_lineNumbered_14 : decode cX3_lineNumbered 14 = .ok (.getfield 25, 3) := by decide +kernel
theorem dX3_lineNumbered_17 : decode cX3_lineNumbered 17 = .ok (.iload_n 1, 1) := by decide +kernel
theorem dX3_lineNumbered_18 : decode cX3_lineNumbered 18 = .ok (.aaload, 1) := by decide +kernel
theorem dX3_lineNumbered_19 : decode cX3_lineNumbered 19 = .ok (.goto 4, 3) := by decide +kernel
theorem dX3_lineNumbered_22 : decode cX3_lineNumbered 22 = .ok (.aconst_null, 1) := by decide +kernel
theorem dX3_lineNumbered_23 : decode cX3_lineNumbered 23 = .ok (.astore_n 2, 1) := by decide +kernel
theorem dX3_lineNumbered_24 : decode cX3_lineNumbered 24 = .ok (.aload_n 2, 1) := by decide +kernel
theorem dX3_lineNumbered_25 : decode cX3_lineNumbered 25 = .ok (.ifnonnull 13, 3) := by decide +kernel
theorem dX3_lineNumbered_28 : decode cX3_lineNumbered 28 = .ok (.new 161, 3) := by decide +kernel
theorem dX3_lineNumbered_31 : decode cX3_lineNumbered 31 = .ok (.dup, 1) := by decide +kernel
theorem dX3_lineNumbered_32 : decode cX3_lineNumbered 32 = .ok (.ldc 163, 2) := by decide +kernel
theorem dX3_lineNumbered_34 : decode cX3_lineNumbered 34 = .ok (.invokespecial 165, 3) := by decide +kernel
theorem dX3_lineNumbered_37 : decode cX3_lineNumbered 37 = .ok (.athrow, 1) := by decide +kernel
theorem dX3_lineNumbered_38 : decode cX3_lineNumbered 38 = .ok (.aload_n 2, 1) := by decide +kernel
theorem dX3_lineNumbered_39 : decode cX3_lineNumbered 39 = .ok (.areturn, 1) := by decide +kernel
set_option maxRecDepth 20000 in
theorem ggX3_shipNumbered_X0_shipOrNull : GoodIn wsX3_shipNumbered wsX0_shipOrNull := goodIn_r _ [7, 8, 13, 14, 15, 16, 17, 18, 19] (by decide +kernel) (by decide +kernel)
set_option maxRecDepth 20000 in
theorem gX3_shipNumbered_X0_shipOrNull_n166 : GoodIn wsX3_shipNumbered (wsX0_shipOrNull) := ggX3_shipNumbered_X0_shipOrNull
theorem dX3_shipNumbered_0 : decode cX3_shipNumbered 0 = .ok (.aload_n 0, 1) := by decide +kernel
theorem dX3_shipNumbered_1 : decode cX3_shipNumbered 1 = .ok (.getfield 12, 3) := by decide +kernel
theorem dX3_shipNumbered_4 : decode cX3_shipNumbered 4 = .ok (.iload_n 1, 1) := by decide +kernel
theorem dX3_shipNumbered_5 : decode cX3_shipNumbered 5 = .ok (.invokevirtual 166, 3) := by decide +kernel
theorem dX3_shipNumbered_8 : decode cX3_shipNumbered 8 = .ok (.astore_n 2, 1) := by decide +kernel
theorem dX3_shipNumbered_9 : decode cX3_shipNumbered 9 = .ok (.aload_n 2, 1) := by decide +kernel
theorem dX3_shipNumbered_10 : decode cX3_shipNumbered 10 = .ok (.ifnonnull 13, 3) := by decide +kernel
theorem dX3_shipNumbered_13 : decode cX3_shipNumbered 13 = .ok (.new 161, 3) := by decide +kernel
theorem dX3_shipNumbered_16 : decode cX3_shipNumbered 16 = .ok (.dup, 1) := by decide +kernel
theorem dX3_shipNumbered_17 : decode cX3_shipNumbered 17 = .ok (.ldc 169, 2) := by decide +kernel
theorem dX3_shipNumbered_19 : decode cX3_shipNumbered 19 = .ok (.invokespecial 165, 3) := by decide +kernel
theorem dX3_shipNumbered_22 : decode cX3_shipNumbered 22 = .ok (.athrow, 1) := by decide +kernel
theorem dX3_shipNumbered_23 : decode cX3_shipNumbered 23 = .ok (.aload_n 2, 1) := by decide +kernel
theorem dX3_shipNumbered_24 : decode cX3_shipNumbered 24 = .ok (.areturn, 1) := by decide +kernel
theorem dX3_isTurn_0 : decode cX3_isTurn 0 = .ok (.iload_n 0, 1) := by decide +kernel
theorem dX3_isTurn_1 : decode cX3_isTurn 1 = .ok (.ifCond .lt 13, 3) := by decide +kernel
theorem dX3_isTurn_4 : decode cX3_isTurn 4 = .ok (.iload_n 0, 1) := by decide +kernel
theorem dX3_isTurn_5 : decode cX3_isTurn 5 = .ok (.bipush 30, 2) := by decide +kernel
theorem dX3_isTurn_7 : decode cX3_isTurn 7 = .ok (.if_icmp .ge 7, 3) := by decide +kernel
theorem dX3_isTurn_10 : decode cX3_isTurn 10 = .ok (.iconst 1, 1) := by decide +kernel
theorem dX3_isTurn_11 : decode cX3_isTurn 11 = .ok (.goto 4, 3) := by decide +kernel
theorem dX3_isTurn_14 : decode cX3_isTurn 14 = .ok (.iconst 0, 1) := by decide +kernel
theorem dX3_isTurn_15 : decode cX3_isTurn 15 = .ok (.ireturn, 1) := by decide +kernel
set_option maxRecDepth 20000 in
theorem ggX3_checkTurn_X3_isTurn : GoodIn wsX3_checkTurn wsX3_isTurn := goodIn_r _ [6] (by decide +kernel) (by decide +kernel)
set_option maxRecDepth 20000 in
theorem gX3_checkTurn_X3_isTurn : GoodIn wsX3_checkTurn (va_wsS RX3 33 yX3_isTurn wsX3_isTurn) := goodIn_app (goodIn_of _ (by decide +kernel)) ggX3_checkTurn_X3_isTurn
theorem dX3_checkTurn_0 : decode cX3_checkTurn 0 = .ok (.iload_n 0, 1) := by decide +kernel
theorem dX3_checkTurn_1 : decode cX3_checkTurn 1 = .ok (.invokestatic 33, 3) := by decide +kernel
theorem dX3_checkTurn_4 : decode cX3_checkTurn 4 = .ok (.ifCond .ne 13, 3) := by decide +kernel
theorem dX3_checkTurn_7 : decode cX3_checkTurn 7 = .ok (.new 161, 3) := by decide +kernel
theorem dX3_checkTurn_10 : decode cX3_checkTurn 10 = .ok (.dup, 1) := by decide +kernel
theorem dX3_checkTurn_11 : decode cX3_checkTurn 11 = .ok (.ldc 171, 2) := by decide +kernel
theorem dX3_checkTurn_13 : decode cX3_checkTurn 13 = .ok (.invokespecial 165, 3) := by decide +kernel
theorem dX3_checkTurn_16 : decode cX3_checkTurn 16 = .ok (.athrow, 1) := by decide +kernel
theorem dX3_checkTurn_17 : decode cX3_checkTurn 17 = .ok (.return_, 1) := by decide +kernel
theorem dX3_isBerth_0 : decode cX3_isBerth 0 = .ok (.iload_n 0, 1) := by decide +kernel
theorem dX3_isBerth_1 : decode cX3_isBerth 1 = .ok (.ifCond .lt 12, 3) := by decide +kernel
theorem dX3_isBerth_4 : decode cX3_isBerth 4 = .ok (.iload_n 0, 1) := by decide +kernel
theorem dX3_isBerth_5 : decode cX3_isBerth 5 = .ok (.iconst 3, 1) := by decide +kernel
theorem dX3_isBerth_6 : decode cX3_isBerth 6 = .ok (.if_icmp .ge 7, 3) := by decide +kernel
theorem dX3_isBerth_9 : decode cX3_isBerth 9 = .ok (.iconst 1, 1) := by decide +kernel
theorem dX3_isBerth_10 : decode cX3_isBerth 10 = .ok (.goto 4, 3) := by decide +kernel
theorem dX3_isBerth_13 : decode cX3_isBerth 13 = .ok (.iconst 0, 1) := by decide +kernel
theorem dX3_isBerth_14 : decode cX3_isBerth 14 = .ok (.ireturn, 1) := by decide +kernel
set_option maxRecDepth 20000 in
theorem ggX3_checkBerth_X3_isBerth : GoodIn wsX3_checkBerth wsX3_isBerth := goodIn_r _ [6] (by decide +kernel) (by decide +kernel)
set_option maxRecDepth 20000 in
theorem gX3_checkBerth_X3_isBerth : GoodIn wsX3_checkBerth (va_wsS RX3 173 yX3_isBerth wsX3_isBerth) := goodIn_app (goodIn_of _ (by decide +kernel)) ggX3_checkBerth_X3_isBerth
theorem dX3_checkBerth_0 : decode cX3_checkBerth 0 = .ok (.iload_n 0, 1) := by decide +kernel
theorem dX3_checkBerth_1 : decode cX3_checkBerth 1 = .ok (.invokestatic 173, 3) := by decide +kernel
theorem dX3_checkBerth_4 : decode cX3_checkBerth 4 = .ok (.ifCond .ne 13, 3) := by decide +kernel
theorem dX3_checkBerth_7 : decode cX3_checkBerth 7 = .ok (.new 161, 3) := by decide +kernel
theorem dX3_checkBerth_10 : decode cX3_checkBerth 10 = .ok (.dup, 1) := by decide +kernel
theorem dX3_checkBerth_11 : decode cX3_checkBerth 11 = .ok (.ldc 176, 2) := by decide +kernel
theorem dX3_checkBerth_13 : decode cX3_checkBerth 13 = .ok (.invokespecial 165, 3) := by decide +kernel
theorem dX3_checkBerth_16 : decode cX3_checkBerth 16 = .ok (.athrow, 1) := by decide +kernel
theorem dX3_checkBerth_17 : decode cX3_checkBerth 17 = .ok (.return_, 1) := by decide +kernel
