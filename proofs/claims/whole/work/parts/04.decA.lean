theorem dX0_init_0 : decode cX0_init 0 = .ok (.aload_n 0, 1) := by decide +kernel
theorem dX0_init_1 : decode cX0_init 1 = .ok (.invokespecial 3, 3) := by decide +kernel
theorem dX0_init_4 : decode cX0_init 4 = .ok (.aload_n 0, 1) := by decide +kernel
theorem dX0_init_5 : decode cX0_init 5 = .ok (.bipush 8, 2) := by decide +kernel
theorem dX0_init_7 : decode cX0_init 7 = .ok (.anewarray 9, 3) := by decide +kernel
theorem dX0_init_10 : decode cX0_init 10 = .ok (.putfield 11, 3) := by decide +kernel
theorem dX0_init_13 : decode cX0_init 13 = .ok (.aload_n 0, 1) := by decide +kernel
theorem dX0_init_14 : decode cX0_init 14 = .ok (.iconst 0, 1) := by decide +kernel
theorem dX0_init_15 : decode cX0_init 15 = .ok (.putfield 17, 3) := by decide +kernel
theorem dX0_init_18 : decode cX0_init 18 = .ok (.aload_n 0, 1) := by decide +kernel
theorem dX0_init_19 : decode cX0_init 19 = .ok (.iconst 3, 1) := by decide +kernel
theorem dX0_init_20 : decode cX0_init 20 = .ok (.newarray .int, 2) := by decide +kernel
theorem dX0_init_22 : decode cX0_init 22 = .ok (.dup, 1) := by decide +kernel
theorem dX0_init_23 : decode cX0_init 23 = .ok (.iconst 0, 1) := by decide +kernel
theorem dX0_init_24 : decode cX0_init 24 = .ok (.iconst 4, 1) := by decide +kernel
theorem dX0_init_25 : decode cX0_init 25 = .ok (.iastore, 1) := by decide +kernel
theorem dX0_init_26 : decode cX0_init 26 = .ok (.dup, 1) := by decide +kernel
theorem dX0_init_27 : decode cX0_init 27 = .ok (.iconst 1, 1) := by decide +kernel
theorem dX0_init_28 : decode cX0_init 28 = .ok (.iconst 4, 1) := by decide +kernel
theorem dX0_init_29 : decode cX0_init 29 = .ok (.iastore, 1) := by decide +kernel
theorem dX0_init_30 : decode cX0_init 30 = .ok (.dup, 1) := by decide +kernel
theorem dX0_init_31 : decode cX0_init 31 = .ok (.iconst 2, 1) := by decide +kernel
theorem dX0_init_32 : decode cX0_init 32 = .ok (.iconst 4, 1) := by decide +kernel
theorem dX0_init_33 : decode cX0_init 33 = .ok (.iastore, 1) := by decide +kernel
theorem dX0_init_34 : decode cX0_init 34 = .ok (.putfield 21, 3) := by decide +kernel
theorem dX0_init_37 : decode cX0_init 37 = .ok (.aload_n 0, 1) := by decide +kernel
theorem dX0_init_38 : decode cX0_init 38 = .ok (.iconst 3, 1) := by decide +kernel
theorem dX0_init_39 : decode cX0_init 39 = .ok (.putfield 25, 3) := by decide +kernel
theorem dX0_init_42 : decode cX0_init 42 = .ok (.aload_n 0, 1) := by decide +kernel
theorem dX0_init_43 : decode cX0_init 43 = .ok (.iconst 1, 1) := by decide +kernel
theorem dX0_init_44 : decode cX0_init 44 = .ok (.putfield 28, 3) := by decide +kernel
theorem dX0_init_47 : decode cX0_init 47 = .ok (.aload_n 0, 1) := by decide +kernel
theorem dX0_init_48 : decode cX0_init 48 = .ok (.iconst 0, 1) := by decide +kernel
theorem dX0_init_49 : decode cX0_init 49 = .ok (.putfield 31, 3) := by decide +kernel
theorem dX0_init_52 : decode cX0_init 52 = .ok (.aload_n 0, 1) := by decide +kernel
theorem dX0_init_53 : decode cX0_init 53 = .ok (.iconst 0, 1) := by decide +kernel
theorem dX0_init_54 : decode cX0_init 54 = .ok (.putfield 34, 3) := by decide +kernel
theorem dX0_init_57 : decode cX0_init 57 = .ok (.return_, 1) := by decide +kernel
theorem dX0_admit_0 : decode cX0_admit 0 = .ok (.aload_n 0, 1) := by decide +kernel
theorem dX0_admit_1 : decode cX0_admit 1 = .ok (.getfield 17, 3) := by decide +kernel
theorem dX0_admit_4 : decode cX0_admit 4 = .ok (.istore_n 2, 1) := by decide +kernel
theorem dX0_admit_5 : decode cX0_admit 5 = .ok (.iload_n 2, 1) := by decide +kernel
theorem dX0_admit_6 : decode cX0_admit 6 = .ok (.aload_n 0, 1) := by decide +kernel
theorem dX0_admit_7 : decode cX0_admit 7 = .ok (.getfield 11, 3) := by decide +kernel
theorem dX0_admit_10 : decode cX0_admit 10 = .ok (.arraylength, 1) := by decide +kernel
theorem dX0_admit_11 : decode cX0_admit 11 = .ok (.if_icmp .ge 20, 3) := by decide +kernel
theorem dX0_admit_14 : decode cX0_admit 14 = .ok (.aload_n 0, 1) := by decide +kernel
theorem dX0_admit_15 : decode cX0_admit 15 = .ok (.getfield 11, 3) := by decide +kernel
theorem dX0_admit_18 : decode cX0_admit 18 = .ok (.iload_n 2, 1) := by decide +kernel
theorem dX0_admit_19 : decode cX0_admit 19 = .ok (.aload_n 1, 1) := by decide +kernel
theorem dX0_admit_20 : decode cX0_admit 20 = .ok (.aastore, 1) := by decide +kernel
theorem dX0_admit_21 : decode cX0_admit 21 = .ok (.aload_n 0, 1) := by decide +kernel
theorem dX0_admit_22 : decode cX0_admit 22 = .ok (.dup, 1) := by decide +kernel
theorem dX0_admit_23 : decode cX0_admit 23 = .ok (.getfield 17, 3) := by decide +kernel
theorem dX0_admit_26 : decode cX0_admit 26 = .ok (.iconst 1, 1) := by decide +kernel
theorem dX0_admit_27 : decode cX0_admit 27 = .ok (.iadd, 1) := by decide +kernel
theorem dX0_admit_28 : decode cX0_admit 28 = .ok (.putfield 17, 3) := by decide +kernel
theorem dX0_admit_31 : decode cX0_admit 31 = .ok (.iload_n 2, 1) := by decide +kernel
theorem dX0_admit_32 : decode cX0_admit 32 = .ok (.ireturn, 1) := by decide +kernel
theorem dX0_shipOrNull_0 : decode cX0_shipOrNull 0 = .ok (.iload_n 1, 1) := by decide +kernel
theorem dX0_shipOrNull_1 : decode cX0_shipOrNull 1 = .ok (.ifCond .lt 21, 3) := by decide +kernel
theorem dX0_shipOrNull_4 : decode cX0_shipOrNull 4 = .ok (.iload_n 1, 1) := by decide +kernel
theorem dX0_shipOrNull_5 : decode cX0_shipOrNull 5 = .ok (.aload_n 0, 1) := by decide +kernel
theorem dX0_shipOrNull_6 : decode cX0_shipOrNull 6 = .ok (.getfield 11, 3) := by decide +kernel
theorem dX0_shipOrNull_9 : decode cX0_shipOrNull 9 = .ok (.arraylength, 1) := by decide +kernel
theorem dX0_shipOrNull_10 : decode cX0_shipOrNull 10 = .ok (.if_icmp .ge 12, 3) := by decide +kernel
theorem dX0_shipOrNull_13 : decode cX0_shipOrNull 13 = .ok (.aload_n 0, 1) := by decide +kernel
theorem dX0_shipOrNull_14 : decode cX0_shipOrNull 14 = .ok (.getfield 11, 3) := by decide +kernel
theorem dX0_shipOrNull_17 : decode cX0_shipOrNull 17 = .ok (.iload_n 1, 1) := by decide +kernel
theorem dX0_shipOrNull_18 : decode cX0_shipOrNull 18 = .ok (.aaload, 1) := by decide +kernel
theorem dX0_shipOrNull_19 : decode cX0_shipOrNull 19 = .ok (.goto 4, 3) := by decide +kernel
theorem dX0_shipOrNull_22 : decode cX0_shipOrNull 22 = .ok (.aconst_null, 1) := by decide +kernel
theorem dX0_shipOrNull_23 : decode cX0_shipOrNull 23 = .ok (.areturn, 1) := by decide +kernel
set_option maxRecDepth 20000 in
theorem ggX0_play_X2_startAfresh : GoodIn wsX0_play wsX2_startAfresh := goodIn_r _ [7, 8, 9, 10, 74, 75, 76, 77, 78] (by decide +kernel) (by decide +kernel)
set_option maxRecDepth 20000 in
theorem gX0_play_X2_startAfresh_n37 : GoodIn wsX0_play (wsX2_startAfresh) := ggX0_play_X2_startAfresh
set_option maxRecDepth 20000 in
theorem ggX0_play_X1_orderFor : GoodIn wsX0_play wsX1_orderFor := goodIn_r _ [14, 15, 16, 17, 18, 19, 12, 20, 21, 79, 80, 81, 82, 83, 84] (by decide +kernel) (by decide +kernel)
set_option maxRecDepth 20000 in
theorem gX0_play_X1_orderFor_n40 : GoodIn wsX0_play (wsX1_orderFor) := ggX0_play_X1_orderFor
set_option maxRecDepth 20000 in
theorem ggX0_play_X0_passTurn : GoodIn wsX0_play wsX0_passTurn := goodIn_r _ [26, 3, 2, 1, 27, 28, 25, 29, 30, 31, 32, 33, 34, 35, 36, 37, 38, 39, 40, 41, 42, 43, 44, 45, 46, 47, 48, 49, 50, 51, 52, 53, 54, 55, 56, 57, 58, 59, 60, 5, 61, 62, 10, 63, 64, 65, 66, 67, 68, 69, 70, 71, 72, 73, 74, 75, 76, 77, 78] (by decide +kernel) (by decide +kernel)
set_option maxRecDepth 20000 in
theorem gX0_play_X0_passTurn : GoodIn wsX0_play (wsV RX0 46 RX0 yX0_passTurn wsX0_passTurn) := goodIn_app (goodIn_of _ (by decide +kernel)) ggX0_play_X0_passTurn
theorem dX0_play_0 : decode cX0_play 0 = .ok (.aload_n 0, 1) := by decide +kernel
theorem dX0_play_1 : decode cX0_play 1 = .ok (.iconst 0, 1) := by decide +kernel
theorem dX0_play_2 : decode cX0_play 2 = .ok (.putfield 31, 3) := by decide +kernel
theorem dX0_play_5 : decode cX0_play 5 = .ok (.aload_n 0, 1) := by decide +kernel
theorem dX0_play_6 : decode cX0_play 6 = .ok (.iconst 0, 1) := by decide +kernel
theorem dX0_play_7 : decode cX0_play 7 = .ok (.putfield 34, 3) := by decide +kernel
theorem dX0_play_10 : decode cX0_play 10 = .ok (.aload_n 0, 1) := by decide +kernel
theorem dX0_play_11 : decode cX0_play 11 = .ok (.getfield 11, 3) := by decide +kernel
theorem dX0_play_14 : decode cX0_play 14 = .ok (.astore_n 3, 1) := by decide +kernel
theorem dX0_play_15 : decode cX0_play 15 = .ok (.aload_n 3, 1) := by decide +kernel
theorem dX0_play_16 : decode cX0_play 16 = .ok (.arraylength, 1) := by decide +kernel
theorem dX0_play_17 : decode cX0_play 17 = .ok (.istore 4, 2) := by decide +kernel
theorem dX0_play_19 : decode cX0_play 19 = .ok (.iconst 0, 1) := by decide +kernel
theorem dX0_play_20 : decode cX0_play 20 = .ok (.istore 5, 2) := by decide +kernel
theorem dX0_play_22 : decode cX0_play 22 = .ok (.iload 5, 2) := by decide +kernel
theorem dX0_play_24 : decode cX0_play 24 = .ok (.iload 4, 2) := by decide +kernel
theorem dX0_play_26 : decode cX0_play 26 = .ok (.if_icmp .ge 25, 3) := by decide +kernel
theorem dX0_play_29 : decode cX0_play 29 = .ok (.aload_n 3, 1) := by decide +kernel
theorem dX0_play_30 : decode cX0_play 30 = .ok (.iload 5, 2) := by decide +kernel
theorem dX0_play_32 : decode cX0_play 32 = .ok (.aaload, 1) := by decide +kernel
theorem dX0_play_33 : decode cX0_play 33 = .ok (.astore 6, 2) := by decide +kernel
theorem dX0_play_35 : decode cX0_play 35 = .ok (.aload 6, 2) := by decide +kernel
theorem dX0_play_37 : decode cX0_play 37 = .ok (.ifnull 8, 3) := by decide +kernel
theorem dX0_play_40 : decode cX0_play 40 = .ok (.aload 6, 2) := by decide +kernel
theorem dX0_play_42 : decode cX0_play 42 = .ok (.invokevirtual 37, 3) := by decide +kernel
theorem dX0_play_45 : decode cX0_play 45 = .ok (.iinc 5 1, 3) := by decide +kernel
theorem dX0_play_48 : decode cX0_play 48 = .ok (.goto (-26), 3) := by decide +kernel
theorem dX0_play_51 : decode cX0_play 51 = .ok (.iconst 0, 1) := by decide +kernel
theorem dX0_play_52 : decode cX0_play 52 = .ok (.istore_n 3, 1) := by decide +kernel
theorem dX0_play_53 : decode cX0_play 53 = .ok (.iload_n 3, 1) := by decide +kernel
theorem dX0_play_54 : decode cX0_play 54 = .ok (.iload_n 2, 1) := by decide +kernel
theorem dX0_play_55 : decode cX0_play 55 = .ok (.if_icmp .gt 25, 3) := by decide +kernel
theorem dX0_play_58 : decode cX0_play 58 = .ok (.iload_n 3, 1) := by decide +kernel
theorem dX0_play_59 : decode cX0_play 59 = .ok (.bipush 30, 2) := by decide +kernel
theorem dX0_play_61 : decode cX0_play 61 = .ok (.if_icmp .ge 19, 3) := by decide +kernel
theorem dX0_play_64 : decode cX0_play 64 = .ok (.aload_n 0, 1) := by decide +kernel
theorem dX0_play_65 : decode cX0_play 65 = .ok (.iload_n 3, 1) := by decide +kernel
theorem dX0_play_66 : decode cX0_play 66 = .ok (.aload_n 1, 1) := by decide +kernel
theorem dX0_play_67 : decode cX0_play 67 = .ok (.iload_n 3, 1) := by decide +kernel
theorem dX0_play_68 : decode cX0_play 68 = .ok (.invokevirtual 40, 3) := by decide +kernel
theorem dX0_play_71 : decode cX0_play 71 = .ok (.invokevirtual 46, 3) := by decide +kernel
theorem dX0_play_74 : decode cX0_play 74 = .ok (.iinc 3 1, 3) := by decide +kernel
theorem dX0_play_77 : decode cX0_play 77 = .ok (.goto (-24), 3) := by decide +kernel
theorem dX0_play_80 : decode cX0_play 80 = .ok (.return_, 1) := by decide +kernel
set_option maxRecDepth 20000 in
theorem ggX0_passTurn_X0_tideOf : GoodIn wsX0_passTurn wsX0_tideOf := goodIn_r _ [7] (by decide +kernel) (by decide +kernel)
set_option maxRecDepth 20000 in
theorem gX0_passTurn_X0_tideOf : GoodIn wsX0_passTurn (va_wsS RX0 56 yX0_tideOf wsX0_tideOf) := goodIn_app (goodIn_of _ (by decide +kernel)) ggX0_passTurn_X0_tideOf
set_option maxRecDepth 20000 in
theorem ggX0_passTurn_X0_carryOut : GoodIn wsX0_passTurn wsX0_carryOut := goodIn_r _ [11, 12, 13, 14, 6, 15, 1, 16, 17, 18, 19, 20, 21, 22, 23, 24, 25, 26, 27, 28, 29, 30, 54, 55, 56, 57, 58, 47, 48, 49, 50, 51, 52, 53] (by decide +kernel) (by decide +kernel)
set_option maxRecDepth 20000 in
theorem gX0_passTurn_X0_carryOut : GoodIn wsX0_passTurn (wsV RX0 59 RX0 yX0_carryOut wsX0_carryOut) := goodIn_app (goodIn_of _ (by decide +kernel)) ggX0_passTurn_X0_carryOut
set_option maxRecDepth 20000 in
theorem ggX0_passTurn_X0_earningInTurn : GoodIn wsX0_passTurn wsX0_earningInTurn := goodIn_r _ [34, 35, 36, 37, 28, 29, 30, 38, 39, 40, 41, 42, 43, 44, 45, 46, 54, 55, 56, 57, 58, 47, 48, 49, 50, 51, 52, 53] (by decide +kernel) (by decide +kernel)
set_option maxRecDepth 20000 in
theorem gX0_passTurn_X0_earningInTurn : GoodIn wsX0_passTurn (wsV RX0 63 RX0 yX0_earningInTurn wsX0_earningInTurn) := goodIn_app (goodIn_of _ (by decide +kernel)) ggX0_passTurn_X0_earningInTurn
theorem dX0_passTurn_0 : decode cX0_passTurn 0 = .ok (.aload_n 0, 1) := by decide +kernel
theorem dX0_passTurn_1 : decode cX0_passTurn 1 = .ok (.getfield 11, 3) := by decide +kernel
theorem dX0_passTurn_4 : decode cX0_passTurn 4 = .ok (.astore_n 3, 1) := by decide +kernel
theorem dX0_passTurn_5 : decode cX0_passTurn 5 = .ok (.aload_n 3, 1) := by decide +kernel
theorem dX0_passTurn_6 : decode cX0_passTurn 6 = .ok (.arraylength, 1) := by decide +kernel
theorem dX0_passTurn_7 : decode cX0_passTurn 7 = .ok (.istore 4, 2) := by decide +kernel
theorem dX0_passTurn_9 : decode cX0_passTurn 9 = .ok (.iconst 0, 1) := by decide +kernel
theorem dX0_passTurn_10 : decode cX0_passTurn 10 = .ok (.istore 5, 2) := by decide +kernel
theorem dX0_passTurn_12 : decode cX0_passTurn 12 = .ok (.iload 5, 2) := by decide +kernel
theorem dX0_passTurn_14 : decode cX0_passTurn 14 = .ok (.iload 4, 2) := by decide +kernel
theorem dX0_passTurn_16 : decode cX0_passTurn 16 = .ok (.if_icmp .ge 35, 3) := by decide +kernel
theorem dX0_passTurn_19 : decode cX0_passTurn 19 = .ok (.aload_n 3, 1) := by decide +kernel
theorem dX0_passTurn_20 : decode cX0_passTurn 20 = .ok (.iload 5, 2) := by decide +kernel
theorem dX0_passTurn_22 : decode cX0_passTurn 22 = .ok (.aaload, 1) := by decide +kernel
theorem dX0_passTurn_23 : decode cX0_passTurn 23 = .ok (.astore 6, 2) := by decide +kernel
theorem dX0_passTurn_25 : decode cX0_passTurn 25 = .ok (.aload 6, 2) := by decide +kernel
theorem dX0_passTurn_27 : decode cX0_passTurn 27 = .ok (.ifnull 18, 3) := by decide +kernel
theorem dX0_passTurn_30 : decode cX0_passTurn 30 = .ok (.aload 6, 2) := by decide +kernel
theorem dX0_passTurn_32 : decode cX0_passTurn 32 = .ok (.getfield 50, 3) := by decide +kernel
theorem dX0_passTurn_35 : decode cX0_passTurn 35 = .ok (.iload_n 1, 1) := by decide +kernel
theorem dX0_passTurn_36 : decode cX0_passTurn 36 = .ok (.if_icmp .ne 9, 3) := by decide +kernel
theorem dX0_passTurn_39 : decode cX0_passTurn 39 = .ok (.aload 6, 2) := by decide +kernel
theorem dX0_passTurn_41 : decode cX0_passTurn 41 = .ok (.iconst (-1), 1) := by decide +kernel
theorem dX0_passTurn_42 : decode cX0_passTurn 42 = .ok (.putfield 53, 3) := by decide +kernel
theorem dX0_passTurn_45 : decode cX0_passTurn 45 = .ok (.iinc 5 1, 3) := by decide +kernel
theorem dX0_passTurn_48 : decode cX0_passTurn 48 = .ok (.goto (-36), 3) := by decide +kernel
theorem dX0_passTurn_51 : decode cX0_passTurn 51 = .ok (.iload_n 2, 1) := by decide +kernel
theorem dX0_passTurn_52 : decode cX0_passTurn 52 = .ok (.ifCond .eq 27, 3) := by decide +kernel
theorem dX0_passTurn_55 : decode cX0_passTurn 55 = .ok (.aload_n 0, 1) := by decide +kernel
theorem dX0_passTurn_56 : decode cX0_passTurn 56 = .ok (.iload_n 2, 1) := by decide +kernel
theorem dX0_passTurn_57 : decode cX0_passTurn 57 = .ok (.iload_n 1, 1) := by decide +kernel
theorem dX0_passTurn_58 : decode cX0_passTurn 58 = .ok (.invokestatic 56, 3) := by decide +kernel
theorem dX0_passTurn_61 : decode cX0_passTurn 61 = .ok (.invokevirtual 59, 3) := by decide +kernel
theorem dX0_passTurn_64 : decode cX0_passTurn 64 = .ok (.ifCond .ne 15, 3) := by decide +kernel
theorem dX0_passTurn_67 : decode cX0_passTurn 67 = .ok (.aload_n 0, 1) := by decide +kernel
theorem dX0_passTurn_68 : decode cX0_passTurn 68 = .ok (.dup, 1) := by decide +kernel
theorem dX0_passTurn_69 : decode cX0_passTurn 69 = .ok (.getfield 34, 3) := by decide +kernel
theorem dX0_passTurn_72 : decode cX0_passTurn 72 = .ok (.iconst 1, 1) := by decide +kernel
theorem dX0_passTurn_73 : decode cX0_passTurn 73 = .ok (.iload_n 1, 1) := by decide +kernel
theorem dX0_passTurn_74 : decode cX0_passTurn 74 = .ok (.ishl, 1) := by decide +kernel
theorem dX0_passTurn_75 : decode cX0_passTurn 75 = .ok (.ior, 1) := by decide +kernel
theorem dX0_passTurn_76 : decode cX0_passTurn 76 = .ok (.putfield 34, 3) := by decide +kernel
theorem dX0_passTurn_79 : decode cX0_passTurn 79 = .ok (.aload_n 0, 1) := by decide +kernel
theorem dX0_passTurn_80 : decode cX0_passTurn 80 = .ok (.getfield 11, 3) := by decide +kernel
theorem dX0_passTurn_83 : decode cX0_passTurn 83 = .ok (.astore_n 3, 1) := by decide +kernel
theorem dX0_passTurn_84 : decode cX0_passTurn 84 = .ok (.aload_n 3, 1) := by decide +kernel
theorem dX0_passTurn_85 : decode cX0_passTurn 85 = .ok (.arraylength, 1) := by decide +kernel
theorem dX0_passTurn_86 : decode cX0_passTurn 86 = .ok (.istore 4, 2) := by decide +kernel
theorem dX0_passTurn_88 : decode cX0_passTurn 88 = .ok (.iconst 0, 1) := by decide +kernel
theorem dX0_passTurn_89 : decode cX0_passTurn 89 = .ok (.istore 5, 2) := by decide +kernel
theorem dX0_passTurn_91 : decode cX0_passTurn 91 = .ok (.iload 5, 2) := by decide +kernel
theorem dX0_passTurn_93 : decode cX0_passTurn 93 = .ok (.iload 4, 2) := by decide +kernel
theorem dX0_passTurn_95 : decode cX0_passTurn 95 = .ok (.if_icmp .ge 35, 3) := by decide +kernel
theorem dX0_passTurn_98 : decode cX0_passTurn 98 = .ok (.aload_n 3, 1) := by decide +kernel
theorem dX0_passTurn_99 : decode cX0_passTurn 99 = .ok (.iload 5, 2) := by decide +kernel
theorem dX0_passTurn_101 : decode cX0_passTurn 101 = .ok (.aaload, 1) := by decide +kernel
theorem dX0_passTurn_102 : decode cX0_passTurn 102 = .ok (.astore 6, 2) := by decide +kernel
theorem dX0_passTurn_104 : decode cX0_passTurn 104 = .ok (.aload 6, 2) := by decide +kernel
theorem dX0_passTurn_106 : decode cX0_passTurn 106 = .ok (.ifnull 18, 3) := by decide +kernel
theorem dX0_passTurn_109 : decode cX0_passTurn 109 = .ok (.aload_n 0, 1) := by decide +kernel
theorem dX0_passTurn_110 : decode cX0_passTurn 110 = .ok (.dup, 1) := by decide +kernel
theorem dX0_passTurn_111 : decode cX0_passTurn 111 = .ok (.getfield 31, 3) := by decide +kernel
theorem dX0_passTurn_114 : decode cX0_passTurn 114 = .ok (.aload_n 0, 1) := by decide +kernel
theorem dX0_passTurn_115 : decode cX0_passTurn 115 = .ok (.aload 6, 2) := by decide +kernel
theorem dX0_passTurn_117 : decode cX0_passTurn 117 = .ok (.invokevirtual 63, 3) := by decide +kernel
theorem dX0_passTurn_120 : decode cX0_passTurn 120 = .ok (.iadd, 1) := by decide +kernel
theorem dX0_passTurn_121 : decode cX0_passTurn 121 = .ok (.putfield 31, 3) := by decide +kernel
theorem dX0_passTurn_124 : decode cX0_passTurn 124 = .ok (.iinc 5 1, 3) := by decide +kernel
theorem dX0_passTurn_127 : decode cX0_passTurn 127 = .ok (.goto (-36), 3) := by decide +kernel
theorem dX0_passTurn_130 : decode cX0_passTurn 130 = .ok (.return_, 1) := by decide +kernel
theorem dX0_tideOf_0 : decode cX0_tideOf 0 = .ok (.iload_n 0, 1) := by decide +kernel
theorem dX0_tideOf_1 : decode cX0_tideOf 1 = .ok (.iconst 3, 1) := by decide +kernel
theorem dX0_tideOf_2 : decode cX0_tideOf 2 = .ok (.iand, 1) := by decide +kernel
theorem dX0_tideOf_3 : decode cX0_tideOf 3 = .ok (.istore_n 1, 1) := by decide +kernel
theorem dX0_tideOf_4 : decode cX0_tideOf 4 = .ok (.iload_n 1, 1) := by decide +kernel
theorem dX0_tideOf_5 : decode cX0_tideOf 5 = .ok (.iconst 3, 1) := by decide +kernel
theorem dX0_tideOf_6 : decode cX0_tideOf 6 = .ok (.if_icmp .ne 7, 3) := by decide +kernel
theorem dX0_tideOf_9 : decode cX0_tideOf 9 = .ok (.iconst 1, 1) := by decide +kernel
theorem dX0_tideOf_10 : decode cX0_tideOf 10 = .ok (.goto 4, 3) := by decide +kernel
theorem dX0_tideOf_13 : decode cX0_tideOf 13 = .ok (.iload_n 1, 1) := by decide +kernel
theorem dX0_tideOf_14 : decode cX0_tideOf 14 = .ok (.ireturn, 1) := by decide +kernel
set_option maxRecDepth 20000 in
theorem ggX0_carryOut_X0_shipOrNull : GoodIn wsX0_carryOut wsX0_shipOrNull := goodIn_r _ [5, 6, 27, 28, 29, 30, 31, 32, 33] (by decide +kernel) (by decide +kernel)
set_option maxRecDepth 20000 in
theorem gX0_carryOut_X0_shipOrNull : GoodIn wsX0_carryOut (wsV RX0 67 RX0 yX0_shipOrNull wsX0_shipOrNull) := goodIn_app (goodIn_of _ (by decide +kernel)) ggX0_carryOut_X0_shipOrNull
set_option maxRecDepth 20000 in
theorem ggX0_carryOut_X0_putToBerth : GoodIn wsX0_carryOut wsX0_putToBerth := goodIn_r _ [10, 11, 12, 13, 4, 14, 6, 22, 23, 24, 25, 26, 27, 28, 29, 30, 31, 32, 33] (by decide +kernel) (by decide +kernel)
set_option maxRecDepth 20000 in
theorem gX0_carryOut_X0_putToBerth : GoodIn wsX0_carryOut (wsV RX0 74 RX0 yX0_putToBerth wsX0_putToBerth) := goodIn_app (goodIn_of _ (by decide +kernel)) ggX0_carryOut_X0_putToBerth
set_option maxRecDepth 20000 in
theorem ggX0_carryOut_X0_letLeave : GoodIn wsX0_carryOut wsX0_letLeave := goodIn_r _ [18, 19, 20, 21, 22, 23, 24, 25, 26] (by decide +kernel) (by decide +kernel)
set_option maxRecDepth 20000 in
theorem gX0_carryOut_X0_letLeave : GoodIn wsX0_carryOut (wsV RX0 78 RX0 yX0_letLeave wsX0_letLeave) := goodIn_app (goodIn_of _ (by decide +kernel)) ggX0_carryOut_X0_letLeave
theorem dX0_carryOut_0 : decode cX0_carryOut 0 = .ok (.aload_n 0, 1) := by decide +kernel
theorem dX0_carryOut_1 : decode cX0_carryOut 1 = .ok (.iload_n 1, 1) := by decide +kernel
theorem dX0_carryOut_2 : decode cX0_carryOut 2 = .ok (.bipush 10, 2) := by decide +kernel
theorem dX0_carryOut_4 : decode cX0_carryOut 4 = .ok (.idiv, 1) := by decide +kernel
theorem dX0_carryOut_5 : decode cX0_carryOut 5 = .ok (.bipush 10, 2) := by decide +kernel
theorem dX0_carryOut_7 : decode cX0_carryOut 7 = .ok (.irem, 1) := by decide +kernel
theorem dX0_carryOut_8 : decode cX0_carryOut 8 = .ok (.invokevirtual 67, 3) := by decide +kernel
theorem dX0_carryOut_11 : decode cX0_carryOut 11 = .ok (.astore_n 3, 1) := by decide +kernel
theorem dX0_carryOut_12 : decode cX0_carryOut 12 = .ok (.aload_n 3, 1) := by decide +kernel
theorem dX0_carryOut_13 : decode cX0_carryOut 13 = .ok (.ifnull 11, 3) := by decide +kernel
theorem dX0_carryOut_16 : decode cX0_carryOut 16 = .ok (.iload_n 2, 1) := by decide +kernel
theorem dX0_carryOut_17 : decode cX0_carryOut 17 = .ok (.aload_n 3, 1) := by decide +kernel
theorem dX0_carryOut_18 : decode cX0_carryOut 18 = .ok (.getfield 71, 3) := by decide +kernel
theorem dX0_carryOut_21 : decode cX0_carryOut 21 = .ok (.if_icmp .ge 5, 3) := by decide +kernel
theorem dX0_carryOut_24 : decode cX0_carryOut 24 = .ok (.iconst 0, 1) := by decide +kernel
theorem dX0_carryOut_25 : decode cX0_carryOut 25 = .ok (.ireturn, 1) := by decide +kernel
theorem dX0_carryOut_26 : decode cX0_carryOut 26 = .ok (.iload_n 1, 1) := by decide +kernel
theorem dX0_carryOut_27 : decode cX0_carryOut 27 = .ok (.bipush 100, 2) := by decide +kernel
theorem dX0_carryOut_29 : decode cX0_carryOut 29 = .ok (.idiv, 1) := by decide +kernel
theorem dX0_carryOut_30 : decode cX0_carryOut 30 = .ok (.iconst 1, 1) := by decide +kernel
theorem dX0_carryOut_31 : decode cX0_carryOut 31 = .ok (.if_icmp .ne 15, 3) := by decide +kernel
theorem dX0_carryOut_34 : decode cX0_carryOut 34 = .ok (.aload_n 0, 1) := by decide +kernel
theorem dX0_carryOut_35 : decode cX0_carryOut 35 = .ok (.aload_n 3, 1) := by decide +kernel
theorem dX0_carryOut_36 : decode cX0_carryOut 36 = .ok (.iload_n 1, 1) := by decide +kernel
theorem dX0_carryOut_37 : decode cX0_carryOut 37 = .ok (.bipush 10, 2) := by decide +kernel
theorem dX0_carryOut_39 : decode cX0_carryOut 39 = .ok (.irem, 1) := by decide +kernel
theorem dX0_carryOut_40 : decode cX0_carryOut 40 = .ok (.invokevirtual 74, 3) := by decide +kernel
theorem dX0_carryOut_43 : decode cX0_carryOut 43 = .ok (.goto 8, 3) := by decide +kernel
theorem dX0_carryOut_46 : decode cX0_carryOut 46 = .ok (.aload_n 0, 1) := by decide +kernel
theorem dX0_carryOut_47 : decode cX0_carryOut 47 = .ok (.aload_n 3, 1) := by decide +kernel
theorem dX0_carryOut_48 : decode cX0_carryOut 48 = .ok (.invokevirtual 78, 3) := by decide +kernel
theorem dX0_carryOut_51 : decode cX0_carryOut 51 = .ok (.ireturn, 1) := by decide +kernel
set_option maxRecDepth 20000 in
theorem ggX0_putToBerth_X0_isTaken : GoodIn wsX0_putToBerth wsX0_isTaken := goodIn_r _ [5, 6, 12, 13, 14, 15, 16, 17, 18, 7, 8, 9, 10, 11] (by decide +kernel) (by decide +kernel)
set_option maxRecDepth 20000 in
theorem gX0_putToBerth_X0_isTaken : GoodIn wsX0_putToBerth (wsV RX0 82 RX0 yX0_isTaken wsX0_isTaken) := goodIn_app (goodIn_of _ (by decide +kernel)) ggX0_putToBerth_X0_isTaken
theorem dX0_putToBerth_0 : decode cX0_putToBerth 0 = .ok (.aload_n 1, 1) := by decide +kernel
theorem dX0_putToBerth_1 : decode cX0_putToBerth 1 = .ok (.getfield 53, 3) := by decide +kernel
theorem dX0_putToBerth_4 : decode cX0_putToBerth 4 = .ok (.iconst (-1), 1) := by decide +kernel
theorem dX0_putToBerth_5 : decode cX0_putToBerth 5 = .ok (.if_icmp .ne 11, 3) := by decide +kernel
theorem dX0_putToBerth_8 : decode cX0_putToBerth 8 = .ok (.aload_n 0, 1) := by decide +kernel
theorem dX0_putToBerth_9 : decode cX0_putToBerth 9 = .ok (.iload_n 2, 1) := by decide +kernel
theorem dX0_putToBerth_10 : decode cX0_putToBerth 10 = .ok (.invokevirtual 82, 3) := by decide +kernel
theorem dX0_putToBerth_13 : decode cX0_putToBerth 13 = .ok (.ifCond .eq 5, 3) := by decide +kernel
theorem dX0_putToBerth_16 : decode cX0_putToBerth 16 = .ok (.iconst 0, 1) := by decide +kernel
theorem dX0_putToBerth_17 : decode cX0_putToBerth 17 = .ok (.ireturn, 1) := by decide +kernel
theorem dX0_putToBerth_18 : decode cX0_putToBerth 18 = .ok (.aload_n 1, 1) := by decide +kernel
theorem dX0_putToBerth_19 : decode cX0_putToBerth 19 = .ok (.iload_n 2, 1) := by decide +kernel
theorem dX0_putToBerth_20 : decode cX0_putToBerth 20 = .ok (.putfield 53, 3) := by decide +kernel
theorem dX0_putToBerth_23 : decode cX0_putToBerth 23 = .ok (.iconst 1, 1) := by decide +kernel
theorem dX0_putToBerth_24 : decode cX0_putToBerth 24 = .ok (.ireturn, 1) := by decide +kernel
set_option maxRecDepth 20000 in
theorem ggX0_letLeave_X3_isBerth : GoodIn wsX0_letLeave wsX3_isBerth := goodIn_r _ [3] (by decide +kernel) (by decide +kernel)
set_option maxRecDepth 20000 in
theorem gX0_letLeave_X3_isBerth_n86 : GoodIn wsX0_letLeave (wsX3_isBerth) := ggX0_letLeave_X3_isBerth
theorem dX0_letLeave_0 : decode cX0_letLeave 0 = .ok (.aload_n 1, 1) := by decide +kernel
theorem dX0_letLeave_1 : decode cX0_letLeave 1 = .ok (.getfield 53, 3) := by decide +kernel
theorem dX0_letLeave_4 : decode cX0_letLeave 4 = .ok (.invokestatic 86, 3) := by decide +kernel
theorem dX0_letLeave_7 : decode cX0_letLeave 7 = .ok (.ifCond .eq 10, 3) := by decide +kernel
theorem dX0_letLeave_10 : decode cX0_letLeave 10 = .ok (.aload_n 1, 1) := by decide +kernel
theorem dX0_letLeave_11 : decode cX0_letLeave 11 = .ok (.getfield 89, 3) := by decide +kernel
theorem dX0_letLeave_14 : decode cX0_letLeave 14 = .ok (.ifCond .le 5, 3) := by decide +kernel
theorem dX0_letLeave_17 : decode cX0_letLeave 17 = .ok (.iconst 0, 1) := by decide +kernel
theorem dX0_letLeave_18 : decode cX0_letLeave 18 = .ok (.ireturn, 1) := by decide +kernel
theorem dX0_letLeave_19 : decode cX0_letLeave 19 = .ok (.aload_n 1, 1) := by decide +kernel
theorem dX0_letLeave_20 : decode cX0_letLeave 20 = .ok (.bipush (-3), 2) := by decide +kernel
theorem dX0_letLeave_22 : decode cX0_letLeave 22 = .ok (.putfield 53, 3) := by decide +kernel
theorem dX0_letLeave_25 : decode cX0_letLeave 25 = .ok (.iconst 1, 1) := by decide +kernel
theorem dX0_letLeave_26 : decode cX0_letLeave 26 = .ok (.ireturn, 1) := by decide +kernel
theorem dX0_isTaken_0 : decode cX0_isTaken 0 = .ok (.aload_n 0, 1) := by decide +kernel
theorem dX0_isTaken_1 : decode cX0_isTaken 1 = .ok (.getfield 11, 3) := by decide +kernel
theorem dX0_isTaken_4 : decode cX0_isTaken 4 = .ok (.astore_n 2, 1) := by decide +kernel
theorem dX0_isTaken_5 : decode cX0_isTaken 5 = .ok (.aload_n 2, 1) := by decide +kernel
theorem dX0_isTaken_6 : decode cX0_isTaken 6 = .ok (.arraylength, 1) := by decide +kernel
theorem dX0_isTaken_7 : decode cX0_isTaken 7 = .ok (.istore_n 3, 1) := by decide +kernel
theorem dX0_isTaken_8 : decode cX0_isTaken 8 = .ok (.iconst 0, 1) := by decide +kernel
theorem dX0_isTaken_9 : decode cX0_isTaken 9 = .ok (.istore 4, 2) := by decide +kernel
theorem dX0_isTaken_11 : decode cX0_isTaken 11 = .ok (.iload 4, 2) := by decide +kernel
theorem dX0_isTaken_13 : decode cX0_isTaken 13 = .ok (.iload_n 3, 1) := by decide +kernel
theorem dX0_isTaken_14 : decode cX0_isTaken 14 = .ok (.if_icmp .ge 31, 3) := by decide +kernel
theorem dX0_isTaken_17 : decode cX0_isTaken 17 = .ok (.aload_n 2, 1) := by decide +kernel
theorem dX0_isTaken_18 : decode cX0_isTaken 18 = .ok (.iload 4, 2) := by decide +kernel
theorem dX0_isTaken_20 : decode cX0_isTaken 20 = .ok (.aaload, 1) := by decide +kernel
theorem dX0_isTaken_21 : decode cX0_isTaken 21 = .ok (.astore 5, 2) := by decide +kernel
theorem dX0_isTaken_23 : decode cX0_isTaken 23 = .ok (.aload 5, 2) := by decide +kernel
theorem dX0_isTaken_25 : decode cX0_isTaken 25 = .ok (.ifnull 14, 3) := by decide +kernel
theorem dX0_isTaken_28 : decode cX0_isTaken 28 = .ok (.aload 5, 2) := by decide +kernel
theorem dX0_isTaken_30 : decode cX0_isTaken 30 = .ok (.getfield 53, 3) := by decide +kernel
theorem dX0_isTaken_33 : decode cX0_isTaken 33 = .ok (.iload_n 1, 1) := by decide +kernel
theorem dX0_isTaken_34 : decode cX0_isTaken 34 = .ok (.if_icmp .ne 5, 3) := by decide +kernel
theorem dX0_isTaken_37 : decode cX0_isTaken 37 = .ok (.iconst 1, 1) := by decide +kernel
theorem dX0_isTaken_38 : decode cX0_isTaken 38 = .ok (.ireturn, 1) := by decide +kernel
theorem dX0_isTaken_39 : decode cX0_isTaken 39 = .ok (.iinc 4 1, 3) := by decide +kernel
theorem dX0_isTaken_42 : decode cX0_isTaken 42 = .ok (.goto (-31), 3) := by decide +kernel
theorem dX0_isTaken_45 : decode cX0_isTaken 45 = .ok (.iconst 0, 1) := by decide +kernel
theorem dX0_isTaken_46 : decode cX0_isTaken 46 = .ok (.ireturn, 1) := by decide +kernel
set_option maxRecDepth 20000 in
theorem ggX0_earningInTurn_X3_isBerth : GoodIn wsX0_earningInTurn wsX3_isBerth := goodIn_r _ [6] (by decide +kernel) (by decide +kernel)
set_option maxRecDepth 20000 in
theorem gX0_earningInTurn_X3_isBerth_n86 : GoodIn wsX0_earningInTurn (wsX3_isBerth) := ggX0_earningInTurn_X3_isBerth
set_option maxRecDepth 20000 in
theorem ggX0_earningInTurn_X2_unload : GoodIn wsX0_earningInTurn wsX2_unload := goodIn_r _ [10, 11, 12, 13, 14, 15, 16, 17, 18, 19, 20] (by decide +kernel) (by decide +kernel)
set_option maxRecDepth 20000 in
theorem gX0_earningInTurn_X2_unload_n92 : GoodIn wsX0_earningInTurn (wsX2_unload) := ggX0_earningInTurn_X2_unload
theorem dX0_earningInTurn_0 : decode cX0_earningInTurn 0 = .ok (.aload_n 1, 1) := by decide +kernel
theorem dX0_earningInTurn_1 : decode cX0_earningInTurn 1 = .ok (.getfield 53, 3) := by decide +kernel
theorem dX0_earningInTurn_4 : decode cX0_earningInTurn 4 = .ok (.invokestatic 86, 3) := by decide +kernel
theorem dX0_earningInTurn_7 : decode cX0_earningInTurn 7 = .ok (.ifCond .eq 22, 3) := by decide +kernel
theorem dX0_earningInTurn_10 : decode cX0_earningInTurn 10 = .ok (.aload_n 0, 1) := by decide +kernel
theorem dX0_earningInTurn_11 : decode cX0_earningInTurn 11 = .ok (.getfield 25, 3) := by decide +kernel
theorem dX0_earningInTurn_14 : decode cX0_earningInTurn 14 = .ok (.aload_n 1, 1) := by decide +kernel
theorem dX0_earningInTurn_15 : decode cX0_earningInTurn 15 = .ok (.aload_n 0, 1) := by decide +kernel
theorem dX0_earningInTurn_16 : decode cX0_earningInTurn 16 = .ok (.getfield 21, 3) := by decide +kernel
theorem dX0_earningInTurn_19 : decode cX0_earningInTurn 19 = .ok (.aload_n 1, 1) := by decide +kernel
theorem dX0_earningInTurn_20 : decode cX0_earningInTurn 20 = .ok (.getfield 53, 3) := by decide +kernel
theorem dX0_earningInTurn_23 : decode cX0_earningInTurn 23 = .ok (.iaload, 1) := by decide +kernel
theorem dX0_earningInTurn_24 : decode cX0_earningInTurn 24 = .ok (.invokevirtual 92, 3) := by decide +kernel
theorem dX0_earningInTurn_27 : decode cX0_earningInTurn 27 = .ok (.imul, 1) := by decide +kernel
theorem dX0_earningInTurn_28 : decode cX0_earningInTurn 28 = .ok (.ireturn, 1) := by decide +kernel
theorem dX0_earningInTurn_29 : decode cX0_earningInTurn 29 = .ok (.aload_n 1, 1) := by decide +kernel
theorem dX0_earningInTurn_30 : decode cX0_earningInTurn 30 = .ok (.getfield 53, 3) := by decide +kernel
theorem dX0_earningInTurn_33 : decode cX0_earningInTurn 33 = .ok (.iconst (-1), 1) := by decide +kernel
theorem dX0_earningInTurn_34 : decode cX0_earningInTurn 34 = .ok (.if_icmp .ne 11, 3) := by decide +kernel
theorem dX0_earningInTurn_37 : decode cX0_earningInTurn 37 = .ok (.aload_n 0, 1) := by decide +kernel
theorem dX0_earningInTurn_38 : decode cX0_earningInTurn 38 = .ok (.getfield 28, 3) := by decide +kernel
theorem dX0_earningInTurn_41 : decode cX0_earningInTurn 41 = .ok (.ineg, 1) := by decide +kernel
theorem dX0_earningInTurn_42 : decode cX0_earningInTurn 42 = .ok (.goto 4, 3) := by decide +kernel
theorem dX0_earningInTurn_45 : decode cX0_earningInTurn 45 = .ok (.iconst 0, 1) := by decide +kernel
theorem dX0_earningInTurn_46 : decode cX0_earningInTurn 46 = .ok (.ireturn, 1) := by decide +kernel
theorem dX1_init_0 : decode cX1_init 0 = .ok (.aload_n 0, 1) := by decide +kernel
theorem dX1_init_1 : decode cX1_init 1 = .ok (.invokespecial 3, 3) := by decide +kernel
theorem dX1_init_4 : decode cX1_init 4 = .ok (.aload_n 0, 1) := by decide +kernel
theorem dX1_init_5 : decode cX1_init 5 = .ok (.bipush 30, 2) := by decide +kernel
theorem dX1_init_7 : decode cX1_init 7 = .ok (.newarray .int, 2) := by decide +kernel
theorem dX1_init_9 : decode cX1_init 9 = .ok (.putfield 9, 3) := by decide +kernel
theorem dX1_init_12 : decode cX1_init 12 = .ok (.aload_n 0, 1) := by decide +kernel
theorem dX1_init_13 : decode cX1_init 13 = .ok (.iconst 0, 1) := by decide +kernel
theorem dX1_init_14 : decode cX1_init 14 = .ok (.putfield 15, 3) := by decide +kernel
theorem dX1_init_17 : decode cX1_init 17 = .ok (.aload_n 0, 1) := by decide +kernel
theorem dX1_init_18 : decode cX1_init 18 = .ok (.iconst 0, 1) := by decide +kernel
theorem dX1_init_19 : decode cX1_init 19 = .ok (.putfield 19, 3) := by decide +kernel
theorem dX1_init_22 : decode cX1_init 22 = .ok (.aload_n 0, 1) := by decide +kernel
theorem dX1_init_23 : decode cX1_init 23 = .ok (.aload_n 1, 1) := by decide +kernel
theorem dX1_init_24 : decode cX1_init 24 = .ok (.putfield 22, 3) := by decide +kernel
theorem dX1_init_27 : decode cX1_init 27 = .ok (.aload_n 0, 1) := by decide +kernel
theorem dX1_init_28 : decode cX1_init 28 = .ok (.iload_n 2, 1) := by decide +kernel
theorem dX1_init_29 : decode cX1_init 29 = .ok (.putfield 26, 3) := by decide +kernel
theorem dX1_init_32 : decode cX1_init 32 = .ok (.aload_n 0, 1) := by decide +kernel
theorem dX1_init_33 : decode cX1_init 33 = .ok (.aload_n 1, 1) := by decide +kernel
theorem dX1_init_34 : decode cX1_init 34 = .ok (.ifnonnull 7, 3) := by decide +kernel
theorem dX1_init_37 : decode cX1_init 37 = .ok (.iconst (-1), 1) := by decide +kernel
theorem dX1_init_38 : decode cX1_init 38 = .ok (.goto 7, 3) := by decide +kernel
theorem dX1_init_41 : decode cX1_init 41 = .ok (.aload_n 1, 1) := by decide +kernel
theorem dX1_init_42 : decode cX1_init 42 = .ok (.getfield 29, 3) := by decide +kernel
theorem dX1_init_45 : decode cX1_init 45 = .ok (.putfield 29, 3) := by decide +kernel
theorem dX1_init_48 : decode cX1_init 48 = .ok (.return_, 1) := by decide +kernel
theorem dX1_hasOwn_0 : decode cX1_hasOwn 0 = .ok (.aload_n 0, 1) := by decide +kernel
theorem dX1_hasOwn_1 : decode cX1_hasOwn 1 = .ok (.getfield 15, 3) := by decide +kernel
theorem dX1_hasOwn_4 : decode cX1_hasOwn 4 = .ok (.iconst 1, 1) := by decide +kernel
theorem dX1_hasOwn_5 : decode cX1_hasOwn 5 = .ok (.iload_n 1, 1) := by decide +kernel
theorem dX1_hasOwn_6 : decode cX1_hasOwn 6 = .ok (.ishl, 1) := by decide +kernel
theorem dX1_hasOwn_7 : decode cX1_hasOwn 7 = .ok (.iand, 1) := by decide +kernel
theorem dX1_hasOwn_8 : decode cX1_hasOwn 8 = .ok (.ifCond .eq 7, 3) := by decide +kernel
theorem dX1_hasOwn_11 : decode cX1_hasOwn 11 = .ok (.iconst 1, 1) := by decide +kernel
theorem dX1_hasOwn_12 : decode cX1_hasOwn 12 = .ok (.goto 4, 3) := by decide +kernel
theorem dX1_hasOwn_15 : decode cX1_hasOwn 15 = .ok (.iconst 0, 1) := by decide +kernel
theorem dX1_hasOwn_16 : decode cX1_hasOwn 16 = .ok (.ireturn, 1) := by decide +kernel
set_option maxRecDepth 20000 in
theorem ggX1_orderFor_X1_hasOwn : GoodIn wsX1_orderFor wsX1_hasOwn := goodIn_r _ [7, 8, 9, 10, 11, 12, 13, 14] (by decide +kernel) (by decide +kernel)
set_option maxRecDepth 20000 in
theorem gX1_orderFor_X1_hasOwn : GoodIn wsX1_orderFor (wsV RX1 32 RX1 yX1_hasOwn wsX1_hasOwn) := goodIn_app (goodIn_of _ (by decide +kernel)) ggX1_orderFor_X1_hasOwn
theorem dX1_orderFor_0 : decode cX1_orderFor 0 = .ok (.aload_n 0, 1) := by decide +kernel
theorem dX1_orderFor_1 : decode cX1_orderFor 1 = .ok (.astore_n 2, 1) := by decide +kernel
theorem dX1_orderFor_2 : decode cX1_orderFor 2 = .ok (.aload_n 2, 1) := by decide +kernel
theorem dX1_orderFor_3 : decode cX1_orderFor 3 = .ok (.ifnull 26, 3) := by decide +kernel
theorem dX1_orderFor_6 : decode cX1_orderFor 6 = .ok (.aload_n 2, 1) := by decide +kernel
theorem dX1_orderFor_7 : decode cX1_orderFor 7 = .ok (.iload_n 1, 1) := by decide +kernel
theorem dX1_orderFor_8 : decode cX1_orderFor 8 = .ok (.invokevirtual 32, 3) := by decide +kernel
theorem dX1_orderFor_11 : decode cX1_orderFor 11 = .ok (.ifCond .eq 10, 3) := by decide +kernel
theorem dX1_orderFor_14 : decode cX1_orderFor 14 = .ok (.aload_n 2, 1) := by decide +kernel
theorem dX1_orderFor_15 : decode cX1_orderFor 15 = .ok (.getfield 9, 3) := by decide +kernel
theorem dX1_orderFor_18 : decode cX1_orderFor 18 = .ok (.iload_n 1, 1) := by decide +kernel
theorem dX1_orderFor_19 : decode cX1_orderFor 19 = .ok (.iaload, 1) := by decide +kernel
theorem dX1_orderFor_20 : decode cX1_orderFor 20 = .ok (.ireturn, 1) := by decide +kernel
theorem dX1_orderFor_21 : decode cX1_orderFor 21 = .ok (.aload_n 2, 1) := by decide +kernel
theorem dX1_orderFor_22 : decode cX1_orderFor 22 = .ok (.getfield 22, 3) := by decide +kernel
theorem dX1_orderFor_25 : decode cX1_orderFor 25 = .ok (.astore_n 2, 1) := by decide +kernel
theorem dX1_orderFor_26 : decode cX1_orderFor 26 = .ok (.goto (-24), 3) := by decide +kernel
theorem dX1_orderFor_29 : decode cX1_orderFor 29 = .ok (.iconst 0, 1) := by decide +kernel
theorem dX1_orderFor_30 : decode cX1_orderFor 30 = .ok (.ireturn, 1) := by decide +kernel
theorem dX1_give_0 : decode cX1_give 0 = .ok (.aload_n 0, 1) := by decide +kernel
theorem dX1_give_1 : decode cX1_give 1 = .ok (.getfield 22, 3) := by decide +kernel
theorem dX1_give_4 : decode cX1_give 4 = .ok (.ifnull 15, 3) := by decide +kernel
theorem dX1_give_7 : decode cX1_give 7 = .ok (.aload_n 0, 1) := by decide +kernel
theorem dX1_give_8 : decode cX1_give 8 = .ok (.getfield 29, 3) := by decide +kernel
theorem dX1_give_11 : decode cX1_give 11 = .ok (.iload_n 1, 1) := by decide +kernel
theorem dX1_give_12 : decode cX1_give 12 = .ok (.if_icmp .le 7, 3) := by decide +kernel
theorem dX1_give_15 : decode cX1_give 15 = .ok (.iconst 1, 1) := by decide +kernel
theorem dX1_give_16 : decode cX1_give 16 = .ok (.goto 4, 3) := by decide +kernel
theorem dX1_give_19 : decode cX1_give 19 = .ok (.iconst 0, 1) := by decide +kernel
theorem dX1_give_20 : decode cX1_give 20 = .ok (.istore_n 3, 1) := by decide +kernel
theorem dX1_give_21 : decode cX1_give 21 = .ok (.iload_n 3, 1) := by decide +kernel
theorem dX1_give_22 : decode cX1_give 22 = .ok (.ifCond .eq 15, 3) := by decide +kernel
theorem dX1_give_25 : decode cX1_give 25 = .ok (.aload_n 0, 1) := by decide +kernel
theorem dX1_give_26 : decode cX1_give 26 = .ok (.dup, 1) := by decide +kernel
theorem dX1_give_27 : decode cX1_give 27 = .ok (.getfield 19, 3) := by decide +kernel
theorem dX1_give_30 : decode cX1_give 30 = .ok (.iconst 1, 1) := by decide +kernel
theorem dX1_give_31 : decode cX1_give 31 = .ok (.iload_n 1, 1) := by decide +kernel
theorem dX1_give_32 : decode cX1_give 32 = .ok (.ishl, 1) := by decide +kernel
theorem dX1_give_33 : decode cX1_give 33 = .ok (.ior, 1) := by decide +kernel
theorem dX1_give_34 : decode cX1_give 34 = .ok (.putfield 19, 3) := by decide +kernel
theorem dX1_give_37 : decode cX1_give 37 = .ok (.aload_n 0, 1) := by decide +kernel
theorem dX1_give_38 : decode cX1_give 38 = .ok (.dup, 1) := by decide +kernel
theorem dX1_give_39 : decode cX1_give 39 = .ok (.getfield 15, 3) := by decide +kernel
theorem dX1_give_42 : decode cX1_give 42 = .ok (.iconst 1, 1) := by decide +kernel
theorem dX1_give_43 : decode cX1_give 43 = .ok (.iload_n 1, 1) := by decide +kernel
theorem dX1_give_44 : decode cX1_give 44 = .ok (.ishl, 1) := by decide +kernel
theorem dX1_give_45 : decode cX1_give 45 = .ok (.ior, 1) := by decide +kernel
theorem dX1_give_46 : decode cX1_give 46 = .ok (.putfield 15, 3) := by decide +kernel
theorem dX1_give_49 : decode cX1_give 49 = .ok (.aload_n 0, 1) := by decide +kernel
theorem dX1_give_50 : decode cX1_give 50 = .ok (.getfield 9, 3) := by decide +kernel
theorem dX1_give_53 : decode cX1_give 53 = .ok (.iload_n 1, 1) := by decide +kernel
theorem dX1_give_54 : decode cX1_give 54 = .ok (.iload_n 2, 1) := by decide +kernel
theorem dX1_give_55 : decode cX1_give 55 = .ok (.iastore, 1) := by decide +kernel
theorem dX1_give_56 : decode cX1_give 56 = .ok (.iload_n 3, 1) := by decide +kernel
theorem dX1_give_57 : decode cX1_give 57 = .ok (.ireturn, 1) := by decide +kernel
set_option maxRecDepth 20000 in
theorem ggX1_drop_X1_hasOwn : GoodIn wsX1_drop wsX1_hasOwn := goodIn_r _ [7, 1, 8, 9, 10, 11, 12, 13] (by decide +kernel) (by decide +kernel)
set_option maxRecDepth 20000 in
theorem gX1_drop_X1_hasOwn : GoodIn wsX1_drop (wsV RX1 32 RX1 yX1_hasOwn wsX1_hasOwn) := goodIn_app (goodIn_of _ (by decide +kernel)) ggX1_drop_X1_hasOwn
theorem dX1_drop_0 : decode cX1_drop 0 = .ok (.aload_n 0, 1) := by decide +kernel
theorem dX1_drop_1 : decode cX1_drop 1 = .ok (.iload_n 1, 1) := by decide +kernel
theorem dX1_drop_2 : decode cX1_drop 2 = .ok (.invokevirtual 32, 3) := by decide +kernel
theorem dX1_drop_5 : decode cX1_drop 5 = .ok (.istore_n 2, 1) := by decide +kernel
theorem dX1_drop_6 : decode cX1_drop 6 = .ok (.aload_n 0, 1) := by decide +kernel
theorem dX1_drop_7 : decode cX1_drop 7 = .ok (.dup, 1) := by decide +kernel
theorem dX1_drop_8 : decode cX1_drop 8 = .ok (.getfield 15, 3) := by decide +kernel
theorem dX1_drop_11 : decode cX1_drop 11 = .ok (.iconst 1, 1) := by decide +kernel
theorem dX1_drop_12 : decode cX1_drop 12 = .ok (.iload_n 1, 1) := by decide +kernel
theorem dX1_drop_13 : decode cX1_drop 13 = .ok (.ishl, 1) := by decide +kernel
theorem dX1_drop_14 : decode cX1_drop 14 = .ok (.iconst (-1), 1) := by decide +kernel
theorem dX1_drop_15 : decode cX1_drop 15 = .ok (.ixor, 1) := by decide +kernel
theorem dX1_drop_16 : decode cX1_drop 16 = .ok (.iand, 1) := by decide +kernel
theorem dX1_drop_17 : decode cX1_drop 17 = .ok (.putfield 15, 3) := by decide +kernel
theorem dX1_drop_20 : decode cX1_drop 20 = .ok (.aload_n 0, 1) := by decide +kernel
theorem dX1_drop_21 : decode cX1_drop 21 = .ok (.dup, 1) := by decide +kernel
theorem dX1_drop_22 : decode cX1_drop 22 = .ok (.getfield 19, 3) := by decide +kernel
theorem dX1_drop_25 : decode cX1_drop 25 = .ok (.iconst 1, 1) := by decide +kernel
theorem dX1_drop_26 : decode cX1_drop 26 = .ok (.iload_n 1, 1) := by decide +kernel
theorem dX1_drop_27 : decode cX1_drop 27 = .ok (.ishl, 1) := by decide +kernel
theorem dX1_drop_28 : decode cX1_drop 28 = .ok (.iconst (-1), 1) := by decide +kernel
theorem dX1_drop_29 : decode cX1_drop 29 = .ok (.ixor, 1) := by decide +kernel
theorem dX1_drop_30 : decode cX1_drop 30 = .ok (.iand, 1) := by decide +kernel
theorem dX1_drop_31 : decode cX1_drop 31 = .ok (.putfield 19, 3) := by decide +kernel
theorem dX1_drop_34 : decode cX1_drop 34 = .ok (.iload_n 2, 1) := by decide +kernel
theorem dX1_drop_35 : decode cX1_drop 35 = .ok (.ireturn, 1) := by decide +kernel
theorem dX2_init_0 : decode cX2_init 0 = .ok (.aload_n 0, 1) := by decide +kernel
theorem dX2_init_1 : decode cX2_init 1 = .ok (.invokespecial 3, 3) := by decide +kernel
theorem dX2_init_4 : decode cX2_init 4 = .ok (.aload_n 0, 1) := by decide +kernel
theorem dX2_init_5 : decode cX2_init 5 = .ok (.bipush (-2), 2) := by decide +kernel
theorem dX2_init_7 : decode cX2_init 7 = .ok (.putfield 9, 3) := by decide +kernel
theorem dX2_init_10 : decode cX2_init 10 = .ok (.aload_n 0, 1) := by decide +kernel
theorem dX2_init_11 : decode cX2_init 11 = .ok (.iload_n 1, 1) := by decide +kernel
theorem dX2_init_12 : decode cX2_init 12 = .ok (.putfield 15, 3) := by decide +kernel
theorem dX2_init_15 : decode cX2_init 15 = .ok (.aload_n 0, 1) := by decide +kernel
theorem dX2_init_16 : decode cX2_init 16 = .ok (.iload_n 2, 1) := by decide +kernel
theorem dX2_init_17 : decode cX2_init 17 = .ok (.putfield 18, 3) := by decide +kernel
theorem dX2_init_20 : decode cX2_init 20 = .ok (.aload_n 0, 1) := by decide +kernel
theorem dX2_init_21 : decode cX2_init 21 = .ok (.iload_n 3, 1) := by decide +kernel
theorem dX2_init_22 : decode cX2_init 22 = .ok (.putfield 21, 3) := by decide +kernel
theorem dX2_init_25 : decode cX2_init 25 = .ok (.aload_n 0, 1) := by decide +kernel
theorem dX2_init_26 : decode cX2_init 26 = .ok (.iload_n 3, 1) := by decide +kernel
theorem dX2_init_27 : decode cX2_init 27 = .ok (.putfield 24, 3) := by decide +kernel
theorem dX2_init_30 : decode cX2_init 30 = .ok (.return_, 1) := by decide +kernel
theorem dX2_startAfresh_0 : decode cX2_startAfresh 0 = .ok (.aload_n 0, 1) := by decide +kernel
theorem dX2_startAfresh_1 : decode cX2_startAfresh 1 = .ok (.bipush (-2), 2) := by decide +kernel
theorem dX2_startAfresh_3 : decode cX2_startAfresh 3 = .ok (.putfield 9, 3) := by decide +kernel
theorem dX2_startAfresh_6 : decode cX2_startAfresh 6 = .ok (.aload_n 0, 1) := by decide +kernel
theorem dX2_startAfresh_7 : decode cX2_startAfresh 7 = .ok (.aload_n 0, 1) := by decide +kernel
theorem dX2_startAfresh_8 : decode cX2_startAfresh 8 = .ok (.getfield 21, 3) := by decide +kernel
theorem dX2_startAfresh_11 : decode cX2_startAfresh 11 = .ok (.putfield 24, 3) := by decide +kernel
theorem dX2_startAfresh_14 : decode cX2_startAfresh 14 = .ok (.return_, 1) := by decide +kernel
theorem dX2_unload_0 : decode cX2_unload 0 = .ok (.iload_n 1, 1) := by decide +kernel
theorem dX2_unload_1 : decode cX2_unload 1 = .ok (.aload_n 0, 1) := by decide +kernel
theorem dX2_unload_2 : decode cX2_unload 2 = .ok (.getfield 24, 3) := by decide +kernel
theorem dX2_unload_5 : decode cX2_unload 5 = .ok (.invokestatic 27, 3) := by decide +kernel
theorem dX2_unload_8 : decode cX2_unload 8 = .ok (.istore_n 2, 1) := by decide +kernel
theorem dX2_unload_9 : decode cX2_unload 9 = .ok (.aload_n 0, 1) := by decide +kernel
theorem dX2_unload_10 : decode cX2_unload 10 = .ok (.dup, 1) := by decide +kernel
theorem dX2_unload_11 : decode cX2_unload 11 = .ok (.getfield 24, 3) := by decide +kernel
theorem dX2_unload_14 : decode cX2_unload 14 = .ok (.iload_n 2, 1) := by decide +kernel
theorem dX2_unload_15 : decode cX2_unload 15 = .ok (.isub, 1) := by decide +kernel
theorem dX2_unload_16 : decode cX2_unload 16 = .ok (.putfield 24, 3) := by decide +kernel
theorem dX2_unload_19 : decode cX2_unload 19 = .ok (.iload_n 2, 1) := by decide +kernel
theorem dX2_unload_20 : decode cX2_unload 20 = .ok (.ireturn, 1) := by decide +kernel
set_option maxRecDepth 20000 in
theorem ggX3_init_X0_init : GoodIn wsX3_init wsX0_init := goodIn_r _ [15, 16, 2, 3, 17, 18, 19, 20, 21, 22, 23, 24, 25, 35, 36, 37, 38, 39, 40, 41] (by decide +kernel) (by decide +kernel)
set_option maxRecDepth 20000 in
theorem gX3_init_X0_init_n11 : GoodIn wsX3_init (wsX0_init) := ggX3_init_X0_init
set_option maxRecDepth 20000 in
theorem ggX3_init_X1_init : GoodIn wsX3_init wsX1_init := goodIn_r _ [27, 28, 2, 3, 20, 29, 30, 31, 32, 33, 34, 46, 47, 48, 49, 50, 51] (by decide +kernel) (by decide +kernel)
set_option maxRecDepth 20000 in
theorem gX3_init_X1_init_n18 : GoodIn wsX3_init (wsX1_init) := ggX3_init_X1_init
