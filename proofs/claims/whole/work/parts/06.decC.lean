theorem dX4_init_0 : decode cX4_init 0 = .ok (.aload_n 0, 1) := by decide +kernel
theorem dX4_init_1 : decode cX4_init 1 = .ok (.invokespecial 1, 3) := by decide +kernel
theorem dX4_init_4 : decode cX4_init 4 = .ok (.aload_n 0, 1) := by decide +kernel
theorem dX4_init_5 : decode cX4_init 5 = .ok (.bipush 8, 2) := by decide +kernel
theorem dX4_init_7 : decode cX4_init 7 = .ok (.newarray .int, 2) := by decide +kernel
theorem dX4_init_9 : decode cX4_init 9 = .ok (.putfield 7, 3) := by decide +kernel
theorem dX4_init_12 : decode cX4_init 12 = .ok (.aload_n 0, 1) := by decide +kernel
theorem dX4_init_13 : decode cX4_init 13 = .ok (.bipush 8, 2) := by decide +kernel
theorem dX4_init_15 : decode cX4_init 15 = .ok (.newarray .int, 2) := by decide +kernel
theorem dX4_init_17 : decode cX4_init 17 = .ok (.putfield 13, 3) := by decide +kernel
theorem dX4_init_20 : decode cX4_init 20 = .ok (.aload_n 0, 1) := by decide +kernel
theorem dX4_init_21 : decode cX4_init 21 = .ok (.bipush 8, 2) := by decide +kernel
theorem dX4_init_23 : decode cX4_init 23 = .ok (.newarray .int, 2) := by decide +kernel
theorem dX4_init_25 : decode cX4_init 25 = .ok (.putfield 16, 3) := by decide +kernel
theorem dX4_init_28 : decode cX4_init 28 = .ok (.aload_n 0, 1) := by decide +kernel
theorem dX4_init_29 : decode cX4_init 29 = .ok (.iconst 3, 1) := by decide +kernel
theorem dX4_init_30 : decode cX4_init 30 = .ok (.newarray .int, 2) := by decide +kernel
theorem dX4_init_32 : decode cX4_init 32 = .ok (.putfield 19, 3) := by decide +kernel
theorem dX4_init_35 : decode cX4_init 35 = .ok (.aload_n 0, 1) := by decide +kernel
theorem dX4_init_36 : decode cX4_init 36 = .ok (.iconst 3, 1) := by decide +kernel
theorem dX4_init_37 : decode cX4_init 37 = .ok (.putfield 22, 3) := by decide +kernel
theorem dX4_init_40 : decode cX4_init 40 = .ok (.aload_n 0, 1) := by decide +kernel
theorem dX4_init_41 : decode cX4_init 41 = .ok (.iconst 1, 1) := by decide +kernel
theorem dX4_init_42 : decode cX4_init 42 = .ok (.putfield 26, 3) := by decide +kernel
theorem dX4_init_45 : decode cX4_init 45 = .ok (.aload_n 0, 1) := by decide +kernel
theorem dX4_init_46 : decode cX4_init 46 = .ok (.iconst 1, 1) := by decide +kernel
theorem dX4_init_47 : decode cX4_init 47 = .ok (.putfield 29, 3) := by decide +kernel
theorem dX4_init_50 : decode cX4_init 50 = .ok (.aload_n 0, 1) := by decide +kernel
theorem dX4_init_51 : decode cX4_init 51 = .ok (.bipush 9, 2) := by decide +kernel
theorem dX4_init_53 : decode cX4_init 53 = .ok (.newarray .int, 2) := by decide +kernel
theorem dX4_init_55 : decode cX4_init 55 = .ok (.putfield 32, 3) := by decide +kernel
theorem dX4_init_58 : decode cX4_init 58 = .ok (.aload_n 0, 1) := by decide +kernel
theorem dX4_init_59 : decode cX4_init 59 = .ok (.bipush 9, 2) := by decide +kernel
theorem dX4_init_61 : decode cX4_init 61 = .ok (.newarray .int, 2) := by decide +kernel
theorem dX4_init_63 : decode cX4_init 63 = .ok (.putfield 35, 3) := by decide +kernel
theorem dX4_init_66 : decode cX4_init 66 = .ok (.aload_n 0, 1) := by decide +kernel
theorem dX4_init_67 : decode cX4_init 67 = .ok (.bipush 9, 2) := by decide +kernel
theorem dX4_init_69 : decode cX4_init 69 = .ok (.newarray .int, 2) := by decide +kernel
theorem dX4_init_71 : decode cX4_init 71 = .ok (.putfield 38, 3) := by decide +kernel
theorem dX4_init_74 : decode cX4_init 74 = .ok (.aload_n 0, 1) := by decide +kernel
theorem dX4_init_75 : decode cX4_init 75 = .ok (.sipush 270, 3) := by decide +kernel
theorem dX4_init_78 : decode cX4_init 78 = .ok (.newarray .int, 2) := by decide +kernel
theorem dX4_init_80 : decode cX4_init 80 = .ok (.putfield 41, 3) := by decide +kernel
theorem dX4_init_83 : decode cX4_init 83 = .ok (.aload_n 0, 1) := by decide +kernel
theorem dX4_init_84 : decode cX4_init 84 = .ok (.sipush 270, 3) := by decide +kernel
theorem dX4_init_87 : decode cX4_init 87 = .ok (.newarray .boolean, 2) := by decide +kernel
theorem dX4_init_89 : decode cX4_init 89 = .ok (.putfield 44, 3) := by decide +kernel
theorem dX4_init_92 : decode cX4_init 92 = .ok (.aload_n 0, 1) := by decide +kernel
theorem dX4_init_93 : decode cX4_init 93 = .ok (.bipush 8, 2) := by decide +kernel
theorem dX4_init_95 : decode cX4_init 95 = .ok (.newarray .int, 2) := by decide +kernel
theorem dX4_init_97 : decode cX4_init 97 = .ok (.putfield 48, 3) := by decide +kernel
theorem dX4_init_100 : decode cX4_init 100 = .ok (.aload_n 0, 1) := by decide +kernel
theorem dX4_init_101 : decode cX4_init 101 = .ok (.bipush 8, 2) := by decide +kernel
theorem dX4_init_103 : decode cX4_init 103 = .ok (.newarray .int, 2) := by decide +kernel
theorem dX4_init_105 : decode cX4_init 105 = .ok (.putfield 51, 3) := by decide +kernel
theorem dX4_init_108 : decode cX4_init 108 = .ok (.iconst 0, 1) := by decide +kernel
theorem dX4_init_109 : decode cX4_init 109 = .ok (.istore_n 1, 1) := by decide +kernel
theorem dX4_init_110 : decode cX4_init 110 = .ok (.iload_n 1, 1) := by decide +kernel
theorem dX4_init_111 : decode cX4_init 111 = .ok (.iconst 3, 1) := by decide +kernel
theorem dX4_init_112 : decode cX4_init 112 = .ok (.if_icmp .ge 16, 3) := by decide +kernel
theorem dX4_init_115 : decode cX4_init 115 = .ok (.aload_n 0, 1) := by decide +kernel
theorem dX4_init_116 : decode cX4_init 116 = .ok (.getfield 19, 3) := by decide +kernel
theorem dX4_init_119 : decode cX4_init 119 = .ok (.iload_n 1, 1) := by decide +kernel
theorem dX4_init_120 : decode cX4_init 120 = .ok (.iconst 4, 1) := by decide +kernel
theorem dX4_init_121 : decode cX4_init 121 = .ok (.iastore, 1) := by decide +kernel
theorem dX4_init_122 : decode cX4_init 122 = .ok (.iinc 1 1, 3) := by decide +kernel
theorem dX4_init_125 : decode cX4_init 125 = .ok (.goto (-15), 3) := by decide +kernel
theorem dX4_init_128 : decode cX4_init 128 = .ok (.iconst 0, 1) := by decide +kernel
theorem dX4_init_129 : decode cX4_init 129 = .ok (.istore_n 1, 1) := by decide +kernel
theorem dX4_init_130 : decode cX4_init 130 = .ok (.iload_n 1, 1) := by decide +kernel
theorem dX4_init_131 : decode cX4_init 131 = .ok (.sipush 270, 3) := by decide +kernel
theorem dX4_init_134 : decode cX4_init 134 = .ok (.if_icmp .ge 16, 3) := by decide +kernel
theorem dX4_init_137 : decode cX4_init 137 = .ok (.aload_n 0, 1) := by decide +kernel
theorem dX4_init_138 : decode cX4_init 138 = .ok (.getfield 41, 3) := by decide +kernel
theorem dX4_init_141 : decode cX4_init 141 = .ok (.iload_n 1, 1) := by decide +kernel
theorem dX4_init_142 : decode cX4_init 142 = .ok (.iconst (-1), 1) := by decide +kernel
theorem dX4_init_143 : decode cX4_init 143 = .ok (.iastore, 1) := by decide +kernel
theorem dX4_init_144 : decode cX4_init 144 = .ok (.iinc 1 1, 3) := by decide +kernel
theorem dX4_init_147 : decode cX4_init 147 = .ok (.goto (-17), 3) := by decide +kernel
theorem dX4_init_150 : decode cX4_init 150 = .ok (.aload_n 0, 1) := by decide +kernel
theorem dX4_init_151 : decode cX4_init 151 = .ok (.getfield 32, 3) := by decide +kernel
theorem dX4_init_154 : decode cX4_init 154 = .ok (.iconst 0, 1) := by decide +kernel
theorem dX4_init_155 : decode cX4_init 155 = .ok (.iconst (-1), 1) := by decide +kernel
theorem dX4_init_156 : decode cX4_init 156 = .ok (.iastore, 1) := by decide +kernel
theorem dX4_init_157 : decode cX4_init 157 = .ok (.aload_n 0, 1) := by decide +kernel
theorem dX4_init_158 : decode cX4_init 158 = .ok (.getfield 38, 3) := by decide +kernel
theorem dX4_init_161 : decode cX4_init 161 = .ok (.iconst 0, 1) := by decide +kernel
theorem dX4_init_162 : decode cX4_init 162 = .ok (.iconst (-1), 1) := by decide +kernel
theorem dX4_init_163 : decode cX4_init 163 = .ok (.iastore, 1) := by decide +kernel
theorem dX4_init_164 : decode cX4_init 164 = .ok (.return_, 1) := by decide +kernel
theorem dX4_thrown_0 : decode cX4_thrown 0 = .ok (.aload_n 0, 1) := by decide +kernel
theorem dX4_thrown_1 : decode cX4_thrown 1 = .ok (.getfield 54, 3) := by decide +kernel
theorem dX4_thrown_4 : decode cX4_thrown 4 = .ok (.ireturn, 1) := by decide +kernel
theorem dX4_fails_0 : decode cX4_fails 0 = .ok (.aload_n 0, 1) := by decide +kernel
theorem dX4_fails_1 : decode cX4_fails 1 = .ok (.iload_n 1, 1) := by decide +kernel
theorem dX4_fails_2 : decode cX4_fails 2 = .ok (.putfield 54, 3) := by decide +kernel
theorem dX4_fails_5 : decode cX4_fails 5 = .ok (.iload_n 1, 1) := by decide +kernel
theorem dX4_fails_6 : decode cX4_fails 6 = .ok (.ifCond .le 7, 3) := by decide +kernel
theorem dX4_fails_9 : decode cX4_fails 9 = .ok (.iconst 1, 1) := by decide +kernel
theorem dX4_fails_10 : decode cX4_fails 10 = .ok (.goto 4, 3) := by decide +kernel
theorem dX4_fails_13 : decode cX4_fails 13 = .ok (.iconst 0, 1) := by decide +kernel
theorem dX4_fails_14 : decode cX4_fails 14 = .ok (.ireturn, 1) := by decide +kernel
theorem dX4_isIn_0 : decode cX4_isIn 0 = .ok (.iload_n 0, 1) := by decide +kernel
theorem dX4_isIn_1 : decode cX4_isIn 1 = .ok (.iload_n 1, 1) := by decide +kernel
theorem dX4_isIn_2 : decode cX4_isIn 2 = .ok (.if_icmp .lt 12, 3) := by decide +kernel
theorem dX4_isIn_5 : decode cX4_isIn 5 = .ok (.iload_n 0, 1) := by decide +kernel
theorem dX4_isIn_6 : decode cX4_isIn 6 = .ok (.iload_n 2, 1) := by decide +kernel
theorem dX4_isIn_7 : decode cX4_isIn 7 = .ok (.if_icmp .gt 7, 3) := by decide +kernel
theorem dX4_isIn_10 : decode cX4_isIn 10 = .ok (.iconst 1, 1) := by decide +kernel
theorem dX4_isIn_11 : decode cX4_isIn 11 = .ok (.goto 4, 3) := by decide +kernel
theorem dX4_isIn_14 : decode cX4_isIn 14 = .ok (.iconst 0, 1) := by decide +kernel
theorem dX4_isIn_15 : decode cX4_isIn 15 = .ok (.ireturn, 1) := by decide +kernel
set_option maxRecDepth 20000 in
theorem ggX4_isShip_X4_isIn : GoodIn wsX4_isShip wsX4_isIn := goodIn_r _ [5] (by decide +kernel) (by decide +kernel)
set_option maxRecDepth 20000 in
theorem gX4_isShip_X4_isIn : GoodIn wsX4_isShip (va_wsS RX4 60 yX4_isIn wsX4_isIn) := goodIn_app (goodIn_of _ (by decide +kernel)) ggX4_isShip_X4_isIn
theorem dX4_isShip_0 : decode cX4_isShip 0 = .ok (.iload_n 1, 1) := by decide +kernel
theorem dX4_isShip_1 : decode cX4_isShip 1 = .ok (.iconst 0, 1) := by decide +kernel
theorem dX4_isShip_2 : decode cX4_isShip 2 = .ok (.aload_n 0, 1) := by decide +kernel
theorem dX4_isShip_3 : decode cX4_isShip 3 = .ok (.getfield 57, 3) := by decide +kernel
theorem dX4_isShip_6 : decode cX4_isShip 6 = .ok (.iconst 1, 1) := by decide +kernel
theorem dX4_isShip_7 : decode cX4_isShip 7 = .ok (.isub, 1) := by decide +kernel
theorem dX4_isShip_8 : decode cX4_isShip 8 = .ok (.invokestatic 60, 3) := by decide +kernel
theorem dX4_isShip_11 : decode cX4_isShip 11 = .ok (.ireturn, 1) := by decide +kernel
set_option maxRecDepth 20000 in
theorem ggX4_isBerth_X4_isIn : GoodIn wsX4_isBerth wsX4_isIn := goodIn_r _ [4] (by decide +kernel) (by decide +kernel)
set_option maxRecDepth 20000 in
theorem gX4_isBerth_X4_isIn : GoodIn wsX4_isBerth (va_wsS RX4 60 yX4_isIn wsX4_isIn) := goodIn_app (goodIn_of _ (by decide +kernel)) ggX4_isBerth_X4_isIn
theorem dX4_isBerth_0 : decode cX4_isBerth 0 = .ok (.iload_n 0, 1) := by decide +kernel
theorem dX4_isBerth_1 : decode cX4_isBerth 1 = .ok (.iconst 0, 1) := by decide +kernel
theorem dX4_isBerth_2 : decode cX4_isBerth 2 = .ok (.iconst 2, 1) := by decide +kernel
theorem dX4_isBerth_3 : decode cX4_isBerth 3 = .ok (.invokestatic 60, 3) := by decide +kernel
theorem dX4_isBerth_6 : decode cX4_isBerth 6 = .ok (.ireturn, 1) := by decide +kernel
set_option maxRecDepth 20000 in
theorem ggX4_isLine_X4_isIn : GoodIn wsX4_isLine wsX4_isIn := goodIn_r _ [5] (by decide +kernel) (by decide +kernel)
set_option maxRecDepth 20000 in
theorem gX4_isLine_X4_isIn : GoodIn wsX4_isLine (va_wsS RX4 60 yX4_isIn wsX4_isIn) := goodIn_app (goodIn_of _ (by decide +kernel)) ggX4_isLine_X4_isIn
theorem dX4_isLine_0 : decode cX4_isLine 0 = .ok (.iload_n 1, 1) := by decide +kernel
theorem dX4_isLine_1 : decode cX4_isLine 1 = .ok (.iconst 0, 1) := by decide +kernel
theorem dX4_isLine_2 : decode cX4_isLine 2 = .ok (.aload_n 0, 1) := by decide +kernel
theorem dX4_isLine_3 : decode cX4_isLine 3 = .ok (.getfield 29, 3) := by decide +kernel
theorem dX4_isLine_6 : decode cX4_isLine 6 = .ok (.iconst 1, 1) := by decide +kernel
theorem dX4_isLine_7 : decode cX4_isLine 7 = .ok (.isub, 1) := by decide +kernel
theorem dX4_isLine_8 : decode cX4_isLine 8 = .ok (.invokestatic 60, 3) := by decide +kernel
theorem dX4_isLine_11 : decode cX4_isLine 11 = .ok (.ireturn, 1) := by decide +kernel
set_option maxRecDepth 20000 in
theorem ggX4_isTurn_X4_isIn : GoodIn wsX4_isTurn wsX4_isIn := goodIn_r _ [4] (by decide +kernel) (by decide +kernel)
set_option maxRecDepth 20000 in
theorem gX4_isTurn_X4_isIn : GoodIn wsX4_isTurn (va_wsS RX4 60 yX4_isIn wsX4_isIn) := goodIn_app (goodIn_of _ (by decide +kernel)) ggX4_isTurn_X4_isIn
theorem dX4_isTurn_0 : decode cX4_isTurn 0 = .ok (.iload_n 0, 1) := by decide +kernel
theorem dX4_isTurn_1 : decode cX4_isTurn 1 = .ok (.iconst 0, 1) := by decide +kernel
theorem dX4_isTurn_2 : decode cX4_isTurn 2 = .ok (.bipush 29, 2) := by decide +kernel
theorem dX4_isTurn_4 : decode cX4_isTurn 4 = .ok (.invokestatic 60, 3) := by decide +kernel
theorem dX4_isTurn_7 : decode cX4_isTurn 7 = .ok (.ireturn, 1) := by decide +kernel
set_option maxRecDepth 20000 in
theorem ggX4_addShip_X4_isTurn : GoodIn wsX4_addShip wsX4_isTurn := goodIn_r _ [8, 9, 10, 7, 11] (by decide +kernel) (by decide +kernel)
set_option maxRecDepth 20000 in
theorem gX4_addShip_X4_isTurn : GoodIn wsX4_addShip (va_wsS RX4 64 yX4_isTurn wsX4_isTurn) := goodIn_app (goodIn_of _ (by decide +kernel)) ggX4_addShip_X4_isTurn
set_option maxRecDepth 20000 in
theorem ggX4_addShip_X4_isIn : GoodIn wsX4_addShip wsX4_isIn := goodIn_r _ [11] (by decide +kernel) (by decide +kernel)
set_option maxRecDepth 20000 in
theorem gX4_addShip_X4_isIn : GoodIn wsX4_addShip (va_wsS RX4 60 yX4_isIn wsX4_isIn) := goodIn_app (goodIn_of _ (by decide +kernel)) ggX4_addShip_X4_isIn
set_option maxRecDepth 20000 in
theorem ggX4_addShip_X4_fails : GoodIn wsX4_addShip wsX4_fails := goodIn_r _ [15, 16, 17, 18, 19, 20, 21, 22, 23, 24, 25, 26, 27, 28, 29, 30, 31, 32, 33, 34] (by decide +kernel) (by decide +kernel)
set_option maxRecDepth 20000 in
theorem gX4_addShip_X4_fails : GoodIn wsX4_addShip (wsV RX4 68 RX4 yX4_fails wsX4_fails) := goodIn_app (goodIn_of _ (by decide +kernel)) ggX4_addShip_X4_fails
theorem dX4_addShip_0 : decode cX4_addShip 0 = .ok (.iload_n 1, 1) := by decide +kernel
theorem dX4_addShip_1 : decode cX4_addShip 1 = .ok (.invokestatic 64, 3) := by decide +kernel
theorem dX4_addShip_4 : decode cX4_addShip 4 = .ok (.ifCond .eq 26, 3) := by decide +kernel
theorem dX4_addShip_7 : decode cX4_addShip 7 = .ok (.iload_n 2, 1) := by decide +kernel
theorem dX4_addShip_8 : decode cX4_addShip 8 = .ok (.iconst 0, 1) := by decide +kernel
theorem dX4_addShip_9 : decode cX4_addShip 9 = .ok (.iconst 2, 1) := by decide +kernel
theorem dX4_addShip_10 : decode cX4_addShip 10 = .ok (.invokestatic 60, 3) := by decide +kernel
theorem dX4_addShip_13 : decode cX4_addShip 13 = .ok (.ifCond .eq 17, 3) := by decide +kernel
theorem dX4_addShip_16 : decode cX4_addShip 16 = .ok (.iload_n 3, 1) := by decide +kernel
theorem dX4_addShip_17 : decode cX4_addShip 17 = .ok (.iconst 1, 1) := by decide +kernel
theorem dX4_addShip_18 : decode cX4_addShip 18 = .ok (.bipush 100, 2) := by decide +kernel
theorem dX4_addShip_20 : decode cX4_addShip 20 = .ok (.invokestatic 60, 3) := by decide +kernel
theorem dX4_addShip_23 : decode cX4_addShip 23 = .ok (.ifCond .eq 7, 3) := by decide +kernel
theorem dX4_addShip_26 : decode cX4_addShip 26 = .ok (.iconst 1, 1) := by decide +kernel
theorem dX4_addShip_27 : decode cX4_addShip 27 = .ok (.goto 4, 3) := by decide +kernel
theorem dX4_addShip_30 : decode cX4_addShip 30 = .ok (.iconst 0, 1) := by decide +kernel
theorem dX4_addShip_31 : decode cX4_addShip 31 = .ok (.istore 4, 2) := by decide +kernel
theorem dX4_addShip_33 : decode cX4_addShip 33 = .ok (.aload_n 0, 1) := by decide +kernel
theorem dX4_addShip_34 : decode cX4_addShip 34 = .ok (.iload 4, 2) := by decide +kernel
theorem dX4_addShip_36 : decode cX4_addShip 36 = .ok (.ifCond .ne 7, 3) := by decide +kernel
theorem dX4_addShip_39 : decode cX4_addShip 39 = .ok (.iconst 1, 1) := by decide +kernel
theorem dX4_addShip_40 : decode cX4_addShip 40 = .ok (.goto 17, 3) := by decide +kernel
theorem dX4_addShip_43 : decode cX4_addShip 43 = .ok (.aload_n 0, 1) := by decide +kernel
theorem dX4_addShip_44 : decode cX4_addShip 44 = .ok (.getfield 57, 3) := by decide +kernel
theorem dX4_addShip_47 : decode cX4_addShip 47 = .ok (.bipush 8, 2) := by decide +kernel
theorem dX4_addShip_49 : decode cX4_addShip 49 = .ok (.if_icmp .ne 7, 3) := by decide +kernel
theorem dX4_addShip_52 : decode cX4_addShip 52 = .ok (.iconst 2, 1) := by decide +kernel
theorem dX4_addShip_53 : decode cX4_addShip 53 = .ok (.goto 4, 3) := by decide +kernel
theorem dX4_addShip_56 : decode cX4_addShip 56 = .ok (.iconst 0, 1) := by decide +kernel
theorem dX4_addShip_57 : decode cX4_addShip 57 = .ok (.invokevirtual 68, 3) := by decide +kernel
theorem dX4_addShip_60 : decode cX4_addShip 60 = .ok (.ifCond .eq 5, 3) := by decide +kernel
theorem dX4_addShip_63 : decode cX4_addShip 63 = .ok (.iconst 0, 1) := by decide +kernel
theorem dX4_addShip_64 : decode cX4_addShip 64 = .ok (.ireturn, 1) := by decide +kernel
theorem dX4_addShip_65 : decode cX4_addShip 65 = .ok (.aload_n 0, 1) := by decide +kernel
theorem dX4_addShip_66 : decode cX4_addShip 66 = .ok (.getfield 7, 3) := by decide +kernel
theorem dX4_addShip_69 : decode cX4_addShip 69 = .ok (.aload_n 0, 1) := by decide +kernel
theorem dX4_addShip_70 : decode cX4_addShip 70 = .ok (.getfield 57, 3) := by decide +kernel
theorem dX4_addShip_73 : decode cX4_addShip 73 = .ok (.iload_n 1, 1) := by decide +kernel
theorem dX4_addShip_74 : decode cX4_addShip 74 = .ok (.iastore, 1) := by decide +kernel
theorem dX4_addShip_75 : decode cX4_addShip 75 = .ok (.aload_n 0, 1) := by decide +kernel
theorem dX4_addShip_76 : decode cX4_addShip 76 = .ok (.getfield 13, 3) := by decide +kernel
theorem dX4_addShip_79 : decode cX4_addShip 79 = .ok (.aload_n 0, 1) := by decide +kernel
theorem dX4_addShip_80 : decode cX4_addShip 80 = .ok (.getfield 57, 3) := by decide +kernel
theorem dX4_addShip_83 : decode cX4_addShip 83 = .ok (.iload_n 2, 1) := by decide +kernel
theorem dX4_addShip_84 : decode cX4_addShip 84 = .ok (.iastore, 1) := by decide +kernel
theorem dX4_addShip_85 : decode cX4_addShip 85 = .ok (.aload_n 0, 1) := by decide +kernel
theorem dX4_addShip_86 : decode cX4_addShip 86 = .ok (.getfield 16, 3) := by decide +kernel
theorem dX4_addShip_89 : decode cX4_addShip 89 = .ok (.aload_n 0, 1) := by decide +kernel
theorem dX4_addShip_90 : decode cX4_addShip 90 = .ok (.getfield 57, 3) := by decide +kernel
theorem dX4_addShip_93 : decode cX4_addShip 93 = .ok (.iload_n 3, 1) := by decide +kernel
theorem dX4_addShip_94 : decode cX4_addShip 94 = .ok (.iastore, 1) := by decide +kernel
theorem dX4_addShip_95 : decode cX4_addShip 95 = .ok (.aload_n 0, 1) := by decide +kernel
theorem dX4_addShip_96 : decode cX4_addShip 96 = .ok (.dup, 1) := by decide +kernel
theorem dX4_addShip_97 : decode cX4_addShip 97 = .ok (.getfield 57, 3) := by decide +kernel
theorem dX4_addShip_100 : decode cX4_addShip 100 = .ok (.iconst 1, 1) := by decide +kernel
theorem dX4_addShip_101 : decode cX4_addShip 101 = .ok (.iadd, 1) := by decide +kernel
theorem dX4_addShip_102 : decode cX4_addShip 102 = .ok (.putfield 57, 3) := by decide +kernel
theorem dX4_addShip_105 : decode cX4_addShip 105 = .ok (.aload_n 0, 1) := by decide +kernel
theorem dX4_addShip_106 : decode cX4_addShip 106 = .ok (.getfield 57, 3) := by decide +kernel
theorem dX4_addShip_109 : decode cX4_addShip 109 = .ok (.iconst 1, 1) := by decide +kernel
theorem dX4_addShip_110 : decode cX4_addShip 110 = .ok (.isub, 1) := by decide +kernel
theorem dX4_addShip_111 : decode cX4_addShip 111 = .ok (.ireturn, 1) := by decide +kernel
set_option maxRecDepth 20000 in
theorem ggX4_setRate_X4_isBerth : GoodIn wsX4_setRate wsX4_isBerth := goodIn_r _ [5, 6, 7, 4, 8] (by decide +kernel) (by decide +kernel)
set_option maxRecDepth 20000 in
theorem gX4_setRate_X4_isBerth : GoodIn wsX4_setRate (va_wsS RX4 71 yX4_isBerth wsX4_isBerth) := goodIn_app (goodIn_of _ (by decide +kernel)) ggX4_setRate_X4_isBerth
set_option maxRecDepth 20000 in
theorem ggX4_setRate_X4_isIn : GoodIn wsX4_setRate wsX4_isIn := goodIn_r _ [8] (by decide +kernel) (by decide +kernel)
set_option maxRecDepth 20000 in
theorem gX4_setRate_X4_isIn : GoodIn wsX4_setRate (va_wsS RX4 60 yX4_isIn wsX4_isIn) := goodIn_app (goodIn_of _ (by decide +kernel)) ggX4_setRate_X4_isIn
set_option maxRecDepth 20000 in
theorem ggX4_setRate_X4_fails : GoodIn wsX4_setRate wsX4_fails := goodIn_r _ [12, 13, 14, 15, 16, 17, 18, 19, 20, 21, 22, 23, 24, 25, 26, 27, 28, 29, 30, 31] (by decide +kernel) (by decide +kernel)
set_option maxRecDepth 20000 in
theorem gX4_setRate_X4_fails : GoodIn wsX4_setRate (wsV RX4 68 RX4 yX4_fails wsX4_fails) := goodIn_app (goodIn_of _ (by decide +kernel)) ggX4_setRate_X4_fails
theorem dX4_setRate_0 : decode cX4_setRate 0 = .ok (.iload_n 1, 1) := by decide +kernel
theorem dX4_setRate_1 : decode cX4_setRate 1 = .ok (.invokestatic 71, 3) := by decide +kernel
theorem dX4_setRate_4 : decode cX4_setRate 4 = .ok (.istore_n 3, 1) := by decide +kernel
theorem dX4_setRate_5 : decode cX4_setRate 5 = .ok (.aload_n 0, 1) := by decide +kernel
theorem dX4_setRate_6 : decode cX4_setRate 6 = .ok (.iload_n 3, 1) := by decide +kernel
theorem dX4_setRate_7 : decode cX4_setRate 7 = .ok (.ifCond .ne 7, 3) := by decide +kernel
theorem dX4_setRate_10 : decode cX4_setRate 10 = .ok (.iconst 1, 1) := by decide +kernel
theorem dX4_setRate_11 : decode cX4_setRate 11 = .ok (.goto 18, 3) := by decide +kernel
theorem dX4_setRate_14 : decode cX4_setRate 14 = .ok (.iload_n 2, 1) := by decide +kernel
theorem dX4_setRate_15 : decode cX4_setRate 15 = .ok (.iconst 0, 1) := by decide +kernel
theorem dX4_setRate_16 : decode cX4_setRate 16 = .ok (.bipush 20, 2) := by decide +kernel
theorem dX4_setRate_18 : decode cX4_setRate 18 = .ok (.invokestatic 60, 3) := by decide +kernel
theorem dX4_setRate_21 : decode cX4_setRate 21 = .ok (.ifCond .eq 7, 3) := by decide +kernel
theorem dX4_setRate_24 : decode cX4_setRate 24 = .ok (.iconst 0, 1) := by decide +kernel
theorem dX4_setRate_25 : decode cX4_setRate 25 = .ok (.goto 4, 3) := by decide +kernel
theorem dX4_setRate_28 : decode cX4_setRate 28 = .ok (.iconst 2, 1) := by decide +kernel
theorem dX4_setRate_29 : decode cX4_setRate 29 = .ok (.invokevirtual 68, 3) := by decide +kernel
theorem dX4_setRate_32 : decode cX4_setRate 32 = .ok (.ifCond .eq 5, 3) := by decide +kernel
theorem dX4_setRate_35 : decode cX4_setRate 35 = .ok (.iconst 0, 1) := by decide +kernel
theorem dX4_setRate_36 : decode cX4_setRate 36 = .ok (.ireturn, 1) := by decide +kernel
theorem dX4_setRate_37 : decode cX4_setRate 37 = .ok (.aload_n 0, 1) := by decide +kernel
theorem dX4_setRate_38 : decode cX4_setRate 38 = .ok (.getfield 19, 3) := by decide +kernel
theorem dX4_setRate_41 : decode cX4_setRate 41 = .ok (.iload_n 1, 1) := by decide +kernel
theorem dX4_setRate_42 : decode cX4_setRate 42 = .ok (.iaload, 1) := by decide +kernel
theorem dX4_setRate_43 : decode cX4_setRate 43 = .ok (.istore 4, 2) := by decide +kernel
theorem dX4_setRate_45 : decode cX4_setRate 45 = .ok (.aload_n 0, 1) := by decide +kernel
theorem dX4_setRate_46 : decode cX4_setRate 46 = .ok (.getfield 19, 3) := by decide +kernel
theorem dX4_setRate_49 : decode cX4_setRate 49 = .ok (.iload_n 1, 1) := by decide +kernel
theorem dX4_setRate_50 : decode cX4_setRate 50 = .ok (.iload_n 2, 1) := by decide +kernel
theorem dX4_setRate_51 : decode cX4_setRate 51 = .ok (.iastore, 1) := by decide +kernel
theorem dX4_setRate_52 : decode cX4_setRate 52 = .ok (.iload 4, 2) := by decide +kernel
theorem dX4_setRate_54 : decode cX4_setRate 54 = .ok (.ireturn, 1) := by decide +kernel
set_option maxRecDepth 20000 in
theorem ggX4_setRules_X4_isIn : GoodIn wsX4_setRules wsX4_isIn := goodIn_r _ [6] (by decide +kernel) (by decide +kernel)
set_option maxRecDepth 20000 in
theorem gX4_setRules_X4_isIn : GoodIn wsX4_setRules (va_wsS RX4 60 yX4_isIn wsX4_isIn) := goodIn_app (goodIn_of _ (by decide +kernel)) ggX4_setRules_X4_isIn
set_option maxRecDepth 20000 in
theorem ggX4_setRules_X4_fails : GoodIn wsX4_setRules wsX4_fails := goodIn_r _ [10, 11, 12, 13, 14, 15, 16, 17, 18, 19, 20, 21, 22, 23, 24, 25, 26, 27, 28, 29] (by decide +kernel) (by decide +kernel)
set_option maxRecDepth 20000 in
theorem gX4_setRules_X4_fails : GoodIn wsX4_setRules (wsV RX4 68 RX4 yX4_fails wsX4_fails) := goodIn_app (goodIn_of _ (by decide +kernel)) ggX4_setRules_X4_fails
theorem dX4_setRules_0 : decode cX4_setRules 0 = .ok (.aload_n 0, 1) := by decide +kernel
theorem dX4_setRules_1 : decode cX4_setRules 1 = .ok (.iload_n 1, 1) := by decide +kernel
theorem dX4_setRules_2 : decode cX4_setRules 2 = .ok (.iconst 0, 1) := by decide +kernel
theorem dX4_setRules_3 : decode cX4_setRules 3 = .ok (.bipush 100, 2) := by decide +kernel
theorem dX4_setRules_5 : decode cX4_setRules 5 = .ok (.invokestatic 60, 3) := by decide +kernel
theorem dX4_setRules_8 : decode cX4_setRules 8 = .ok (.ifCond .eq 17, 3) := by decide +kernel
theorem dX4_setRules_11 : decode cX4_setRules 11 = .ok (.iload_n 2, 1) := by decide +kernel
theorem dX4_setRules_12 : decode cX4_setRules 12 = .ok (.iconst 0, 1) := by decide +kernel
theorem dX4_setRules_13 : decode cX4_setRules 13 = .ok (.bipush 100, 2) := by decide +kernel
theorem dX4_setRules_15 : decode cX4_setRules 15 = .ok (.invokestatic 60, 3) := by decide +kernel
theorem dX4_setRules_18 : decode cX4_setRules 18 = .ok (.ifCond .eq 7, 3) := by decide +kernel
theorem dX4_setRules_21 : decode cX4_setRules 21 = .ok (.iconst 0, 1) := by decide +kernel
theorem dX4_setRules_22 : decode cX4_setRules 22 = .ok (.goto 4, 3) := by decide +kernel
theorem dX4_setRules_25 : decode cX4_setRules 25 = .ok (.iconst 1, 1) := by decide +kernel
theorem dX4_setRules_26 : decode cX4_setRules 26 = .ok (.invokevirtual 68, 3) := by decide +kernel
theorem dX4_setRules_29 : decode cX4_setRules 29 = .ok (.ifCond .ne 13, 3) := by decide +kernel
theorem dX4_setRules_32 : decode cX4_setRules 32 = .ok (.aload_n 0, 1) := by decide +kernel
theorem dX4_setRules_33 : decode cX4_setRules 33 = .ok (.iload_n 1, 1) := by decide +kernel
theorem dX4_setRules_34 : decode cX4_setRules 34 = .ok (.putfield 22, 3) := by decide +kernel
theorem dX4_setRules_37 : decode cX4_setRules 37 = .ok (.aload_n 0, 1) := by decide +kernel
theorem dX4_setRules_38 : decode cX4_setRules 38 = .ok (.iload_n 2, 1) := by decide +kernel
theorem dX4_setRules_39 : decode cX4_setRules 39 = .ok (.putfield 26, 3) := by decide +kernel
theorem dX4_setRules_42 : decode cX4_setRules 42 = .ok (.return_, 1) := by decide +kernel
set_option maxRecDepth 20000 in
theorem ggX4_fork_X4_isLine : GoodIn wsX4_fork wsX4_isLine := goodIn_r _ [9, 1, 10, 11, 8, 12, 21, 22, 23, 24, 25, 26, 27, 28, 29, 30, 31, 32, 33, 34, 35, 36, 37, 38] (by decide +kernel) (by decide +kernel)
set_option maxRecDepth 20000 in
theorem gX4_fork_X4_isLine : GoodIn wsX4_fork (wsV RX4 74 RX4 yX4_isLine wsX4_isLine) := goodIn_app (goodIn_of _ (by decide +kernel)) ggX4_fork_X4_isLine
set_option maxRecDepth 20000 in
theorem ggX4_fork_X4_isTurn : GoodIn wsX4_fork wsX4_isTurn := goodIn_r _ [15, 10, 11, 8, 12] (by decide +kernel) (by decide +kernel)
set_option maxRecDepth 20000 in
theorem gX4_fork_X4_isTurn : GoodIn wsX4_fork (va_wsS RX4 64 yX4_isTurn wsX4_isTurn) := goodIn_app (goodIn_of _ (by decide +kernel)) ggX4_fork_X4_isTurn
set_option maxRecDepth 20000 in
theorem ggX4_fork_X4_fails : GoodIn wsX4_fork wsX4_fails := goodIn_r _ [19, 20, 21, 22, 23, 24, 25, 26, 27, 28, 29, 30, 31, 32, 33, 34, 35, 36, 37, 38] (by decide +kernel) (by decide +kernel)
set_option maxRecDepth 20000 in
theorem gX4_fork_X4_fails : GoodIn wsX4_fork (wsV RX4 68 RX4 yX4_fails wsX4_fails) := goodIn_app (goodIn_of _ (by decide +kernel)) ggX4_fork_X4_fails
theorem dX4_fork_0 : decode cX4_fork 0 = .ok (.aload_n 0, 1) := by decide +kernel
theorem dX4_fork_1 : decode cX4_fork 1 = .ok (.iload_n 1, 1) := by decide +kernel
theorem dX4_fork_2 : decode cX4_fork 2 = .ok (.invokevirtual 74, 3) := by decide +kernel
theorem dX4_fork_5 : decode cX4_fork 5 = .ok (.ifCond .eq 14, 3) := by decide +kernel
theorem dX4_fork_8 : decode cX4_fork 8 = .ok (.iload_n 2, 1) := by decide +kernel
theorem dX4_fork_9 : decode cX4_fork 9 = .ok (.invokestatic 64, 3) := by decide +kernel
theorem dX4_fork_12 : decode cX4_fork 12 = .ok (.ifCond .eq 7, 3) := by decide +kernel
theorem dX4_fork_15 : decode cX4_fork 15 = .ok (.iconst 1, 1) := by decide +kernel
theorem dX4_fork_16 : decode cX4_fork 16 = .ok (.goto 4, 3) := by decide +kernel
theorem dX4_fork_19 : decode cX4_fork 19 = .ok (.iconst 0, 1) := by decide +kernel
theorem dX4_fork_20 : decode cX4_fork 20 = .ok (.istore_n 3, 1) := by decide +kernel
theorem dX4_fork_21 : decode cX4_fork 21 = .ok (.aload_n 0, 1) := by decide +kernel
theorem dX4_fork_22 : decode cX4_fork 22 = .ok (.iload_n 3, 1) := by decide +kernel
theorem dX4_fork_23 : decode cX4_fork 23 = .ok (.ifCond .ne 7, 3) := by decide +kernel
theorem dX4_fork_26 : decode cX4_fork 26 = .ok (.iconst 1, 1) := by decide +kernel
theorem dX4_fork_27 : decode cX4_fork 27 = .ok (.goto 17, 3) := by decide +kernel
theorem dX4_fork_30 : decode cX4_fork 30 = .ok (.aload_n 0, 1) := by decide +kernel
theorem dX4_fork_31 : decode cX4_fork 31 = .ok (.getfield 29, 3) := by decide +kernel
theorem dX4_fork_34 : decode cX4_fork 34 = .ok (.bipush 9, 2) := by decide +kernel
theorem dX4_fork_36 : decode cX4_fork 36 = .ok (.if_icmp .ne 7, 3) := by decide +kernel
theorem dX4_fork_39 : decode cX4_fork 39 = .ok (.iconst 2, 1) := by decide +kernel
theorem dX4_fork_40 : decode cX4_fork 40 = .ok (.goto 4, 3) := by decide +kernel
theorem dX4_fork_43 : decode cX4_fork 43 = .ok (.iconst 0, 1) := by decide +kernel
theorem dX4_fork_44 : decode cX4_fork 44 = .ok (.invokevirtual 68, 3) := by decide +kernel
theorem dX4_fork_47 : decode cX4_fork 47 = .ok (.ifCond .eq 5, 3) := by decide +kernel
theorem dX4_fork_50 : decode cX4_fork 50 = .ok (.iconst 0, 1) := by decide +kernel
theorem dX4_fork_51 : decode cX4_fork 51 = .ok (.ireturn, 1) := by decide +kernel
theorem dX4_fork_52 : decode cX4_fork 52 = .ok (.aload_n 0, 1) := by decide +kernel
theorem dX4_fork_53 : decode cX4_fork 53 = .ok (.getfield 32, 3) := by decide +kernel
theorem dX4_fork_56 : decode cX4_fork 56 = .ok (.aload_n 0, 1) := by decide +kernel
theorem dX4_fork_57 : decode cX4_fork 57 = .ok (.getfield 29, 3) := by decide +kernel
theorem dX4_fork_60 : decode cX4_fork 60 = .ok (.iload_n 1, 1) := by decide +kernel
theorem dX4_fork_61 : decode cX4_fork 61 = .ok (.iastore, 1) := by decide +kernel
theorem dX4_fork_62 : decode cX4_fork 62 = .ok (.aload_n 0, 1) := by decide +kernel
theorem dX4_fork_63 : decode cX4_fork 63 = .ok (.getfield 35, 3) := by decide +kernel
theorem dX4_fork_66 : decode cX4_fork 66 = .ok (.aload_n 0, 1) := by decide +kernel
theorem dX4_fork_67 : decode cX4_fork 67 = .ok (.getfield 29, 3) := by decide +kernel
theorem dX4_fork_70 : decode cX4_fork 70 = .ok (.iload_n 2, 1) := by decide +kernel
theorem dX4_fork_71 : decode cX4_fork 71 = .ok (.iastore, 1) := by decide +kernel
theorem dX4_fork_72 : decode cX4_fork 72 = .ok (.aload_n 0, 1) := by decide +kernel
theorem dX4_fork_73 : decode cX4_fork 73 = .ok (.getfield 38, 3) := by decide +kernel
theorem dX4_fork_76 : decode cX4_fork 76 = .ok (.aload_n 0, 1) := by decide +kernel
theorem dX4_fork_77 : decode cX4_fork 77 = .ok (.getfield 29, 3) := by decide +kernel
theorem dX4_fork_80 : decode cX4_fork 80 = .ok (.aload_n 0, 1) := by decide +kernel
theorem dX4_fork_81 : decode cX4_fork 81 = .ok (.getfield 38, 3) := by decide +kernel
theorem dX4_fork_84 : decode cX4_fork 84 = .ok (.iload_n 1, 1) := by decide +kernel
theorem dX4_fork_85 : decode cX4_fork 85 = .ok (.iaload, 1) := by decide +kernel
theorem dX4_fork_86 : decode cX4_fork 86 = .ok (.iastore, 1) := by decide +kernel
theorem dX4_fork_87 : decode cX4_fork 87 = .ok (.aload_n 0, 1) := by decide +kernel
theorem dX4_fork_88 : decode cX4_fork 88 = .ok (.dup, 1) := by decide +kernel
theorem dX4_fork_89 : decode cX4_fork 89 = .ok (.getfield 29, 3) := by decide +kernel
theorem dX4_fork_92 : decode cX4_fork 92 = .ok (.iconst 1, 1) := by decide +kernel
theorem dX4_fork_93 : decode cX4_fork 93 = .ok (.iadd, 1) := by decide +kernel
theorem dX4_fork_94 : decode cX4_fork 94 = .ok (.putfield 29, 3) := by decide +kernel
theorem dX4_fork_97 : decode cX4_fork 97 = .ok (.aload_n 0, 1) := by decide +kernel
theorem dX4_fork_98 : decode cX4_fork 98 = .ok (.getfield 29, 3) := by decide +kernel
theorem dX4_fork_101 : decode cX4_fork 101 = .ok (.iconst 1, 1) := by decide +kernel
theorem dX4_fork_102 : decode cX4_fork 102 = .ok (.isub, 1) := by decide +kernel
theorem dX4_fork_103 : decode cX4_fork 103 = .ok (.ireturn, 1) := by decide +kernel
set_option maxRecDepth 20000 in
theorem ggX4_order_X4_isLine : GoodIn wsX4_order wsX4_isLine := goodIn_r _ [9, 10, 11, 12, 8, 13, 30, 31, 32, 33, 34, 35, 36, 37, 38, 39, 40, 41, 42, 43, 44, 45, 46, 47] (by decide +kernel) (by decide +kernel)
set_option maxRecDepth 20000 in
theorem gX4_order_X4_isLine : GoodIn wsX4_order (wsV RX4 74 RX4 yX4_isLine wsX4_isLine) := goodIn_app (goodIn_of _ (by decide +kernel)) ggX4_order_X4_isLine
set_option maxRecDepth 20000 in
theorem ggX4_order_X4_isTurn : GoodIn wsX4_order wsX4_isTurn := goodIn_r _ [16, 11, 12, 8, 13] (by decide +kernel) (by decide +kernel)
set_option maxRecDepth 20000 in
theorem gX4_order_X4_isTurn : GoodIn wsX4_order (va_wsS RX4 64 yX4_isTurn wsX4_isTurn) := goodIn_app (goodIn_of _ (by decide +kernel)) ggX4_order_X4_isTurn
set_option maxRecDepth 20000 in
theorem ggX4_order_X4_isShip : GoodIn wsX4_order wsX4_isShip := goodIn_r _ [20, 21, 11, 12, 8, 13, 30, 31, 32, 33, 34, 35, 36, 37, 38, 39, 40, 41, 42, 43, 44, 45, 46, 47] (by decide +kernel) (by decide +kernel)
set_option maxRecDepth 20000 in
theorem gX4_order_X4_isShip : GoodIn wsX4_order (wsV RX4 77 RX4 yX4_isShip wsX4_isShip) := goodIn_app (goodIn_of _ (by decide +kernel)) ggX4_order_X4_isShip
set_option maxRecDepth 20000 in
theorem ggX4_order_X4_isBerth : GoodIn wsX4_order wsX4_isBerth := goodIn_r _ [24, 11, 12, 8, 13] (by decide +kernel) (by decide +kernel)
set_option maxRecDepth 20000 in
theorem gX4_order_X4_isBerth : GoodIn wsX4_order (va_wsS RX4 71 yX4_isBerth wsX4_isBerth) := goodIn_app (goodIn_of _ (by decide +kernel)) ggX4_order_X4_isBerth
set_option maxRecDepth 20000 in
theorem ggX4_order_X4_isIn : GoodIn wsX4_order wsX4_isIn := goodIn_r _ [13] (by decide +kernel) (by decide +kernel)
set_option maxRecDepth 20000 in
theorem gX4_order_X4_isIn : GoodIn wsX4_order (va_wsS RX4 60 yX4_isIn wsX4_isIn) := goodIn_app (goodIn_of _ (by decide +kernel)) ggX4_order_X4_isIn
set_option maxRecDepth 20000 in
theorem ggX4_order_X4_fails : GoodIn wsX4_order wsX4_fails := goodIn_r _ [28, 29, 30, 31, 32, 33, 34, 35, 36, 37, 38, 39, 40, 41, 42, 43, 44, 45, 46, 47] (by decide +kernel) (by decide +kernel)
set_option maxRecDepth 20000 in
theorem gX4_order_X4_fails : GoodIn wsX4_order (wsV RX4 68 RX4 yX4_fails wsX4_fails) := goodIn_app (goodIn_of _ (by decide +kernel)) ggX4_order_X4_fails
theorem dX4_order_0 : decode cX4_order 0 = .ok (.aload_n 0, 1) := by decide +kernel
theorem dX4_order_1 : decode cX4_order 1 = .ok (.iload_n 1, 1) := by decide +kernel
theorem dX4_order_2 : decode cX4_order 2 = .ok (.invokevirtual 74, 3) := by decide +kernel
theorem dX4_order_5 : decode cX4_order 5 = .ok (.ifCond .eq 31, 3) := by decide +kernel
theorem dX4_order_8 : decode cX4_order 8 = .ok (.iload_n 2, 1) := by decide +kernel
theorem dX4_order_9 : decode cX4_order 9 = .ok (.invokestatic 64, 3) := by decide +kernel
theorem dX4_order_12 : decode cX4_order 12 = .ok (.ifCond .eq 24, 3) := by decide +kernel
theorem dX4_order_15 : decode cX4_order 15 = .ok (.aload_n 0, 1) := by decide +kernel
theorem dX4_order_16 : decode cX4_order 16 = .ok (.iload 4, 2) := by decide +kernel
theorem dX4_order_18 : decode cX4_order 18 = .ok (.invokevirtual 77, 3) := by decide +kernel
theorem dX4_order_21 : decode cX4_order 21 = .ok (.ifCond .eq 15, 3) := by decide +kernel
theorem dX4_order_24 : decode cX4_order 24 = .ok (.iload 5, 2) := by decide +kernel
theorem dX4_order_26 : decode cX4_order 26 = .ok (.invokestatic 71, 3) := by decide +kernel
theorem dX4_order_29 : decode cX4_order 29 = .ok (.ifCond .eq 7, 3) := by decide +kernel
theorem dX4_order_32 : decode cX4_order 32 = .ok (.iconst 1, 1) := by decide +kernel
theorem dX4_order_33 : decode cX4_order 33 = .ok (.goto 4, 3) := by decide +kernel
theorem dX4_order_36 : decode cX4_order 36 = .ok (.iconst 0, 1) := by decide +kernel
theorem dX4_order_37 : decode cX4_order 37 = .ok (.istore 6, 2) := by decide +kernel
theorem dX4_order_39 : decode cX4_order 39 = .ok (.aload_n 0, 1) := by decide +kernel
theorem dX4_order_40 : decode cX4_order 40 = .ok (.iload 6, 2) := by decide +kernel
theorem dX4_order_42 : decode cX4_order 42 = .ok (.ifCond .ne 7, 3) := by decide +kernel
theorem dX4_order_45 : decode cX4_order 45 = .ok (.iconst 1, 1) := by decide +kernel
theorem dX4_order_46 : decode cX4_order 46 = .ok (.goto 31, 3) := by decide +kernel
theorem dX4_order_49 : decode cX4_order 49 = .ok (.iload_n 3, 1) := by decide +kernel
theorem dX4_order_50 : decode cX4_order 50 = .ok (.iconst 0, 1) := by decide +kernel
theorem dX4_order_51 : decode cX4_order 51 = .ok (.iconst 2, 1) := by decide +kernel
theorem dX4_order_52 : decode cX4_order 52 = .ok (.invokestatic 60, 3) := by decide +kernel
theorem dX4_order_55 : decode cX4_order 55 = .ok (.ifCond .ne 7, 3) := by decide +kernel
theorem dX4_order_58 : decode cX4_order 58 = .ok (.iconst 2, 1) := by decide +kernel
theorem dX4_order_59 : decode cX4_order 59 = .ok (.goto 18, 3) := by decide +kernel
theorem dX4_order_62 : decode cX4_order 62 = .ok (.iload_n 2, 1) := by decide +kernel
theorem dX4_order_63 : decode cX4_order 63 = .ok (.aload_n 0, 1) := by decide +kernel
theorem dX4_order_64 : decode cX4_order 64 = .ok (.getfield 35, 3) := by decide +kernel
theorem dX4_order_67 : decode cX4_order 67 = .ok (.iload_n 1, 1) := by decide +kernel
theorem dX4_order_68 : decode cX4_order 68 = .ok (.iaload, 1) := by decide +kernel
theorem dX4_order_69 : decode cX4_order 69 = .ok (.if_icmp .ge 7, 3) := by decide +kernel
theorem dX4_order_72 : decode cX4_order 72 = .ok (.iconst 3, 1) := by decide +kernel
theorem dX4_order_73 : decode cX4_order 73 = .ok (.goto 4, 3) := by decide +kernel
theorem dX4_order_76 : decode cX4_order 76 = .ok (.iconst 0, 1) := by decide +kernel
theorem dX4_order_77 : decode cX4_order 77 = .ok (.invokevirtual 68, 3) := by decide +kernel
theorem dX4_order_80 : decode cX4_order 80 = .ok (.ifCond .eq 5, 3) := by decide +kernel
theorem dX4_order_83 : decode cX4_order 83 = .ok (.iconst 0, 1) := by decide +kernel
theorem dX4_order_84 : decode cX4_order 84 = .ok (.ireturn, 1) := by decide +kernel
theorem dX4_order_85 : decode cX4_order 85 = .ok (.bipush 30, 2) := by decide +kernel
theorem dX4_order_87 : decode cX4_order 87 = .ok (.iload_n 1, 1) := by decide +kernel
theorem dX4_order_88 : decode cX4_order 88 = .ok (.imul, 1) := by decide +kernel
theorem dX4_order_89 : decode cX4_order 89 = .ok (.iload_n 2, 1) := by decide +kernel
theorem dX4_order_90 : decode cX4_order 90 = .ok (.iadd, 1) := by decide +kernel
theorem dX4_order_91 : decode cX4_order 91 = .ok (.istore 7, 2) := by decide +kernel
theorem dX4_order_93 : decode cX4_order 93 = .ok (.aload_n 0, 1) := by decide +kernel
theorem dX4_order_94 : decode cX4_order 94 = .ok (.getfield 41, 3) := by decide +kernel
theorem dX4_order_97 : decode cX4_order 97 = .ok (.iload 7, 2) := by decide +kernel
theorem dX4_order_99 : decode cX4_order 99 = .ok (.iload_n 3, 1) := by decide +kernel
theorem dX4_order_100 : decode cX4_order 100 = .ok (.ifCond .ne 7, 3) := by decide +kernel
theorem dX4_order_103 : decode cX4_order 103 = .ok (.iconst 0, 1) := by decide +kernel
theorem dX4_order_104 : decode cX4_order 104 = .ok (.goto 25, 3) := by decide +kernel
theorem dX4_order_107 : decode cX4_order 107 = .ok (.bipush 100, 2) := by decide +kernel
theorem dX4_order_109 : decode cX4_order 109 = .ok (.iload_n 3, 1) := by decide +kernel
theorem dX4_order_110 : decode cX4_order 110 = .ok (.imul, 1) := by decide +kernel
theorem dX4_order_111 : decode cX4_order 111 = .ok (.bipush 10, 2) := by decide +kernel
theorem dX4_order_113 : decode cX4_order 113 = .ok (.iload 4, 2) := by decide +kernel
theorem dX4_order_115 : decode cX4_order 115 = .ok (.imul, 1) := by decide +kernel
theorem dX4_order_116 : decode cX4_order 116 = .ok (.iadd, 1) := by decide +kernel
theorem dX4_order_117 : decode cX4_order 117 = .ok (.iload_n 3, 1) := by decide +kernel
theorem dX4_order_118 : decode cX4_order 118 = .ok (.iconst 1, 1) := by decide +kernel
theorem dX4_order_119 : decode cX4_order 119 = .ok (.if_icmp .ne 8, 3) := by decide +kernel
theorem dX4_order_122 : decode cX4_order 122 = .ok (.iload 5, 2) := by decide +kernel
theorem dX4_order_124 : decode cX4_order 124 = .ok (.goto 4, 3) := by decide +kernel
theorem dX4_order_127 : decode cX4_order 127 = .ok (.iconst 0, 1) := by decide +kernel
theorem dX4_order_128 : decode cX4_order 128 = .ok (.iadd, 1) := by decide +kernel
theorem dX4_order_129 : decode cX4_order 129 = .ok (.iastore, 1) := by decide +kernel
theorem dX4_order_130 : decode cX4_order 130 = .ok (.aload_n 0, 1) := by decide +kernel
theorem dX4_order_131 : decode cX4_order 131 = .ok (.getfield 44, 3) := by decide +kernel
theorem dX4_order_134 : decode cX4_order 134 = .ok (.iload 7, 2) := by decide +kernel
theorem dX4_order_136 : decode cX4_order 136 = .ok (.iload_n 1, 1) := by decide +kernel
theorem dX4_order_137 : decode cX4_order 137 = .ok (.ifCond .le 17, 3) := by decide +kernel
theorem dX4_order_140 : decode cX4_order 140 = .ok (.aload_n 0, 1) := by decide +kernel
theorem dX4_order_141 : decode cX4_order 141 = .ok (.getfield 38, 3) := by decide +kernel
theorem dX4_order_144 : decode cX4_order 144 = .ok (.iload_n 1, 1) := by decide +kernel
theorem dX4_order_145 : decode cX4_order 145 = .ok (.iaload, 1) := by decide +kernel
theorem dX4_order_146 : decode cX4_order 146 = .ok (.iload_n 2, 1) := by decide +kernel
theorem dX4_order_147 : decode cX4_order 147 = .ok (.if_icmp .le 7, 3) := by decide +kernel
theorem dX4_order_150 : decode cX4_order 150 = .ok (.iconst 1, 1) := by decide +kernel
theorem dX4_order_151 : decode cX4_order 151 = .ok (.goto 4, 3) := by decide +kernel
theorem dX4_order_154 : decode cX4_order 154 = .ok (.iconst 0, 1) := by decide +kernel
theorem dX4_order_155 : decode cX4_order 155 = .ok (.bastore, 1) := by decide +kernel
theorem dX4_order_156 : decode cX4_order 156 = .ok (.aload_n 0, 1) := by decide +kernel
theorem dX4_order_157 : decode cX4_order 157 = .ok (.getfield 44, 3) := by decide +kernel
theorem dX4_order_160 : decode cX4_order 160 = .ok (.iload 7, 2) := by decide +kernel
theorem dX4_order_162 : decode cX4_order 162 = .ok (.baload, 1) := by decide +kernel
theorem dX4_order_163 : decode cX4_order 163 = .ok (.ireturn, 1) := by decide +kernel
set_option maxRecDepth 20000 in
theorem ggX4_takeAway_X4_isLine : GoodIn wsX4_takeAway wsX4_isLine := goodIn_r _ [5, 6, 7, 8, 4, 9, 28, 29, 30, 31, 32, 33, 34, 35, 36, 37, 38, 39, 40, 41, 42, 43, 44, 45] (by decide +kernel) (by decide +kernel)
set_option maxRecDepth 20000 in
theorem gX4_takeAway_X4_isLine : GoodIn wsX4_takeAway (wsV RX4 74 RX4 yX4_isLine wsX4_isLine) := goodIn_app (goodIn_of _ (by decide +kernel)) ggX4_takeAway_X4_isLine
set_option maxRecDepth 20000 in
theorem ggX4_takeAway_X4_isTurn : GoodIn wsX4_takeAway wsX4_isTurn := goodIn_r _ [12, 7, 8, 4, 9] (by decide +kernel) (by decide +kernel)
set_option maxRecDepth 20000 in
theorem gX4_takeAway_X4_isTurn : GoodIn wsX4_takeAway (va_wsS RX4 64 yX4_isTurn wsX4_isTurn) := goodIn_app (goodIn_of _ (by decide +kernel)) ggX4_takeAway_X4_isTurn
set_option maxRecDepth 20000 in
theorem ggX4_takeAway_X4_fails : GoodIn wsX4_takeAway wsX4_fails := goodIn_r _ [16, 17, 28, 29, 30, 31, 32, 33, 34, 35, 36, 37, 38, 39, 40, 41, 42, 43, 44, 45] (by decide +kernel) (by decide +kernel)
set_option maxRecDepth 20000 in
theorem gX4_takeAway_X4_fails : GoodIn wsX4_takeAway (wsV RX4 68 RX4 yX4_fails wsX4_fails) := goodIn_app (goodIn_of _ (by decide +kernel)) ggX4_takeAway_X4_fails
set_option maxRecDepth 20000 in
theorem ggX4_takeAway_X4_hasOwn : GoodIn wsX4_takeAway wsX4_hasOwn := goodIn_r _ [21, 22, 28, 29, 30, 31, 32, 33, 34, 35, 36, 37, 38, 39, 40, 41, 42, 43, 44, 45] (by decide +kernel) (by decide +kernel)
set_option maxRecDepth 20000 in
theorem gX4_takeAway_X4_hasOwn : GoodIn wsX4_takeAway (wsV RX4 80 RX4 yX4_hasOwn wsX4_hasOwn) := goodIn_app (goodIn_of _ (by decide +kernel)) ggX4_takeAway_X4_hasOwn
set_option maxRecDepth 20000 in
theorem ggX4_takeAway_X4_removes : GoodIn wsX4_takeAway wsX4_removes := goodIn_r _ [26, 22, 27, 28, 29, 30, 31, 32, 33, 34, 35, 36, 37, 38, 39, 40, 41, 42, 43, 44, 45] (by decide +kernel) (by decide +kernel)
set_option maxRecDepth 20000 in
theorem gX4_takeAway_X4_removes : GoodIn wsX4_takeAway (wsV RX4 84 RX4 yX4_removes wsX4_removes) := goodIn_app (goodIn_of _ (by decide +kernel)) ggX4_takeAway_X4_removes
theorem dX4_takeAway_0 : decode cX4_takeAway 0 = .ok (.aload_n 0, 1) := by decide +kernel
theorem dX4_takeAway_1 : decode cX4_takeAway 1 = .ok (.aload_n 0, 1) := by decide +kernel
theorem dX4_takeAway_2 : decode cX4_takeAway 2 = .ok (.iload_n 1, 1) := by decide +kernel
theorem dX4_takeAway_3 : decode cX4_takeAway 3 = .ok (.invokevirtual 74, 3) := by decide +kernel
theorem dX4_takeAway_6 : decode cX4_takeAway 6 = .ok (.ifCond .eq 14, 3) := by decide +kernel
theorem dX4_takeAway_9 : decode cX4_takeAway 9 = .ok (.iload_n 2, 1) := by decide +kernel
theorem dX4_takeAway_10 : decode cX4_takeAway 10 = .ok (.invokestatic 64, 3) := by decide +kernel
theorem dX4_takeAway_13 : decode cX4_takeAway 13 = .ok (.ifCond .eq 7, 3) := by decide +kernel
theorem dX4_takeAway_16 : decode cX4_takeAway 16 = .ok (.iconst 0, 1) := by decide +kernel
theorem dX4_takeAway_17 : decode cX4_takeAway 17 = .ok (.goto 4, 3) := by decide +kernel
theorem dX4_takeAway_20 : decode cX4_takeAway 20 = .ok (.iconst 1, 1) := by decide +kernel
theorem dX4_takeAway_21 : decode cX4_takeAway 21 = .ok (.invokevirtual 68, 3) := by decide +kernel
theorem dX4_takeAway_24 : decode cX4_takeAway 24 = .ok (.ifCond .eq 5, 3) := by decide +kernel
theorem dX4_takeAway_27 : decode cX4_takeAway 27 = .ok (.iconst 0, 1) := by decide +kernel
theorem dX4_takeAway_28 : decode cX4_takeAway 28 = .ok (.ireturn, 1) := by decide +kernel
theorem dX4_takeAway_29 : decode cX4_takeAway 29 = .ok (.aload_n 0, 1) := by decide +kernel
theorem dX4_takeAway_30 : decode cX4_takeAway 30 = .ok (.iload_n 1, 1) := by decide +kernel
theorem dX4_takeAway_31 : decode cX4_takeAway 31 = .ok (.iload_n 2, 1) := by decide +kernel
theorem dX4_takeAway_32 : decode cX4_takeAway 32 = .ok (.invokevirtual 80, 3) := by decide +kernel
theorem dX4_takeAway_35 : decode cX4_takeAway 35 = .ok (.ifCond .eq 16, 3) := by decide +kernel
theorem dX4_takeAway_38 : decode cX4_takeAway 38 = .ok (.aload_n 0, 1) := by decide +kernel
theorem dX4_takeAway_39 : decode cX4_takeAway 39 = .ok (.iload_n 1, 1) := by decide +kernel
theorem dX4_takeAway_40 : decode cX4_takeAway 40 = .ok (.iload_n 2, 1) := by decide +kernel
theorem dX4_takeAway_41 : decode cX4_takeAway 41 = .ok (.invokevirtual 84, 3) := by decide +kernel
theorem dX4_takeAway_44 : decode cX4_takeAway 44 = .ok (.ifCond .eq 7, 3) := by decide +kernel
theorem dX4_takeAway_47 : decode cX4_takeAway 47 = .ok (.iconst 1, 1) := by decide +kernel
theorem dX4_takeAway_48 : decode cX4_takeAway 48 = .ok (.goto 4, 3) := by decide +kernel
theorem dX4_takeAway_51 : decode cX4_takeAway 51 = .ok (.iconst 0, 1) := by decide +kernel
theorem dX4_takeAway_52 : decode cX4_takeAway 52 = .ok (.ireturn, 1) := by decide +kernel
theorem dX4_hasOwn_0 : decode cX4_hasOwn 0 = .ok (.aload_n 0, 1) := by decide +kernel
theorem dX4_hasOwn_1 : decode cX4_hasOwn 1 = .ok (.getfield 41, 3) := by decide +kernel
theorem dX4_hasOwn_4 : decode cX4_hasOwn 4 = .ok (.bipush 30, 2) := by decide +kernel
theorem dX4_hasOwn_6 : decode cX4_hasOwn 6 = .ok (.iload_n 1, 1) := by decide +kernel
theorem dX4_hasOwn_7 : decode cX4_hasOwn 7 = .ok (.imul, 1) := by decide +kernel
theorem dX4_hasOwn_8 : decode cX4_hasOwn 8 = .ok (.iload_n 2, 1) := by decide +kernel
theorem dX4_hasOwn_9 : decode cX4_hasOwn 9 = .ok (.iadd, 1) := by decide +kernel
theorem dX4_hasOwn_10 : decode cX4_hasOwn 10 = .ok (.iaload, 1) := by decide +kernel
theorem dX4_hasOwn_11 : decode cX4_hasOwn 11 = .ok (.iconst (-1), 1) := by decide +kernel
theorem dX4_hasOwn_12 : decode cX4_hasOwn 12 = .ok (.if_icmp .eq 7, 3) := by decide +kernel
theorem dX4_hasOwn_15 : decode cX4_hasOwn 15 = .ok (.iconst 1, 1) := by decide +kernel
theorem dX4_hasOwn_16 : decode cX4_hasOwn 16 = .ok (.goto 4, 3) := by decide +kernel
theorem dX4_hasOwn_19 : decode cX4_hasOwn 19 = .ok (.iconst 0, 1) := by decide +kernel
theorem dX4_hasOwn_20 : decode cX4_hasOwn 20 = .ok (.ireturn, 1) := by decide +kernel
theorem dX4_removes_0 : decode cX4_removes 0 = .ok (.aload_n 0, 1) := by decide +kernel
theorem dX4_removes_1 : decode cX4_removes 1 = .ok (.getfield 41, 3) := by decide +kernel
theorem dX4_removes_4 : decode cX4_removes 4 = .ok (.bipush 30, 2) := by decide +kernel
theorem dX4_removes_6 : decode cX4_removes 6 = .ok (.iload_n 1, 1) := by decide +kernel
theorem dX4_removes_7 : decode cX4_removes 7 = .ok (.imul, 1) := by decide +kernel
theorem dX4_removes_8 : decode cX4_removes 8 = .ok (.iload_n 2, 1) := by decide +kernel
theorem dX4_removes_9 : decode cX4_removes 9 = .ok (.iadd, 1) := by decide +kernel
theorem dX4_removes_10 : decode cX4_removes 10 = .ok (.iconst (-1), 1) := by decide +kernel
theorem dX4_removes_11 : decode cX4_removes 11 = .ok (.iastore, 1) := by decide +kernel
theorem dX4_removes_12 : decode cX4_removes 12 = .ok (.aload_n 0, 1) := by decide +kernel
theorem dX4_removes_13 : decode cX4_removes 13 = .ok (.getfield 44, 3) := by decide +kernel
theorem dX4_removes_16 : decode cX4_removes 16 = .ok (.bipush 30, 2) := by decide +kernel
theorem dX4_removes_18 : decode cX4_removes 18 = .ok (.iload_n 1, 1) := by decide +kernel
theorem dX4_removes_19 : decode cX4_removes 19 = .ok (.imul, 1) := by decide +kernel
theorem dX4_removes_20 : decode cX4_removes 20 = .ok (.iload_n 2, 1) := by decide +kernel
theorem dX4_removes_21 : decode cX4_removes 21 = .ok (.iadd, 1) := by decide +kernel
theorem dX4_removes_22 : decode cX4_removes 22 = .ok (.iconst 0, 1) := by decide +kernel
theorem dX4_removes_23 : decode cX4_removes 23 = .ok (.bastore, 1) := by decide +kernel
theorem dX4_removes_24 : decode cX4_removes 24 = .ok (.iconst 1, 1) := by decide +kernel
theorem dX4_removes_25 : decode cX4_removes 25 = .ok (.ireturn, 1) := by decide +kernel
set_option maxRecDepth 20000 in
theorem ggX4_orderAt_X4_hasOwn : GoodIn wsX4_orderAt wsX4_hasOwn := goodIn_r _ [7, 2, 8, 9, 10, 11, 12, 13, 14, 15, 16, 17, 18, 19, 20, 21, 22, 23, 24, 25] (by decide +kernel) (by decide +kernel)
set_option maxRecDepth 20000 in
theorem gX4_orderAt_X4_hasOwn : GoodIn wsX4_orderAt (wsV RX4 80 RX4 yX4_hasOwn wsX4_hasOwn) := goodIn_app (goodIn_of _ (by decide +kernel)) ggX4_orderAt_X4_hasOwn
theorem dX4_orderAt_0 : decode cX4_orderAt 0 = .ok (.iload_n 1, 1) := by decide +kernel
theorem dX4_orderAt_1 : decode cX4_orderAt 1 = .ok (.istore_n 3, 1) := by decide +kernel
theorem dX4_orderAt_2 : decode cX4_orderAt 2 = .ok (.iload_n 3, 1) := by decide +kernel
theorem dX4_orderAt_3 : decode cX4_orderAt 3 = .ok (.iconst (-1), 1) := by decide +kernel
theorem dX4_orderAt_4 : decode cX4_orderAt 4 = .ok (.if_icmp .eq 22, 3) := by decide +kernel
theorem dX4_orderAt_7 : decode cX4_orderAt 7 = .ok (.aload_n 0, 1) := by decide +kernel
theorem dX4_orderAt_8 : decode cX4_orderAt 8 = .ok (.iload_n 3, 1) := by decide +kernel
theorem dX4_orderAt_9 : decode cX4_orderAt 9 = .ok (.iload_n 2, 1) := by decide +kernel
theorem dX4_orderAt_10 : decode cX4_orderAt 10 = .ok (.invokevirtual 80, 3) := by decide +kernel
theorem dX4_orderAt_13 : decode cX4_orderAt 13 = .ok (.ifCond .ne 13, 3) := by decide +kernel
theorem dX4_orderAt_16 : decode cX4_orderAt 16 = .ok (.aload_n 0, 1) := by decide +kernel
theorem dX4_orderAt_17 : decode cX4_orderAt 17 = .ok (.getfield 32, 3) := by decide +kernel
theorem dX4_orderAt_20 : decode cX4_orderAt 20 = .ok (.iload_n 3, 1) := by decide +kernel
theorem dX4_orderAt_21 : decode cX4_orderAt 21 = .ok (.iaload, 1) := by decide +kernel
theorem dX4_orderAt_22 : decode cX4_orderAt 22 = .ok (.istore_n 3, 1) := by decide +kernel
theorem dX4_orderAt_23 : decode cX4_orderAt 23 = .ok (.goto (-21), 3) := by decide +kernel
theorem dX4_orderAt_26 : decode cX4_orderAt 26 = .ok (.iload_n 3, 1) := by decide +kernel
theorem dX4_orderAt_27 : decode cX4_orderAt 27 = .ok (.iconst (-1), 1) := by decide +kernel
theorem dX4_orderAt_28 : decode cX4_orderAt 28 = .ok (.if_icmp .ne 7, 3) := by decide +kernel
theorem dX4_orderAt_31 : decode cX4_orderAt 31 = .ok (.iconst 0, 1) := by decide +kernel
theorem dX4_orderAt_32 : decode cX4_orderAt 32 = .ok (.goto 14, 3) := by decide +kernel
theorem dX4_orderAt_35 : decode cX4_orderAt 35 = .ok (.aload_n 0, 1) := by decide +kernel
theorem dX4_orderAt_36 : decode cX4_orderAt 36 = .ok (.getfield 41, 3) := by decide +kernel
theorem dX4_orderAt_39 : decode cX4_orderAt 39 = .ok (.bipush 30, 2) := by decide +kernel
theorem dX4_orderAt_41 : decode cX4_orderAt 41 = .ok (.iload_n 3, 1) := by decide +kernel
theorem dX4_orderAt_42 : decode cX4_orderAt 42 = .ok (.imul, 1) := by decide +kernel
theorem dX4_orderAt_43 : decode cX4_orderAt 43 = .ok (.iload_n 2, 1) := by decide +kernel
theorem dX4_orderAt_44 : decode cX4_orderAt 44 = .ok (.iadd, 1) := by decide +kernel
theorem dX4_orderAt_45 : decode cX4_orderAt 45 = .ok (.iaload, 1) := by decide +kernel
theorem dX4_orderAt_46 : decode cX4_orderAt 46 = .ok (.ireturn, 1) := by decide +kernel
set_option maxRecDepth 20000 in
theorem ggX4_orderOf_X4_isLine : GoodIn wsX4_orderOf wsX4_isLine := goodIn_r _ [5, 6, 7, 8, 4, 9, 28, 29, 30, 31, 32, 33, 34, 35, 36, 37, 38, 39, 40, 41, 42, 43, 44, 45] (by decide +kernel) (by decide +kernel)
set_option maxRecDepth 20000 in
theorem gX4_orderOf_X4_isLine : GoodIn wsX4_orderOf (wsV RX4 74 RX4 yX4_isLine wsX4_isLine) := goodIn_app (goodIn_of _ (by decide +kernel)) ggX4_orderOf_X4_isLine
set_option maxRecDepth 20000 in
theorem ggX4_orderOf_X4_isTurn : GoodIn wsX4_orderOf wsX4_isTurn := goodIn_r _ [12, 7, 8, 4, 9] (by decide +kernel) (by decide +kernel)
set_option maxRecDepth 20000 in
theorem gX4_orderOf_X4_isTurn : GoodIn wsX4_orderOf (va_wsS RX4 64 yX4_isTurn wsX4_isTurn) := goodIn_app (goodIn_of _ (by decide +kernel)) ggX4_orderOf_X4_isTurn
set_option maxRecDepth 20000 in
theorem ggX4_orderOf_X4_fails : GoodIn wsX4_orderOf wsX4_fails := goodIn_r _ [16, 17, 28, 29, 30, 31, 32, 33, 34, 35, 36, 37, 38, 39, 40, 41, 42, 43, 44, 45] (by decide +kernel) (by decide +kernel)
set_option maxRecDepth 20000 in
theorem gX4_orderOf_X4_fails : GoodIn wsX4_orderOf (wsV RX4 68 RX4 yX4_fails wsX4_fails) := goodIn_app (goodIn_of _ (by decide +kernel)) ggX4_orderOf_X4_fails
set_option maxRecDepth 20000 in
theorem ggX4_orderOf_X4_orderAt : GoodIn wsX4_orderOf wsX4_orderAt := goodIn_r _ [21, 22, 23, 24, 25, 26, 4, 27, 28, 29, 30, 31, 32, 33, 34, 35, 36, 37, 38, 39, 40, 41, 42, 43, 44, 45] (by decide +kernel) (by decide +kernel)
set_option maxRecDepth 20000 in
theorem gX4_orderOf_X4_orderAt : GoodIn wsX4_orderOf (wsV RX4 87 RX4 yX4_orderAt wsX4_orderAt) := goodIn_app (goodIn_of _ (by decide +kernel)) ggX4_orderOf_X4_orderAt
theorem dX4_orderOf_0 : decode cX4_orderOf 0 = .ok (.aload_n 0, 1) := by decide +kernel
theorem dX4_orderOf_1 : decode cX4_orderOf 1 = .ok (.aload_n 0, 1) := by decide +kernel
theorem dX4_orderOf_2 : decode cX4_orderOf 2 = .ok (.iload_n 1, 1) := by decide +kernel
theorem dX4_orderOf_3 : decode cX4_orderOf 3 = .ok (.invokevirtual 74, 3) := by decide +kernel
theorem dX4_orderOf_6 : decode cX4_orderOf 6 = .ok (.ifCond .eq 14, 3) := by decide +kernel
theorem dX4_orderOf_9 : decode cX4_orderOf 9 = .ok (.iload_n 2, 1) := by decide +kernel
theorem dX4_orderOf_10 : decode cX4_orderOf 10 = .ok (.invokestatic 64, 3) := by decide +kernel
theorem dX4_orderOf_13 : decode cX4_orderOf 13 = .ok (.ifCond .eq 7, 3) := by decide +kernel
theorem dX4_orderOf_16 : decode cX4_orderOf 16 = .ok (.iconst 0, 1) := by decide +kernel
theorem dX4_orderOf_17 : decode cX4_orderOf 17 = .ok (.goto 4, 3) := by decide +kernel
theorem dX4_orderOf_20 : decode cX4_orderOf 20 = .ok (.iconst 1, 1) := by decide +kernel
theorem dX4_orderOf_21 : decode cX4_orderOf 21 = .ok (.invokevirtual 68, 3) := by decide +kernel
theorem dX4_orderOf_24 : decode cX4_orderOf 24 = .ok (.ifCond .eq 7, 3) := by decide +kernel
theorem dX4_orderOf_27 : decode cX4_orderOf 27 = .ok (.iconst 0, 1) := by decide +kernel
theorem dX4_orderOf_28 : decode cX4_orderOf 28 = .ok (.goto 9, 3) := by decide +kernel
theorem dX4_orderOf_31 : decode cX4_orderOf 31 = .ok (.aload_n 0, 1) := by decide +kernel
theorem dX4_orderOf_32 : decode cX4_orderOf 32 = .ok (.iload_n 1, 1) := by decide +kernel
theorem dX4_orderOf_33 : decode cX4_orderOf 33 = .ok (.iload_n 2, 1) := by decide +kernel
theorem dX4_orderOf_34 : decode cX4_orderOf 34 = .ok (.invokevirtual 87, 3) := by decide +kernel
theorem dX4_orderOf_37 : decode cX4_orderOf 37 = .ok (.ireturn, 1) := by decide +kernel
set_option maxRecDepth 20000 in
theorem ggX4_differences_X4_isLine : GoodIn wsX4_differences wsX4_isLine := goodIn_r _ [5, 6, 7, 8, 4, 9, 25, 26, 27, 28, 29, 30, 31, 32, 33, 34, 35, 36, 37, 38, 39, 40, 41, 42] (by decide +kernel) (by decide +kernel)
set_option maxRecDepth 20000 in
theorem gX4_differences_X4_isLine : GoodIn wsX4_differences (wsV RX4 74 RX4 yX4_isLine wsX4_isLine) := goodIn_app (goodIn_of _ (by decide +kernel)) ggX4_differences_X4_isLine
set_option maxRecDepth 20000 in
theorem ggX4_differences_X4_fails : GoodIn wsX4_differences wsX4_fails := goodIn_r _ [13, 14, 25, 26, 27, 28, 29, 30, 31, 32, 33, 34, 35, 36, 37, 38, 39, 40, 41, 42] (by decide +kernel) (by decide +kernel)
set_option maxRecDepth 20000 in
theorem gX4_differences_X4_fails : GoodIn wsX4_differences (wsV RX4 68 RX4 yX4_fails wsX4_fails) := goodIn_app (goodIn_of _ (by decide +kernel)) ggX4_differences_X4_fails
set_option maxRecDepth 20000 in
theorem ggX4_differences_X4_orderAt : GoodIn wsX4_differences wsX4_orderAt := goodIn_r _ [18, 19, 20, 21, 22, 23, 4, 24, 25, 26, 27, 28, 29, 30, 31, 32, 33, 34, 35, 36, 37, 38, 39, 40, 41, 42] (by decide +kernel) (by decide +kernel)
set_option maxRecDepth 20000 in
theorem gX4_differences_X4_orderAt : GoodIn wsX4_differences (wsV RX4 87 RX4 yX4_orderAt wsX4_orderAt) := goodIn_app (goodIn_of _ (by decide +kernel)) ggX4_differences_X4_orderAt
theorem dX4_differences_0 : decode cX4_differences 0 = .ok (.aload_n 0, 1) := by decide +kernel
theorem dX4_differences_1 : decode cX4_differences 1 = .ok (.aload_n 0, 1) := by decide +kernel
theorem dX4_differences_2 : decode cX4_differences 2 = .ok (.iload_n 1, 1) := by decide +kernel
theorem dX4_differences_3 : decode cX4_differences 3 = .ok (.invokevirtual 74, 3) := by decide +kernel
theorem dX4_differences_6 : decode cX4_differences 6 = .ok (.ifCond .eq 15, 3) := by decide +kernel
theorem dX4_differences_9 : decode cX4_differences 9 = .ok (.aload_n 0, 1) := by decide +kernel
theorem dX4_differences_10 : decode cX4_differences 10 = .ok (.iload_n 2, 1) := by decide +kernel
theorem dX4_differences_11 : decode cX4_differences 11 = .ok (.invokevirtual 74, 3) := by decide +kernel
theorem dX4_differences_14 : decode cX4_differences 14 = .ok (.ifCond .eq 7, 3) := by decide +kernel
theorem dX4_differences_17 : decode cX4_differences 17 = .ok (.iconst 0, 1) := by decide +kernel
theorem dX4_differences_18 : decode cX4_differences 18 = .ok (.goto 4, 3) := by decide +kernel
theorem dX4_differences_21 : decode cX4_differences 21 = .ok (.iconst 1, 1) := by decide +kernel
theorem dX4_differences_22 : decode cX4_differences 22 = .ok (.invokevirtual 68, 3) := by decide +kernel
theorem dX4_differences_25 : decode cX4_differences 25 = .ok (.ifCond .eq 5, 3) := by decide +kernel
theorem dX4_differences_28 : decode cX4_differences 28 = .ok (.iconst 0, 1) := by decide +kernel
theorem dX4_differences_29 : decode cX4_differences 29 = .ok (.ireturn, 1) := by decide +kernel
theorem dX4_differences_30 : decode cX4_differences 30 = .ok (.iconst 0, 1) := by decide +kernel
theorem dX4_differences_31 : decode cX4_differences 31 = .ok (.istore_n 3, 1) := by decide +kernel
theorem dX4_differences_32 : decode cX4_differences 32 = .ok (.iconst 0, 1) := by decide +kernel
theorem dX4_differences_33 : decode cX4_differences 33 = .ok (.istore 4, 2) := by decide +kernel
theorem dX4_differences_35 : decode cX4_differences 35 = .ok (.iload 4, 2) := by decide +kernel
theorem dX4_differences_37 : decode cX4_differences 37 = .ok (.bipush 30, 2) := by decide +kernel
theorem dX4_differences_39 : decode cX4_differences 39 = .ok (.if_icmp .ge 37, 3) := by decide +kernel
theorem dX4_differences_42 : decode cX4_differences 42 = .ok (.iload_n 3, 1) := by decide +kernel
theorem dX4_differences_43 : decode cX4_differences 43 = .ok (.aload_n 0, 1) := by decide +kernel
theorem dX4_differences_44 : decode cX4_differences 44 = .ok (.iload_n 1, 1) := by decide +kernel
theorem dX4_differences_45 : decode cX4_differences 45 = .ok (.iload 4, 2) := by decide +kernel
theorem dX4_differences_47 : decode cX4_differences 47 = .ok (.invokevirtual 87, 3) := by decide +kernel
theorem dX4_differences_50 : decode cX4_differences 50 = .ok (.aload_n 0, 1) := by decide +kernel
theorem dX4_differences_51 : decode cX4_differences 51 = .ok (.iload_n 2, 1) := by decide +kernel
theorem dX4_differences_52 : decode cX4_differences 52 = .ok (.iload 4, 2) := by decide +kernel
theorem dX4_differences_54 : decode cX4_differences 54 = .ok (.invokevirtual 87, 3) := by decide +kernel
theorem dX4_differences_57 : decode cX4_differences 57 = .ok (.if_icmp .ne 7, 3) := by decide +kernel
theorem dX4_differences_60 : decode cX4_differences 60 = .ok (.iconst 0, 1) := by decide +kernel
theorem dX4_differences_61 : decode cX4_differences 61 = .ok (.goto 7, 3) := by decide +kernel
theorem dX4_differences_64 : decode cX4_differences 64 = .ok (.iconst 1, 1) := by decide +kernel
theorem dX4_differences_65 : decode cX4_differences 65 = .ok (.iload 4, 2) := by decide +kernel
theorem dX4_differences_67 : decode cX4_differences 67 = .ok (.ishl, 1) := by decide +kernel
theorem dX4_differences_68 : decode cX4_differences 68 = .ok (.ior, 1) := by decide +kernel
theorem dX4_differences_69 : decode cX4_differences 69 = .ok (.istore_n 3, 1) := by decide +kernel
theorem dX4_differences_70 : decode cX4_differences 70 = .ok (.iinc 4 1, 3) := by decide +kernel
theorem dX4_differences_73 : decode cX4_differences 73 = .ok (.goto (-38), 3) := by decide +kernel
theorem dX4_differences_76 : decode cX4_differences 76 = .ok (.iload_n 3, 1) := by decide +kernel
theorem dX4_differences_77 : decode cX4_differences 77 = .ok (.ireturn, 1) := by decide +kernel
