theorem dX4_can_0 : decode cX4_can 0 = .ok (.iload 4, 2) := by decide +kernel
theorem dX4_can_2 : decode cX4_can 2 = .ok (.iconst 4, 1) := by decide +kernel
theorem dX4_can_3 : decode cX4_can 3 = .ok (.irem, 1) := by decide +kernel
theorem dX4_can_4 : decode cX4_can 4 = .ok (.iconst 3, 1) := by decide +kernel
theorem dX4_can_5 : decode cX4_can 5 = .ok (.if_icmp .ne 7, 3) := by decide +kernel
theorem dX4_can_8 : decode cX4_can 8 = .ok (.iconst 1, 1) := by decide +kernel
theorem dX4_can_9 : decode cX4_can 9 = .ok (.goto 7, 3) := by decide +kernel
theorem dX4_can_12 : decode cX4_can 12 = .ok (.iload 4, 2) := by decide +kernel
theorem dX4_can_14 : decode cX4_can 14 = .ok (.iconst 4, 1) := by decide +kernel
theorem dX4_can_15 : decode cX4_can 15 = .ok (.irem, 1) := by decide +kernel
theorem dX4_can_16 : decode cX4_can 16 = .ok (.istore 5, 2) := by decide +kernel
theorem dX4_can_18 : decode cX4_can 18 = .ok (.iload 5, 2) := by decide +kernel
theorem dX4_can_20 : decode cX4_can 20 = .ok (.aload_n 0, 1) := by decide +kernel
theorem dX4_can_21 : decode cX4_can 21 = .ok (.getfield 13, 3) := by decide +kernel
theorem dX4_can_24 : decode cX4_can 24 = .ok (.iload_n 2, 1) := by decide +kernel
theorem dX4_can_25 : decode cX4_can 25 = .ok (.iaload, 1) := by decide +kernel
theorem dX4_can_26 : decode cX4_can 26 = .ok (.if_icmp .ge 5, 3) := by decide +kernel
theorem dX4_can_29 : decode cX4_can 29 = .ok (.iconst 0, 1) := by decide +kernel
theorem dX4_can_30 : decode cX4_can 30 = .ok (.ireturn, 1) := by decide +kernel
theorem dX4_can_31 : decode cX4_can 31 = .ok (.iload_n 1, 1) := by decide +kernel
theorem dX4_can_32 : decode cX4_can 32 = .ok (.iconst 2, 1) := by decide +kernel
theorem dX4_can_33 : decode cX4_can 33 = .ok (.if_icmp .ne 27, 3) := by decide +kernel
theorem dX4_can_36 : decode cX4_can 36 = .ok (.aload_n 0, 1) := by decide +kernel
theorem dX4_can_37 : decode cX4_can 37 = .ok (.getfield 48, 3) := by decide +kernel
theorem dX4_can_40 : decode cX4_can 40 = .ok (.iload_n 2, 1) := by decide +kernel
theorem dX4_can_41 : decode cX4_can 41 = .ok (.iaload, 1) := by decide +kernel
theorem dX4_can_42 : decode cX4_can 42 = .ok (.ifCond .lt 16, 3) := by decide +kernel
theorem dX4_can_45 : decode cX4_can 45 = .ok (.aload_n 0, 1) := by decide +kernel
theorem dX4_can_46 : decode cX4_can 46 = .ok (.getfield 51, 3) := by decide +kernel
theorem dX4_can_49 : decode cX4_can 49 = .ok (.iload_n 2, 1) := by decide +kernel
theorem dX4_can_50 : decode cX4_can 50 = .ok (.iaload, 1) := by decide +kernel
theorem dX4_can_51 : decode cX4_can 51 = .ok (.ifCond .ne 7, 3) := by decide +kernel
theorem dX4_can_54 : decode cX4_can 54 = .ok (.iconst 1, 1) := by decide +kernel
theorem dX4_can_55 : decode cX4_can 55 = .ok (.goto 4, 3) := by decide +kernel
theorem dX4_can_58 : decode cX4_can 58 = .ok (.iconst 0, 1) := by decide +kernel
theorem dX4_can_59 : decode cX4_can 59 = .ok (.ireturn, 1) := by decide +kernel
theorem dX4_can_60 : decode cX4_can 60 = .ok (.aload_n 0, 1) := by decide +kernel
theorem dX4_can_61 : decode cX4_can 61 = .ok (.getfield 48, 3) := by decide +kernel
theorem dX4_can_64 : decode cX4_can 64 = .ok (.iload_n 2, 1) := by decide +kernel
theorem dX4_can_65 : decode cX4_can 65 = .ok (.iaload, 1) := by decide +kernel
theorem dX4_can_66 : decode cX4_can 66 = .ok (.iconst (-1), 1) := by decide +kernel
theorem dX4_can_67 : decode cX4_can 67 = .ok (.if_icmp .ne 7, 3) := by decide +kernel
theorem dX4_can_70 : decode cX4_can 70 = .ok (.iconst 1, 1) := by decide +kernel
theorem dX4_can_71 : decode cX4_can 71 = .ok (.goto 4, 3) := by decide +kernel
theorem dX4_can_74 : decode cX4_can 74 = .ok (.iconst 0, 1) := by decide +kernel
theorem dX4_can_75 : decode cX4_can 75 = .ok (.istore 6, 2) := by decide +kernel
theorem dX4_can_77 : decode cX4_can 77 = .ok (.iconst 0, 1) := by decide +kernel
theorem dX4_can_78 : decode cX4_can 78 = .ok (.istore 7, 2) := by decide +kernel
theorem dX4_can_80 : decode cX4_can 80 = .ok (.iload 7, 2) := by decide +kernel
theorem dX4_can_82 : decode cX4_can 82 = .ok (.aload_n 0, 1) := by decide +kernel
theorem dX4_can_83 : decode cX4_can 83 = .ok (.getfield 57, 3) := by decide +kernel
theorem dX4_can_86 : decode cX4_can 86 = .ok (.if_icmp .ge 32, 3) := by decide +kernel
theorem dX4_can_89 : decode cX4_can 89 = .ok (.iload 6, 2) := by decide +kernel
theorem dX4_can_91 : decode cX4_can 91 = .ok (.ifCond .eq 18, 3) := by decide +kernel
theorem dX4_can_94 : decode cX4_can 94 = .ok (.aload_n 0, 1) := by decide +kernel
theorem dX4_can_95 : decode cX4_can 95 = .ok (.getfield 48, 3) := by decide +kernel
theorem dX4_can_98 : decode cX4_can 98 = .ok (.iload 7, 2) := by decide +kernel
theorem dX4_can_100 : decode cX4_can 100 = .ok (.iaload, 1) := by decide +kernel
theorem dX4_can_101 : decode cX4_can 101 = .ok (.iload_n 3, 1) := by decide +kernel
theorem dX4_can_102 : decode cX4_can 102 = .ok (.if_icmp .eq 7, 3) := by decide +kernel
theorem dX4_can_105 : decode cX4_can 105 = .ok (.iconst 1, 1) := by decide +kernel
theorem dX4_can_106 : decode cX4_can 106 = .ok (.goto 4, 3) := by decide +kernel
theorem dX4_can_109 : decode cX4_can 109 = .ok (.iconst 0, 1) := by decide +kernel
theorem dX4_can_110 : decode cX4_can 110 = .ok (.istore 6, 2) := by decide +kernel
theorem dX4_can_112 : decode cX4_can 112 = .ok (.iinc 7 1, 3) := by decide +kernel
theorem dX4_can_115 : decode cX4_can 115 = .ok (.goto (-35), 3) := by decide +kernel
theorem dX4_can_118 : decode cX4_can 118 = .ok (.iload 6, 2) := by decide +kernel
theorem dX4_can_120 : decode cX4_can 120 = .ok (.ireturn, 1) := by decide +kernel
set_option maxRecDepth 20000 in
theorem ggX4_does_X4_can : GoodIn wsX4_does wsX4_can := goodIn_r _ [7, 8, 2, 9, 10, 11, 12, 13, 14, 15, 16, 17, 18, 19, 20, 21, 22, 23, 24, 25, 26, 27, 28] (by decide +kernel) (by decide +kernel)
set_option maxRecDepth 20000 in
theorem gX4_does_X4_can : GoodIn wsX4_does (wsV RX4 91 RX4 yX4_can wsX4_can) := goodIn_app (goodIn_of _ (by decide +kernel)) ggX4_does_X4_can
theorem dX4_does_0 : decode cX4_does 0 = .ok (.iload_n 1, 1) := by decide +kernel
theorem dX4_does_1 : decode cX4_does 1 = .ok (.bipush 100, 2) := by decide +kernel
theorem dX4_does_3 : decode cX4_does 3 = .ok (.idiv, 1) := by decide +kernel
theorem dX4_does_4 : decode cX4_does 4 = .ok (.istore_n 3, 1) := by decide +kernel
theorem dX4_does_5 : decode cX4_does 5 = .ok (.iload_n 1, 1) := by decide +kernel
theorem dX4_does_6 : decode cX4_does 6 = .ok (.bipush 10, 2) := by decide +kernel
theorem dX4_does_8 : decode cX4_does 8 = .ok (.idiv, 1) := by decide +kernel
theorem dX4_does_9 : decode cX4_does 9 = .ok (.bipush 10, 2) := by decide +kernel
theorem dX4_does_11 : decode cX4_does 11 = .ok (.irem, 1) := by decide +kernel
theorem dX4_does_12 : decode cX4_does 12 = .ok (.istore 4, 2) := by decide +kernel
theorem dX4_does_14 : decode cX4_does 14 = .ok (.iload_n 3, 1) := by decide +kernel
theorem dX4_does_15 : decode cX4_does 15 = .ok (.ifCond .ne 4, 3) := by decide +kernel
theorem dX4_does_18 : decode cX4_does 18 = .ok (.return_, 1) := by decide +kernel
theorem dX4_does_19 : decode cX4_does 19 = .ok (.aload_n 0, 1) := by decide +kernel
theorem dX4_does_20 : decode cX4_does 20 = .ok (.iload_n 3, 1) := by decide +kernel
theorem dX4_does_21 : decode cX4_does 21 = .ok (.iload 4, 2) := by decide +kernel
theorem dX4_does_23 : decode cX4_does 23 = .ok (.iload_n 1, 1) := by decide +kernel
theorem dX4_does_24 : decode cX4_does 24 = .ok (.bipush 10, 2) := by decide +kernel
theorem dX4_does_26 : decode cX4_does 26 = .ok (.irem, 1) := by decide +kernel
theorem dX4_does_27 : decode cX4_does 27 = .ok (.iload_n 2, 1) := by decide +kernel
theorem dX4_does_28 : decode cX4_does 28 = .ok (.invokevirtual 91, 3) := by decide +kernel
theorem dX4_does_31 : decode cX4_does 31 = .ok (.ifCond .ne 16, 3) := by decide +kernel
theorem dX4_does_34 : decode cX4_does 34 = .ok (.aload_n 0, 1) := by decide +kernel
theorem dX4_does_35 : decode cX4_does 35 = .ok (.dup, 1) := by decide +kernel
theorem dX4_does_36 : decode cX4_does 36 = .ok (.getfield 95, 3) := by decide +kernel
theorem dX4_does_39 : decode cX4_does 39 = .ok (.iconst 1, 1) := by decide +kernel
theorem dX4_does_40 : decode cX4_does 40 = .ok (.iload_n 2, 1) := by decide +kernel
theorem dX4_does_41 : decode cX4_does 41 = .ok (.ishl, 1) := by decide +kernel
theorem dX4_does_42 : decode cX4_does 42 = .ok (.ior, 1) := by decide +kernel
theorem dX4_does_43 : decode cX4_does 43 = .ok (.putfield 95, 3) := by decide +kernel
theorem dX4_does_46 : decode cX4_does 46 = .ok (.return_, 1) := by decide +kernel
theorem dX4_does_47 : decode cX4_does 47 = .ok (.aload_n 0, 1) := by decide +kernel
theorem dX4_does_48 : decode cX4_does 48 = .ok (.getfield 48, 3) := by decide +kernel
theorem dX4_does_51 : decode cX4_does 51 = .ok (.iload 4, 2) := by decide +kernel
theorem dX4_does_53 : decode cX4_does 53 = .ok (.iload_n 3, 1) := by decide +kernel
theorem dX4_does_54 : decode cX4_does 54 = .ok (.iconst 1, 1) := by decide +kernel
theorem dX4_does_55 : decode cX4_does 55 = .ok (.if_icmp .ne 10, 3) := by decide +kernel
theorem dX4_does_58 : decode cX4_does 58 = .ok (.iload_n 1, 1) := by decide +kernel
theorem dX4_does_59 : decode cX4_does 59 = .ok (.bipush 10, 2) := by decide +kernel
theorem dX4_does_61 : decode cX4_does 61 = .ok (.irem, 1) := by decide +kernel
theorem dX4_does_62 : decode cX4_does 62 = .ok (.goto 5, 3) := by decide +kernel
theorem dX4_does_65 : decode cX4_does 65 = .ok (.bipush (-3), 2) := by decide +kernel
theorem dX4_does_67 : decode cX4_does 67 = .ok (.iastore, 1) := by decide +kernel
theorem dX4_does_68 : decode cX4_does 68 = .ok (.return_, 1) := by decide +kernel
set_option maxRecDepth 20000 in
theorem ggX4_plays_X4_orderAt : GoodIn wsX4_plays wsX4_orderAt := goodIn_r _ [15, 16, 17, 18, 19, 20, 14, 21, 31, 32, 33, 34, 35, 36, 37, 38, 39, 40, 41, 42, 43, 44, 45, 46, 47, 48] (by decide +kernel) (by decide +kernel)
set_option maxRecDepth 20000 in
theorem gX4_plays_X4_orderAt : GoodIn wsX4_plays (wsV RX4 87 RX4 yX4_orderAt wsX4_orderAt) := goodIn_app (goodIn_of _ (by decide +kernel)) ggX4_plays_X4_orderAt
set_option maxRecDepth 20000 in
theorem ggX4_plays_X4_does : GoodIn wsX4_plays wsX4_does := goodIn_r _ [25, 2, 4, 26, 27, 28, 14, 29, 30, 5, 3, 31, 32, 33, 34, 35, 36, 37, 38, 39, 40, 41, 42, 43, 44, 45, 46, 47, 48] (by decide +kernel) (by decide +kernel)
set_option maxRecDepth 20000 in
theorem gX4_plays_X4_does : GoodIn wsX4_plays (wsV RX4 101 RX4 yX4_does wsX4_does) := goodIn_app (goodIn_of _ (by decide +kernel)) ggX4_plays_X4_does
theorem dX4_plays_0 : decode cX4_plays 0 = .ok (.aload_n 0, 1) := by decide +kernel
theorem dX4_plays_1 : decode cX4_plays 1 = .ok (.iconst 0, 1) := by decide +kernel
theorem dX4_plays_2 : decode cX4_plays 2 = .ok (.putfield 98, 3) := by decide +kernel
theorem dX4_plays_5 : decode cX4_plays 5 = .ok (.aload_n 0, 1) := by decide +kernel
theorem dX4_plays_6 : decode cX4_plays 6 = .ok (.iconst 0, 1) := by decide +kernel
theorem dX4_plays_7 : decode cX4_plays 7 = .ok (.putfield 95, 3) := by decide +kernel
theorem dX4_plays_10 : decode cX4_plays 10 = .ok (.iconst 0, 1) := by decide +kernel
theorem dX4_plays_11 : decode cX4_plays 11 = .ok (.istore_n 3, 1) := by decide +kernel
theorem dX4_plays_12 : decode cX4_plays 12 = .ok (.iload_n 3, 1) := by decide +kernel
theorem dX4_plays_13 : decode cX4_plays 13 = .ok (.aload_n 0, 1) := by decide +kernel
theorem dX4_plays_14 : decode cX4_plays 14 = .ok (.getfield 57, 3) := by decide +kernel
theorem dX4_plays_17 : decode cX4_plays 17 = .ok (.if_icmp .ge 29, 3) := by decide +kernel
theorem dX4_plays_20 : decode cX4_plays 20 = .ok (.aload_n 0, 1) := by decide +kernel
theorem dX4_plays_21 : decode cX4_plays 21 = .ok (.getfield 48, 3) := by decide +kernel
theorem dX4_plays_24 : decode cX4_plays 24 = .ok (.iload_n 3, 1) := by decide +kernel
theorem dX4_plays_25 : decode cX4_plays 25 = .ok (.bipush (-2), 2) := by decide +kernel
theorem dX4_plays_27 : decode cX4_plays 27 = .ok (.iastore, 1) := by decide +kernel
theorem dX4_plays_28 : decode cX4_plays 28 = .ok (.aload_n 0, 1) := by decide +kernel
theorem dX4_plays_29 : decode cX4_plays 29 = .ok (.getfield 51, 3) := by decide +kernel
theorem dX4_plays_32 : decode cX4_plays 32 = .ok (.iload_n 3, 1) := by decide +kernel
theorem dX4_plays_33 : decode cX4_plays 33 = .ok (.aload_n 0, 1) := by decide +kernel
theorem dX4_plays_34 : decode cX4_plays 34 = .ok (.getfield 16, 3) := by decide +kernel
theorem dX4_plays_37 : decode cX4_plays 37 = .ok (.iload_n 3, 1) := by decide +kernel
theorem dX4_plays_38 : decode cX4_plays 38 = .ok (.iaload, 1) := by decide +kernel
theorem dX4_plays_39 : decode cX4_plays 39 = .ok (.iastore, 1) := by decide +kernel
theorem dX4_plays_40 : decode cX4_plays 40 = .ok (.iinc 3 1, 3) := by decide +kernel
theorem dX4_plays_43 : decode cX4_plays 43 = .ok (.goto (-31), 3) := by decide +kernel
theorem dX4_plays_46 : decode cX4_plays 46 = .ok (.iconst 0, 1) := by decide +kernel
theorem dX4_plays_47 : decode cX4_plays 47 = .ok (.istore_n 3, 1) := by decide +kernel
theorem dX4_plays_48 : decode cX4_plays 48 = .ok (.iload_n 3, 1) := by decide +kernel
theorem dX4_plays_49 : decode cX4_plays 49 = .ok (.iload_n 2, 1) := by decide +kernel
theorem dX4_plays_50 : decode cX4_plays 50 = .ok (.if_icmp .gt 197, 3) := by decide +kernel
theorem dX4_plays_53 : decode cX4_plays 53 = .ok (.iconst 0, 1) := by decide +kernel
theorem dX4_plays_54 : decode cX4_plays 54 = .ok (.istore 4, 2) := by decide +kernel
theorem dX4_plays_56 : decode cX4_plays 56 = .ok (.iload 4, 2) := by decide +kernel
theorem dX4_plays_58 : decode cX4_plays 58 = .ok (.aload_n 0, 1) := by decide +kernel
theorem dX4_plays_59 : decode cX4_plays 59 = .ok (.getfield 57, 3) := by decide +kernel
theorem dX4_plays_62 : decode cX4_plays 62 = .ok (.if_icmp .ge 38, 3) := by decide +kernel
theorem dX4_plays_65 : decode cX4_plays 65 = .ok (.aload_n 0, 1) := by decide +kernel
theorem dX4_plays_66 : decode cX4_plays 66 = .ok (.getfield 48, 3) := by decide +kernel
theorem dX4_plays_69 : decode cX4_plays 69 = .ok (.iload 4, 2) := by decide +kernel
theorem dX4_plays_71 : decode cX4_plays 71 = .ok (.aload_n 0, 1) := by decide +kernel
theorem dX4_plays_72 : decode cX4_plays 72 = .ok (.getfield 7, 3) := by decide +kernel
theorem dX4_plays_75 : decode cX4_plays 75 = .ok (.iload 4, 2) := by decide +kernel
theorem dX4_plays_77 : decode cX4_plays 77 = .ok (.iaload, 1) := by decide +kernel
theorem dX4_plays_78 : decode cX4_plays 78 = .ok (.iload_n 3, 1) := by decide +kernel
theorem dX4_plays_79 : decode cX4_plays 79 = .ok (.if_icmp .ne 7, 3) := by decide +kernel
theorem dX4_plays_82 : decode cX4_plays 82 = .ok (.iconst (-1), 1) := by decide +kernel
theorem dX4_plays_83 : decode cX4_plays 83 = .ok (.goto 10, 3) := by decide +kernel
theorem dX4_plays_86 : decode cX4_plays 86 = .ok (.aload_n 0, 1) := by decide +kernel
theorem dX4_plays_87 : decode cX4_plays 87 = .ok (.getfield 48, 3) := by decide +kernel
theorem dX4_plays_90 : decode cX4_plays 90 = .ok (.iload 4, 2) := by decide +kernel
theorem dX4_plays_92 : decode cX4_plays 92 = .ok (.iaload, 1) := by decide +kernel
theorem dX4_plays_93 : decode cX4_plays 93 = .ok (.iastore, 1) := by decide +kernel
theorem dX4_plays_94 : decode cX4_plays 94 = .ok (.iinc 4 1, 3) := by decide +kernel
theorem dX4_plays_97 : decode cX4_plays 97 = .ok (.goto (-41), 3) := by decide +kernel
theorem dX4_plays_100 : decode cX4_plays 100 = .ok (.aload_n 0, 1) := by decide +kernel
theorem dX4_plays_101 : decode cX4_plays 101 = .ok (.aload_n 0, 1) := by decide +kernel
theorem dX4_plays_102 : decode cX4_plays 102 = .ok (.iload_n 1, 1) := by decide +kernel
theorem dX4_plays_103 : decode cX4_plays 103 = .ok (.iload_n 3, 1) := by decide +kernel
theorem dX4_plays_104 : decode cX4_plays 104 = .ok (.invokevirtual 87, 3) := by decide +kernel
theorem dX4_plays_107 : decode cX4_plays 107 = .ok (.iload_n 3, 1) := by decide +kernel
theorem dX4_plays_108 : decode cX4_plays 108 = .ok (.invokevirtual 101, 3) := by decide +kernel
theorem dX4_plays_111 : decode cX4_plays 111 = .ok (.iconst 0, 1) := by decide +kernel
theorem dX4_plays_112 : decode cX4_plays 112 = .ok (.istore 4, 2) := by decide +kernel
theorem dX4_plays_114 : decode cX4_plays 114 = .ok (.iload 4, 2) := by decide +kernel
theorem dX4_plays_116 : decode cX4_plays 116 = .ok (.aload_n 0, 1) := by decide +kernel
theorem dX4_plays_117 : decode cX4_plays 117 = .ok (.getfield 57, 3) := by decide +kernel
theorem dX4_plays_120 : decode cX4_plays 120 = .ok (.if_icmp .ge 121, 3) := by decide +kernel
theorem dX4_plays_123 : decode cX4_plays 123 = .ok (.aload_n 0, 1) := by decide +kernel
theorem dX4_plays_124 : decode cX4_plays 124 = .ok (.getfield 48, 3) := by decide +kernel
theorem dX4_plays_127 : decode cX4_plays 127 = .ok (.iload 4, 2) := by decide +kernel
theorem dX4_plays_129 : decode cX4_plays 129 = .ok (.iaload, 1) := by decide +kernel
theorem dX4_plays_130 : decode cX4_plays 130 = .ok (.ifCond .lt 77, 3) := by decide +kernel
theorem dX4_plays_133 : decode cX4_plays 133 = .ok (.aload_n 0, 1) := by decide +kernel
theorem dX4_plays_134 : decode cX4_plays 134 = .ok (.getfield 51, 3) := by decide +kernel
theorem dX4_plays_137 : decode cX4_plays 137 = .ok (.iload 4, 2) := by decide +kernel
theorem dX4_plays_139 : decode cX4_plays 139 = .ok (.iaload, 1) := by decide +kernel
theorem dX4_plays_140 : decode cX4_plays 140 = .ok (.aload_n 0, 1) := by decide +kernel
theorem dX4_plays_141 : decode cX4_plays 141 = .ok (.getfield 19, 3) := by decide +kernel
theorem dX4_plays_144 : decode cX4_plays 144 = .ok (.aload_n 0, 1) := by decide +kernel
theorem dX4_plays_145 : decode cX4_plays 145 = .ok (.getfield 48, 3) := by decide +kernel
theorem dX4_plays_148 : decode cX4_plays 148 = .ok (.iload 4, 2) := by decide +kernel
theorem dX4_plays_150 : decode cX4_plays 150 = .ok (.iaload, 1) := by decide +kernel
theorem dX4_plays_151 : decode cX4_plays 151 = .ok (.iaload, 1) := by decide +kernel
theorem dX4_plays_152 : decode cX4_plays 152 = .ok (.if_icmp .ge 13, 3) := by decide +kernel
theorem dX4_plays_155 : decode cX4_plays 155 = .ok (.aload_n 0, 1) := by decide +kernel
theorem dX4_plays_156 : decode cX4_plays 156 = .ok (.getfield 51, 3) := by decide +kernel
theorem dX4_plays_159 : decode cX4_plays 159 = .ok (.iload 4, 2) := by decide +kernel
theorem dX4_plays_161 : decode cX4_plays 161 = .ok (.iaload, 1) := by decide +kernel
theorem dX4_plays_162 : decode cX4_plays 162 = .ok (.goto 15, 3) := by decide +kernel
theorem dX4_plays_165 : decode cX4_plays 165 = .ok (.aload_n 0, 1) := by decide +kernel
theorem dX4_plays_166 : decode cX4_plays 166 = .ok (.getfield 19, 3) := by decide +kernel
theorem dX4_plays_169 : decode cX4_plays 169 = .ok (.aload_n 0, 1) := by decide +kernel
theorem dX4_plays_170 : decode cX4_plays 170 = .ok (.getfield 48, 3) := by decide +kernel
theorem dX4_plays_173 : decode cX4_plays 173 = .ok (.iload 4, 2) := by decide +kernel
theorem dX4_plays_175 : decode cX4_plays 175 = .ok (.iaload, 1) := by decide +kernel
theorem dX4_plays_176 : decode cX4_plays 176 = .ok (.iaload, 1) := by decide +kernel
theorem dX4_plays_177 : decode cX4_plays 177 = .ok (.istore 5, 2) := by decide +kernel
theorem dX4_plays_179 : decode cX4_plays 179 = .ok (.aload_n 0, 1) := by decide +kernel
theorem dX4_plays_180 : decode cX4_plays 180 = .ok (.getfield 51, 3) := by decide +kernel
theorem dX4_plays_183 : decode cX4_plays 183 = .ok (.iload 4, 2) := by decide +kernel
theorem dX4_plays_185 : decode cX4_plays 185 = .ok (.dup2, 1) := by decide +kernel
theorem dX4_plays_186 : decode cX4_plays 186 = .ok (.iaload, 1) := by decide +kernel
theorem dX4_plays_187 : decode cX4_plays 187 = .ok (.iload 5, 2) := by decide +kernel
theorem dX4_plays_189 : decode cX4_plays 189 = .ok (.isub, 1) := by decide +kernel
theorem dX4_plays_190 : decode cX4_plays 190 = .ok (.iastore, 1) := by decide +kernel
theorem dX4_plays_191 : decode cX4_plays 191 = .ok (.aload_n 0, 1) := by decide +kernel
theorem dX4_plays_192 : decode cX4_plays 192 = .ok (.dup, 1) := by decide +kernel
theorem dX4_plays_193 : decode cX4_plays 193 = .ok (.getfield 98, 3) := by decide +kernel
theorem dX4_plays_196 : decode cX4_plays 196 = .ok (.aload_n 0, 1) := by decide +kernel
theorem dX4_plays_197 : decode cX4_plays 197 = .ok (.getfield 22, 3) := by decide +kernel
theorem dX4_plays_200 : decode cX4_plays 200 = .ok (.iload 5, 2) := by decide +kernel
theorem dX4_plays_202 : decode cX4_plays 202 = .ok (.imul, 1) := by decide +kernel
theorem dX4_plays_203 : decode cX4_plays 203 = .ok (.iadd, 1) := by decide +kernel
theorem dX4_plays_204 : decode cX4_plays 204 = .ok (.putfield 98, 3) := by decide +kernel
theorem dX4_plays_207 : decode cX4_plays 207 = .ok (.aload_n 0, 1) := by decide +kernel
theorem dX4_plays_208 : decode cX4_plays 208 = .ok (.dup, 1) := by decide +kernel
theorem dX4_plays_209 : decode cX4_plays 209 = .ok (.getfield 98, 3) := by decide +kernel
theorem dX4_plays_212 : decode cX4_plays 212 = .ok (.aload_n 0, 1) := by decide +kernel
theorem dX4_plays_213 : decode cX4_plays 213 = .ok (.getfield 48, 3) := by decide +kernel
theorem dX4_plays_216 : decode cX4_plays 216 = .ok (.iload 4, 2) := by decide +kernel
theorem dX4_plays_218 : decode cX4_plays 218 = .ok (.iaload, 1) := by decide +kernel
theorem dX4_plays_219 : decode cX4_plays 219 = .ok (.iconst (-1), 1) := by decide +kernel
theorem dX4_plays_220 : decode cX4_plays 220 = .ok (.if_icmp .ne 10, 3) := by decide +kernel
theorem dX4_plays_223 : decode cX4_plays 223 = .ok (.aload_n 0, 1) := by decide +kernel
theorem dX4_plays_224 : decode cX4_plays 224 = .ok (.getfield 26, 3) := by decide +kernel
theorem dX4_plays_227 : decode cX4_plays 227 = .ok (.goto 4, 3) := by decide +kernel
theorem dX4_plays_230 : decode cX4_plays 230 = .ok (.iconst 0, 1) := by decide +kernel
theorem dX4_plays_231 : decode cX4_plays 231 = .ok (.isub, 1) := by decide +kernel
theorem dX4_plays_232 : decode cX4_plays 232 = .ok (.putfield 98, 3) := by decide +kernel
theorem dX4_plays_235 : decode cX4_plays 235 = .ok (.iinc 4 1, 3) := by decide +kernel
theorem dX4_plays_238 : decode cX4_plays 238 = .ok (.goto (-124), 3) := by decide +kernel
theorem dX4_plays_241 : decode cX4_plays 241 = .ok (.iinc 3 1, 3) := by decide +kernel
theorem dX4_plays_244 : decode cX4_plays 244 = .ok (.goto (-196), 3) := by decide +kernel
theorem dX4_plays_247 : decode cX4_plays 247 = .ok (.return_, 1) := by decide +kernel
set_option maxRecDepth 20000 in
theorem ggX4_misses_X4_isLine : GoodIn wsX4_misses wsX4_isLine := goodIn_r _ [5, 6, 7, 8, 4, 9, 23, 24, 25, 26, 27, 28, 29, 30, 31, 32, 33, 34, 35, 36, 37, 38, 39, 40] (by decide +kernel) (by decide +kernel)
set_option maxRecDepth 20000 in
theorem gX4_misses_X4_isLine : GoodIn wsX4_misses (wsV RX4 74 RX4 yX4_isLine wsX4_isLine) := goodIn_app (goodIn_of _ (by decide +kernel)) ggX4_misses_X4_isLine
set_option maxRecDepth 20000 in
theorem ggX4_misses_X4_isShip : GoodIn wsX4_misses wsX4_isShip := goodIn_r _ [13, 14, 7, 8, 4, 9, 23, 24, 25, 26, 27, 28, 29, 30, 31, 32, 33, 34, 35, 36, 37, 38, 39, 40] (by decide +kernel) (by decide +kernel)
set_option maxRecDepth 20000 in
theorem gX4_misses_X4_isShip : GoodIn wsX4_misses (wsV RX4 77 RX4 yX4_isShip wsX4_isShip) := goodIn_app (goodIn_of _ (by decide +kernel)) ggX4_misses_X4_isShip
set_option maxRecDepth 20000 in
theorem ggX4_misses_X4_isTurn : GoodIn wsX4_misses wsX4_isTurn := goodIn_r _ [17, 7, 8, 4, 9] (by decide +kernel) (by decide +kernel)
set_option maxRecDepth 20000 in
theorem gX4_misses_X4_isTurn : GoodIn wsX4_misses (va_wsS RX4 64 yX4_isTurn wsX4_isTurn) := goodIn_app (goodIn_of _ (by decide +kernel)) ggX4_misses_X4_isTurn
set_option maxRecDepth 20000 in
theorem ggX4_misses_X4_fails : GoodIn wsX4_misses wsX4_fails := goodIn_r _ [21, 22, 23, 24, 25, 26, 27, 28, 29, 30, 31, 32, 33, 34, 35, 36, 37, 38, 39, 40] (by decide +kernel) (by decide +kernel)
set_option maxRecDepth 20000 in
theorem gX4_misses_X4_fails : GoodIn wsX4_misses (wsV RX4 68 RX4 yX4_fails wsX4_fails) := goodIn_app (goodIn_of _ (by decide +kernel)) ggX4_misses_X4_fails
theorem dX4_misses_0 : decode cX4_misses 0 = .ok (.aload_n 0, 1) := by decide +kernel
theorem dX4_misses_1 : decode cX4_misses 1 = .ok (.aload_n 0, 1) := by decide +kernel
theorem dX4_misses_2 : decode cX4_misses 2 = .ok (.iload_n 1, 1) := by decide +kernel
theorem dX4_misses_3 : decode cX4_misses 3 = .ok (.invokevirtual 74, 3) := by decide +kernel
theorem dX4_misses_6 : decode cX4_misses 6 = .ok (.ifCond .eq 22, 3) := by decide +kernel
theorem dX4_misses_9 : decode cX4_misses 9 = .ok (.aload_n 0, 1) := by decide +kernel
theorem dX4_misses_10 : decode cX4_misses 10 = .ok (.iload_n 2, 1) := by decide +kernel
theorem dX4_misses_11 : decode cX4_misses 11 = .ok (.invokevirtual 77, 3) := by decide +kernel
theorem dX4_misses_14 : decode cX4_misses 14 = .ok (.ifCond .eq 14, 3) := by decide +kernel
theorem dX4_misses_17 : decode cX4_misses 17 = .ok (.iload_n 3, 1) := by decide +kernel
theorem dX4_misses_18 : decode cX4_misses 18 = .ok (.invokestatic 64, 3) := by decide +kernel
theorem dX4_misses_21 : decode cX4_misses 21 = .ok (.ifCond .eq 7, 3) := by decide +kernel
theorem dX4_misses_24 : decode cX4_misses 24 = .ok (.iconst 0, 1) := by decide +kernel
theorem dX4_misses_25 : decode cX4_misses 25 = .ok (.goto 4, 3) := by decide +kernel
theorem dX4_misses_28 : decode cX4_misses 28 = .ok (.iconst 1, 1) := by decide +kernel
theorem dX4_misses_29 : decode cX4_misses 29 = .ok (.invokevirtual 68, 3) := by decide +kernel
theorem dX4_misses_32 : decode cX4_misses 32 = .ok (.ireturn, 1) := by decide +kernel
set_option maxRecDepth 20000 in
theorem ggX4_where_X4_misses : GoodIn wsX4_where wsX4_misses := goodIn_r _ [6, 7, 8, 9, 5, 10, 11, 12, 13, 14, 15, 16, 17, 18, 19, 20, 21, 22, 23, 24, 25, 26, 27, 59, 60, 61, 62, 63, 64, 65, 66, 67, 68, 69, 70, 71, 72, 73, 74, 75, 76] (by decide +kernel) (by decide +kernel)
set_option maxRecDepth 20000 in
theorem gX4_where_X4_misses : GoodIn wsX4_where (wsV RX4 105 RX4 yX4_misses wsX4_misses) := goodIn_app (goodIn_of _ (by decide +kernel)) ggX4_where_X4_misses
set_option maxRecDepth 20000 in
theorem ggX4_where_X4_plays : GoodIn wsX4_where wsX4_plays := goodIn_r _ [31, 32, 33, 19, 1, 34, 35, 36, 37, 38, 39, 40, 41, 42, 5, 43, 44, 45, 46, 47, 48, 49, 50, 51, 52, 53, 54, 55, 56, 57, 58, 59, 60, 61, 62, 63, 64, 65, 66, 67, 68, 69, 70, 71, 72, 73, 74, 75, 76] (by decide +kernel) (by decide +kernel)
set_option maxRecDepth 20000 in
theorem gX4_where_X4_plays : GoodIn wsX4_where (wsV RX4 108 RX4 yX4_plays wsX4_plays) := goodIn_app (goodIn_of _ (by decide +kernel)) ggX4_where_X4_plays
theorem dX4_where_0 : decode cX4_where 0 = .ok (.aload_n 0, 1) := by decide +kernel
theorem dX4_where_1 : decode cX4_where 1 = .ok (.iload_n 1, 1) := by decide +kernel
theorem dX4_where_2 : decode cX4_where 2 = .ok (.iload_n 2, 1) := by decide +kernel
theorem dX4_where_3 : decode cX4_where 3 = .ok (.iload_n 3, 1) := by decide +kernel
theorem dX4_where_4 : decode cX4_where 4 = .ok (.invokevirtual 105, 3) := by decide +kernel
theorem dX4_where_7 : decode cX4_where 7 = .ok (.ifCond .eq 5, 3) := by decide +kernel
theorem dX4_where_10 : decode cX4_where 10 = .ok (.iconst 0, 1) := by decide +kernel
theorem dX4_where_11 : decode cX4_where 11 = .ok (.ireturn, 1) := by decide +kernel
theorem dX4_where_12 : decode cX4_where 12 = .ok (.aload_n 0, 1) := by decide +kernel
theorem dX4_where_13 : decode cX4_where 13 = .ok (.iload_n 1, 1) := by decide +kernel
theorem dX4_where_14 : decode cX4_where 14 = .ok (.iload_n 3, 1) := by decide +kernel
theorem dX4_where_15 : decode cX4_where 15 = .ok (.invokevirtual 108, 3) := by decide +kernel
theorem dX4_where_18 : decode cX4_where 18 = .ok (.aload_n 0, 1) := by decide +kernel
theorem dX4_where_19 : decode cX4_where 19 = .ok (.getfield 48, 3) := by decide +kernel
theorem dX4_where_22 : decode cX4_where 22 = .ok (.iload_n 2, 1) := by decide +kernel
theorem dX4_where_23 : decode cX4_where 23 = .ok (.iaload, 1) := by decide +kernel
theorem dX4_where_24 : decode cX4_where 24 = .ok (.ireturn, 1) := by decide +kernel
set_option maxRecDepth 20000 in
theorem ggX4_cargo_X4_misses : GoodIn wsX4_cargo wsX4_misses := goodIn_r _ [6, 7, 8, 9, 5, 10, 11, 12, 13, 14, 15, 16, 17, 18, 19, 20, 21, 22, 23, 24, 25, 26, 27, 59, 60, 61, 62, 63, 64, 65, 66, 67, 68, 69, 70, 71, 72, 73, 74, 75, 76] (by decide +kernel) (by decide +kernel)
set_option maxRecDepth 20000 in
theorem gX4_cargo_X4_misses : GoodIn wsX4_cargo (wsV RX4 105 RX4 yX4_misses wsX4_misses) := goodIn_app (goodIn_of _ (by decide +kernel)) ggX4_cargo_X4_misses
set_option maxRecDepth 20000 in
theorem ggX4_cargo_X4_plays : GoodIn wsX4_cargo wsX4_plays := goodIn_r _ [31, 32, 33, 19, 34, 1, 35, 36, 37, 38, 39, 40, 41, 42, 5, 43, 44, 45, 46, 47, 48, 49, 50, 51, 52, 53, 54, 55, 56, 57, 58, 59, 60, 61, 62, 63, 64, 65, 66, 67, 68, 69, 70, 71, 72, 73, 74, 75, 76] (by decide +kernel) (by decide +kernel)
set_option maxRecDepth 20000 in
theorem gX4_cargo_X4_plays : GoodIn wsX4_cargo (wsV RX4 108 RX4 yX4_plays wsX4_plays) := goodIn_app (goodIn_of _ (by decide +kernel)) ggX4_cargo_X4_plays
theorem dX4_cargo_0 : decode cX4_cargo 0 = .ok (.aload_n 0, 1) := by decide +kernel
theorem dX4_cargo_1 : decode cX4_cargo 1 = .ok (.iload_n 1, 1) := by decide +kernel
theorem dX4_cargo_2 : decode cX4_cargo 2 = .ok (.iload_n 2, 1) := by decide +kernel
theorem dX4_cargo_3 : decode cX4_cargo 3 = .ok (.iload_n 3, 1) := by decide +kernel
theorem dX4_cargo_4 : decode cX4_cargo 4 = .ok (.invokevirtual 105, 3) := by decide +kernel
theorem dX4_cargo_7 : decode cX4_cargo 7 = .ok (.ifCond .eq 5, 3) := by decide +kernel
theorem dX4_cargo_10 : decode cX4_cargo 10 = .ok (.iconst 0, 1) := by decide +kernel
theorem dX4_cargo_11 : decode cX4_cargo 11 = .ok (.ireturn, 1) := by decide +kernel
theorem dX4_cargo_12 : decode cX4_cargo 12 = .ok (.aload_n 0, 1) := by decide +kernel
theorem dX4_cargo_13 : decode cX4_cargo 13 = .ok (.iload_n 1, 1) := by decide +kernel
theorem dX4_cargo_14 : decode cX4_cargo 14 = .ok (.iload_n 3, 1) := by decide +kernel
theorem dX4_cargo_15 : decode cX4_cargo 15 = .ok (.invokevirtual 108, 3) := by decide +kernel
theorem dX4_cargo_18 : decode cX4_cargo 18 = .ok (.aload_n 0, 1) := by decide +kernel
theorem dX4_cargo_19 : decode cX4_cargo 19 = .ok (.getfield 51, 3) := by decide +kernel
theorem dX4_cargo_22 : decode cX4_cargo 22 = .ok (.iload_n 2, 1) := by decide +kernel
theorem dX4_cargo_23 : decode cX4_cargo 23 = .ok (.iaload, 1) := by decide +kernel
theorem dX4_cargo_24 : decode cX4_cargo 24 = .ok (.ireturn, 1) := by decide +kernel
set_option maxRecDepth 20000 in
theorem ggX4_failures_X4_isLine : GoodIn wsX4_failures wsX4_isLine := goodIn_r _ [6, 7, 8, 9, 5, 10, 48, 49, 50, 51, 52, 53, 54, 55, 56, 57, 58, 59, 60, 61, 62, 63, 64, 65] (by decide +kernel) (by decide +kernel)
set_option maxRecDepth 20000 in
theorem gX4_failures_X4_isLine : GoodIn wsX4_failures (wsV RX4 74 RX4 yX4_isLine wsX4_isLine) := goodIn_app (goodIn_of _ (by decide +kernel)) ggX4_failures_X4_isLine
set_option maxRecDepth 20000 in
theorem ggX4_failures_X4_fails : GoodIn wsX4_failures wsX4_fails := goodIn_r _ [14, 15, 48, 49, 50, 51, 52, 53, 54, 55, 56, 57, 58, 59, 60, 61, 62, 63, 64, 65] (by decide +kernel) (by decide +kernel)
set_option maxRecDepth 20000 in
theorem gX4_failures_X4_fails : GoodIn wsX4_failures (wsV RX4 68 RX4 yX4_fails wsX4_fails) := goodIn_app (goodIn_of _ (by decide +kernel)) ggX4_failures_X4_fails
set_option maxRecDepth 20000 in
theorem ggX4_failures_X4_plays : GoodIn wsX4_failures wsX4_plays := goodIn_r _ [19, 20, 1, 21, 22, 23, 24, 25, 26, 27, 28, 29, 30, 31, 5, 32, 33, 34, 35, 36, 37, 38, 39, 40, 41, 42, 43, 44, 45, 46, 47, 48, 49, 50, 51, 52, 53, 54, 55, 56, 57, 58, 59, 60, 61, 62, 63, 64, 65] (by decide +kernel) (by decide +kernel)
set_option maxRecDepth 20000 in
theorem gX4_failures_X4_plays : GoodIn wsX4_failures (wsV RX4 108 RX4 yX4_plays wsX4_plays) := goodIn_app (goodIn_of _ (by decide +kernel)) ggX4_failures_X4_plays
theorem dX4_failures_0 : decode cX4_failures 0 = .ok (.aload_n 0, 1) := by decide +kernel
theorem dX4_failures_1 : decode cX4_failures 1 = .ok (.aload_n 0, 1) := by decide +kernel
theorem dX4_failures_2 : decode cX4_failures 2 = .ok (.iload_n 1, 1) := by decide +kernel
theorem dX4_failures_3 : decode cX4_failures 3 = .ok (.invokevirtual 74, 3) := by decide +kernel
theorem dX4_failures_6 : decode cX4_failures 6 = .ok (.ifCond .eq 7, 3) := by decide +kernel
theorem dX4_failures_9 : decode cX4_failures 9 = .ok (.iconst 0, 1) := by decide +kernel
theorem dX4_failures_10 : decode cX4_failures 10 = .ok (.goto 4, 3) := by decide +kernel
theorem dX4_failures_13 : decode cX4_failures 13 = .ok (.iconst 1, 1) := by decide +kernel
theorem dX4_failures_14 : decode cX4_failures 14 = .ok (.invokevirtual 68, 3) := by decide +kernel
theorem dX4_failures_17 : decode cX4_failures 17 = .ok (.ifCond .eq 5, 3) := by decide +kernel
theorem dX4_failures_20 : decode cX4_failures 20 = .ok (.iconst 0, 1) := by decide +kernel
theorem dX4_failures_21 : decode cX4_failures 21 = .ok (.ireturn, 1) := by decide +kernel
theorem dX4_failures_22 : decode cX4_failures 22 = .ok (.aload_n 0, 1) := by decide +kernel
theorem dX4_failures_23 : decode cX4_failures 23 = .ok (.iload_n 1, 1) := by decide +kernel
theorem dX4_failures_24 : decode cX4_failures 24 = .ok (.bipush 29, 2) := by decide +kernel
theorem dX4_failures_26 : decode cX4_failures 26 = .ok (.invokevirtual 108, 3) := by decide +kernel
theorem dX4_failures_29 : decode cX4_failures 29 = .ok (.aload_n 0, 1) := by decide +kernel
theorem dX4_failures_30 : decode cX4_failures 30 = .ok (.getfield 95, 3) := by decide +kernel
theorem dX4_failures_33 : decode cX4_failures 33 = .ok (.ireturn, 1) := by decide +kernel
set_option maxRecDepth 20000 in
theorem ggX4_look_X4_isLine : GoodIn wsX4_look wsX4_isLine := goodIn_r _ [7, 8, 9, 10, 6, 11, 52, 53, 54, 55, 56, 57, 58, 59, 60, 61, 62, 63, 64, 65, 66, 67, 68, 69] (by decide +kernel) (by decide +kernel)
set_option maxRecDepth 20000 in
theorem gX4_look_X4_isLine : GoodIn wsX4_look (wsV RX4 74 RX4 yX4_isLine wsX4_isLine) := goodIn_app (goodIn_of _ (by decide +kernel)) ggX4_look_X4_isLine
set_option maxRecDepth 20000 in
theorem ggX4_look_X4_isTurn : GoodIn wsX4_look wsX4_isTurn := goodIn_r _ [14, 9, 10, 6, 11] (by decide +kernel) (by decide +kernel)
set_option maxRecDepth 20000 in
theorem gX4_look_X4_isTurn : GoodIn wsX4_look (va_wsS RX4 64 yX4_isTurn wsX4_isTurn) := goodIn_app (goodIn_of _ (by decide +kernel)) ggX4_look_X4_isTurn
set_option maxRecDepth 20000 in
theorem ggX4_look_X4_fails : GoodIn wsX4_look wsX4_fails := goodIn_r _ [18, 19, 52, 53, 54, 55, 56, 57, 58, 59, 60, 61, 62, 63, 64, 65, 66, 67, 68, 69] (by decide +kernel) (by decide +kernel)
set_option maxRecDepth 20000 in
theorem gX4_look_X4_fails : GoodIn wsX4_look (wsV RX4 68 RX4 yX4_fails wsX4_fails) := goodIn_app (goodIn_of _ (by decide +kernel)) ggX4_look_X4_fails
set_option maxRecDepth 20000 in
theorem ggX4_look_X4_plays : GoodIn wsX4_look wsX4_plays := goodIn_r _ [23, 2, 24, 25, 26, 27, 28, 29, 30, 31, 32, 33, 34, 35, 6, 36, 37, 38, 39, 40, 41, 42, 43, 44, 45, 46, 47, 48, 49, 50, 51, 52, 53, 54, 55, 56, 57, 58, 59, 60, 61, 62, 63, 64, 65, 66, 67, 68, 69] (by decide +kernel) (by decide +kernel)
set_option maxRecDepth 20000 in
theorem gX4_look_X4_plays : GoodIn wsX4_look (wsV RX4 108 RX4 yX4_plays wsX4_plays) := goodIn_app (goodIn_of _ (by decide +kernel)) ggX4_look_X4_plays
theorem dX4_look_0 : decode cX4_look 0 = .ok (.aload_n 0, 1) := by decide +kernel
theorem dX4_look_1 : decode cX4_look 1 = .ok (.aload_n 0, 1) := by decide +kernel
theorem dX4_look_2 : decode cX4_look 2 = .ok (.iload_n 1, 1) := by decide +kernel
theorem dX4_look_3 : decode cX4_look 3 = .ok (.invokevirtual 74, 3) := by decide +kernel
theorem dX4_look_6 : decode cX4_look 6 = .ok (.ifCond .eq 14, 3) := by decide +kernel
theorem dX4_look_9 : decode cX4_look 9 = .ok (.iload_n 2, 1) := by decide +kernel
theorem dX4_look_10 : decode cX4_look 10 = .ok (.invokestatic 64, 3) := by decide +kernel
theorem dX4_look_13 : decode cX4_look 13 = .ok (.ifCond .eq 7, 3) := by decide +kernel
theorem dX4_look_16 : decode cX4_look 16 = .ok (.iconst 0, 1) := by decide +kernel
theorem dX4_look_17 : decode cX4_look 17 = .ok (.goto 4, 3) := by decide +kernel
theorem dX4_look_20 : decode cX4_look 20 = .ok (.iconst 1, 1) := by decide +kernel
theorem dX4_look_21 : decode cX4_look 21 = .ok (.invokevirtual 68, 3) := by decide +kernel
theorem dX4_look_24 : decode cX4_look 24 = .ok (.ifCond .eq 5, 3) := by decide +kernel
theorem dX4_look_27 : decode cX4_look 27 = .ok (.iconst 0, 1) := by decide +kernel
theorem dX4_look_28 : decode cX4_look 28 = .ok (.ireturn, 1) := by decide +kernel
theorem dX4_look_29 : decode cX4_look 29 = .ok (.aload_n 0, 1) := by decide +kernel
theorem dX4_look_30 : decode cX4_look 30 = .ok (.getfield 38, 3) := by decide +kernel
theorem dX4_look_33 : decode cX4_look 33 = .ok (.iload_n 1, 1) := by decide +kernel
theorem dX4_look_34 : decode cX4_look 34 = .ok (.iload_n 2, 1) := by decide +kernel
theorem dX4_look_35 : decode cX4_look 35 = .ok (.aload_n 0, 1) := by decide +kernel
theorem dX4_look_36 : decode cX4_look 36 = .ok (.getfield 38, 3) := by decide +kernel
theorem dX4_look_39 : decode cX4_look 39 = .ok (.iload_n 1, 1) := by decide +kernel
theorem dX4_look_40 : decode cX4_look 40 = .ok (.iaload, 1) := by decide +kernel
theorem dX4_look_41 : decode cX4_look 41 = .ok (.if_icmp .le 7, 3) := by decide +kernel
theorem dX4_look_44 : decode cX4_look 44 = .ok (.iload_n 2, 1) := by decide +kernel
theorem dX4_look_45 : decode cX4_look 45 = .ok (.goto 9, 3) := by decide +kernel
theorem dX4_look_48 : decode cX4_look 48 = .ok (.aload_n 0, 1) := by decide +kernel
theorem dX4_look_49 : decode cX4_look 49 = .ok (.getfield 38, 3) := by decide +kernel
theorem dX4_look_52 : decode cX4_look 52 = .ok (.iload_n 1, 1) := by decide +kernel
theorem dX4_look_53 : decode cX4_look 53 = .ok (.iaload, 1) := by decide +kernel
theorem dX4_look_54 : decode cX4_look 54 = .ok (.iastore, 1) := by decide +kernel
theorem dX4_look_55 : decode cX4_look 55 = .ok (.aload_n 0, 1) := by decide +kernel
theorem dX4_look_56 : decode cX4_look 56 = .ok (.iload_n 1, 1) := by decide +kernel
theorem dX4_look_57 : decode cX4_look 57 = .ok (.iload_n 2, 1) := by decide +kernel
theorem dX4_look_58 : decode cX4_look 58 = .ok (.invokevirtual 108, 3) := by decide +kernel
theorem dX4_look_61 : decode cX4_look 61 = .ok (.aload_n 0, 1) := by decide +kernel
theorem dX4_look_62 : decode cX4_look 62 = .ok (.getfield 98, 3) := by decide +kernel
theorem dX4_look_65 : decode cX4_look 65 = .ok (.ireturn, 1) := by decide +kernel
set_option maxRecDepth 20000 in
theorem ggX4_seen_X4_isLine : GoodIn wsX4_seen wsX4_isLine := goodIn_r _ [6, 7, 8, 9, 5, 10, 16, 17, 18, 19, 20, 21, 22, 23, 24, 25, 26, 27, 28, 29, 30, 31, 32, 33] (by decide +kernel) (by decide +kernel)
set_option maxRecDepth 20000 in
theorem gX4_seen_X4_isLine : GoodIn wsX4_seen (wsV RX4 74 RX4 yX4_isLine wsX4_isLine) := goodIn_app (goodIn_of _ (by decide +kernel)) ggX4_seen_X4_isLine
set_option maxRecDepth 20000 in
theorem ggX4_seen_X4_fails : GoodIn wsX4_seen wsX4_fails := goodIn_r _ [14, 15, 16, 17, 18, 19, 20, 21, 22, 23, 24, 25, 26, 27, 28, 29, 30, 31, 32, 33] (by decide +kernel) (by decide +kernel)
set_option maxRecDepth 20000 in
theorem gX4_seen_X4_fails : GoodIn wsX4_seen (wsV RX4 68 RX4 yX4_fails wsX4_fails) := goodIn_app (goodIn_of _ (by decide +kernel)) ggX4_seen_X4_fails
theorem dX4_seen_0 : decode cX4_seen 0 = .ok (.aload_n 0, 1) := by decide +kernel
theorem dX4_seen_1 : decode cX4_seen 1 = .ok (.aload_n 0, 1) := by decide +kernel
theorem dX4_seen_2 : decode cX4_seen 2 = .ok (.iload_n 1, 1) := by decide +kernel
theorem dX4_seen_3 : decode cX4_seen 3 = .ok (.invokevirtual 74, 3) := by decide +kernel
theorem dX4_seen_6 : decode cX4_seen 6 = .ok (.ifCond .eq 7, 3) := by decide +kernel
theorem dX4_seen_9 : decode cX4_seen 9 = .ok (.iconst 0, 1) := by decide +kernel
theorem dX4_seen_10 : decode cX4_seen 10 = .ok (.goto 4, 3) := by decide +kernel
theorem dX4_seen_13 : decode cX4_seen 13 = .ok (.iconst 1, 1) := by decide +kernel
theorem dX4_seen_14 : decode cX4_seen 14 = .ok (.invokevirtual 68, 3) := by decide +kernel
theorem dX4_seen_17 : decode cX4_seen 17 = .ok (.ifCond .eq 7, 3) := by decide +kernel
theorem dX4_seen_20 : decode cX4_seen 20 = .ok (.iconst 0, 1) := by decide +kernel
theorem dX4_seen_21 : decode cX4_seen 21 = .ok (.goto 9, 3) := by decide +kernel
theorem dX4_seen_24 : decode cX4_seen 24 = .ok (.aload_n 0, 1) := by decide +kernel
theorem dX4_seen_25 : decode cX4_seen 25 = .ok (.getfield 38, 3) := by decide +kernel
theorem dX4_seen_28 : decode cX4_seen 28 = .ok (.iload_n 1, 1) := by decide +kernel
theorem dX4_seen_29 : decode cX4_seen 29 = .ok (.iaload, 1) := by decide +kernel
theorem dX4_seen_30 : decode cX4_seen 30 = .ok (.ireturn, 1) := by decide +kernel
theorem dX4_aheadOf_0 : decode cX4_aheadOf 0 = .ok (.iconst 0, 1) := by decide +kernel
theorem dX4_aheadOf_1 : decode cX4_aheadOf 1 = .ok (.istore_n 2, 1) := by decide +kernel
theorem dX4_aheadOf_2 : decode cX4_aheadOf 2 = .ok (.iconst 0, 1) := by decide +kernel
theorem dX4_aheadOf_3 : decode cX4_aheadOf 3 = .ok (.istore_n 3, 1) := by decide +kernel
theorem dX4_aheadOf_4 : decode cX4_aheadOf 4 = .ok (.iload_n 3, 1) := by decide +kernel
theorem dX4_aheadOf_5 : decode cX4_aheadOf 5 = .ok (.bipush 30, 2) := by decide +kernel
theorem dX4_aheadOf_7 : decode cX4_aheadOf 7 = .ok (.if_icmp .ge 33, 3) := by decide +kernel
theorem dX4_aheadOf_10 : decode cX4_aheadOf 10 = .ok (.iload_n 2, 1) := by decide +kernel
theorem dX4_aheadOf_11 : decode cX4_aheadOf 11 = .ok (.aload_n 0, 1) := by decide +kernel
theorem dX4_aheadOf_12 : decode cX4_aheadOf 12 = .ok (.getfield 44, 3) := by decide +kernel
theorem dX4_aheadOf_15 : decode cX4_aheadOf 15 = .ok (.bipush 30, 2) := by decide +kernel
theorem dX4_aheadOf_17 : decode cX4_aheadOf 17 = .ok (.iload_n 1, 1) := by decide +kernel
theorem dX4_aheadOf_18 : decode cX4_aheadOf 18 = .ok (.imul, 1) := by decide +kernel
theorem dX4_aheadOf_19 : decode cX4_aheadOf 19 = .ok (.iload_n 3, 1) := by decide +kernel
theorem dX4_aheadOf_20 : decode cX4_aheadOf 20 = .ok (.iadd, 1) := by decide +kernel
theorem dX4_aheadOf_21 : decode cX4_aheadOf 21 = .ok (.baload, 1) := by decide +kernel
theorem dX4_aheadOf_22 : decode cX4_aheadOf 22 = .ok (.ifCond .eq 9, 3) := by decide +kernel
theorem dX4_aheadOf_25 : decode cX4_aheadOf 25 = .ok (.iconst 1, 1) := by decide +kernel
theorem dX4_aheadOf_26 : decode cX4_aheadOf 26 = .ok (.iload_n 3, 1) := by decide +kernel
theorem dX4_aheadOf_27 : decode cX4_aheadOf 27 = .ok (.ishl, 1) := by decide +kernel
theorem dX4_aheadOf_28 : decode cX4_aheadOf 28 = .ok (.goto 4, 3) := by decide +kernel
theorem dX4_aheadOf_31 : decode cX4_aheadOf 31 = .ok (.iconst 0, 1) := by decide +kernel
theorem dX4_aheadOf_32 : decode cX4_aheadOf 32 = .ok (.ior, 1) := by decide +kernel
theorem dX4_aheadOf_33 : decode cX4_aheadOf 33 = .ok (.istore_n 2, 1) := by decide +kernel
theorem dX4_aheadOf_34 : decode cX4_aheadOf 34 = .ok (.iinc 3 1, 3) := by decide +kernel
theorem dX4_aheadOf_37 : decode cX4_aheadOf 37 = .ok (.goto (-33), 3) := by decide +kernel
theorem dX4_aheadOf_40 : decode cX4_aheadOf 40 = .ok (.iload_n 2, 1) := by decide +kernel
theorem dX4_aheadOf_41 : decode cX4_aheadOf 41 = .ok (.ireturn, 1) := by decide +kernel
set_option maxRecDepth 20000 in
theorem ggX4_ahead_X4_isLine : GoodIn wsX4_ahead wsX4_isLine := goodIn_r _ [5, 6, 7, 8, 4, 9, 20, 21, 22, 23, 24, 25, 26, 27, 28, 29, 30, 31, 32, 33, 34, 35, 36, 37] (by decide +kernel) (by decide +kernel)
set_option maxRecDepth 20000 in
theorem gX4_ahead_X4_isLine : GoodIn wsX4_ahead (wsV RX4 74 RX4 yX4_isLine wsX4_isLine) := goodIn_app (goodIn_of _ (by decide +kernel)) ggX4_ahead_X4_isLine
set_option maxRecDepth 20000 in
theorem ggX4_ahead_X4_fails : GoodIn wsX4_ahead wsX4_fails := goodIn_r _ [13, 14, 20, 21, 22, 23, 24, 25, 26, 27, 28, 29, 30, 31, 32, 33, 34, 35, 36, 37] (by decide +kernel) (by decide +kernel)
set_option maxRecDepth 20000 in
theorem gX4_ahead_X4_fails : GoodIn wsX4_ahead (wsV RX4 68 RX4 yX4_fails wsX4_fails) := goodIn_app (goodIn_of _ (by decide +kernel)) ggX4_ahead_X4_fails
set_option maxRecDepth 20000 in
theorem ggX4_ahead_X4_aheadOf : GoodIn wsX4_ahead wsX4_aheadOf := goodIn_r _ [18, 19, 20, 21, 22, 23, 24, 25, 26, 27, 28, 29, 30, 31, 32, 33, 34, 35, 36, 37] (by decide +kernel) (by decide +kernel)
set_option maxRecDepth 20000 in
theorem gX4_ahead_X4_aheadOf : GoodIn wsX4_ahead (wsV RX4 111 RX4 yX4_aheadOf wsX4_aheadOf) := goodIn_app (goodIn_of _ (by decide +kernel)) ggX4_ahead_X4_aheadOf
theorem dX4_ahead_0 : decode cX4_ahead 0 = .ok (.aload_n 0, 1) := by decide +kernel
theorem dX4_ahead_1 : decode cX4_ahead 1 = .ok (.aload_n 0, 1) := by decide +kernel
theorem dX4_ahead_2 : decode cX4_ahead 2 = .ok (.iload_n 1, 1) := by decide +kernel
theorem dX4_ahead_3 : decode cX4_ahead 3 = .ok (.invokevirtual 74, 3) := by decide +kernel
theorem dX4_ahead_6 : decode cX4_ahead 6 = .ok (.ifCond .eq 7, 3) := by decide +kernel
theorem dX4_ahead_9 : decode cX4_ahead 9 = .ok (.iconst 0, 1) := by decide +kernel
theorem dX4_ahead_10 : decode cX4_ahead 10 = .ok (.goto 4, 3) := by decide +kernel
theorem dX4_ahead_13 : decode cX4_ahead 13 = .ok (.iconst 1, 1) := by decide +kernel
theorem dX4_ahead_14 : decode cX4_ahead 14 = .ok (.invokevirtual 68, 3) := by decide +kernel
theorem dX4_ahead_17 : decode cX4_ahead 17 = .ok (.ifCond .eq 7, 3) := by decide +kernel
theorem dX4_ahead_20 : decode cX4_ahead 20 = .ok (.iconst 0, 1) := by decide +kernel
theorem dX4_ahead_21 : decode cX4_ahead 21 = .ok (.goto 8, 3) := by decide +kernel
theorem dX4_ahead_24 : decode cX4_ahead 24 = .ok (.aload_n 0, 1) := by decide +kernel
theorem dX4_ahead_25 : decode cX4_ahead 25 = .ok (.iload_n 1, 1) := by decide +kernel
theorem dX4_ahead_26 : decode cX4_ahead 26 = .ok (.invokevirtual 111, 3) := by decide +kernel
theorem dX4_ahead_29 : decode cX4_ahead 29 = .ok (.ireturn, 1) := by decide +kernel
set_option maxRecDepth 20000 in
theorem ggX4_markOf_X4_plays : GoodIn wsX4_markOf wsX4_plays := goodIn_r _ [6, 1, 7, 8, 9, 10, 11, 12, 13, 14, 15, 16, 17, 18, 5, 19, 20, 21, 22, 23, 24, 25, 26, 27, 28, 29, 30, 31, 32, 33, 34, 40, 41, 42, 43, 44, 45, 46, 47, 48, 49, 50, 51, 52, 53, 54, 55, 56, 57] (by decide +kernel) (by decide +kernel)
set_option maxRecDepth 20000 in
theorem gX4_markOf_X4_plays : GoodIn wsX4_markOf (wsV RX4 108 RX4 yX4_plays wsX4_plays) := goodIn_app (goodIn_of _ (by decide +kernel)) ggX4_markOf_X4_plays
set_option maxRecDepth 20000 in
theorem ggX4_markOf_X4_aheadOf : GoodIn wsX4_markOf wsX4_aheadOf := goodIn_r _ [38, 39, 40, 41, 42, 43, 44, 45, 46, 47, 48, 49, 50, 51, 52, 53, 54, 55, 56, 57] (by decide +kernel) (by decide +kernel)
set_option maxRecDepth 20000 in
theorem gX4_markOf_X4_aheadOf : GoodIn wsX4_markOf (wsV RX4 111 RX4 yX4_aheadOf wsX4_aheadOf) := goodIn_app (goodIn_of _ (by decide +kernel)) ggX4_markOf_X4_aheadOf
theorem dX4_markOf_0 : decode cX4_markOf 0 = .ok (.iload_n 1, 1) := by decide +kernel
theorem dX4_markOf_1 : decode cX4_markOf 1 = .ok (.ifCond .ne 6, 3) := by decide +kernel
theorem dX4_markOf_4 : decode cX4_markOf 4 = .ok (.bipush 50, 2) := by decide +kernel
theorem dX4_markOf_6 : decode cX4_markOf 6 = .ok (.ireturn, 1) := by decide +kernel
theorem dX4_markOf_7 : decode cX4_markOf 7 = .ok (.aload_n 0, 1) := by decide +kernel
theorem dX4_markOf_8 : decode cX4_markOf 8 = .ok (.iconst 0, 1) := by decide +kernel
theorem dX4_markOf_9 : decode cX4_markOf 9 = .ok (.bipush 29, 2) := by decide +kernel
theorem dX4_markOf_11 : decode cX4_markOf 11 = .ok (.invokevirtual 108, 3) := by decide +kernel
theorem dX4_markOf_14 : decode cX4_markOf 14 = .ok (.aload_n 0, 1) := by decide +kernel
theorem dX4_markOf_15 : decode cX4_markOf 15 = .ok (.getfield 98, 3) := by decide +kernel
theorem dX4_markOf_18 : decode cX4_markOf 18 = .ok (.istore_n 2, 1) := by decide +kernel
theorem dX4_markOf_19 : decode cX4_markOf 19 = .ok (.aload_n 0, 1) := by decide +kernel
theorem dX4_markOf_20 : decode cX4_markOf 20 = .ok (.iload_n 1, 1) := by decide +kernel
theorem dX4_markOf_21 : decode cX4_markOf 21 = .ok (.bipush 29, 2) := by decide +kernel
theorem dX4_markOf_23 : decode cX4_markOf 23 = .ok (.invokevirtual 108, 3) := by decide +kernel
theorem dX4_markOf_26 : decode cX4_markOf 26 = .ok (.bipush 50, 2) := by decide +kernel
theorem dX4_markOf_28 : decode cX4_markOf 28 = .ok (.aload_n 0, 1) := by decide +kernel
theorem dX4_markOf_29 : decode cX4_markOf 29 = .ok (.getfield 98, 3) := by decide +kernel
theorem dX4_markOf_32 : decode cX4_markOf 32 = .ok (.iadd, 1) := by decide +kernel
theorem dX4_markOf_33 : decode cX4_markOf 33 = .ok (.iload_n 2, 1) := by decide +kernel
theorem dX4_markOf_34 : decode cX4_markOf 34 = .ok (.isub, 1) := by decide +kernel
theorem dX4_markOf_35 : decode cX4_markOf 35 = .ok (.istore_n 3, 1) := by decide +kernel
theorem dX4_markOf_36 : decode cX4_markOf 36 = .ok (.aload_n 0, 1) := by decide +kernel
theorem dX4_markOf_37 : decode cX4_markOf 37 = .ok (.iload_n 1, 1) := by decide +kernel
theorem dX4_markOf_38 : decode cX4_markOf 38 = .ok (.invokevirtual 111, 3) := by decide +kernel
theorem dX4_markOf_41 : decode cX4_markOf 41 = .ok (.ifCond .ne 7, 3) := by decide +kernel
theorem dX4_markOf_44 : decode cX4_markOf 44 = .ok (.iload_n 3, 1) := by decide +kernel
theorem dX4_markOf_45 : decode cX4_markOf 45 = .ok (.ifCond .ge 7, 3) := by decide +kernel
theorem dX4_markOf_48 : decode cX4_markOf 48 = .ok (.iconst 0, 1) := by decide +kernel
theorem dX4_markOf_49 : decode cX4_markOf 49 = .ok (.goto 15, 3) := by decide +kernel
theorem dX4_markOf_52 : decode cX4_markOf 52 = .ok (.iload_n 3, 1) := by decide +kernel
theorem dX4_markOf_53 : decode cX4_markOf 53 = .ok (.bipush 100, 2) := by decide +kernel
theorem dX4_markOf_55 : decode cX4_markOf 55 = .ok (.if_icmp .le 8, 3) := by decide +kernel
theorem dX4_markOf_58 : decode cX4_markOf 58 = .ok (.bipush 100, 2) := by decide +kernel
theorem dX4_markOf_60 : decode cX4_markOf 60 = .ok (.goto 4, 3) := by decide +kernel
theorem dX4_markOf_63 : decode cX4_markOf 63 = .ok (.iload_n 3, 1) := by decide +kernel
theorem dX4_markOf_64 : decode cX4_markOf 64 = .ok (.ireturn, 1) := by decide +kernel
set_option maxRecDepth 20000 in
theorem ggX4_mark_X4_isLine : GoodIn wsX4_mark wsX4_isLine := goodIn_r _ [5, 6, 7, 8, 4, 9, 57, 58, 59, 60, 61, 62, 63, 64, 65, 66, 67, 68, 69, 70, 71, 72, 73, 74] (by decide +kernel) (by decide +kernel)
set_option maxRecDepth 20000 in
theorem gX4_mark_X4_isLine : GoodIn wsX4_mark (wsV RX4 74 RX4 yX4_isLine wsX4_isLine) := goodIn_app (goodIn_of _ (by decide +kernel)) ggX4_mark_X4_isLine
set_option maxRecDepth 20000 in
theorem ggX4_mark_X4_fails : GoodIn wsX4_mark wsX4_fails := goodIn_r _ [13, 14, 57, 58, 59, 60, 61, 62, 63, 64, 65, 66, 67, 68, 69, 70, 71, 72, 73, 74] (by decide +kernel) (by decide +kernel)
set_option maxRecDepth 20000 in
theorem gX4_mark_X4_fails : GoodIn wsX4_mark (wsV RX4 68 RX4 yX4_fails wsX4_fails) := goodIn_app (goodIn_of _ (by decide +kernel)) ggX4_mark_X4_fails
set_option maxRecDepth 20000 in
theorem ggX4_mark_X4_markOf : GoodIn wsX4_mark wsX4_markOf := goodIn_r _ [18, 19, 20, 21, 22, 4, 23, 24, 25, 26, 27, 28, 29, 30, 31, 32, 33, 34, 35, 36, 37, 38, 39, 40, 41, 42, 43, 44, 45, 46, 47, 48, 49, 50, 51, 52, 53, 54, 55, 56, 57, 58, 59, 60, 61, 62, 63, 64, 65, 66, 67, 68, 69, 70, 71, 72, 73, 74] (by decide +kernel) (by decide +kernel)
set_option maxRecDepth 20000 in
theorem gX4_mark_X4_markOf : GoodIn wsX4_mark (wsV RX4 115 RX4 yX4_markOf wsX4_markOf) := goodIn_app (goodIn_of _ (by decide +kernel)) ggX4_mark_X4_markOf
theorem dX4_mark_0 : decode cX4_mark 0 = .ok (.aload_n 0, 1) := by decide +kernel
theorem dX4_mark_1 : decode cX4_mark 1 = .ok (.aload_n 0, 1) := by decide +kernel
theorem dX4_mark_2 : decode cX4_mark 2 = .ok (.iload_n 1, 1) := by decide +kernel
theorem dX4_mark_3 : decode cX4_mark 3 = .ok (.invokevirtual 74, 3) := by decide +kernel
theorem dX4_mark_6 : decode cX4_mark 6 = .ok (.ifCond .eq 7, 3) := by decide +kernel
theorem dX4_mark_9 : decode cX4_mark 9 = .ok (.iconst 0, 1) := by decide +kernel
theorem dX4_mark_10 : decode cX4_mark 10 = .ok (.goto 4, 3) := by decide +kernel
theorem dX4_mark_13 : decode cX4_mark 13 = .ok (.iconst 1, 1) := by decide +kernel
theorem dX4_mark_14 : decode cX4_mark 14 = .ok (.invokevirtual 68, 3) := by decide +kernel
theorem dX4_mark_17 : decode cX4_mark 17 = .ok (.ifCond .eq 7, 3) := by decide +kernel
theorem dX4_mark_20 : decode cX4_mark 20 = .ok (.iconst 0, 1) := by decide +kernel
theorem dX4_mark_21 : decode cX4_mark 21 = .ok (.goto 8, 3) := by decide +kernel
theorem dX4_mark_24 : decode cX4_mark 24 = .ok (.aload_n 0, 1) := by decide +kernel
theorem dX4_mark_25 : decode cX4_mark 25 = .ok (.iload_n 1, 1) := by decide +kernel
theorem dX4_mark_26 : decode cX4_mark 26 = .ok (.invokevirtual 115, 3) := by decide +kernel
theorem dX4_mark_29 : decode cX4_mark 29 = .ok (.ireturn, 1) := by decide +kernel
set_option maxRecDepth 20000 in
theorem ggX4_best_X4_markOf : GoodIn wsX4_best wsX4_markOf := goodIn_r _ [7, 8, 9, 10, 11, 6, 12, 13, 14, 15, 16, 17, 18, 19, 20, 21, 22, 23, 24, 25, 26, 27, 28, 29, 30, 31, 32, 33, 34, 35, 36, 37, 38, 39, 40, 41, 42, 43, 44, 45, 46, 47, 48, 49, 50, 51, 52, 53, 54, 55, 56, 57, 58, 59, 60, 61, 62, 63] (by decide +kernel) (by decide +kernel)
set_option maxRecDepth 20000 in
theorem gX4_best_X4_markOf : GoodIn wsX4_best (wsV RX4 115 RX4 yX4_markOf wsX4_markOf) := goodIn_app (goodIn_of _ (by decide +kernel)) ggX4_best_X4_markOf
theorem dX4_best_0 : decode cX4_best 0 = .ok (.aload_n 0, 1) := by decide +kernel
theorem dX4_best_1 : decode cX4_best 1 = .ok (.iconst 0, 1) := by decide +kernel
theorem dX4_best_2 : decode cX4_best 2 = .ok (.putfield 54, 3) := by decide +kernel
theorem dX4_best_5 : decode cX4_best 5 = .ok (.iconst (-1), 1) := by decide +kernel
theorem dX4_best_6 : decode cX4_best 6 = .ok (.istore_n 1, 1) := by decide +kernel
theorem dX4_best_7 : decode cX4_best 7 = .ok (.iconst (-1), 1) := by decide +kernel
theorem dX4_best_8 : decode cX4_best 8 = .ok (.istore_n 2, 1) := by decide +kernel
theorem dX4_best_9 : decode cX4_best 9 = .ok (.iconst 1, 1) := by decide +kernel
theorem dX4_best_10 : decode cX4_best 10 = .ok (.istore_n 3, 1) := by decide +kernel
theorem dX4_best_11 : decode cX4_best 11 = .ok (.iload_n 3, 1) := by decide +kernel
theorem dX4_best_12 : decode cX4_best 12 = .ok (.aload_n 0, 1) := by decide +kernel
theorem dX4_best_13 : decode cX4_best 13 = .ok (.getfield 29, 3) := by decide +kernel
theorem dX4_best_16 : decode cX4_best 16 = .ok (.if_icmp .ge 41, 3) := by decide +kernel
theorem dX4_best_19 : decode cX4_best 19 = .ok (.aload_n 0, 1) := by decide +kernel
theorem dX4_best_20 : decode cX4_best 20 = .ok (.iload_n 3, 1) := by decide +kernel
theorem dX4_best_21 : decode cX4_best 21 = .ok (.invokevirtual 115, 3) := by decide +kernel
theorem dX4_best_24 : decode cX4_best 24 = .ok (.istore 4, 2) := by decide +kernel
theorem dX4_best_26 : decode cX4_best 26 = .ok (.iload 4, 2) := by decide +kernel
theorem dX4_best_28 : decode cX4_best 28 = .ok (.iload_n 2, 1) := by decide +kernel
theorem dX4_best_29 : decode cX4_best 29 = .ok (.if_icmp .le 7, 3) := by decide +kernel
theorem dX4_best_32 : decode cX4_best 32 = .ok (.iload_n 3, 1) := by decide +kernel
theorem dX4_best_33 : decode cX4_best 33 = .ok (.goto 4, 3) := by decide +kernel
theorem dX4_best_36 : decode cX4_best 36 = .ok (.iload_n 1, 1) := by decide +kernel
theorem dX4_best_37 : decode cX4_best 37 = .ok (.istore_n 1, 1) := by decide +kernel
theorem dX4_best_38 : decode cX4_best 38 = .ok (.iload 4, 2) := by decide +kernel
theorem dX4_best_40 : decode cX4_best 40 = .ok (.iload_n 2, 1) := by decide +kernel
theorem dX4_best_41 : decode cX4_best 41 = .ok (.if_icmp .le 8, 3) := by decide +kernel
theorem dX4_best_44 : decode cX4_best 44 = .ok (.iload 4, 2) := by decide +kernel
theorem dX4_best_46 : decode cX4_best 46 = .ok (.goto 4, 3) := by decide +kernel
theorem dX4_best_49 : decode cX4_best 49 = .ok (.iload_n 2, 1) := by decide +kernel
theorem dX4_best_50 : decode cX4_best 50 = .ok (.istore_n 2, 1) := by decide +kernel
theorem dX4_best_51 : decode cX4_best 51 = .ok (.iinc 3 1, 3) := by decide +kernel
theorem dX4_best_54 : decode cX4_best 54 = .ok (.goto (-43), 3) := by decide +kernel
theorem dX4_best_57 : decode cX4_best 57 = .ok (.iload_n 1, 1) := by decide +kernel
theorem dX4_best_58 : decode cX4_best 58 = .ok (.ireturn, 1) := by decide +kernel
theorem dJ9_max_7cf53_0 : decode cJ9_max_7cf53 0 = .ok (.iload_n 0, 1) := by decide +kernel
theorem dJ9_max_7cf53_1 : decode cJ9_max_7cf53 1 = .ok (.iload_n 1, 1) := by decide +kernel
theorem dJ9_max_7cf53_2 : decode cJ9_max_7cf53 2 = .ok (.if_icmp .lt 7, 3) := by decide +kernel
theorem dJ9_max_7cf53_5 : decode cJ9_max_7cf53 5 = .ok (.iload_n 0, 1) := by decide +kernel
theorem dJ9_max_7cf53_6 : decode cJ9_max_7cf53 6 = .ok (.goto 4, 3) := by decide +kernel
theorem dJ9_max_7cf53_9 : decode cJ9_max_7cf53 9 = .ok (.iload_n 1, 1) := by decide +kernel
theorem dJ9_max_7cf53_10 : decode cJ9_max_7cf53 10 = .ok (.ireturn, 1) := by decide +kernel
theorem dJ9_min_7cf53_0 : decode cJ9_min_7cf53 0 = .ok (.iload_n 0, 1) := by decide +kernel
theorem dJ9_min_7cf53_1 : decode cJ9_min_7cf53 1 = .ok (.iload_n 1, 1) := by decide +kernel
theorem dJ9_min_7cf53_2 : decode cJ9_min_7cf53 2 = .ok (.if_icmp .gt 7, 3) := by decide +kernel
theorem dJ9_min_7cf53_5 : decode cJ9_min_7cf53 5 = .ok (.iload_n 0, 1) := by decide +kernel
theorem dJ9_min_7cf53_6 : decode cJ9_min_7cf53 6 = .ok (.goto 4, 3) := by decide +kernel
theorem dJ9_min_7cf53_9 : decode cJ9_min_7cf53 9 = .ok (.iload_n 1, 1) := by decide +kernel
theorem dJ9_min_7cf53_10 : decode cJ9_min_7cf53 10 = .ok (.ireturn, 1) := by decide +kernel
set_option maxRecDepth 20000 in
theorem ggL_addShip_X3_addShip : GoodIn wsL_addShip wsX3_addShip := goodIn_ca (goodIn_ca (goodIn_r _ [7, 8, 9, 10, 11, 12, 13, 14, 15, 16, 17, 6, 18, 19, 20, 21, 22, 23, 24, 25, 26, 27, 28, 29, 30, 31, 32, 33, 34, 35, 36, 37, 38, 39, 40, 41, 42, 43, 44, 45, 46, 47, 48, 49, 50] (by decide +kernel) (by decide +kernel)) (goodIn_sub (fun _ h => List.mem_cons_of_mem _ (List.mem_append_left _ (List.mem_append_right _ h))) (by decide +kernel))) (goodIn_sub (fun _ h => List.mem_cons_of_mem _ (List.mem_append_right _ h)) (by decide +kernel))
set_option maxRecDepth 20000 in
theorem gL_addShip_X3_addShip : GoodIn wsL_addShip (wsV RL 7 RX3 yX3_addShip wsX3_addShip) := goodIn_app (goodIn_of _ (by decide +kernel)) ggL_addShip_X3_addShip
