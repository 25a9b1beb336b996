set_option maxRecDepth 20000 in
theorem ggX0_run_X3_bit : GoodIn wsX0_run wsX3_bit := goodIn_r _ [4, 5, 6, 7] (by decide +kernel) (by decide +kernel)
set_option maxRecDepth 20000 in
theorem gX0_run_X3_bit : GoodIn wsX0_run (va_wsS RX0 21 yX3_bit wsX3_bit) := goodIn_app (goodIn_of _ (by decide +kernel)) ggX0_run_X3_bit
set_option maxRecDepth 20000 in
theorem ggX0_run_X0_tryBehind : GoodIn wsX0_run wsX0_tryBehind := goodIn_r _ [11, 1, 2, 3, 4, 5, 6, 7, 12, 13, 10, 14, 15, 16, 17, 18, 19, 20, 21, 22, 23, 24, 25, 26, 27, 28, 8, 9, 29, 30, 31, 32, 33] (by decide +kernel) (by decide +kernel)
set_option maxRecDepth 20000 in
theorem gX0_run_X0_tryBehind : GoodIn wsX0_run (va_wsS RX0 27 yX0_tryBehind wsX0_tryBehind) := goodIn_app (goodIn_of _ (by decide +kernel)) ggX0_run_X0_tryBehind
set_option maxRecDepth 20000 in
theorem ggX0_run_X0_lack : GoodIn wsX0_run wsX0_lack := goodIn_r _ [14, 15, 16, 17, 18, 19, 20, 21, 29, 30, 31, 32, 33] (by decide +kernel) (by decide +kernel)
set_option maxRecDepth 20000 in
theorem gX0_run_X0_lack : GoodIn wsX0_run (va_wsS RX0 33 yX0_lack wsX0_lack) := goodIn_app (goodIn_of _ (by decide +kernel)) ggX0_run_X0_lack
set_option maxRecDepth 20000 in
theorem ggX0_run_X2_add : GoodIn wsX0_run wsX2_add := goodIn_r _ [26, 27, 28, 29, 30, 31, 32, 33] (by decide +kernel) (by decide +kernel)
set_option maxRecDepth 20000 in
theorem gX0_run_X2_add : GoodIn wsX0_run (wsV RX0 37 RX2 yX2_add wsX2_add) := goodIn_app (goodIn_of _ (by decide +kernel)) ggX0_run_X2_add
theorem dX0_run_0 : decode cX0_run 0 = .ok (.aload_n 0, 1) := by decide +kernel
theorem dX0_run_1 : decode cX0_run 1 = .ok (.getfield 9, 3) := by decide +kernel
theorem dX0_run_4 : decode cX0_run 4 = .ok (.istore_n 1, 1) := by decide +kernel
theorem dX0_run_5 : decode cX0_run 5 = .ok (.iconst 2, 1) := by decide +kernel
theorem dX0_run_6 : decode cX0_run 6 = .ok (.istore_n 2, 1) := by decide +kernel
theorem dX0_run_7 : decode cX0_run 7 = .ok (.iload_n 2, 1) := by decide +kernel
theorem dX0_run_8 : decode cX0_run 8 = .ok (.bipush 12, 2) := by decide +kernel
theorem dX0_run_10 : decode cX0_run 10 = .ok (.if_icmp .gt 82, 3) := by decide +kernel
theorem dX0_run_13 : decode cX0_run 13 = .ok (.aload_n 0, 1) := by decide +kernel
theorem dX0_run_14 : decode cX0_run 14 = .ok (.getfield 15, 3) := by decide +kernel
theorem dX0_run_17 : decode cX0_run 17 = .ok (.ifCond .ne 75, 3) := by decide +kernel
theorem dX0_run_20 : decode cX0_run 20 = .ok (.iload_n 2, 1) := by decide +kernel
theorem dX0_run_21 : decode cX0_run 21 = .ok (.iload_n 2, 1) := by decide +kernel
theorem dX0_run_22 : decode cX0_run 22 = .ok (.iconst 1, 1) := by decide +kernel
theorem dX0_run_23 : decode cX0_run 23 = .ok (.isub, 1) := by decide +kernel
theorem dX0_run_24 : decode cX0_run 24 = .ok (.imul, 1) := by decide +kernel
theorem dX0_run_25 : decode cX0_run 25 = .ok (.iconst 2, 1) := by decide +kernel
theorem dX0_run_26 : decode cX0_run 26 = .ok (.idiv, 1) := by decide +kernel
theorem dX0_run_27 : decode cX0_run 27 = .ok (.iload_n 1, 1) := by decide +kernel
theorem dX0_run_28 : decode cX0_run 28 = .ok (.if_icmp .ge 6, 3) := by decide +kernel
theorem dX0_run_31 : decode cX0_run 31 = .ok (.goto 55, 3) := by decide +kernel
theorem dX0_run_34 : decode cX0_run 34 = .ok (.aload_n 0, 1) := by decide +kernel
theorem dX0_run_35 : decode cX0_run 35 = .ok (.iload_n 2, 1) := by decide +kernel
theorem dX0_run_36 : decode cX0_run 36 = .ok (.putfield 18, 3) := by decide +kernel
theorem dX0_run_39 : decode cX0_run 39 = .ok (.lconst 1, 1) := by decide +kernel
theorem dX0_run_40 : decode cX0_run 40 = .ok (.iload_n 1, 1) := by decide +kernel
theorem dX0_run_41 : decode cX0_run 41 = .ok (.invokestatic 21, 3) := by decide +kernel
theorem dX0_run_44 : decode cX0_run 44 = .ok (.lor, 1) := by decide +kernel
theorem dX0_run_45 : decode cX0_run 45 = .ok (.lstore_n 3, 1) := by decide +kernel
theorem dX0_run_46 : decode cX0_run 46 = .ok (.iload_n 1, 1) := by decide +kernel
theorem dX0_run_47 : decode cX0_run 47 = .ok (.invokestatic 21, 3) := by decide +kernel
theorem dX0_run_50 : decode cX0_run 50 = .ok (.lstore 5, 2) := by decide +kernel
theorem dX0_run_52 : decode cX0_run 52 = .ok (.iload_n 2, 1) := by decide +kernel
theorem dX0_run_53 : decode cX0_run 53 = .ok (.iconst 2, 1) := by decide +kernel
theorem dX0_run_54 : decode cX0_run 54 = .ok (.if_icmp .le 18, 3) := by decide +kernel
theorem dX0_run_57 : decode cX0_run 57 = .ok (.aload_n 0, 1) := by decide +kernel
theorem dX0_run_58 : decode cX0_run 58 = .ok (.iconst 0, 1) := by decide +kernel
theorem dX0_run_59 : decode cX0_run 59 = .ok (.lconst 1, 1) := by decide +kernel
theorem dX0_run_60 : decode cX0_run 60 = .ok (.lload 5, 2) := by decide +kernel
theorem dX0_run_62 : decode cX0_run 62 = .ok (.lload_n 3, 1) := by decide +kernel
theorem dX0_run_63 : decode cX0_run 63 = .ok (.iload_n 2, 1) := by decide +kernel
theorem dX0_run_64 : decode cX0_run 64 = .ok (.iconst 2, 1) := by decide +kernel
theorem dX0_run_65 : decode cX0_run 65 = .ok (.isub, 1) := by decide +kernel
theorem dX0_run_66 : decode cX0_run 66 = .ok (.invokestatic 27, 3) := by decide +kernel
theorem dX0_run_69 : decode cX0_run 69 = .ok (.goto 17, 3) := by decide +kernel
theorem dX0_run_72 : decode cX0_run 72 = .ok (.aload_n 0, 1) := by decide +kernel
theorem dX0_run_73 : decode cX0_run 73 = .ok (.lload 5, 2) := by decide +kernel
theorem dX0_run_75 : decode cX0_run 75 = .ok (.invokestatic 33, 3) := by decide +kernel
theorem dX0_run_78 : decode cX0_run 78 = .ok (.ifCond .ne 8, 3) := by decide +kernel
theorem dX0_run_81 : decode cX0_run 81 = .ok (.aload_n 0, 1) := by decide +kernel
theorem dX0_run_82 : decode cX0_run 82 = .ok (.lload_n 3, 1) := by decide +kernel
theorem dX0_run_83 : decode cX0_run 83 = .ok (.invokevirtual 37, 3) := by decide +kernel
theorem dX0_run_86 : decode cX0_run 86 = .ok (.iinc 2 1, 3) := by decide +kernel
theorem dX0_run_89 : decode cX0_run 89 = .ok (.goto (-82), 3) := by decide +kernel
theorem dX0_run_92 : decode cX0_run 92 = .ok (.return_, 1) := by decide +kernel
set_option maxRecDepth 20000 in
theorem ggX0_tryBehind_X3_bit : GoodIn wsX0_tryBehind wsX3_bit := goodIn_r _ [4, 5, 6, 7] (by decide +kernel) (by decide +kernel)
set_option maxRecDepth 20000 in
theorem gX0_tryBehind_X3_bit : GoodIn wsX0_tryBehind (va_wsS RX0 21 yX3_bit wsX3_bit) := goodIn_app (goodIn_of _ (by decide +kernel)) ggX0_tryBehind_X3_bit
set_option maxRecDepth 20000 in
theorem ggX0_tryBehind_X0_lack : GoodIn wsX0_tryBehind wsX0_lack := goodIn_r _ [11, 12, 13, 14, 15, 16, 17, 18, 28, 29, 30, 31, 32] (by decide +kernel) (by decide +kernel)
set_option maxRecDepth 20000 in
theorem gX0_tryBehind_X0_lack : GoodIn wsX0_tryBehind (va_wsS RX0 33 yX0_lack wsX0_lack) := goodIn_app (goodIn_of _ (by decide +kernel)) ggX0_tryBehind_X0_lack
set_option maxRecDepth 20000 in
theorem ggX0_tryBehind_X2_add : GoodIn wsX0_tryBehind wsX2_add := goodIn_r _ [23, 24, 25, 28, 29, 30, 31, 32] (by decide +kernel) (by decide +kernel)
set_option maxRecDepth 20000 in
theorem gX0_tryBehind_X2_add : GoodIn wsX0_tryBehind (wsV RX0 37 RX2 yX2_add wsX2_add) := goodIn_app (goodIn_of _ (by decide +kernel)) ggX0_tryBehind_X2_add
set_option maxRecDepth 20000 in
theorem ggX0_tryBehind_X0_tryBehind : GoodIn wsX0_tryBehind wsX0_tryBehind := goodIn_r _ [0, 1, 2, 3, 4, 5, 6, 7, 8, 9, 10, 11, 12, 13, 14, 15, 16, 17, 18, 19, 20, 21, 22, 23, 24, 25, 26, 27, 28, 29, 30, 31, 32] (by decide +kernel) (by decide +kernel)
set_option maxRecDepth 20000 in
theorem gX0_tryBehind_X0_tryBehind : GoodIn wsX0_tryBehind (va_wsS RX0 27 yX0_tryBehind wsX0_tryBehind) := goodIn_app (goodIn_of _ (by decide +kernel)) ggX0_tryBehind_X0_tryBehind
theorem dX0_tryBehind_0 : decode cX0_tryBehind 0 = .ok (.iload 8, 2) := by decide +kernel
theorem dX0_tryBehind_2 : decode cX0_tryBehind 2 = .ok (.iconst 1, 1) := by decide +kernel
theorem dX0_tryBehind_3 : decode cX0_tryBehind 3 = .ok (.if_icmp .ge 4, 3) := by decide +kernel
theorem dX0_tryBehind_6 : decode cX0_tryBehind 6 = .ok (.return_, 1) := by decide +kernel
theorem dX0_tryBehind_7 : decode cX0_tryBehind 7 = .ok (.iload 8, 2) := by decide +kernel
theorem dX0_tryBehind_9 : decode cX0_tryBehind 9 = .ok (.iconst 1, 1) := by decide +kernel
theorem dX0_tryBehind_10 : decode cX0_tryBehind 10 = .ok (.isub, 1) := by decide +kernel
theorem dX0_tryBehind_11 : decode cX0_tryBehind 11 = .ok (.istore 9, 2) := by decide +kernel
theorem dX0_tryBehind_13 : decode cX0_tryBehind 13 = .ok (.aload_n 0, 1) := by decide +kernel
theorem dX0_tryBehind_14 : decode cX0_tryBehind 14 = .ok (.getfield 18, 3) := by decide +kernel
theorem dX0_tryBehind_17 : decode cX0_tryBehind 17 = .ok (.iload 9, 2) := by decide +kernel
theorem dX0_tryBehind_19 : decode cX0_tryBehind 19 = .ok (.isub, 1) := by decide +kernel
theorem dX0_tryBehind_20 : decode cX0_tryBehind 20 = .ok (.istore 10, 2) := by decide +kernel
theorem dX0_tryBehind_22 : decode cX0_tryBehind 22 = .ok (.iload 9, 2) := by decide +kernel
theorem dX0_tryBehind_24 : decode cX0_tryBehind 24 = .ok (.iload 10, 2) := by decide +kernel
theorem dX0_tryBehind_26 : decode cX0_tryBehind 26 = .ok (.imul, 1) := by decide +kernel
theorem dX0_tryBehind_27 : decode cX0_tryBehind 27 = .ok (.iload 9, 2) := by decide +kernel
theorem dX0_tryBehind_29 : decode cX0_tryBehind 29 = .ok (.iload 9, 2) := by decide +kernel
theorem dX0_tryBehind_31 : decode cX0_tryBehind 31 = .ok (.iconst 1, 1) := by decide +kernel
theorem dX0_tryBehind_32 : decode cX0_tryBehind 32 = .ok (.isub, 1) := by decide +kernel
theorem dX0_tryBehind_33 : decode cX0_tryBehind 33 = .ok (.imul, 1) := by decide +kernel
theorem dX0_tryBehind_34 : decode cX0_tryBehind 34 = .ok (.iconst 2, 1) := by decide +kernel
theorem dX0_tryBehind_35 : decode cX0_tryBehind 35 = .ok (.idiv, 1) := by decide +kernel
theorem dX0_tryBehind_36 : decode cX0_tryBehind 36 = .ok (.iadd, 1) := by decide +kernel
theorem dX0_tryBehind_37 : decode cX0_tryBehind 37 = .ok (.istore 11, 2) := by decide +kernel
theorem dX0_tryBehind_39 : decode cX0_tryBehind 39 = .ok (.iload_n 1, 1) := by decide +kernel
theorem dX0_tryBehind_40 : decode cX0_tryBehind 40 = .ok (.iconst 1, 1) := by decide +kernel
theorem dX0_tryBehind_41 : decode cX0_tryBehind 41 = .ok (.iadd, 1) := by decide +kernel
theorem dX0_tryBehind_42 : decode cX0_tryBehind 42 = .ok (.istore 12, 2) := by decide +kernel
theorem dX0_tryBehind_44 : decode cX0_tryBehind 44 = .ok (.iload 12, 2) := by decide +kernel
theorem dX0_tryBehind_46 : decode cX0_tryBehind 46 = .ok (.aload_n 0, 1) := by decide +kernel
theorem dX0_tryBehind_47 : decode cX0_tryBehind 47 = .ok (.getfield 9, 3) := by decide +kernel
theorem dX0_tryBehind_50 : decode cX0_tryBehind 50 = .ok (.if_icmp .ge 99, 3) := by decide +kernel
theorem dX0_tryBehind_53 : decode cX0_tryBehind 53 = .ok (.aload_n 0, 1) := by decide +kernel
theorem dX0_tryBehind_54 : decode cX0_tryBehind 54 = .ok (.dup, 1) := by decide +kernel
theorem dX0_tryBehind_55 : decode cX0_tryBehind 55 = .ok (.getfield 41, 3) := by decide +kernel
theorem dX0_tryBehind_58 : decode cX0_tryBehind 58 = .ok (.iconst 1, 1) := by decide +kernel
theorem dX0_tryBehind_59 : decode cX0_tryBehind 59 = .ok (.iadd, 1) := by decide +kernel
theorem dX0_tryBehind_60 : decode cX0_tryBehind 60 = .ok (.putfield 41, 3) := by decide +kernel
theorem dX0_tryBehind_63 : decode cX0_tryBehind 63 = .ok (.lload_n 2, 1) := by decide +kernel
theorem dX0_tryBehind_64 : decode cX0_tryBehind 64 = .ok (.iload 12, 2) := by decide +kernel
theorem dX0_tryBehind_66 : decode cX0_tryBehind 66 = .ok (.iload_n 1, 1) := by decide +kernel
theorem dX0_tryBehind_67 : decode cX0_tryBehind 67 = .ok (.isub, 1) := by decide +kernel
theorem dX0_tryBehind_68 : decode cX0_tryBehind 68 = .ok (.lshl, 1) := by decide +kernel
theorem dX0_tryBehind_69 : decode cX0_tryBehind 69 = .ok (.lstore 13, 2) := by decide +kernel
theorem dX0_tryBehind_71 : decode cX0_tryBehind 71 = .ok (.lload 4, 2) := by decide +kernel
theorem dX0_tryBehind_73 : decode cX0_tryBehind 73 = .ok (.lload 13, 2) := by decide +kernel
theorem dX0_tryBehind_75 : decode cX0_tryBehind 75 = .ok (.lor, 1) := by decide +kernel
theorem dX0_tryBehind_76 : decode cX0_tryBehind 76 = .ok (.aload_n 0, 1) := by decide +kernel
theorem dX0_tryBehind_77 : decode cX0_tryBehind 77 = .ok (.getfield 9, 3) := by decide +kernel
theorem dX0_tryBehind_80 : decode cX0_tryBehind 80 = .ok (.iload 12, 2) := by decide +kernel
theorem dX0_tryBehind_82 : decode cX0_tryBehind 82 = .ok (.isub, 1) := by decide +kernel
theorem dX0_tryBehind_83 : decode cX0_tryBehind 83 = .ok (.invokestatic 21, 3) := by decide +kernel
theorem dX0_tryBehind_86 : decode cX0_tryBehind 86 = .ok (.lor, 1) := by decide +kernel
theorem dX0_tryBehind_87 : decode cX0_tryBehind 87 = .ok (.lstore 15, 2) := by decide +kernel
theorem dX0_tryBehind_89 : decode cX0_tryBehind 89 = .ok (.aload_n 0, 1) := by decide +kernel
theorem dX0_tryBehind_90 : decode cX0_tryBehind 90 = .ok (.lload 15, 2) := by decide +kernel
theorem dX0_tryBehind_92 : decode cX0_tryBehind 92 = .ok (.invokestatic 33, 3) := by decide +kernel
theorem dX0_tryBehind_95 : decode cX0_tryBehind 95 = .ok (.iload 11, 2) := by decide +kernel
theorem dX0_tryBehind_97 : decode cX0_tryBehind 97 = .ok (.if_icmp .le 6, 3) := by decide +kernel
theorem dX0_tryBehind_100 : decode cX0_tryBehind 100 = .ok (.goto 43, 3) := by decide +kernel
theorem dX0_tryBehind_103 : decode cX0_tryBehind 103 = .ok (.lload 6, 2) := by decide +kernel
theorem dX0_tryBehind_105 : decode cX0_tryBehind 105 = .ok (.iload 12, 2) := by decide +kernel
theorem dX0_tryBehind_107 : decode cX0_tryBehind 107 = .ok (.invokestatic 21, 3) := by decide +kernel
theorem dX0_tryBehind_110 : decode cX0_tryBehind 110 = .ok (.lor, 1) := by decide +kernel
theorem dX0_tryBehind_111 : decode cX0_tryBehind 111 = .ok (.lstore 17, 2) := by decide +kernel
theorem dX0_tryBehind_113 : decode cX0_tryBehind 113 = .ok (.iload 9, 2) := by decide +kernel
theorem dX0_tryBehind_115 : decode cX0_tryBehind 115 = .ok (.ifCond .ne 12, 3) := by decide +kernel
theorem dX0_tryBehind_118 : decode cX0_tryBehind 118 = .ok (.aload_n 0, 1) := by decide +kernel
theorem dX0_tryBehind_119 : decode cX0_tryBehind 119 = .ok (.lload 17, 2) := by decide +kernel
theorem dX0_tryBehind_121 : decode cX0_tryBehind 121 = .ok (.invokevirtual 37, 3) := by decide +kernel
theorem dX0_tryBehind_124 : decode cX0_tryBehind 124 = .ok (.goto 19, 3) := by decide +kernel
theorem dX0_tryBehind_127 : decode cX0_tryBehind 127 = .ok (.aload_n 0, 1) := by decide +kernel
theorem dX0_tryBehind_128 : decode cX0_tryBehind 128 = .ok (.iload 12, 2) := by decide +kernel
theorem dX0_tryBehind_130 : decode cX0_tryBehind 130 = .ok (.lload 13, 2) := by decide +kernel
theorem dX0_tryBehind_132 : decode cX0_tryBehind 132 = .ok (.lconst 1, 1) := by decide +kernel
theorem dX0_tryBehind_133 : decode cX0_tryBehind 133 = .ok (.lor, 1) := by decide +kernel
theorem dX0_tryBehind_134 : decode cX0_tryBehind 134 = .ok (.lload 15, 2) := by decide +kernel
theorem dX0_tryBehind_136 : decode cX0_tryBehind 136 = .ok (.lload 17, 2) := by decide +kernel
theorem dX0_tryBehind_138 : decode cX0_tryBehind 138 = .ok (.iload 9, 2) := by decide +kernel
theorem dX0_tryBehind_140 : decode cX0_tryBehind 140 = .ok (.invokestatic 27, 3) := by decide +kernel
theorem dX0_tryBehind_143 : decode cX0_tryBehind 143 = .ok (.iinc 12 1, 3) := by decide +kernel
theorem dX0_tryBehind_146 : decode cX0_tryBehind 146 = .ok (.goto (-102), 3) := by decide +kernel
theorem dX0_tryBehind_149 : decode cX0_tryBehind 149 = .ok (.return_, 1) := by decide +kernel
set_option maxRecDepth 20000 in
theorem ggX0_lack_J13_bitCount_95d88 : GoodIn wsX0_lack wsJ13_bitCount_95d88 := goodIn_r _ [4, 5, 6, 7] (by decide +kernel) (by decide +kernel)
set_option maxRecDepth 20000 in
theorem gX0_lack_J13_bitCount_95d88 : GoodIn wsX0_lack (va_wsS RX0 44 yJ13_bitCount_95d88 wsJ13_bitCount_95d88) := goodIn_app (goodIn_of _ (by decide +kernel)) ggX0_lack_J13_bitCount_95d88
theorem dX0_lack_0 : decode cX0_lack 0 = .ok (.aload_n 0, 1) := by decide +kernel
theorem dX0_lack_1 : decode cX0_lack 1 = .ok (.getfield 9, 3) := by decide +kernel
theorem dX0_lack_4 : decode cX0_lack 4 = .ok (.lload_n 1, 1) := by decide +kernel
theorem dX0_lack_5 : decode cX0_lack 5 = .ok (.invokestatic 44, 3) := by decide +kernel
theorem dX0_lack_8 : decode cX0_lack 8 = .ok (.isub, 1) := by decide +kernel
theorem dX0_lack_9 : decode cX0_lack 9 = .ok (.ireturn, 1) := by decide +kernel
set_option maxRecDepth 20000 in
theorem ggX1_init_X1_standAs : GoodIn wsX1_init wsX1_standAs := goodIn_r _ [11, 12, 13, 14, 15, 16, 17, 18, 19, 20, 21, 22, 23, 24, 10, 25, 5, 26, 27, 28, 29, 30, 31] (by decide +kernel) (by decide +kernel)
set_option maxRecDepth 20000 in
theorem gX1_init_X1_standAs : GoodIn wsX1_init (wsV RX1 18 RX1 yX1_standAs wsX1_standAs) := goodIn_app (goodIn_of _ (by decide +kernel)) ggX1_init_X1_standAs
theorem dX1_init_0 : decode cX1_init 0 = .ok (.aload_n 0, 1) := by decide +kernel
theorem dX1_init_1 : decode cX1_init 1 = .ok (.invokespecial 3, 3) := by decide +kernel
theorem dX1_init_4 : decode cX1_init 4 = .ok (.aload_n 0, 1) := by decide +kernel
theorem dX1_init_5 : decode cX1_init 5 = .ok (.bipush 61, 2) := by decide +kernel
theorem dX1_init_7 : decode cX1_init 7 = .ok (.newarray .int, 2) := by decide +kernel
theorem dX1_init_9 : decode cX1_init 9 = .ok (.putfield 9, 3) := by decide +kernel
theorem dX1_init_12 : decode cX1_init 12 = .ok (.aload_n 0, 1) := by decide +kernel
theorem dX1_init_13 : decode cX1_init 13 = .ok (.bipush 61, 2) := by decide +kernel
theorem dX1_init_15 : decode cX1_init 15 = .ok (.newarray .int, 2) := by decide +kernel
theorem dX1_init_17 : decode cX1_init 17 = .ok (.putfield 15, 3) := by decide +kernel
theorem dX1_init_20 : decode cX1_init 20 = .ok (.aload_n 0, 1) := by decide +kernel
theorem dX1_init_21 : decode cX1_init 21 = .ok (.lconst 0, 1) := by decide +kernel
theorem dX1_init_22 : decode cX1_init 22 = .ok (.invokevirtual 18, 3) := by decide +kernel
theorem dX1_init_25 : decode cX1_init 25 = .ok (.return_, 1) := by decide +kernel
theorem dX1_line_0 : decode cX1_line 0 = .ok (.aload_n 0, 1) := by decide +kernel
theorem dX1_line_1 : decode cX1_line 1 = .ok (.getfield 22, 3) := by decide +kernel
theorem dX1_line_4 : decode cX1_line 4 = .ok (.lreturn, 1) := by decide +kernel
set_option maxRecDepth 20000 in
theorem ggX1_count_J13_bitCount_95d88 : GoodIn wsX1_count wsJ13_bitCount_95d88 := goodIn_r _ [5, 6, 7, 8] (by decide +kernel) (by decide +kernel)
set_option maxRecDepth 20000 in
theorem gX1_count_J13_bitCount_95d88 : GoodIn wsX1_count (va_wsS RX1 26 yJ13_bitCount_95d88 wsJ13_bitCount_95d88) := goodIn_app (goodIn_of _ (by decide +kernel)) ggX1_count_J13_bitCount_95d88
theorem dX1_count_0 : decode cX1_count 0 = .ok (.aload_n 0, 1) := by decide +kernel
theorem dX1_count_1 : decode cX1_count 1 = .ok (.getfield 22, 3) := by decide +kernel
theorem dX1_count_4 : decode cX1_count 4 = .ok (.invokestatic 26, 3) := by decide +kernel
theorem dX1_count_7 : decode cX1_count 7 = .ok (.ireturn, 1) := by decide +kernel
set_option maxRecDepth 20000 in
theorem ggX1_standsAt_X3_has : GoodIn wsX1_standsAt wsX3_has := goodIn_r _ [5, 6, 7, 4, 8, 9, 10, 11] (by decide +kernel) (by decide +kernel)
set_option maxRecDepth 20000 in
theorem gX1_standsAt_X3_has : GoodIn wsX1_standsAt (va_wsS RX1 32 yX3_has wsX3_has) := goodIn_app (goodIn_of _ (by decide +kernel)) ggX1_standsAt_X3_has
theorem dX1_standsAt_0 : decode cX1_standsAt 0 = .ok (.aload_n 0, 1) := by decide +kernel
theorem dX1_standsAt_1 : decode cX1_standsAt 1 = .ok (.getfield 22, 3) := by decide +kernel
theorem dX1_standsAt_4 : decode cX1_standsAt 4 = .ok (.iload_n 1, 1) := by decide +kernel
theorem dX1_standsAt_5 : decode cX1_standsAt 5 = .ok (.invokestatic 32, 3) := by decide +kernel
theorem dX1_standsAt_8 : decode cX1_standsAt 8 = .ok (.ireturn, 1) := by decide +kernel
set_option maxRecDepth 20000 in
theorem ggX1_errorAt_X7_isStation : GoodIn wsX1_errorAt wsX7_isStation := goodIn_r _ [4] (by decide +kernel) (by decide +kernel)
set_option maxRecDepth 20000 in
theorem gX1_errorAt_X7_isStation_n38 : GoodIn wsX1_errorAt (wsX7_isStation) := ggX1_errorAt_X7_isStation
theorem dX1_errorAt_0 : decode cX1_errorAt 0 = .ok (.iload_n 1, 1) := by decide +kernel
theorem dX1_errorAt_1 : decode cX1_errorAt 1 = .ok (.invokestatic 38, 3) := by decide +kernel
theorem dX1_errorAt_4 : decode cX1_errorAt 4 = .ok (.ifCond .eq 12, 3) := by decide +kernel
theorem dX1_errorAt_7 : decode cX1_errorAt 7 = .ok (.aload_n 0, 1) := by decide +kernel
theorem dX1_errorAt_8 : decode cX1_errorAt 8 = .ok (.getfield 9, 3) := by decide +kernel
theorem dX1_errorAt_11 : decode cX1_errorAt 11 = .ok (.iload_n 1, 1) := by decide +kernel
theorem dX1_errorAt_12 : decode cX1_errorAt 12 = .ok (.iaload, 1) := by decide +kernel
theorem dX1_errorAt_13 : decode cX1_errorAt 13 = .ok (.goto 5, 3) := by decide +kernel
theorem dX1_errorAt_16 : decode cX1_errorAt 16 = .ok (.bipush (-6), 2) := by decide +kernel
theorem dX1_errorAt_18 : decode cX1_errorAt 18 = .ok (.ireturn, 1) := by decide +kernel
set_option maxRecDepth 20000 in
theorem ggX1_skyOf_X7_isLength : GoodIn wsX1_skyOf wsX7_isLength := goodIn_r _ [4] (by decide +kernel) (by decide +kernel)
set_option maxRecDepth 20000 in
theorem gX1_skyOf_X7_isLength_n42 : GoodIn wsX1_skyOf (wsX7_isLength) := ggX1_skyOf_X7_isLength
theorem dX1_skyOf_0 : decode cX1_skyOf 0 = .ok (.iload_n 1, 1) := by decide +kernel
theorem dX1_skyOf_1 : decode cX1_skyOf 1 = .ok (.invokestatic 42, 3) := by decide +kernel
theorem dX1_skyOf_4 : decode cX1_skyOf 4 = .ok (.ifCond .eq 12, 3) := by decide +kernel
theorem dX1_skyOf_7 : decode cX1_skyOf 7 = .ok (.aload_n 0, 1) := by decide +kernel
theorem dX1_skyOf_8 : decode cX1_skyOf 8 = .ok (.getfield 15, 3) := by decide +kernel
theorem dX1_skyOf_11 : decode cX1_skyOf 11 = .ok (.iload_n 1, 1) := by decide +kernel
theorem dX1_skyOf_12 : decode cX1_skyOf 12 = .ok (.iaload, 1) := by decide +kernel
theorem dX1_skyOf_13 : decode cX1_skyOf 13 = .ok (.goto 4, 3) := by decide +kernel
theorem dX1_skyOf_16 : decode cX1_skyOf 16 = .ok (.iconst 0, 1) := by decide +kernel
theorem dX1_skyOf_17 : decode cX1_skyOf 17 = .ok (.ireturn, 1) := by decide +kernel
set_option maxRecDepth 20000 in
theorem ggX1_tellSky_X7_isLength : GoodIn wsX1_tellSky wsX7_isLength := goodIn_r _ [4] (by decide +kernel) (by decide +kernel)
set_option maxRecDepth 20000 in
theorem gX1_tellSky_X7_isLength_n42 : GoodIn wsX1_tellSky (wsX7_isLength) := ggX1_tellSky_X7_isLength
theorem dX1_tellSky_0 : decode cX1_tellSky 0 = .ok (.iload_n 1, 1) := by decide +kernel
theorem dX1_tellSky_1 : decode cX1_tellSky 1 = .ok (.invokestatic 42, 3) := by decide +kernel
theorem dX1_tellSky_4 : decode cX1_tellSky 4 = .ok (.ifCond .eq 10, 3) := by decide +kernel
theorem dX1_tellSky_7 : decode cX1_tellSky 7 = .ok (.aload_n 0, 1) := by decide +kernel
theorem dX1_tellSky_8 : decode cX1_tellSky 8 = .ok (.getfield 15, 3) := by decide +kernel
theorem dX1_tellSky_11 : decode cX1_tellSky 11 = .ok (.iload_n 1, 1) := by decide +kernel
theorem dX1_tellSky_12 : decode cX1_tellSky 12 = .ok (.iload_n 2, 1) := by decide +kernel
theorem dX1_tellSky_13 : decode cX1_tellSky 13 = .ok (.iastore, 1) := by decide +kernel
theorem dX1_tellSky_14 : decode cX1_tellSky 14 = .ok (.return_, 1) := by decide +kernel
set_option maxRecDepth 20000 in
theorem ggX1_become_X7_isStation : GoodIn wsX1_become wsX7_isStation := goodIn_r _ [6] (by decide +kernel) (by decide +kernel)
set_option maxRecDepth 20000 in
theorem gX1_become_X7_isStation_n38 : GoodIn wsX1_become (wsX7_isStation) := ggX1_become_X7_isStation
set_option maxRecDepth 20000 in
theorem ggX1_become_X3_bit : GoodIn wsX1_become wsX3_bit := goodIn_r _ [10, 4, 5, 6] (by decide +kernel) (by decide +kernel)
set_option maxRecDepth 20000 in
theorem gX1_become_X3_bit : GoodIn wsX1_become (va_wsS RX1 45 yX3_bit wsX3_bit) := goodIn_app (goodIn_of _ (by decide +kernel)) ggX1_become_X3_bit
theorem dX1_become_0 : decode cX1_become 0 = .ok (.iload_n 1, 1) := by decide +kernel
theorem dX1_become_1 : decode cX1_become 1 = .ok (.invokestatic 38, 3) := by decide +kernel
theorem dX1_become_4 : decode cX1_become 4 = .ok (.ifCond .ne 4, 3) := by decide +kernel
theorem dX1_become_7 : decode cX1_become 7 = .ok (.return_, 1) := by decide +kernel
theorem dX1_become_8 : decode cX1_become 8 = .ok (.aload_n 0, 1) := by decide +kernel
theorem dX1_become_9 : decode cX1_become 9 = .ok (.getfield 9, 3) := by decide +kernel
theorem dX1_become_12 : decode cX1_become 12 = .ok (.iload_n 1, 1) := by decide +kernel
theorem dX1_become_13 : decode cX1_become 13 = .ok (.iload_n 2, 1) := by decide +kernel
theorem dX1_become_14 : decode cX1_become 14 = .ok (.iastore, 1) := by decide +kernel
theorem dX1_become_15 : decode cX1_become 15 = .ok (.iload_n 2, 1) := by decide +kernel
theorem dX1_become_16 : decode cX1_become 16 = .ok (.bipush (-6), 2) := by decide +kernel
theorem dX1_become_18 : decode cX1_become 18 = .ok (.if_icmp .ne 23, 3) := by decide +kernel
theorem dX1_become_21 : decode cX1_become 21 = .ok (.aload_n 0, 1) := by decide +kernel
theorem dX1_become_22 : decode cX1_become 22 = .ok (.dup, 1) := by decide +kernel
theorem dX1_become_23 : decode cX1_become 23 = .ok (.getfield 22, 3) := by decide +kernel
theorem dX1_become_26 : decode cX1_become 26 = .ok (.iload_n 1, 1) := by decide +kernel
theorem dX1_become_27 : decode cX1_become 27 = .ok (.invokestatic 45, 3) := by decide +kernel
theorem dX1_become_30 : decode cX1_become 30 = .ok (.ldc2_w 49, 3) := by decide +kernel
theorem dX1_become_33 : decode cX1_become 33 = .ok (.lxor, 1) := by decide +kernel
theorem dX1_become_34 : decode cX1_become 34 = .ok (.land, 1) := by decide +kernel
theorem dX1_become_35 : decode cX1_become 35 = .ok (.putfield 22, 3) := by decide +kernel
theorem dX1_become_38 : decode cX1_become 38 = .ok (.goto 16, 3) := by decide +kernel
theorem dX1_become_41 : decode cX1_become 41 = .ok (.aload_n 0, 1) := by decide +kernel
theorem dX1_become_42 : decode cX1_become 42 = .ok (.dup, 1) := by decide +kernel
theorem dX1_become_43 : decode cX1_become 43 = .ok (.getfield 22, 3) := by decide +kernel
theorem dX1_become_46 : decode cX1_become 46 = .ok (.iload_n 1, 1) := by decide +kernel
theorem dX1_become_47 : decode cX1_become 47 = .ok (.invokestatic 45, 3) := by decide +kernel
theorem dX1_become_50 : decode cX1_become 50 = .ok (.lor, 1) := by decide +kernel
theorem dX1_become_51 : decode cX1_become 51 = .ok (.putfield 22, 3) := by decide +kernel
theorem dX1_become_54 : decode cX1_become 54 = .ok (.return_, 1) := by decide +kernel
set_option maxRecDepth 20000 in
theorem ggX1_standAs_X3_has : GoodIn wsX1_standAs wsX3_has := goodIn_r _ [4, 5, 6, 3, 7, 8, 9, 10] (by decide +kernel) (by decide +kernel)
set_option maxRecDepth 20000 in
theorem gX1_standAs_X3_has : GoodIn wsX1_standAs (va_wsS RX1 32 yX3_has wsX3_has) := goodIn_app (goodIn_of _ (by decide +kernel)) ggX1_standAs_X3_has
set_option maxRecDepth 20000 in
theorem ggX1_standAs_X1_become : GoodIn wsX1_standAs wsX1_become := goodIn_r _ [15, 16, 17, 18, 8, 9, 10, 19, 6, 3, 7, 20, 21, 22] (by decide +kernel) (by decide +kernel)
set_option maxRecDepth 20000 in
theorem gX1_standAs_X1_become : GoodIn wsX1_standAs (wsV RX1 51 RX1 yX1_become wsX1_become) := goodIn_app (goodIn_of _ (by decide +kernel)) ggX1_standAs_X1_become
theorem dX1_standAs_0 : decode cX1_standAs 0 = .ok (.iconst 0, 1) := by decide +kernel
theorem dX1_standAs_1 : decode cX1_standAs 1 = .ok (.istore_n 3, 1) := by decide +kernel
theorem dX1_standAs_2 : decode cX1_standAs 2 = .ok (.iload_n 3, 1) := by decide +kernel
theorem dX1_standAs_3 : decode cX1_standAs 3 = .ok (.bipush 60, 2) := by decide +kernel
theorem dX1_standAs_5 : decode cX1_standAs 5 = .ok (.if_icmp .gt 28, 3) := by decide +kernel
theorem dX1_standAs_8 : decode cX1_standAs 8 = .ok (.aload_n 0, 1) := by decide +kernel
theorem dX1_standAs_9 : decode cX1_standAs 9 = .ok (.iload_n 3, 1) := by decide +kernel
theorem dX1_standAs_10 : decode cX1_standAs 10 = .ok (.lload_n 1, 1) := by decide +kernel
theorem dX1_standAs_11 : decode cX1_standAs 11 = .ok (.iload_n 3, 1) := by decide +kernel
theorem dX1_standAs_12 : decode cX1_standAs 12 = .ok (.invokestatic 32, 3) := by decide +kernel
theorem dX1_standAs_15 : decode cX1_standAs 15 = .ok (.ifCond .eq 7, 3) := by decide +kernel
theorem dX1_standAs_18 : decode cX1_standAs 18 = .ok (.iconst 0, 1) := by decide +kernel
theorem dX1_standAs_19 : decode cX1_standAs 19 = .ok (.goto 5, 3) := by decide +kernel
theorem dX1_standAs_22 : decode cX1_standAs 22 = .ok (.bipush (-6), 2) := by decide +kernel
theorem dX1_standAs_24 : decode cX1_standAs 24 = .ok (.invokevirtual 51, 3) := by decide +kernel
theorem dX1_standAs_27 : decode cX1_standAs 27 = .ok (.iinc 3 1, 3) := by decide +kernel
theorem dX1_standAs_30 : decode cX1_standAs 30 = .ok (.goto (-28), 3) := by decide +kernel
theorem dX1_standAs_33 : decode cX1_standAs 33 = .ok (.return_, 1) := by decide +kernel
set_option maxRecDepth 20000 in
theorem ggX1_phaseFrom_X1_skyOf : GoodIn wsX1_phaseFrom wsX1_skyOf := goodIn_r _ [12, 13, 14, 15, 16, 28, 29, 30] (by decide +kernel) (by decide +kernel)
set_option maxRecDepth 20000 in
theorem gX1_phaseFrom_X1_skyOf : GoodIn wsX1_phaseFrom (wsV RX1 64 RX1 yX1_skyOf wsX1_skyOf) := goodIn_app (goodIn_of _ (by decide +kernel)) ggX1_phaseFrom_X1_skyOf
set_option maxRecDepth 20000 in
theorem ggX1_phaseFrom_X1_errorAt : GoodIn wsX1_phaseFrom wsX1_errorAt := goodIn_r _ [20, 21, 22, 15, 23, 28, 29, 30] (by decide +kernel) (by decide +kernel)
set_option maxRecDepth 20000 in
theorem gX1_phaseFrom_X1_errorAt : GoodIn wsX1_phaseFrom (wsV RX1 68 RX1 yX1_errorAt wsX1_errorAt) := goodIn_app (goodIn_of _ (by decide +kernel)) ggX1_phaseFrom_X1_errorAt
set_option maxRecDepth 20000 in
theorem ggX1_phaseFrom_J9_floorMod_7cf53 : GoodIn wsX1_phaseFrom wsJ9_floorMod_7cf53 := goodIn_r _ [27] (by decide +kernel) (by decide +kernel)
set_option maxRecDepth 20000 in
theorem gX1_phaseFrom_J9_floorMod_7cf53 : GoodIn wsX1_phaseFrom (va_wsS RX1 71 yJ9_floorMod_7cf53 wsJ9_floorMod_7cf53) := goodIn_app (goodIn_of _ (by decide +kernel)) ggX1_phaseFrom_J9_floorMod_7cf53
theorem dX1_phaseFrom_0 : decode cX1_phaseFrom 0 = .ok (.iload_n 1, 1) := by decide +kernel
theorem dX1_phaseFrom_1 : decode cX1_phaseFrom 1 = .ok (.iload_n 2, 1) := by decide +kernel
theorem dX1_phaseFrom_2 : decode cX1_phaseFrom 2 = .ok (.invokestatic 55, 3) := by decide +kernel
theorem dX1_phaseFrom_5 : decode cX1_phaseFrom 5 = .ok (.istore_n 3, 1) := by decide +kernel
theorem dX1_phaseFrom_6 : decode cX1_phaseFrom 6 = .ok (.iload_n 1, 1) := by decide +kernel
theorem dX1_phaseFrom_7 : decode cX1_phaseFrom 7 = .ok (.iload_n 2, 1) := by decide +kernel
theorem dX1_phaseFrom_8 : decode cX1_phaseFrom 8 = .ok (.invokestatic 61, 3) := by decide +kernel
theorem dX1_phaseFrom_11 : decode cX1_phaseFrom 11 = .ok (.istore 4, 2) := by decide +kernel
theorem dX1_phaseFrom_13 : decode cX1_phaseFrom 13 = .ok (.aload_n 0, 1) := by decide +kernel
theorem dX1_phaseFrom_14 : decode cX1_phaseFrom 14 = .ok (.iload 4, 2) := by decide +kernel
theorem dX1_phaseFrom_16 : decode cX1_phaseFrom 16 = .ok (.iload_n 3, 1) := by decide +kernel
theorem dX1_phaseFrom_17 : decode cX1_phaseFrom 17 = .ok (.isub, 1) := by decide +kernel
theorem dX1_phaseFrom_18 : decode cX1_phaseFrom 18 = .ok (.invokevirtual 64, 3) := by decide +kernel
theorem dX1_phaseFrom_21 : decode cX1_phaseFrom 21 = .ok (.aload_n 0, 1) := by decide +kernel
theorem dX1_phaseFrom_22 : decode cX1_phaseFrom 22 = .ok (.iload 4, 2) := by decide +kernel
theorem dX1_phaseFrom_24 : decode cX1_phaseFrom 24 = .ok (.invokevirtual 68, 3) := by decide +kernel
theorem dX1_phaseFrom_27 : decode cX1_phaseFrom 27 = .ok (.iadd, 1) := by decide +kernel
theorem dX1_phaseFrom_28 : decode cX1_phaseFrom 28 = .ok (.aload_n 0, 1) := by decide +kernel
theorem dX1_phaseFrom_29 : decode cX1_phaseFrom 29 = .ok (.iload_n 3, 1) := by decide +kernel
theorem dX1_phaseFrom_30 : decode cX1_phaseFrom 30 = .ok (.invokevirtual 68, 3) := by decide +kernel
theorem dX1_phaseFrom_33 : decode cX1_phaseFrom 33 = .ok (.isub, 1) := by decide +kernel
theorem dX1_phaseFrom_34 : decode cX1_phaseFrom 34 = .ok (.istore 5, 2) := by decide +kernel
theorem dX1_phaseFrom_36 : decode cX1_phaseFrom 36 = .ok (.iload_n 1, 1) := by decide +kernel
theorem dX1_phaseFrom_37 : decode cX1_phaseFrom 37 = .ok (.iload_n 2, 1) := by decide +kernel
theorem dX1_phaseFrom_38 : decode cX1_phaseFrom 38 = .ok (.if_icmp .ge 8, 3) := by decide +kernel
theorem dX1_phaseFrom_41 : decode cX1_phaseFrom 41 = .ok (.iload 5, 2) := by decide +kernel
theorem dX1_phaseFrom_43 : decode cX1_phaseFrom 43 = .ok (.goto 6, 3) := by decide +kernel
theorem dX1_phaseFrom_46 : decode cX1_phaseFrom 46 = .ok (.iload 5, 2) := by decide +kernel
theorem dX1_phaseFrom_48 : decode cX1_phaseFrom 48 = .ok (.ineg, 1) := by decide +kernel
theorem dX1_phaseFrom_49 : decode cX1_phaseFrom 49 = .ok (.sipush 360, 3) := by decide +kernel
theorem dX1_phaseFrom_52 : decode cX1_phaseFrom 52 = .ok (.invokestatic 71, 3) := by decide +kernel
theorem dX1_phaseFrom_55 : decode cX1_phaseFrom 55 = .ok (.ireturn, 1) := by decide +kernel
theorem dX1_takeAllFrom_0 : decode cX1_takeAllFrom 0 = .ok (.aload_n 0, 1) := by decide +kernel
theorem dX1_takeAllFrom_1 : decode cX1_takeAllFrom 1 = .ok (.aload_n 1, 1) := by decide +kernel
theorem dX1_takeAllFrom_2 : decode cX1_takeAllFrom 2 = .ok (.getfield 22, 3) := by decide +kernel
theorem dX1_takeAllFrom_5 : decode cX1_takeAllFrom 5 = .ok (.putfield 22, 3) := by decide +kernel
theorem dX1_takeAllFrom_8 : decode cX1_takeAllFrom 8 = .ok (.aload_n 1, 1) := by decide +kernel
theorem dX1_takeAllFrom_9 : decode cX1_takeAllFrom 9 = .ok (.getfield 9, 3) := by decide +kernel
theorem dX1_takeAllFrom_12 : decode cX1_takeAllFrom 12 = .ok (.iconst 0, 1) := by decide +kernel
theorem dX1_takeAllFrom_13 : decode cX1_takeAllFrom 13 = .ok (.aload_n 0, 1) := by decide +kernel
theorem dX1_takeAllFrom_14 : decode cX1_takeAllFrom 14 = .ok (.getfield 9, 3) := by decide +kernel
theorem dX1_takeAllFrom_17 : decode cX1_takeAllFrom 17 = .ok (.iconst 0, 1) := by decide +kernel
theorem dX1_takeAllFrom_18 : decode cX1_takeAllFrom 18 = .ok (.aload_n 0, 1) := by decide +kernel
theorem dX1_takeAllFrom_19 : decode cX1_takeAllFrom 19 = .ok (.getfield 9, 3) := by decide +kernel
theorem dX1_takeAllFrom_22 : decode cX1_takeAllFrom 22 = .ok (.arraylength, 1) := by decide +kernel
theorem dX1_takeAllFrom_23 : decode cX1_takeAllFrom 23 = .ok (.invokestatic 74, 3) := by decide +kernel
theorem dX1_takeAllFrom_26 : decode cX1_takeAllFrom 26 = .ok (.aload_n 1, 1) := by decide +kernel
theorem dX1_takeAllFrom_27 : decode cX1_takeAllFrom 27 = .ok (.getfield 15, 3) := by decide +kernel
theorem dX1_takeAllFrom_30 : decode cX1_takeAllFrom 30 = .ok (.iconst 0, 1) := by decide +kernel
theorem dX1_takeAllFrom_31 : decode cX1_takeAllFrom 31 = .ok (.aload_n 0, 1) := by decide +kernel
theorem dX1_takeAllFrom_32 : decode cX1_takeAllFrom 32 = .ok (.getfield 15, 3) := by decide +kernel
theorem dX1_takeAllFrom_35 : decode cX1_takeAllFrom 35 = .ok (.iconst 0, 1) := by decide +kernel
theorem dX1_takeAllFrom_36 : decode cX1_takeAllFrom 36 = .ok (.aload_n 0, 1) := by decide +kernel
theorem dX1_takeAllFrom_37 : decode cX1_takeAllFrom 37 = .ok (.getfield 15, 3) := by decide +kernel
theorem dX1_takeAllFrom_40 : decode cX1_takeAllFrom 40 = .ok (.arraylength, 1) := by decide +kernel
theorem dX1_takeAllFrom_41 : decode cX1_takeAllFrom 41 = .ok (.invokestatic 74, 3) := by decide +kernel
theorem dX1_takeAllFrom_44 : decode cX1_takeAllFrom 44 = .ok (.return_, 1) := by decide +kernel
theorem dX2_init_0 : decode cX2_init 0 = .ok (.aload_n 0, 1) := by decide +kernel
theorem dX2_init_1 : decode cX2_init 1 = .ok (.invokespecial 3, 3) := by decide +kernel
theorem dX2_init_4 : decode cX2_init 4 = .ok (.aload_n 0, 1) := by decide +kernel
theorem dX2_init_5 : decode cX2_init 5 = .ok (.iload_n 1, 1) := by decide +kernel
theorem dX2_init_6 : decode cX2_init 6 = .ok (.putfield 9, 3) := by decide +kernel
theorem dX2_init_9 : decode cX2_init 9 = .ok (.return_, 1) := by decide +kernel
theorem dX2_first_0 : decode cX2_first 0 = .ok (.aload_n 0, 1) := by decide +kernel
theorem dX2_first_1 : decode cX2_first 1 = .ok (.getfield 15, 3) := by decide +kernel
theorem dX2_first_4 : decode cX2_first 4 = .ok (.lreturn, 1) := by decide +kernel
theorem dX2_add_0 : decode cX2_add 0 = .ok (.aload_n 0, 1) := by decide +kernel
theorem dX2_add_1 : decode cX2_add 1 = .ok (.getfield 19, 3) := by decide +kernel
theorem dX2_add_4 : decode cX2_add 4 = .ok (.ifCond .ne 8, 3) := by decide +kernel
theorem dX2_add_7 : decode cX2_add 7 = .ok (.aload_n 0, 1) := by decide +kernel
theorem dX2_add_8 : decode cX2_add 8 = .ok (.lload_n 1, 1) := by decide +kernel
theorem dX2_add_9 : decode cX2_add 9 = .ok (.putfield 15, 3) := by decide +kernel
theorem dX2_add_12 : decode cX2_add 12 = .ok (.aload_n 0, 1) := by decide +kernel
theorem dX2_add_13 : decode cX2_add 13 = .ok (.dup, 1) := by decide +kernel
theorem dX2_add_14 : decode cX2_add 14 = .ok (.getfield 19, 3) := by decide +kernel
theorem dX2_add_17 : decode cX2_add 17 = .ok (.iconst 1, 1) := by decide +kernel
theorem dX2_add_18 : decode cX2_add 18 = .ok (.iadd, 1) := by decide +kernel
theorem dX2_add_19 : decode cX2_add 19 = .ok (.putfield 19, 3) := by decide +kernel
theorem dX2_add_22 : decode cX2_add 22 = .ok (.return_, 1) := by decide +kernel
set_option maxRecDepth 20000 in
theorem ggX2_answer_X3_markAt : GoodIn wsX2_answer wsX3_markAt := goodIn_r _ [8, 9, 10, 7, 11, 12, 13, 14, 15, 16, 17] (by decide +kernel) (by decide +kernel)
set_option maxRecDepth 20000 in
theorem gX2_answer_X3_markAt : GoodIn wsX2_answer (va_wsS RX2 28 yX3_markAt wsX3_markAt) := goodIn_app (goodIn_of _ (by decide +kernel)) ggX2_answer_X3_markAt
theorem dX2_answer_0 : decode cX2_answer 0 = .ok (.iload_n 1, 1) := by decide +kernel
theorem dX2_answer_1 : decode cX2_answer 1 = .ok (.tableswitch 42 0 2 #[27, 32, 37], 27) := by decide +kernel
theorem dX2_answer_28 : decode cX2_answer 28 = .ok (.aload_n 0, 1) := by decide +kernel
theorem dX2_answer_29 : decode cX2_answer 29 = .ok (.getfield 22, 3) := by decide +kernel
theorem dX2_answer_32 : decode cX2_answer 32 = .ok (.ireturn, 1) := by decide +kernel
theorem dX2_answer_33 : decode cX2_answer 33 = .ok (.aload_n 0, 1) := by decide +kernel
theorem dX2_answer_34 : decode cX2_answer 34 = .ok (.getfield 19, 3) := by decide +kernel
theorem dX2_answer_37 : decode cX2_answer 37 = .ok (.ireturn, 1) := by decide +kernel
theorem dX2_answer_38 : decode cX2_answer 38 = .ok (.aload_n 0, 1) := by decide +kernel
theorem dX2_answer_39 : decode cX2_answer 39 = .ok (.getfield 25, 3) := by decide +kernel
theorem dX2_answer_42 : decode cX2_answer 42 = .ok (.ireturn, 1) := by decide +kernel
theorem dX2_answer_43 : decode cX2_answer 43 = .ok (.aload_n 0, 1) := by decide +kernel
theorem dX2_answer_44 : decode cX2_answer 44 = .ok (.getfield 15, 3) := by decide +kernel
theorem dX2_answer_47 : decode cX2_answer 47 = .ok (.iload_n 1, 1) := by decide +kernel
theorem dX2_answer_48 : decode cX2_answer 48 = .ok (.bipush 10, 2) := by decide +kernel
theorem dX2_answer_50 : decode cX2_answer 50 = .ok (.isub, 1) := by decide +kernel
theorem dX2_answer_51 : decode cX2_answer 51 = .ok (.invokestatic 28, 3) := by decide +kernel
theorem dX2_answer_54 : decode cX2_answer 54 = .ok (.ireturn, 1) := by decide +kernel
set_option maxRecDepth 20000 in
theorem ggX3_bit_X7_isStation : GoodIn wsX3_bit wsX7_isStation := goodIn_r _ [3] (by decide +kernel) (by decide +kernel)
set_option maxRecDepth 20000 in
theorem gX3_bit_X7_isStation_n9 : GoodIn wsX3_bit (wsX7_isStation) := ggX3_bit_X7_isStation
theorem dX3_bit_0 : decode cX3_bit 0 = .ok (.iload_n 0, 1) := by decide +kernel
theorem dX3_bit_1 : decode cX3_bit 1 = .ok (.invokestatic 9, 3) := by decide +kernel
theorem dX3_bit_4 : decode cX3_bit 4 = .ok (.ifCond .eq 9, 3) := by decide +kernel
theorem dX3_bit_7 : decode cX3_bit 7 = .ok (.lconst 1, 1) := by decide +kernel
theorem dX3_bit_8 : decode cX3_bit 8 = .ok (.iload_n 0, 1) := by decide +kernel
theorem dX3_bit_9 : decode cX3_bit 9 = .ok (.lshl, 1) := by decide +kernel
theorem dX3_bit_10 : decode cX3_bit 10 = .ok (.goto 4, 3) := by decide +kernel
theorem dX3_bit_13 : decode cX3_bit 13 = .ok (.lconst 0, 1) := by decide +kernel
theorem dX3_bit_14 : decode cX3_bit 14 = .ok (.lreturn, 1) := by decide +kernel
set_option maxRecDepth 20000 in
theorem ggX3_has_X3_bit : GoodIn wsX3_has wsX3_bit := goodIn_r _ [4, 5, 6, 7] (by decide +kernel) (by decide +kernel)
set_option maxRecDepth 20000 in
theorem gX3_has_X3_bit : GoodIn wsX3_has (va_wsS RX3 13 yX3_bit wsX3_bit) := goodIn_app (goodIn_of _ (by decide +kernel)) ggX3_has_X3_bit
theorem dX3_has_0 : decode cX3_has 0 = .ok (.lload_n 0, 1) := by decide +kernel
theorem dX3_has_1 : decode cX3_has 1 = .ok (.iload_n 2, 1) := by decide +kernel
theorem dX3_has_2 : decode cX3_has 2 = .ok (.invokestatic 13, 3) := by decide +kernel
theorem dX3_has_5 : decode cX3_has 5 = .ok (.land, 1) := by decide +kernel
theorem dX3_has_6 : decode cX3_has 6 = .ok (.lconst 0, 1) := by decide +kernel
theorem dX3_has_7 : decode cX3_has 7 = .ok (.lcmp, 1) := by decide +kernel
theorem dX3_has_8 : decode cX3_has 8 = .ok (.ifCond .eq 7, 3) := by decide +kernel
theorem dX3_has_11 : decode cX3_has 11 = .ok (.iconst 1, 1) := by decide +kernel
theorem dX3_has_12 : decode cX3_has 12 = .ok (.goto 4, 3) := by decide +kernel
theorem dX3_has_15 : decode cX3_has 15 = .ok (.iconst 0, 1) := by decide +kernel
theorem dX3_has_16 : decode cX3_has 16 = .ok (.ireturn, 1) := by decide +kernel
set_option maxRecDepth 20000 in
theorem ggX3_markAt_X3_has : GoodIn wsX3_markAt wsX3_has := goodIn_r _ [4, 5, 6, 3, 7, 8, 9, 10] (by decide +kernel) (by decide +kernel)
set_option maxRecDepth 20000 in
theorem gX3_markAt_X3_has : GoodIn wsX3_markAt (va_wsS RX3 19 yX3_has wsX3_has) := goodIn_app (goodIn_of _ (by decide +kernel)) ggX3_markAt_X3_has
theorem dX3_markAt_0 : decode cX3_markAt 0 = .ok (.iconst 0, 1) := by decide +kernel
theorem dX3_markAt_1 : decode cX3_markAt 1 = .ok (.istore_n 3, 1) := by decide +kernel
theorem dX3_markAt_2 : decode cX3_markAt 2 = .ok (.iconst 0, 1) := by decide +kernel
theorem dX3_markAt_3 : decode cX3_markAt 3 = .ok (.istore 4, 2) := by decide +kernel
theorem dX3_markAt_5 : decode cX3_markAt 5 = .ok (.iload 4, 2) := by decide +kernel
theorem dX3_markAt_7 : decode cX3_markAt 7 = .ok (.bipush 60, 2) := by decide +kernel
theorem dX3_markAt_9 : decode cX3_markAt 9 = .ok (.if_icmp .gt 32, 3) := by decide +kernel
theorem dX3_markAt_12 : decode cX3_markAt 12 = .ok (.lload_n 0, 1) := by decide +kernel
theorem dX3_markAt_13 : decode cX3_markAt 13 = .ok (.iload 4, 2) := by decide +kernel
theorem dX3_markAt_15 : decode cX3_markAt 15 = .ok (.invokestatic 19, 3) := by decide +kernel
theorem dX3_markAt_18 : decode cX3_markAt 18 = .ok (.ifCond .ne 6, 3) := by decide +kernel
theorem dX3_markAt_21 : decode cX3_markAt 21 = .ok (.goto 14, 3) := by decide +kernel
theorem dX3_markAt_24 : decode cX3_markAt 24 = .ok (.iload_n 3, 1) := by decide +kernel
theorem dX3_markAt_25 : decode cX3_markAt 25 = .ok (.iload_n 2, 1) := by decide +kernel
theorem dX3_markAt_26 : decode cX3_markAt 26 = .ok (.if_icmp .ne 6, 3) := by decide +kernel
theorem dX3_markAt_29 : decode cX3_markAt 29 = .ok (.iload 4, 2) := by decide +kernel
theorem dX3_markAt_31 : decode cX3_markAt 31 = .ok (.ireturn, 1) := by decide +kernel
theorem dX3_markAt_32 : decode cX3_markAt 32 = .ok (.iinc 3 1, 3) := by decide +kernel
theorem dX3_markAt_35 : decode cX3_markAt 35 = .ok (.iinc 4 1, 3) := by decide +kernel
theorem dX3_markAt_38 : decode cX3_markAt 38 = .ok (.goto (-33), 3) := by decide +kernel
theorem dX3_markAt_41 : decode cX3_markAt 41 = .ok (.bipush (-6), 2) := by decide +kernel
theorem dX3_markAt_43 : decode cX3_markAt 43 = .ok (.ireturn, 1) := by decide +kernel
set_option maxRecDepth 20000 in
theorem ggX3_span_J13_bitCount_95d88 : GoodIn wsX3_span wsJ13_bitCount_95d88 := goodIn_r _ [4, 5, 6, 7] (by decide +kernel) (by decide +kernel)
set_option maxRecDepth 20000 in
theorem gX3_span_J13_bitCount_95d88 : GoodIn wsX3_span (va_wsS RX3 23 yJ13_bitCount_95d88 wsJ13_bitCount_95d88) := goodIn_app (goodIn_of _ (by decide +kernel)) ggX3_span_J13_bitCount_95d88
set_option maxRecDepth 20000 in
theorem ggX3_span_X3_markAt : GoodIn wsX3_span wsX3_markAt := goodIn_r _ [11, 12, 13, 10, 14, 15, 16, 17, 18, 19, 20] (by decide +kernel) (by decide +kernel)
set_option maxRecDepth 20000 in
theorem gX3_span_X3_markAt : GoodIn wsX3_span (va_wsS RX3 29 yX3_markAt wsX3_markAt) := goodIn_app (goodIn_of _ (by decide +kernel)) ggX3_span_X3_markAt
theorem dX3_span_0 : decode cX3_span 0 = .ok (.lload_n 0, 1) := by decide +kernel
theorem dX3_span_1 : decode cX3_span 1 = .ok (.lconst 0, 1) := by decide +kernel
theorem dX3_span_2 : decode cX3_span 2 = .ok (.lcmp, 1) := by decide +kernel
theorem dX3_span_3 : decode cX3_span 3 = .ok (.ifCond .ne 5, 3) := by decide +kernel
theorem dX3_span_6 : decode cX3_span 6 = .ok (.iconst 0, 1) := by decide +kernel
theorem dX3_span_7 : decode cX3_span 7 = .ok (.ireturn, 1) := by decide +kernel
theorem dX3_span_8 : decode cX3_span 8 = .ok (.lload_n 0, 1) := by decide +kernel
theorem dX3_span_9 : decode cX3_span 9 = .ok (.lload_n 0, 1) := by decide +kernel
theorem dX3_span_10 : decode cX3_span 10 = .ok (.invokestatic 23, 3) := by decide +kernel
theorem dX3_span_13 : decode cX3_span 13 = .ok (.iconst 1, 1) := by decide +kernel
theorem dX3_span_14 : decode cX3_span 14 = .ok (.isub, 1) := by decide +kernel
theorem dX3_span_15 : decode cX3_span 15 = .ok (.invokestatic 29, 3) := by decide +kernel
theorem dX3_span_18 : decode cX3_span 18 = .ok (.lload_n 0, 1) := by decide +kernel
theorem dX3_span_19 : decode cX3_span 19 = .ok (.iconst 0, 1) := by decide +kernel
theorem dX3_span_20 : decode cX3_span 20 = .ok (.invokestatic 29, 3) := by decide +kernel
theorem dX3_span_23 : decode cX3_span 23 = .ok (.isub, 1) := by decide +kernel
theorem dX3_span_24 : decode cX3_span 24 = .ok (.ireturn, 1) := by decide +kernel
set_option maxRecDepth 20000 in
theorem ggX3_often_X7_isLength : GoodIn wsX3_often wsX7_isLength := goodIn_r _ [3] (by decide +kernel) (by decide +kernel)
set_option maxRecDepth 20000 in
theorem gX3_often_X7_isLength_n33 : GoodIn wsX3_often (wsX7_isLength) := ggX3_often_X7_isLength
set_option maxRecDepth 20000 in
theorem ggX3_often_J13_bitCount_95d88 : GoodIn wsX3_often wsJ13_bitCount_95d88 := goodIn_r _ [7, 8, 9, 10] (by decide +kernel) (by decide +kernel)
set_option maxRecDepth 20000 in
theorem gX3_often_J13_bitCount_95d88 : GoodIn wsX3_often (va_wsS RX3 23 yJ13_bitCount_95d88 wsJ13_bitCount_95d88) := goodIn_app (goodIn_of _ (by decide +kernel)) ggX3_often_J13_bitCount_95d88
theorem dX3_often_0 : decode cX3_often 0 = .ok (.iload_n 2, 1) := by decide +kernel
theorem dX3_often_1 : decode cX3_often 1 = .ok (.invokestatic 33, 3) := by decide +kernel
theorem dX3_often_4 : decode cX3_often 4 = .ok (.ifCond .ne 5, 3) := by decide +kernel
theorem dX3_often_7 : decode cX3_often 7 = .ok (.iconst 0, 1) := by decide +kernel
theorem dX3_often_8 : decode cX3_often 8 = .ok (.ireturn, 1) := by decide +kernel
theorem dX3_often_9 : decode cX3_often 9 = .ok (.lload_n 0, 1) := by decide +kernel
theorem dX3_often_10 : decode cX3_often 10 = .ok (.lload_n 0, 1) := by decide +kernel
theorem dX3_often_11 : decode cX3_often 11 = .ok (.iload_n 2, 1) := by decide +kernel
theorem dX3_often_12 : decode cX3_often 12 = .ok (.lushr, 1) := by decide +kernel
theorem dX3_often_13 : decode cX3_often 13 = .ok (.land, 1) := by decide +kernel
theorem dX3_often_14 : decode cX3_often 14 = .ok (.invokestatic 23, 3) := by decide +kernel
theorem dX3_often_17 : decode cX3_often 17 = .ok (.ireturn, 1) := by decide +kernel
set_option maxRecDepth 20000 in
theorem ggX3_reach_X3_often : GoodIn wsX3_reach wsX3_often := goodIn_r _ [4, 5, 6, 7, 8, 9, 10, 11, 12, 13, 14] (by decide +kernel) (by decide +kernel)
set_option maxRecDepth 20000 in
theorem gX3_reach_X3_often : GoodIn wsX3_reach (va_wsS RX3 36 yX3_often wsX3_often) := goodIn_app (goodIn_of _ (by decide +kernel)) ggX3_reach_X3_often
theorem dX3_reach_0 : decode cX3_reach 0 = .ok (.iconst 1, 1) := by decide +kernel
theorem dX3_reach_1 : decode cX3_reach 1 = .ok (.istore_n 2, 1) := by decide +kernel
theorem dX3_reach_2 : decode cX3_reach 2 = .ok (.iload_n 2, 1) := by decide +kernel
theorem dX3_reach_3 : decode cX3_reach 3 = .ok (.bipush 60, 2) := by decide +kernel
theorem dX3_reach_5 : decode cX3_reach 5 = .ok (.if_icmp .gt 21, 3) := by decide +kernel
theorem dX3_reach_8 : decode cX3_reach 8 = .ok (.lload_n 0, 1) := by decide +kernel
theorem dX3_reach_9 : decode cX3_reach 9 = .ok (.iload_n 2, 1) := by decide +kernel
theorem dX3_reach_10 : decode cX3_reach 10 = .ok (.invokestatic 36, 3) := by decide +kernel
theorem dX3_reach_13 : decode cX3_reach 13 = .ok (.ifCond .ne 7, 3) := by decide +kernel
theorem dX3_reach_16 : decode cX3_reach 16 = .ok (.iload_n 2, 1) := by decide +kernel
theorem dX3_reach_17 : decode cX3_reach 17 = .ok (.iconst 1, 1) := by decide +kernel
theorem dX3_reach_18 : decode cX3_reach 18 = .ok (.isub, 1) := by decide +kernel
theorem dX3_reach_19 : decode cX3_reach 19 = .ok (.ireturn, 1) := by decide +kernel
theorem dX3_reach_20 : decode cX3_reach 20 = .ok (.iinc 2 1, 3) := by decide +kernel
theorem dX3_reach_23 : decode cX3_reach 23 = .ok (.goto (-21), 3) := by decide +kernel
theorem dX3_reach_26 : decode cX3_reach 26 = .ok (.bipush 60, 2) := by decide +kernel
theorem dX3_reach_28 : decode cX3_reach 28 = .ok (.ireturn, 1) := by decide +kernel
set_option maxRecDepth 20000 in
theorem ggX3_reachWithout_X3_bit : GoodIn wsX3_reachWithout wsX3_bit := goodIn_r _ [5, 6, 7, 8] (by decide +kernel) (by decide +kernel)
set_option maxRecDepth 20000 in
theorem gX3_reachWithout_X3_bit : GoodIn wsX3_reachWithout (va_wsS RX3 13 yX3_bit wsX3_bit) := goodIn_app (goodIn_of _ (by decide +kernel)) ggX3_reachWithout_X3_bit
set_option maxRecDepth 20000 in
theorem ggX3_reachWithout_X3_reach : GoodIn wsX3_reachWithout wsX3_reach := goodIn_r _ [11, 12, 13, 4, 14, 15, 7, 16, 17, 18, 19, 20, 21, 22, 23] (by decide +kernel) (by decide +kernel)
set_option maxRecDepth 20000 in
theorem gX3_reachWithout_X3_reach : GoodIn wsX3_reachWithout (va_wsS RX3 41 yX3_reach wsX3_reach) := goodIn_app (goodIn_of _ (by decide +kernel)) ggX3_reachWithout_X3_reach
theorem dX3_reachWithout_0 : decode cX3_reachWithout 0 = .ok (.lload_n 0, 1) := by decide +kernel
theorem dX3_reachWithout_1 : decode cX3_reachWithout 1 = .ok (.iload_n 2, 1) := by decide +kernel
theorem dX3_reachWithout_2 : decode cX3_reachWithout 2 = .ok (.invokestatic 13, 3) := by decide +kernel
theorem dX3_reachWithout_5 : decode cX3_reachWithout 5 = .ok (.ldc2_w 39, 3) := by decide +kernel
theorem dX3_reachWithout_8 : decode cX3_reachWithout 8 = .ok (.lxor, 1) := by decide +kernel
theorem dX3_reachWithout_9 : decode cX3_reachWithout 9 = .ok (.land, 1) := by decide +kernel
theorem dX3_reachWithout_10 : decode cX3_reachWithout 10 = .ok (.invokestatic 41, 3) := by decide +kernel
theorem dX3_reachWithout_13 : decode cX3_reachWithout 13 = .ok (.ireturn, 1) := by decide +kernel
set_option maxRecDepth 20000 in
theorem ggX3_lacking_X3_span : GoodIn wsX3_lacking wsX3_span := goodIn_r _ [4, 5, 6, 7, 8, 9, 10, 11, 12, 13, 3, 14, 15, 16, 17, 18, 19, 20, 21, 22, 23] (by decide +kernel) (by decide +kernel)
set_option maxRecDepth 20000 in
theorem gX3_lacking_X3_span : GoodIn wsX3_lacking (va_wsS RX3 44 yX3_span wsX3_span) := goodIn_app (goodIn_of _ (by decide +kernel)) ggX3_lacking_X3_span
set_option maxRecDepth 20000 in
theorem ggX3_lacking_X3_often : GoodIn wsX3_lacking wsX3_often := goodIn_r _ [26, 27, 22, 28, 5, 6, 7, 8, 9, 10, 11] (by decide +kernel) (by decide +kernel)
set_option maxRecDepth 20000 in
theorem gX3_lacking_X3_often : GoodIn wsX3_lacking (va_wsS RX3 36 yX3_often wsX3_often) := goodIn_app (goodIn_of _ (by decide +kernel)) ggX3_lacking_X3_often
theorem dX3_lacking_0 : decode cX3_lacking 0 = .ok (.lload_n 0, 1) := by decide +kernel
theorem dX3_lacking_1 : decode cX3_lacking 1 = .ok (.invokestatic 44, 3) := by decide +kernel
theorem dX3_lacking_4 : decode cX3_lacking 4 = .ok (.istore_n 2, 1) := by decide +kernel
theorem dX3_lacking_5 : decode cX3_lacking 5 = .ok (.iconst 0, 1) := by decide +kernel
theorem dX3_lacking_6 : decode cX3_lacking 6 = .ok (.istore_n 3, 1) := by decide +kernel
theorem dX3_lacking_7 : decode cX3_lacking 7 = .ok (.iconst 1, 1) := by decide +kernel
theorem dX3_lacking_8 : decode cX3_lacking 8 = .ok (.istore 4, 2) := by decide +kernel
theorem dX3_lacking_10 : decode cX3_lacking 10 = .ok (.iload 4, 2) := by decide +kernel
theorem dX3_lacking_12 : decode cX3_lacking 12 = .ok (.iload_n 2, 1) := by decide +kernel
theorem dX3_lacking_13 : decode cX3_lacking 13 = .ok (.if_icmp .gt 21, 3) := by decide +kernel
theorem dX3_lacking_16 : decode cX3_lacking 16 = .ok (.lload_n 0, 1) := by decide +kernel
theorem dX3_lacking_17 : decode cX3_lacking 17 = .ok (.iload 4, 2) := by decide +kernel
theorem dX3_lacking_19 : decode cX3_lacking 19 = .ok (.invokestatic 36, 3) := by decide +kernel
theorem dX3_lacking_22 : decode cX3_lacking 22 = .ok (.ifCond .ne 6, 3) := by decide +kernel
theorem dX3_lacking_25 : decode cX3_lacking 25 = .ok (.iinc 3 1, 3) := by decide +kernel
theorem dX3_lacking_28 : decode cX3_lacking 28 = .ok (.iinc 4 1, 3) := by decide +kernel
theorem dX3_lacking_31 : decode cX3_lacking 31 = .ok (.goto (-21), 3) := by decide +kernel
theorem dX3_lacking_34 : decode cX3_lacking 34 = .ok (.iload_n 3, 1) := by decide +kernel
theorem dX3_lacking_35 : decode cX3_lacking 35 = .ok (.ireturn, 1) := by decide +kernel
set_option maxRecDepth 20000 in
theorem ggX3_leastLacking_X3_reach : GoodIn wsX3_leastLacking wsX3_reach := goodIn_r _ [4, 5, 6, 3, 7, 8, 9, 10, 11, 12, 13, 14, 15, 16, 17] (by decide +kernel) (by decide +kernel)
set_option maxRecDepth 20000 in
theorem gX3_leastLacking_X3_reach : GoodIn wsX3_leastLacking (va_wsS RX3 41 yX3_reach wsX3_reach) := goodIn_app (goodIn_of _ (by decide +kernel)) ggX3_leastLacking_X3_reach
set_option maxRecDepth 20000 in
theorem ggX3_leastLacking_X3_span : GoodIn wsX3_leastLacking wsX3_span := goodIn_r _ [20, 11, 12, 13, 14, 15, 16, 17, 21, 22, 3, 23, 24, 25, 26, 27, 28, 29, 30, 9, 31] (by decide +kernel) (by decide +kernel)
set_option maxRecDepth 20000 in
theorem gX3_leastLacking_X3_span : GoodIn wsX3_leastLacking (va_wsS RX3 44 yX3_span wsX3_span) := goodIn_app (goodIn_of _ (by decide +kernel)) ggX3_leastLacking_X3_span
theorem dX3_leastLacking_0 : decode cX3_leastLacking 0 = .ok (.lload_n 0, 1) := by decide +kernel
theorem dX3_leastLacking_1 : decode cX3_leastLacking 1 = .ok (.invokestatic 41, 3) := by decide +kernel
theorem dX3_leastLacking_4 : decode cX3_leastLacking 4 = .ok (.istore_n 2, 1) := by decide +kernel
theorem dX3_leastLacking_5 : decode cX3_leastLacking 5 = .ok (.iload_n 2, 1) := by decide +kernel
theorem dX3_leastLacking_6 : decode cX3_leastLacking 6 = .ok (.lload_n 0, 1) := by decide +kernel
theorem dX3_leastLacking_7 : decode cX3_leastLacking 7 = .ok (.invokestatic 44, 3) := by decide +kernel
theorem dX3_leastLacking_10 : decode cX3_leastLacking 10 = .ok (.if_icmp .ge 9, 3) := by decide +kernel
theorem dX3_leastLacking_13 : decode cX3_leastLacking 13 = .ok (.iload_n 2, 1) := by decide +kernel
theorem dX3_leastLacking_14 : decode cX3_leastLacking 14 = .ok (.iconst 1, 1) := by decide +kernel
theorem dX3_leastLacking_15 : decode cX3_leastLacking 15 = .ok (.iadd, 1) := by decide +kernel
theorem dX3_leastLacking_16 : decode cX3_leastLacking 16 = .ok (.goto 5, 3) := by decide +kernel
theorem dX3_leastLacking_19 : decode cX3_leastLacking 19 = .ok (.bipush (-6), 2) := by decide +kernel
theorem dX3_leastLacking_21 : decode cX3_leastLacking 21 = .ok (.ireturn, 1) := by decide +kernel
set_option maxRecDepth 20000 in
theorem ggX3_repeats_X3_often : GoodIn wsX3_repeats wsX3_often := goodIn_r _ [4, 5, 6, 7, 8, 9, 10, 11, 12, 13, 14] (by decide +kernel) (by decide +kernel)
set_option maxRecDepth 20000 in
theorem gX3_repeats_X3_often : GoodIn wsX3_repeats (va_wsS RX3 36 yX3_often wsX3_often) := goodIn_app (goodIn_of _ (by decide +kernel)) ggX3_repeats_X3_often
theorem dX3_repeats_0 : decode cX3_repeats 0 = .ok (.iconst 0, 1) := by decide +kernel
theorem dX3_repeats_1 : decode cX3_repeats 1 = .ok (.istore_n 2, 1) := by decide +kernel
theorem dX3_repeats_2 : decode cX3_repeats 2 = .ok (.iconst 1, 1) := by decide +kernel
theorem dX3_repeats_3 : decode cX3_repeats 3 = .ok (.istore_n 3, 1) := by decide +kernel
theorem dX3_repeats_4 : decode cX3_repeats 4 = .ok (.iload_n 3, 1) := by decide +kernel
theorem dX3_repeats_5 : decode cX3_repeats 5 = .ok (.bipush 60, 2) := by decide +kernel
theorem dX3_repeats_7 : decode cX3_repeats 7 = .ok (.if_icmp .gt 29, 3) := by decide +kernel
theorem dX3_repeats_10 : decode cX3_repeats 10 = .ok (.lload_n 0, 1) := by decide +kernel
theorem dX3_repeats_11 : decode cX3_repeats 11 = .ok (.iload_n 3, 1) := by decide +kernel
theorem dX3_repeats_12 : decode cX3_repeats 12 = .ok (.invokestatic 36, 3) := by decide +kernel
theorem dX3_repeats_15 : decode cX3_repeats 15 = .ok (.istore 4, 2) := by decide +kernel
theorem dX3_repeats_17 : decode cX3_repeats 17 = .ok (.iload 4, 2) := by decide +kernel
theorem dX3_repeats_19 : decode cX3_repeats 19 = .ok (.iconst 1, 1) := by decide +kernel
theorem dX3_repeats_20 : decode cX3_repeats 20 = .ok (.if_icmp .le 10, 3) := by decide +kernel
theorem dX3_repeats_23 : decode cX3_repeats 23 = .ok (.iload_n 2, 1) := by decide +kernel
theorem dX3_repeats_24 : decode cX3_repeats 24 = .ok (.iload 4, 2) := by decide +kernel
theorem dX3_repeats_26 : decode cX3_repeats 26 = .ok (.iconst 1, 1) := by decide +kernel
theorem dX3_repeats_27 : decode cX3_repeats 27 = .ok (.isub, 1) := by decide +kernel
theorem dX3_repeats_28 : decode cX3_repeats 28 = .ok (.iadd, 1) := by decide +kernel
theorem dX3_repeats_29 : decode cX3_repeats 29 = .ok (.istore_n 2, 1) := by decide +kernel
theorem dX3_repeats_30 : decode cX3_repeats 30 = .ok (.iinc 3 1, 3) := by decide +kernel
theorem dX3_repeats_33 : decode cX3_repeats 33 = .ok (.goto (-29), 3) := by decide +kernel
theorem dX3_repeats_36 : decode cX3_repeats 36 = .ok (.iload_n 2, 1) := by decide +kernel
theorem dX3_repeats_37 : decode cX3_repeats 37 = .ok (.ireturn, 1) := by decide +kernel
set_option maxRecDepth 20000 in
theorem ggX3_mostOften_X3_often : GoodIn wsX3_mostOften wsX3_often := goodIn_r _ [4, 5, 6, 7, 8, 9, 10, 11, 12, 13, 14] (by decide +kernel) (by decide +kernel)
set_option maxRecDepth 20000 in
theorem gX3_mostOften_X3_often : GoodIn wsX3_mostOften (va_wsS RX3 36 yX3_often wsX3_often) := goodIn_app (goodIn_of _ (by decide +kernel)) ggX3_mostOften_X3_often
theorem dX3_mostOften_0 : decode cX3_mostOften 0 = .ok (.bipush (-6), 2) := by decide +kernel
theorem dX3_mostOften_2 : decode cX3_mostOften 2 = .ok (.istore_n 2, 1) := by decide +kernel
theorem dX3_mostOften_3 : decode cX3_mostOften 3 = .ok (.iconst 0, 1) := by decide +kernel
theorem dX3_mostOften_4 : decode cX3_mostOften 4 = .ok (.istore_n 3, 1) := by decide +kernel
theorem dX3_mostOften_5 : decode cX3_mostOften 5 = .ok (.iconst 1, 1) := by decide +kernel
theorem dX3_mostOften_6 : decode cX3_mostOften 6 = .ok (.istore 4, 2) := by decide +kernel
theorem dX3_mostOften_8 : decode cX3_mostOften 8 = .ok (.iload 4, 2) := by decide +kernel
theorem dX3_mostOften_10 : decode cX3_mostOften 10 = .ok (.bipush 60, 2) := by decide +kernel
theorem dX3_mostOften_12 : decode cX3_mostOften 12 = .ok (.if_icmp .gt 29, 3) := by decide +kernel
theorem dX3_mostOften_15 : decode cX3_mostOften 15 = .ok (.lload_n 0, 1) := by decide +kernel
theorem dX3_mostOften_16 : decode cX3_mostOften 16 = .ok (.iload 4, 2) := by decide +kernel
theorem dX3_mostOften_18 : decode cX3_mostOften 18 = .ok (.invokestatic 36, 3) := by decide +kernel
theorem dX3_mostOften_21 : decode cX3_mostOften 21 = .ok (.istore 5, 2) := by decide +kernel
theorem dX3_mostOften_23 : decode cX3_mostOften 23 = .ok (.iload 5, 2) := by decide +kernel
theorem dX3_mostOften_25 : decode cX3_mostOften 25 = .ok (.iload_n 3, 1) := by decide +kernel
theorem dX3_mostOften_26 : decode cX3_mostOften 26 = .ok (.if_icmp .le 9, 3) := by decide +kernel
theorem dX3_mostOften_29 : decode cX3_mostOften 29 = .ok (.iload 5, 2) := by decide +kernel
theorem dX3_mostOften_31 : decode cX3_mostOften 31 = .ok (.istore_n 3, 1) := by decide +kernel
theorem dX3_mostOften_32 : decode cX3_mostOften 32 = .ok (.iload 4, 2) := by decide +kernel
theorem dX3_mostOften_34 : decode cX3_mostOften 34 = .ok (.istore_n 2, 1) := by decide +kernel
theorem dX3_mostOften_35 : decode cX3_mostOften 35 = .ok (.iinc 4 1, 3) := by decide +kernel
theorem dX3_mostOften_38 : decode cX3_mostOften 38 = .ok (.goto (-30), 3) := by decide +kernel
theorem dX3_mostOften_41 : decode cX3_mostOften 41 = .ok (.iload_n 2, 1) := by decide +kernel
theorem dX3_mostOften_42 : decode cX3_mostOften 42 = .ok (.ireturn, 1) := by decide +kernel
theorem dX4_init_0 : decode cX4_init 0 = .ok (.aload_n 0, 1) := by decide +kernel
theorem dX4_init_1 : decode cX4_init 1 = .ok (.invokespecial 1, 3) := by decide +kernel
theorem dX4_init_4 : decode cX4_init 4 = .ok (.aload_n 0, 1) := by decide +kernel
theorem dX4_init_5 : decode cX4_init 5 = .ok (.bipush 16, 2) := by decide +kernel
theorem dX4_init_7 : decode cX4_init 7 = .ok (.newarray .int, 2) := by decide +kernel
theorem dX4_init_9 : decode cX4_init 9 = .ok (.putfield 9, 3) := by decide +kernel
theorem dX4_init_12 : decode cX4_init 12 = .ok (.aload_n 0, 1) := by decide +kernel
theorem dX4_init_13 : decode cX4_init 13 = .ok (.bipush 16, 2) := by decide +kernel
theorem dX4_init_15 : decode cX4_init 15 = .ok (.newarray .int, 2) := by decide +kernel
theorem dX4_init_17 : decode cX4_init 17 = .ok (.putfield 13, 3) := by decide +kernel
theorem dX4_init_20 : decode cX4_init 20 = .ok (.return_, 1) := by decide +kernel
theorem dX4_count_0 : decode cX4_count 0 = .ok (.aload_n 0, 1) := by decide +kernel
theorem dX4_count_1 : decode cX4_count 1 = .ok (.getfield 16, 3) := by decide +kernel
theorem dX4_count_4 : decode cX4_count 4 = .ok (.ireturn, 1) := by decide +kernel
set_option maxRecDepth 20000 in
theorem ggX4_add_X4_ring : GoodIn wsX4_add wsX4_ring := goodIn_r _ [8, 9, 10, 11, 12] (by decide +kernel) (by decide +kernel)
set_option maxRecDepth 20000 in
theorem gX4_add_X4_ring : GoodIn wsX4_add (va_wsS RX4 23 yX4_ring wsX4_ring) := goodIn_app (goodIn_of _ (by decide +kernel)) ggX4_add_X4_ring
theorem dX4_add_0 : decode cX4_add 0 = .ok (.aload_n 0, 1) := by decide +kernel
theorem dX4_add_1 : decode cX4_add 1 = .ok (.getfield 20, 3) := by decide +kernel
theorem dX4_add_4 : decode cX4_add 4 = .ok (.invokestatic 23, 3) := by decide +kernel
theorem dX4_add_7 : decode cX4_add 7 = .ok (.istore_n 3, 1) := by decide +kernel
theorem dX4_add_8 : decode cX4_add 8 = .ok (.aload_n 0, 1) := by decide +kernel
theorem dX4_add_9 : decode cX4_add 9 = .ok (.getfield 9, 3) := by decide +kernel
theorem dX4_add_12 : decode cX4_add 12 = .ok (.iload_n 3, 1) := by decide +kernel
theorem dX4_add_13 : decode cX4_add 13 = .ok (.iload_n 1, 1) := by decide +kernel
theorem dX4_add_14 : decode cX4_add 14 = .ok (.iastore, 1) := by decide +kernel
theorem dX4_add_15 : decode cX4_add 15 = .ok (.aload_n 0, 1) := by decide +kernel
theorem dX4_add_16 : decode cX4_add 16 = .ok (.getfield 13, 3) := by decide +kernel
theorem dX4_add_19 : decode cX4_add 19 = .ok (.iload_n 3, 1) := by decide +kernel
theorem dX4_add_20 : decode cX4_add 20 = .ok (.iload_n 2, 1) := by decide +kernel
theorem dX4_add_21 : decode cX4_add 21 = .ok (.iastore, 1) := by decide +kernel
theorem dX4_add_22 : decode cX4_add 22 = .ok (.aload_n 0, 1) := by decide +kernel
theorem dX4_add_23 : decode cX4_add 23 = .ok (.iload_n 3, 1) := by decide +kernel
theorem dX4_add_24 : decode cX4_add 24 = .ok (.iconst 1, 1) := by decide +kernel
theorem dX4_add_25 : decode cX4_add 25 = .ok (.iadd, 1) := by decide +kernel
theorem dX4_add_26 : decode cX4_add 26 = .ok (.invokestatic 23, 3) := by decide +kernel
theorem dX4_add_29 : decode cX4_add 29 = .ok (.putfield 20, 3) := by decide +kernel
theorem dX4_add_32 : decode cX4_add 32 = .ok (.aload_n 0, 1) := by decide +kernel
theorem dX4_add_33 : decode cX4_add 33 = .ok (.getfield 16, 3) := by decide +kernel
theorem dX4_add_36 : decode cX4_add 36 = .ok (.bipush 16, 2) := by decide +kernel
theorem dX4_add_38 : decode cX4_add 38 = .ok (.if_icmp .ge 13, 3) := by decide +kernel
theorem dX4_add_41 : decode cX4_add 41 = .ok (.aload_n 0, 1) := by decide +kernel
theorem dX4_add_42 : decode cX4_add 42 = .ok (.dup, 1) := by decide +kernel
theorem dX4_add_43 : decode cX4_add 43 = .ok (.getfield 16, 3) := by decide +kernel
theorem dX4_add_46 : decode cX4_add 46 = .ok (.iconst 1, 1) := by decide +kernel
theorem dX4_add_47 : decode cX4_add 47 = .ok (.iadd, 1) := by decide +kernel
theorem dX4_add_48 : decode cX4_add 48 = .ok (.putfield 16, 3) := by decide +kernel
theorem dX4_add_51 : decode cX4_add 51 = .ok (.return_, 1) := by decide +kernel
set_option maxRecDepth 20000 in
theorem ggX4_lastStation_X4_ring : GoodIn wsX4_lastStation wsX4_ring := goodIn_r _ [6, 7, 8, 9, 10] (by decide +kernel) (by decide +kernel)
set_option maxRecDepth 20000 in
theorem gX4_lastStation_X4_ring : GoodIn wsX4_lastStation (va_wsS RX4 23 yX4_ring wsX4_ring) := goodIn_app (goodIn_of _ (by decide +kernel)) ggX4_lastStation_X4_ring
theorem dX4_lastStation_0 : decode cX4_lastStation 0 = .ok (.aload_n 0, 1) := by decide +kernel
theorem dX4_lastStation_1 : decode cX4_lastStation 1 = .ok (.getfield 9, 3) := by decide +kernel
theorem dX4_lastStation_4 : decode cX4_lastStation 4 = .ok (.aload_n 0, 1) := by decide +kernel
theorem dX4_lastStation_5 : decode cX4_lastStation 5 = .ok (.getfield 20, 3) := by decide +kernel
theorem dX4_lastStation_8 : decode cX4_lastStation 8 = .ok (.iconst 1, 1) := by decide +kernel
theorem dX4_lastStation_9 : decode cX4_lastStation 9 = .ok (.isub, 1) := by decide +kernel
theorem dX4_lastStation_10 : decode cX4_lastStation 10 = .ok (.invokestatic 23, 3) := by decide +kernel
theorem dX4_lastStation_13 : decode cX4_lastStation 13 = .ok (.iaload, 1) := by decide +kernel
theorem dX4_lastStation_14 : decode cX4_lastStation 14 = .ok (.ireturn, 1) := by decide +kernel
set_option maxRecDepth 20000 in
theorem ggX4_lastBefore_X4_ring : GoodIn wsX4_lastBefore wsX4_ring := goodIn_r _ [6, 7, 8, 9, 10] (by decide +kernel) (by decide +kernel)
set_option maxRecDepth 20000 in
theorem gX4_lastBefore_X4_ring : GoodIn wsX4_lastBefore (va_wsS RX4 23 yX4_ring wsX4_ring) := goodIn_app (goodIn_of _ (by decide +kernel)) ggX4_lastBefore_X4_ring
theorem dX4_lastBefore_0 : decode cX4_lastBefore 0 = .ok (.aload_n 0, 1) := by decide +kernel
theorem dX4_lastBefore_1 : decode cX4_lastBefore 1 = .ok (.getfield 13, 3) := by decide +kernel
theorem dX4_lastBefore_4 : decode cX4_lastBefore 4 = .ok (.aload_n 0, 1) := by decide +kernel
theorem dX4_lastBefore_5 : decode cX4_lastBefore 5 = .ok (.getfield 20, 3) := by decide +kernel
theorem dX4_lastBefore_8 : decode cX4_lastBefore 8 = .ok (.iconst 1, 1) := by decide +kernel
theorem dX4_lastBefore_9 : decode cX4_lastBefore 9 = .ok (.isub, 1) := by decide +kernel
theorem dX4_lastBefore_10 : decode cX4_lastBefore 10 = .ok (.invokestatic 23, 3) := by decide +kernel
theorem dX4_lastBefore_13 : decode cX4_lastBefore 13 = .ok (.iaload, 1) := by decide +kernel
theorem dX4_lastBefore_14 : decode cX4_lastBefore 14 = .ok (.ireturn, 1) := by decide +kernel
set_option maxRecDepth 20000 in
theorem ggX4_forgetLast_X4_ring : GoodIn wsX4_forgetLast wsX4_ring := goodIn_r _ [6, 7, 8, 9, 10] (by decide +kernel) (by decide +kernel)
set_option maxRecDepth 20000 in
theorem gX4_forgetLast_X4_ring : GoodIn wsX4_forgetLast (va_wsS RX4 23 yX4_ring wsX4_ring) := goodIn_app (goodIn_of _ (by decide +kernel)) ggX4_forgetLast_X4_ring
theorem dX4_forgetLast_0 : decode cX4_forgetLast 0 = .ok (.aload_n 0, 1) := by decide +kernel
theorem dX4_forgetLast_1 : decode cX4_forgetLast 1 = .ok (.getfield 16, 3) := by decide +kernel
theorem dX4_forgetLast_4 : decode cX4_forgetLast 4 = .ok (.ifCond .ne 4, 3) := by decide +kernel
theorem dX4_forgetLast_7 : decode cX4_forgetLast 7 = .ok (.return_, 1) := by decide +kernel
theorem dX4_forgetLast_8 : decode cX4_forgetLast 8 = .ok (.aload_n 0, 1) := by decide +kernel
theorem dX4_forgetLast_9 : decode cX4_forgetLast 9 = .ok (.aload_n 0, 1) := by decide +kernel
theorem dX4_forgetLast_10 : decode cX4_forgetLast 10 = .ok (.getfield 20, 3) := by decide +kernel
theorem dX4_forgetLast_13 : decode cX4_forgetLast 13 = .ok (.iconst 1, 1) := by decide +kernel
theorem dX4_forgetLast_14 : decode cX4_forgetLast 14 = .ok (.isub, 1) := by decide +kernel
theorem dX4_forgetLast_15 : decode cX4_forgetLast 15 = .ok (.invokestatic 23, 3) := by decide +kernel
theorem dX4_forgetLast_18 : decode cX4_forgetLast 18 = .ok (.putfield 20, 3) := by decide +kernel
theorem dX4_forgetLast_21 : decode cX4_forgetLast 21 = .ok (.aload_n 0, 1) := by decide +kernel
theorem dX4_forgetLast_22 : decode cX4_forgetLast 22 = .ok (.dup, 1) := by decide +kernel
theorem dX4_forgetLast_23 : decode cX4_forgetLast 23 = .ok (.getfield 16, 3) := by decide +kernel
theorem dX4_forgetLast_26 : decode cX4_forgetLast 26 = .ok (.iconst 1, 1) := by decide +kernel
theorem dX4_forgetLast_27 : decode cX4_forgetLast 27 = .ok (.isub, 1) := by decide +kernel
theorem dX4_forgetLast_28 : decode cX4_forgetLast 28 = .ok (.putfield 16, 3) := by decide +kernel
theorem dX4_forgetLast_31 : decode cX4_forgetLast 31 = .ok (.return_, 1) := by decide +kernel
theorem dX4_forgetAll_0 : decode cX4_forgetAll 0 = .ok (.aload_n 0, 1) := by decide +kernel
theorem dX4_forgetAll_1 : decode cX4_forgetAll 1 = .ok (.iconst 0, 1) := by decide +kernel
theorem dX4_forgetAll_2 : decode cX4_forgetAll 2 = .ok (.putfield 16, 3) := by decide +kernel
theorem dX4_forgetAll_5 : decode cX4_forgetAll 5 = .ok (.return_, 1) := by decide +kernel
set_option maxRecDepth 20000 in
theorem ggX4_ring_J9_floorMod_7cf53 : GoodIn wsX4_ring wsJ9_floorMod_7cf53 := goodIn_r _ [4] (by decide +kernel) (by decide +kernel)
set_option maxRecDepth 20000 in
theorem gX4_ring_J9_floorMod_7cf53 : GoodIn wsX4_ring (va_wsS RX4 27 yJ9_floorMod_7cf53 wsJ9_floorMod_7cf53) := goodIn_app (goodIn_of _ (by decide +kernel)) ggX4_ring_J9_floorMod_7cf53
theorem dX4_ring_0 : decode cX4_ring 0 = .ok (.iload_n 0, 1) := by decide +kernel
theorem dX4_ring_1 : decode cX4_ring 1 = .ok (.bipush 16, 2) := by decide +kernel
theorem dX4_ring_3 : decode cX4_ring 3 = .ok (.invokestatic 27, 3) := by decide +kernel
theorem dX4_ring_6 : decode cX4_ring 6 = .ok (.ireturn, 1) := by decide +kernel
set_option maxRecDepth 20000 in
theorem ggX5_run_X5_tryBehind : GoodIn wsX5_run wsX5_tryBehind := goodIn_r _ [4, 5, 6, 7, 8, 9, 10, 11, 12, 13, 14, 15, 16, 17, 18, 19, 20, 21, 22, 1, 2, 3, 23, 24, 25, 26, 27] (by decide +kernel) (by decide +kernel)
set_option maxRecDepth 20000 in
theorem gX5_run_X5_tryBehind : GoodIn wsX5_run (va_wsS RX5 21 yX5_tryBehind wsX5_tryBehind) := goodIn_app (goodIn_of _ (by decide +kernel)) ggX5_run_X5_tryBehind
theorem dX5_run_0 : decode cX5_run 0 = .ok (.aload_n 0, 1) := by decide +kernel
theorem dX5_run_1 : decode cX5_run 1 = .ok (.getfield 9, 3) := by decide +kernel
theorem dX5_run_4 : decode cX5_run 4 = .ok (.istore_n 1, 1) := by decide +kernel
theorem dX5_run_5 : decode cX5_run 5 = .ok (.iload_n 1, 1) := by decide +kernel
theorem dX5_run_6 : decode cX5_run 6 = .ok (.iload_n 1, 1) := by decide +kernel
theorem dX5_run_7 : decode cX5_run 7 = .ok (.iconst 1, 1) := by decide +kernel
theorem dX5_run_8 : decode cX5_run 8 = .ok (.isub, 1) := by decide +kernel
theorem dX5_run_9 : decode cX5_run 9 = .ok (.imul, 1) := by decide +kernel
theorem dX5_run_10 : decode cX5_run 10 = .ok (.iconst 2, 1) := by decide +kernel
theorem dX5_run_11 : decode cX5_run 11 = .ok (.idiv, 1) := by decide +kernel
theorem dX5_run_12 : decode cX5_run 12 = .ok (.istore_n 2, 1) := by decide +kernel
theorem dX5_run_13 : decode cX5_run 13 = .ok (.iload_n 2, 1) := by decide +kernel
theorem dX5_run_14 : decode cX5_run 14 = .ok (.bipush 60, 2) := by decide +kernel
theorem dX5_run_16 : decode cX5_run 16 = .ok (.if_icmp .gt 32, 3) := by decide +kernel
theorem dX5_run_19 : decode cX5_run 19 = .ok (.aload_n 0, 1) := by decide +kernel
theorem dX5_run_20 : decode cX5_run 20 = .ok (.getfield 15, 3) := by decide +kernel
theorem dX5_run_23 : decode cX5_run 23 = .ok (.ifCond .ne 25, 3) := by decide +kernel
theorem dX5_run_26 : decode cX5_run 26 = .ok (.aload_n 0, 1) := by decide +kernel
theorem dX5_run_27 : decode cX5_run 27 = .ok (.iload_n 2, 1) := by decide +kernel
theorem dX5_run_28 : decode cX5_run 28 = .ok (.putfield 18, 3) := by decide +kernel
theorem dX5_run_31 : decode cX5_run 31 = .ok (.aload_n 0, 1) := by decide +kernel
theorem dX5_run_32 : decode cX5_run 32 = .ok (.iconst 0, 1) := by decide +kernel
theorem dX5_run_33 : decode cX5_run 33 = .ok (.lconst 1, 1) := by decide +kernel
theorem dX5_run_34 : decode cX5_run 34 = .ok (.lconst 0, 1) := by decide +kernel
theorem dX5_run_35 : decode cX5_run 35 = .ok (.lconst 1, 1) := by decide +kernel
theorem dX5_run_36 : decode cX5_run 36 = .ok (.iload_n 1, 1) := by decide +kernel
theorem dX5_run_37 : decode cX5_run 37 = .ok (.iconst 1, 1) := by decide +kernel
theorem dX5_run_38 : decode cX5_run 38 = .ok (.isub, 1) := by decide +kernel
theorem dX5_run_39 : decode cX5_run 39 = .ok (.invokestatic 21, 3) := by decide +kernel
theorem dX5_run_42 : decode cX5_run 42 = .ok (.iinc 2 1, 3) := by decide +kernel
theorem dX5_run_45 : decode cX5_run 45 = .ok (.goto (-32), 3) := by decide +kernel
theorem dX5_run_48 : decode cX5_run 48 = .ok (.return_, 1) := by decide +kernel
set_option maxRecDepth 20000 in
theorem ggX5_tryBehind_X3_bit : GoodIn wsX5_tryBehind wsX3_bit := goodIn_r _ [8, 9, 10, 11] (by decide +kernel) (by decide +kernel)
set_option maxRecDepth 20000 in
theorem gX5_tryBehind_X3_bit : GoodIn wsX5_tryBehind (va_wsS RX5 36 yX3_bit wsX3_bit) := goodIn_app (goodIn_of _ (by decide +kernel)) ggX5_tryBehind_X3_bit
set_option maxRecDepth 20000 in
theorem ggX5_tryBehind_X2_add : GoodIn wsX5_tryBehind wsX2_add := goodIn_r _ [16, 17, 18, 22, 23, 24, 25, 26] (by decide +kernel) (by decide +kernel)
set_option maxRecDepth 20000 in
theorem gX5_tryBehind_X2_add : GoodIn wsX5_tryBehind (wsV RX5 42 RX2 yX2_add wsX2_add) := goodIn_app (goodIn_of _ (by decide +kernel)) ggX5_tryBehind_X2_add
set_option maxRecDepth 20000 in
theorem ggX5_tryBehind_X5_tryBehind : GoodIn wsX5_tryBehind wsX5_tryBehind := goodIn_r _ [0, 1, 2, 3, 4, 5, 6, 7, 8, 9, 10, 11, 12, 13, 14, 15, 16, 17, 18, 19, 20, 21, 22, 23, 24, 25, 26] (by decide +kernel) (by decide +kernel)
set_option maxRecDepth 20000 in
theorem gX5_tryBehind_X5_tryBehind : GoodIn wsX5_tryBehind (va_wsS RX5 21 yX5_tryBehind wsX5_tryBehind) := goodIn_app (goodIn_of _ (by decide +kernel)) ggX5_tryBehind_X5_tryBehind
theorem dX5_tryBehind_0 : decode cX5_tryBehind 0 = .ok (.iload 8, 2) := by decide +kernel
theorem dX5_tryBehind_2 : decode cX5_tryBehind 2 = .ok (.iconst 1, 1) := by decide +kernel
theorem dX5_tryBehind_3 : decode cX5_tryBehind 3 = .ok (.if_icmp .ge 4, 3) := by decide +kernel
theorem dX5_tryBehind_6 : decode cX5_tryBehind 6 = .ok (.return_, 1) := by decide +kernel
theorem dX5_tryBehind_7 : decode cX5_tryBehind 7 = .ok (.iload 8, 2) := by decide +kernel
theorem dX5_tryBehind_9 : decode cX5_tryBehind 9 = .ok (.iconst 1, 1) := by decide +kernel
theorem dX5_tryBehind_10 : decode cX5_tryBehind 10 = .ok (.isub, 1) := by decide +kernel
theorem dX5_tryBehind_11 : decode cX5_tryBehind 11 = .ok (.istore 9, 2) := by decide +kernel
theorem dX5_tryBehind_13 : decode cX5_tryBehind 13 = .ok (.iload 9, 2) := by decide +kernel
theorem dX5_tryBehind_15 : decode cX5_tryBehind 15 = .ok (.ifCond .ne 16, 3) := by decide +kernel
theorem dX5_tryBehind_18 : decode cX5_tryBehind 18 = .ok (.iload_n 1, 1) := by decide +kernel
theorem dX5_tryBehind_19 : decode cX5_tryBehind 19 = .ok (.iconst 1, 1) := by decide +kernel
theorem dX5_tryBehind_20 : decode cX5_tryBehind 20 = .ok (.iadd, 1) := by decide +kernel
theorem dX5_tryBehind_21 : decode cX5_tryBehind 21 = .ok (.aload_n 0, 1) := by decide +kernel
theorem dX5_tryBehind_22 : decode cX5_tryBehind 22 = .ok (.getfield 18, 3) := by decide +kernel
theorem dX5_tryBehind_25 : decode cX5_tryBehind 25 = .ok (.invokestatic 27, 3) := by decide +kernel
theorem dX5_tryBehind_28 : decode cX5_tryBehind 28 = .ok (.goto 6, 3) := by decide +kernel
theorem dX5_tryBehind_31 : decode cX5_tryBehind 31 = .ok (.iload_n 1, 1) := by decide +kernel
theorem dX5_tryBehind_32 : decode cX5_tryBehind 32 = .ok (.iconst 1, 1) := by decide +kernel
theorem dX5_tryBehind_33 : decode cX5_tryBehind 33 = .ok (.iadd, 1) := by decide +kernel
theorem dX5_tryBehind_34 : decode cX5_tryBehind 34 = .ok (.istore 10, 2) := by decide +kernel
theorem dX5_tryBehind_36 : decode cX5_tryBehind 36 = .ok (.aload_n 0, 1) := by decide +kernel
theorem dX5_tryBehind_37 : decode cX5_tryBehind 37 = .ok (.getfield 18, 3) := by decide +kernel
theorem dX5_tryBehind_40 : decode cX5_tryBehind 40 = .ok (.iload 9, 2) := by decide +kernel
theorem dX5_tryBehind_42 : decode cX5_tryBehind 42 = .ok (.iload 9, 2) := by decide +kernel
theorem dX5_tryBehind_44 : decode cX5_tryBehind 44 = .ok (.iconst 1, 1) := by decide +kernel
theorem dX5_tryBehind_45 : decode cX5_tryBehind 45 = .ok (.iadd, 1) := by decide +kernel
theorem dX5_tryBehind_46 : decode cX5_tryBehind 46 = .ok (.imul, 1) := by decide +kernel
theorem dX5_tryBehind_47 : decode cX5_tryBehind 47 = .ok (.iconst 2, 1) := by decide +kernel
theorem dX5_tryBehind_48 : decode cX5_tryBehind 48 = .ok (.idiv, 1) := by decide +kernel
theorem dX5_tryBehind_49 : decode cX5_tryBehind 49 = .ok (.isub, 1) := by decide +kernel
theorem dX5_tryBehind_50 : decode cX5_tryBehind 50 = .ok (.istore 11, 2) := by decide +kernel
theorem dX5_tryBehind_52 : decode cX5_tryBehind 52 = .ok (.iload 10, 2) := by decide +kernel
theorem dX5_tryBehind_54 : decode cX5_tryBehind 54 = .ok (.istore 12, 2) := by decide +kernel
theorem dX5_tryBehind_56 : decode cX5_tryBehind 56 = .ok (.iload 12, 2) := by decide +kernel
theorem dX5_tryBehind_58 : decode cX5_tryBehind 58 = .ok (.iload 11, 2) := by decide +kernel
theorem dX5_tryBehind_60 : decode cX5_tryBehind 60 = .ok (.if_icmp .gt 83, 3) := by decide +kernel
theorem dX5_tryBehind_63 : decode cX5_tryBehind 63 = .ok (.aload_n 0, 1) := by decide +kernel
theorem dX5_tryBehind_64 : decode cX5_tryBehind 64 = .ok (.dup, 1) := by decide +kernel
theorem dX5_tryBehind_65 : decode cX5_tryBehind 65 = .ok (.getfield 33, 3) := by decide +kernel
theorem dX5_tryBehind_68 : decode cX5_tryBehind 68 = .ok (.iconst 1, 1) := by decide +kernel
theorem dX5_tryBehind_69 : decode cX5_tryBehind 69 = .ok (.iadd, 1) := by decide +kernel
theorem dX5_tryBehind_70 : decode cX5_tryBehind 70 = .ok (.putfield 33, 3) := by decide +kernel
theorem dX5_tryBehind_73 : decode cX5_tryBehind 73 = .ok (.lload_n 2, 1) := by decide +kernel
theorem dX5_tryBehind_74 : decode cX5_tryBehind 74 = .ok (.iload 12, 2) := by decide +kernel
theorem dX5_tryBehind_76 : decode cX5_tryBehind 76 = .ok (.iload_n 1, 1) := by decide +kernel
theorem dX5_tryBehind_77 : decode cX5_tryBehind 77 = .ok (.isub, 1) := by decide +kernel
theorem dX5_tryBehind_78 : decode cX5_tryBehind 78 = .ok (.lshl, 1) := by decide +kernel
theorem dX5_tryBehind_79 : decode cX5_tryBehind 79 = .ok (.lstore 13, 2) := by decide +kernel
theorem dX5_tryBehind_81 : decode cX5_tryBehind 81 = .ok (.lload 13, 2) := by decide +kernel
theorem dX5_tryBehind_83 : decode cX5_tryBehind 83 = .ok (.lload 4, 2) := by decide +kernel
theorem dX5_tryBehind_85 : decode cX5_tryBehind 85 = .ok (.land, 1) := by decide +kernel
theorem dX5_tryBehind_86 : decode cX5_tryBehind 86 = .ok (.lconst 0, 1) := by decide +kernel
theorem dX5_tryBehind_87 : decode cX5_tryBehind 87 = .ok (.lcmp, 1) := by decide +kernel
theorem dX5_tryBehind_88 : decode cX5_tryBehind 88 = .ok (.ifCond .eq 6, 3) := by decide +kernel
theorem dX5_tryBehind_91 : decode cX5_tryBehind 91 = .ok (.goto 46, 3) := by decide +kernel
theorem dX5_tryBehind_94 : decode cX5_tryBehind 94 = .ok (.lload 6, 2) := by decide +kernel
theorem dX5_tryBehind_96 : decode cX5_tryBehind 96 = .ok (.iload 12, 2) := by decide +kernel
theorem dX5_tryBehind_98 : decode cX5_tryBehind 98 = .ok (.invokestatic 36, 3) := by decide +kernel
theorem dX5_tryBehind_101 : decode cX5_tryBehind 101 = .ok (.lor, 1) := by decide +kernel
theorem dX5_tryBehind_102 : decode cX5_tryBehind 102 = .ok (.lstore 15, 2) := by decide +kernel
theorem dX5_tryBehind_104 : decode cX5_tryBehind 104 = .ok (.iload 9, 2) := by decide +kernel
theorem dX5_tryBehind_106 : decode cX5_tryBehind 106 = .ok (.ifCond .ne 12, 3) := by decide +kernel
theorem dX5_tryBehind_109 : decode cX5_tryBehind 109 = .ok (.aload_n 0, 1) := by decide +kernel
theorem dX5_tryBehind_110 : decode cX5_tryBehind 110 = .ok (.lload 15, 2) := by decide +kernel
theorem dX5_tryBehind_112 : decode cX5_tryBehind 112 = .ok (.invokevirtual 42, 3) := by decide +kernel
theorem dX5_tryBehind_115 : decode cX5_tryBehind 115 = .ok (.goto 22, 3) := by decide +kernel
theorem dX5_tryBehind_118 : decode cX5_tryBehind 118 = .ok (.aload_n 0, 1) := by decide +kernel
theorem dX5_tryBehind_119 : decode cX5_tryBehind 119 = .ok (.iload 12, 2) := by decide +kernel
theorem dX5_tryBehind_121 : decode cX5_tryBehind 121 = .ok (.lload 13, 2) := by decide +kernel
theorem dX5_tryBehind_123 : decode cX5_tryBehind 123 = .ok (.lconst 1, 1) := by decide +kernel
theorem dX5_tryBehind_124 : decode cX5_tryBehind 124 = .ok (.lor, 1) := by decide +kernel
theorem dX5_tryBehind_125 : decode cX5_tryBehind 125 = .ok (.lload 4, 2) := by decide +kernel
theorem dX5_tryBehind_127 : decode cX5_tryBehind 127 = .ok (.lload 13, 2) := by decide +kernel
theorem dX5_tryBehind_129 : decode cX5_tryBehind 129 = .ok (.lor, 1) := by decide +kernel
theorem dX5_tryBehind_130 : decode cX5_tryBehind 130 = .ok (.lload 15, 2) := by decide +kernel
theorem dX5_tryBehind_132 : decode cX5_tryBehind 132 = .ok (.iload 9, 2) := by decide +kernel
theorem dX5_tryBehind_134 : decode cX5_tryBehind 134 = .ok (.invokestatic 21, 3) := by decide +kernel
theorem dX5_tryBehind_137 : decode cX5_tryBehind 137 = .ok (.iinc 12 1, 3) := by decide +kernel
theorem dX5_tryBehind_140 : decode cX5_tryBehind 140 = .ok (.goto (-84), 3) := by decide +kernel
theorem dX5_tryBehind_143 : decode cX5_tryBehind 143 = .ok (.return_, 1) := by decide +kernel
set_option maxRecDepth 20000 in
theorem ggX6_init_X2_init : GoodIn wsX6_init wsX2_init := goodIn_r _ [11, 12, 2, 3, 13, 18, 19, 20, 21, 22] (by decide +kernel) (by decide +kernel)
set_option maxRecDepth 20000 in
theorem gX6_init_X2_init : GoodIn wsX6_init (wsX2_init) := ggX6_init_X2_init
theorem dX6_init_0 : decode cX6_init 0 = .ok (.aload_n 0, 1) := by decide +kernel
theorem dX6_init_1 : decode cX6_init 1 = .ok (.invokespecial 3, 3) := by decide +kernel
theorem dX6_init_4 : decode cX6_init 4 = .ok (.aload_n 0, 1) := by decide +kernel
theorem dX6_init_5 : decode cX6_init 5 = .ok (.iload_n 1, 1) := by decide +kernel
theorem dX6_init_6 : decode cX6_init 6 = .ok (.putfield 9, 3) := by decide +kernel
theorem dX6_init_9 : decode cX6_init 9 = .ok (.aload_n 0, 1) := by decide +kernel
theorem dX6_init_10 : decode cX6_init 10 = .ok (.iload_n 2, 1) := by decide +kernel
theorem dX6_init_11 : decode cX6_init 11 = .ok (.iconst 1, 1) := by decide +kernel
theorem dX6_init_12 : decode cX6_init 12 = .ok (.iadd, 1) := by decide +kernel
theorem dX6_init_13 : decode cX6_init 13 = .ok (.anewarray 15, 3) := by decide +kernel
theorem dX6_init_16 : decode cX6_init 16 = .ok (.putfield 17, 3) := by decide +kernel
theorem dX6_init_19 : decode cX6_init 19 = .ok (.iconst 0, 1) := by decide +kernel
theorem dX6_init_20 : decode cX6_init 20 = .ok (.istore_n 3, 1) := by decide +kernel
theorem dX6_init_21 : decode cX6_init 21 = .ok (.iload_n 3, 1) := by decide +kernel
theorem dX6_init_22 : decode cX6_init 22 = .ok (.aload_n 0, 1) := by decide +kernel
theorem dX6_init_23 : decode cX6_init 23 = .ok (.getfield 17, 3) := by decide +kernel
theorem dX6_init_26 : decode cX6_init 26 = .ok (.arraylength, 1) := by decide +kernel
theorem dX6_init_27 : decode cX6_init 27 = .ok (.if_icmp .ge 23, 3) := by decide +kernel
theorem dX6_init_30 : decode cX6_init 30 = .ok (.aload_n 0, 1) := by decide +kernel
theorem dX6_init_31 : decode cX6_init 31 = .ok (.getfield 17, 3) := by decide +kernel
theorem dX6_init_34 : decode cX6_init 34 = .ok (.iload_n 3, 1) := by decide +kernel
theorem dX6_init_35 : decode cX6_init 35 = .ok (.new 15, 3) := by decide +kernel
theorem dX6_init_38 : decode cX6_init 38 = .ok (.dup, 1) := by decide +kernel
theorem dX6_init_39 : decode cX6_init 39 = .ok (.iload_n 3, 1) := by decide +kernel
theorem dX6_init_40 : decode cX6_init 40 = .ok (.invokespecial 21, 3) := by decide +kernel
theorem dX6_init_43 : decode cX6_init 43 = .ok (.aastore, 1) := by decide +kernel
theorem dX6_init_44 : decode cX6_init 44 = .ok (.iinc 3 1, 3) := by decide +kernel
theorem dX6_init_47 : decode cX6_init 47 = .ok (.goto (-26), 3) := by decide +kernel
theorem dX6_init_50 : decode cX6_init 50 = .ok (.return_, 1) := by decide +kernel
set_option maxRecDepth 20000 in
theorem ggX6_found_X5_run : GoodIn wsX6_found wsX5_run := goodIn_r _ [15, 16, 17, 14, 18, 19, 7, 4, 8, 20, 21, 22, 23, 24, 25, 26, 27, 28, 29, 30, 31, 32, 33, 57, 58, 59, 60, 61] (by decide +kernel) (by decide +kernel)
set_option maxRecDepth 20000 in
theorem gX6_found_X5_run : GoodIn wsX6_found (va_wsS RX6 36 yX5_run wsX5_run) := goodIn_app (goodIn_of _ (by decide +kernel)) ggX6_found_X5_run
set_option maxRecDepth 20000 in
theorem ggX6_found_X0_run : GoodIn wsX6_found wsX0_run := goodIn_r _ [37, 38, 21, 22, 23, 24, 25, 26, 39, 40, 36, 41, 42, 43, 44, 45, 46, 47, 48, 49, 50, 51, 52, 28, 29, 30, 31, 32, 33, 57, 58, 59, 60, 61] (by decide +kernel) (by decide +kernel)
set_option maxRecDepth 20000 in
theorem gX6_found_X0_run : GoodIn wsX6_found (va_wsS RX6 42 yX0_run wsX0_run) := goodIn_app (goodIn_of _ (by decide +kernel)) ggX6_found_X0_run
theorem dX6_found_0 : decode cX6_found 0 = .ok (.iconst 0, 1) := by decide +kernel
theorem dX6_found_1 : decode cX6_found 1 = .ok (.iload_n 1, 1) := by decide +kernel
theorem dX6_found_2 : decode cX6_found 2 = .ok (.aload_n 0, 1) := by decide +kernel
theorem dX6_found_3 : decode cX6_found 3 = .ok (.getfield 17, 3) := by decide +kernel
theorem dX6_found_6 : decode cX6_found 6 = .ok (.arraylength, 1) := by decide +kernel
theorem dX6_found_7 : decode cX6_found 7 = .ok (.iconst 1, 1) := by decide +kernel
theorem dX6_found_8 : decode cX6_found 8 = .ok (.isub, 1) := by decide +kernel
theorem dX6_found_9 : decode cX6_found 9 = .ok (.invokestatic 24, 3) := by decide +kernel
theorem dX6_found_12 : decode cX6_found 12 = .ok (.invokestatic 30, 3) := by decide +kernel
theorem dX6_found_15 : decode cX6_found 15 = .ok (.istore_n 2, 1) := by decide +kernel
theorem dX6_found_16 : decode cX6_found 16 = .ok (.aload_n 0, 1) := by decide +kernel
theorem dX6_found_17 : decode cX6_found 17 = .ok (.getfield 17, 3) := by decide +kernel
theorem dX6_found_20 : decode cX6_found 20 = .ok (.iload_n 2, 1) := by decide +kernel
theorem dX6_found_21 : decode cX6_found 21 = .ok (.aaload, 1) := by decide +kernel
theorem dX6_found_22 : decode cX6_found 22 = .ok (.astore_n 3, 1) := by decide +kernel
theorem dX6_found_23 : decode cX6_found 23 = .ok (.aload_n 0, 1) := by decide +kernel
theorem dX6_found_24 : decode cX6_found 24 = .ok (.getfield 33, 3) := by decide +kernel
theorem dX6_found_27 : decode cX6_found 27 = .ok (.iconst 1, 1) := by decide +kernel
theorem dX6_found_28 : decode cX6_found 28 = .ok (.iload_n 2, 1) := by decide +kernel
theorem dX6_found_29 : decode cX6_found 29 = .ok (.ishl, 1) := by decide +kernel
theorem dX6_found_30 : decode cX6_found 30 = .ok (.iand, 1) := by decide +kernel
theorem dX6_found_31 : decode cX6_found 31 = .ok (.ifCond .ne 46, 3) := by decide +kernel
theorem dX6_found_34 : decode cX6_found 34 = .ok (.aload_n 0, 1) := by decide +kernel
theorem dX6_found_35 : decode cX6_found 35 = .ok (.getfield 9, 3) := by decide +kernel
theorem dX6_found_38 : decode cX6_found 38 = .ok (.ifCond .ne 10, 3) := by decide +kernel
theorem dX6_found_41 : decode cX6_found 41 = .ok (.aload_n 3, 1) := by decide +kernel
theorem dX6_found_42 : decode cX6_found 42 = .ok (.invokestatic 36, 3) := by decide +kernel
theorem dX6_found_45 : decode cX6_found 45 = .ok (.goto 7, 3) := by decide +kernel
theorem dX6_found_48 : decode cX6_found 48 = .ok (.aload_n 3, 1) := by decide +kernel
theorem dX6_found_49 : decode cX6_found 49 = .ok (.invokestatic 42, 3) := by decide +kernel
theorem dX6_found_52 : decode cX6_found 52 = .ok (.aload_n 0, 1) := by decide +kernel
theorem dX6_found_53 : decode cX6_found 53 = .ok (.dup, 1) := by decide +kernel
theorem dX6_found_54 : decode cX6_found 54 = .ok (.getfield 33, 3) := by decide +kernel
theorem dX6_found_57 : decode cX6_found 57 = .ok (.iconst 1, 1) := by decide +kernel
theorem dX6_found_58 : decode cX6_found 58 = .ok (.iload_n 2, 1) := by decide +kernel
theorem dX6_found_59 : decode cX6_found 59 = .ok (.ishl, 1) := by decide +kernel
theorem dX6_found_60 : decode cX6_found 60 = .ok (.ior, 1) := by decide +kernel
theorem dX6_found_61 : decode cX6_found 61 = .ok (.putfield 33, 3) := by decide +kernel
theorem dX6_found_64 : decode cX6_found 64 = .ok (.aload_n 0, 1) := by decide +kernel
theorem dX6_found_65 : decode cX6_found 65 = .ok (.dup, 1) := by decide +kernel
theorem dX6_found_66 : decode cX6_found 66 = .ok (.getfield 45, 3) := by decide +kernel
theorem dX6_found_69 : decode cX6_found 69 = .ok (.aload_n 3, 1) := by decide +kernel
theorem dX6_found_70 : decode cX6_found 70 = .ok (.getfield 48, 3) := by decide +kernel
theorem dX6_found_73 : decode cX6_found 73 = .ok (.iadd, 1) := by decide +kernel
theorem dX6_found_74 : decode cX6_found 74 = .ok (.putfield 45, 3) := by decide +kernel
theorem dX6_found_77 : decode cX6_found 77 = .ok (.aload_n 3, 1) := by decide +kernel
theorem dX6_found_78 : decode cX6_found 78 = .ok (.areturn, 1) := by decide +kernel
set_option maxRecDepth 20000 in
theorem ggX6_count_J6_bitCount_0f7a4 : GoodIn wsX6_count wsJ6_bitCount_0f7a4 := goodIn_r _ [5, 6, 7, 8] (by decide +kernel) (by decide +kernel)
set_option maxRecDepth 20000 in
theorem gX6_count_J6_bitCount_0f7a4 : GoodIn wsX6_count (va_wsS RX6 51 yJ6_bitCount_0f7a4 wsJ6_bitCount_0f7a4) := goodIn_app (goodIn_of _ (by decide +kernel)) ggX6_count_J6_bitCount_0f7a4
theorem dX6_count_0 : decode cX6_count 0 = .ok (.aload_n 0, 1) := by decide +kernel
theorem dX6_count_1 : decode cX6_count 1 = .ok (.getfield 33, 3) := by decide +kernel
theorem dX6_count_4 : decode cX6_count 4 = .ok (.invokestatic 51, 3) := by decide +kernel
theorem dX6_count_7 : decode cX6_count 7 = .ok (.ireturn, 1) := by decide +kernel
theorem dX6_knownBits_0 : decode cX6_knownBits 0 = .ok (.aload_n 0, 1) := by decide +kernel
theorem dX6_knownBits_1 : decode cX6_knownBits 1 = .ok (.getfield 33, 3) := by decide +kernel
theorem dX6_knownBits_4 : decode cX6_knownBits 4 = .ok (.ireturn, 1) := by decide +kernel
theorem dX6_triesInAll_0 : decode cX6_triesInAll 0 = .ok (.aload_n 0, 1) := by decide +kernel
theorem dX6_triesInAll_1 : decode cX6_triesInAll 1 = .ok (.getfield 45, 3) := by decide +kernel
theorem dX6_triesInAll_4 : decode cX6_triesInAll 4 = .ok (.ireturn, 1) := by decide +kernel
set_option maxRecDepth 20000 in
theorem ggX7_init_X1_init : GoodIn wsX7_init wsX1_init := goodIn_r _ [21, 22, 2, 3, 23, 24, 25, 26, 27, 28, 6, 29, 30, 31, 32, 33, 34, 35, 36, 37, 38, 39, 40, 41, 42, 43, 44, 45, 46, 66, 67, 68] (by decide +kernel) (by decide +kernel)
set_option maxRecDepth 20000 in
theorem gX7_init_X1_init : GoodIn wsX7_init (wsX1_init) := ggX7_init_X1_init
set_option maxRecDepth 20000 in
theorem ggX7_init_X4_init : GoodIn wsX7_init wsX4_init := goodIn_r _ [48, 49, 2, 3, 23, 50, 51, 78, 79, 80, 81] (by decide +kernel) (by decide +kernel)
set_option maxRecDepth 20000 in
theorem gX7_init_X4_init_n24 : GoodIn wsX7_init (wsX4_init) := ggX7_init_X4_init
set_option maxRecDepth 20000 in
theorem ggX7_init_X6_init : GoodIn wsX7_init wsX6_init := goodIn_r _ [54, 55, 2, 3, 56, 57, 58, 59, 60, 61, 62, 63, 64, 65, 82, 83, 84, 85, 86, 87, 88, 89, 90] (by decide +kernel) (by decide +kernel)
set_option maxRecDepth 20000 in
theorem gX7_init_X6_init : GoodIn wsX7_init (wsX6_init) := ggX7_init_X6_init
theorem dX7_init_0 : decode cX7_init 0 = .ok (.aload_n 0, 1) := by decide +kernel
theorem dX7_init_1 : decode cX7_init 1 = .ok (.invokespecial 1, 3) := by decide +kernel
theorem dX7_init_4 : decode cX7_init 4 = .ok (.aload_n 0, 1) := by decide +kernel
theorem dX7_init_5 : decode cX7_init 5 = .ok (.new 7, 3) := by decide +kernel
theorem dX7_init_8 : decode cX7_init 8 = .ok (.dup, 1) := by decide +kernel
theorem dX7_init_9 : decode cX7_init 9 = .ok (.invokespecial 9, 3) := by decide +kernel
theorem dX7_init_12 : decode cX7_init 12 = .ok (.putfield 10, 3) := by decide +kernel
theorem dX7_init_15 : decode cX7_init 15 = .ok (.aload_n 0, 1) := by decide +kernel
theorem dX7_init_16 : decode cX7_init 16 = .ok (.new 7, 3) := by decide +kernel
theorem dX7_init_19 : decode cX7_init 19 = .ok (.dup, 1) := by decide +kernel
theorem dX7_init_20 : decode cX7_init 20 = .ok (.invokespecial 9, 3) := by decide +kernel
theorem dX7_init_23 : decode cX7_init 23 = .ok (.putfield 16, 3) := by decide +kernel
theorem dX7_init_26 : decode cX7_init 26 = .ok (.aload_n 0, 1) := by decide +kernel
theorem dX7_init_27 : decode cX7_init 27 = .ok (.new 7, 3) := by decide +kernel
theorem dX7_init_30 : decode cX7_init 30 = .ok (.dup, 1) := by decide +kernel
theorem dX7_init_31 : decode cX7_init 31 = .ok (.invokespecial 9, 3) := by decide +kernel
theorem dX7_init_34 : decode cX7_init 34 = .ok (.putfield 19, 3) := by decide +kernel
theorem dX7_init_37 : decode cX7_init 37 = .ok (.aload_n 0, 1) := by decide +kernel
theorem dX7_init_38 : decode cX7_init 38 = .ok (.new 22, 3) := by decide +kernel
theorem dX7_init_41 : decode cX7_init 41 = .ok (.dup, 1) := by decide +kernel
theorem dX7_init_42 : decode cX7_init 42 = .ok (.invokespecial 24, 3) := by decide +kernel
theorem dX7_init_45 : decode cX7_init 45 = .ok (.putfield 25, 3) := by decide +kernel
theorem dX7_init_48 : decode cX7_init 48 = .ok (.aload_n 0, 1) := by decide +kernel
theorem dX7_init_49 : decode cX7_init 49 = .ok (.new 29, 3) := by decide +kernel
theorem dX7_init_52 : decode cX7_init 52 = .ok (.dup, 1) := by decide +kernel
theorem dX7_init_53 : decode cX7_init 53 = .ok (.iconst 0, 1) := by decide +kernel
theorem dX7_init_54 : decode cX7_init 54 = .ok (.bipush 7, 2) := by decide +kernel
theorem dX7_init_56 : decode cX7_init 56 = .ok (.invokespecial 31, 3) := by decide +kernel
theorem dX7_init_59 : decode cX7_init 59 = .ok (.putfield 34, 3) := by decide +kernel
theorem dX7_init_62 : decode cX7_init 62 = .ok (.aload_n 0, 1) := by decide +kernel
theorem dX7_init_63 : decode cX7_init 63 = .ok (.new 29, 3) := by decide +kernel
theorem dX7_init_66 : decode cX7_init 66 = .ok (.dup, 1) := by decide +kernel
theorem dX7_init_67 : decode cX7_init 67 = .ok (.iconst 1, 1) := by decide +kernel
theorem dX7_init_68 : decode cX7_init 68 = .ok (.bipush 20, 2) := by decide +kernel
theorem dX7_init_70 : decode cX7_init 70 = .ok (.invokespecial 31, 3) := by decide +kernel
theorem dX7_init_73 : decode cX7_init 73 = .ok (.putfield 38, 3) := by decide +kernel
theorem dX7_init_76 : decode cX7_init 76 = .ok (.return_, 1) := by decide +kernel
set_option maxRecDepth 20000 in
theorem ggX7_put_X7_isStation : GoodIn wsX7_put wsX7_isStation := goodIn_r _ [5] (by decide +kernel) (by decide +kernel)
set_option maxRecDepth 20000 in
theorem gX7_put_X7_isStation : GoodIn wsX7_put (va_wsS RX7 41 yX7_isStation wsX7_isStation) := goodIn_app (goodIn_of _ (by decide +kernel)) ggX7_put_X7_isStation
set_option maxRecDepth 20000 in
theorem ggX7_put_X1_standsAt : GoodIn wsX7_put wsX1_standsAt := goodIn_r _ [10, 11, 12, 13, 14, 15, 16, 17, 18, 3, 4, 5, 71, 72, 73] (by decide +kernel) (by decide +kernel)
set_option maxRecDepth 20000 in
theorem gX7_put_X1_standsAt : GoodIn wsX7_put (wsV RX7 45 RX1 yX1_standsAt wsX1_standsAt) := goodIn_app (goodIn_of _ (by decide +kernel)) ggX7_put_X1_standsAt
set_option maxRecDepth 20000 in
theorem ggX7_put_X1_count : GoodIn wsX7_put wsX1_count := goodIn_r _ [22, 11, 23, 24, 25, 26, 27, 28, 29, 71, 72, 73] (by decide +kernel) (by decide +kernel)
set_option maxRecDepth 20000 in
theorem gX7_put_X1_count : GoodIn wsX7_put (wsV RX7 48 RX1 yX1_count wsX1_count) := goodIn_app (goodIn_of _ (by decide +kernel)) ggX7_put_X1_count
set_option maxRecDepth 20000 in
theorem ggX7_put_X7_change : GoodIn wsX7_put wsX7_change := goodIn_r _ [33, 34, 1, 35, 36, 37, 9, 38, 39, 3, 4, 5, 40, 41, 42, 43, 44, 45, 46, 47, 48, 49, 50, 51, 52, 53, 54, 55, 56, 57, 58, 59, 11, 60, 61, 17, 14, 18, 62, 63, 64, 65, 66, 67, 68, 69, 70, 71, 72, 73, 74, 75, 76, 77] (by decide +kernel) (by decide +kernel)
set_option maxRecDepth 20000 in
theorem gX7_put_X7_change : GoodIn wsX7_put (wsV RX7 52 RX7 yX7_change wsX7_change) := goodIn_app (goodIn_of _ (by decide +kernel)) ggX7_put_X7_change
theorem dX7_put_0 : decode cX7_put 0 = .ok (.iload_n 1, 1) := by decide +kernel
theorem dX7_put_1 : decode cX7_put 1 = .ok (.invokestatic 41, 3) := by decide +kernel
theorem dX7_put_4 : decode cX7_put 4 = .ok (.ifCond .ne 6, 3) := by decide +kernel
theorem dX7_put_7 : decode cX7_put 7 = .ok (.bipush (-2), 2) := by decide +kernel
theorem dX7_put_9 : decode cX7_put 9 = .ok (.ireturn, 1) := by decide +kernel
theorem dX7_put_10 : decode cX7_put 10 = .ok (.aload_n 0, 1) := by decide +kernel
theorem dX7_put_11 : decode cX7_put 11 = .ok (.getfield 10, 3) := by decide +kernel
theorem dX7_put_14 : decode cX7_put 14 = .ok (.iload_n 1, 1) := by decide +kernel
theorem dX7_put_15 : decode cX7_put 15 = .ok (.invokevirtual 45, 3) := by decide +kernel
theorem dX7_put_18 : decode cX7_put 18 = .ok (.ifCond .eq 6, 3) := by decide +kernel
theorem dX7_put_21 : decode cX7_put 21 = .ok (.bipush (-5), 2) := by decide +kernel
theorem dX7_put_23 : decode cX7_put 23 = .ok (.ireturn, 1) := by decide +kernel
theorem dX7_put_24 : decode cX7_put 24 = .ok (.aload_n 0, 1) := by decide +kernel
theorem dX7_put_25 : decode cX7_put 25 = .ok (.getfield 10, 3) := by decide +kernel
theorem dX7_put_28 : decode cX7_put 28 = .ok (.invokevirtual 48, 3) := by decide +kernel
theorem dX7_put_31 : decode cX7_put 31 = .ok (.bipush 12, 2) := by decide +kernel
theorem dX7_put_33 : decode cX7_put 33 = .ok (.if_icmp .lt 6, 3) := by decide +kernel
theorem dX7_put_36 : decode cX7_put 36 = .ok (.bipush (-4), 2) := by decide +kernel
theorem dX7_put_38 : decode cX7_put 38 = .ok (.ireturn, 1) := by decide +kernel
theorem dX7_put_39 : decode cX7_put 39 = .ok (.aload_n 0, 1) := by decide +kernel
theorem dX7_put_40 : decode cX7_put 40 = .ok (.iload_n 1, 1) := by decide +kernel
theorem dX7_put_41 : decode cX7_put 41 = .ok (.iconst 0, 1) := by decide +kernel
theorem dX7_put_42 : decode cX7_put 42 = .ok (.invokevirtual 52, 3) := by decide +kernel
theorem dX7_put_45 : decode cX7_put 45 = .ok (.aload_n 0, 1) := by decide +kernel
theorem dX7_put_46 : decode cX7_put 46 = .ok (.getfield 10, 3) := by decide +kernel
theorem dX7_put_49 : decode cX7_put 49 = .ok (.invokevirtual 48, 3) := by decide +kernel
theorem dX7_put_52 : decode cX7_put 52 = .ok (.ireturn, 1) := by decide +kernel
set_option maxRecDepth 20000 in
theorem ggX7_lift_X1_standsAt : GoodIn wsX7_lift wsX1_standsAt := goodIn_r _ [6, 7, 8, 9, 10, 11, 12, 13, 14, 15, 16, 17, 70, 71, 72] (by decide +kernel) (by decide +kernel)
set_option maxRecDepth 20000 in
theorem gX7_lift_X1_standsAt : GoodIn wsX7_lift (wsV RX7 45 RX1 yX1_standsAt wsX1_standsAt) := goodIn_app (goodIn_of _ (by decide +kernel)) ggX7_lift_X1_standsAt
set_option maxRecDepth 20000 in
theorem ggX7_lift_X7_change : GoodIn wsX7_lift wsX7_change := goodIn_r _ [21, 22, 1, 23, 24, 25, 5, 26, 27, 15, 16, 17, 28, 29, 30, 31, 32, 33, 34, 35, 36, 37, 38, 39, 40, 41, 42, 43, 44, 45, 46, 47, 7, 48, 49, 13, 10, 14, 61, 62, 63, 64, 65, 66, 67, 68, 69, 70, 71, 72, 73, 74, 75, 76] (by decide +kernel) (by decide +kernel)
set_option maxRecDepth 20000 in
theorem gX7_lift_X7_change : GoodIn wsX7_lift (wsV RX7 52 RX7 yX7_change wsX7_change) := goodIn_app (goodIn_of _ (by decide +kernel)) ggX7_lift_X7_change
set_option maxRecDepth 20000 in
theorem ggX7_lift_X1_count : GoodIn wsX7_lift wsX1_count := goodIn_r _ [53, 7, 54, 55, 56, 57, 58, 59, 60, 70, 71, 72] (by decide +kernel) (by decide +kernel)
set_option maxRecDepth 20000 in
theorem gX7_lift_X1_count : GoodIn wsX7_lift (wsV RX7 48 RX1 yX1_count wsX1_count) := goodIn_app (goodIn_of _ (by decide +kernel)) ggX7_lift_X1_count
theorem dX7_lift_0 : decode cX7_lift 0 = .ok (.aload_n 0, 1) := by decide +kernel
theorem dX7_lift_1 : decode cX7_lift 1 = .ok (.getfield 10, 3) := by decide +kernel
theorem dX7_lift_4 : decode cX7_lift 4 = .ok (.iload_n 1, 1) := by decide +kernel
theorem dX7_lift_5 : decode cX7_lift 5 = .ok (.invokevirtual 45, 3) := by decide +kernel
theorem dX7_lift_8 : decode cX7_lift 8 = .ok (.ifCond .ne 5, 3) := by decide +kernel
theorem dX7_lift_11 : decode cX7_lift 11 = .ok (.iconst (-1), 1) := by decide +kernel
theorem dX7_lift_12 : decode cX7_lift 12 = .ok (.ireturn, 1) := by decide +kernel
theorem dX7_lift_13 : decode cX7_lift 13 = .ok (.aload_n 0, 1) := by decide +kernel
theorem dX7_lift_14 : decode cX7_lift 14 = .ok (.iload_n 1, 1) := by decide +kernel
theorem dX7_lift_15 : decode cX7_lift 15 = .ok (.bipush (-6), 2) := by decide +kernel
theorem dX7_lift_17 : decode cX7_lift 17 = .ok (.invokevirtual 52, 3) := by decide +kernel
theorem dX7_lift_20 : decode cX7_lift 20 = .ok (.aload_n 0, 1) := by decide +kernel
theorem dX7_lift_21 : decode cX7_lift 21 = .ok (.getfield 10, 3) := by decide +kernel
theorem dX7_lift_24 : decode cX7_lift 24 = .ok (.invokevirtual 48, 3) := by decide +kernel
theorem dX7_lift_27 : decode cX7_lift 27 = .ok (.ireturn, 1) := by decide +kernel
set_option maxRecDepth 20000 in
theorem ggX7_undo_X4_count : GoodIn wsX7_undo wsX4_count := goodIn_r _ [8, 9, 56, 57, 58, 59] (by decide +kernel) (by decide +kernel)
set_option maxRecDepth 20000 in
theorem gX7_undo_X4_count : GoodIn wsX7_undo (wsV RX7 55 RX4 yX4_count wsX4_count) := goodIn_app (goodIn_of _ (by decide +kernel)) ggX7_undo_X4_count
set_option maxRecDepth 20000 in
theorem ggX7_undo_X4_lastStation : GoodIn wsX7_undo wsX4_lastStation := goodIn_r _ [13, 14, 15, 16, 17, 7, 18, 19, 20, 21, 22, 56, 57, 58, 59] (by decide +kernel) (by decide +kernel)
set_option maxRecDepth 20000 in
theorem gX7_undo_X4_lastStation : GoodIn wsX7_undo (wsV RX7 56 RX4 yX4_lastStation wsX4_lastStation) := goodIn_app (goodIn_of _ (by decide +kernel)) ggX7_undo_X4_lastStation
set_option maxRecDepth 20000 in
theorem ggX7_undo_X4_lastBefore : GoodIn wsX7_undo wsX4_lastBefore := goodIn_r _ [26, 27, 15, 16, 17, 7, 18, 19, 20, 21, 22, 56, 57, 58, 59] (by decide +kernel) (by decide +kernel)
set_option maxRecDepth 20000 in
theorem gX7_undo_X4_lastBefore : GoodIn wsX7_undo (wsV RX7 59 RX4 yX4_lastBefore wsX4_lastBefore) := goodIn_app (goodIn_of _ (by decide +kernel)) ggX7_undo_X4_lastBefore
set_option maxRecDepth 20000 in
theorem ggX7_undo_X1_become : GoodIn wsX7_undo wsX1_become := goodIn_r _ [32, 33, 34, 35, 36, 37, 38, 39, 40, 41, 42, 60, 61, 62] (by decide +kernel) (by decide +kernel)
set_option maxRecDepth 20000 in
theorem gX7_undo_X1_become : GoodIn wsX7_undo (wsV RX7 62 RX1 yX1_become wsX1_become) := goodIn_app (goodIn_of _ (by decide +kernel)) ggX7_undo_X1_become
set_option maxRecDepth 20000 in
theorem ggX7_undo_X4_forgetLast : GoodIn wsX7_undo wsX4_forgetLast := goodIn_r _ [46, 9, 15, 16, 17, 7, 18, 19, 20, 21, 22, 56, 57, 58, 59] (by decide +kernel) (by decide +kernel)
set_option maxRecDepth 20000 in
theorem gX7_undo_X4_forgetLast : GoodIn wsX7_undo (wsV RX7 65 RX4 yX4_forgetLast wsX4_forgetLast) := goodIn_app (goodIn_of _ (by decide +kernel)) ggX7_undo_X4_forgetLast
theorem dX7_undo_0 : decode cX7_undo 0 = .ok (.aload_n 0, 1) := by decide +kernel
theorem dX7_undo_1 : decode cX7_undo 1 = .ok (.getfield 25, 3) := by decide +kernel
theorem dX7_undo_4 : decode cX7_undo 4 = .ok (.invokevirtual 55, 3) := by decide +kernel
theorem dX7_undo_7 : decode cX7_undo 7 = .ok (.ifCond .ne 6, 3) := by decide +kernel
theorem dX7_undo_10 : decode cX7_undo 10 = .ok (.bipush (-5), 2) := by decide +kernel
theorem dX7_undo_12 : decode cX7_undo 12 = .ok (.ireturn, 1) := by decide +kernel
theorem dX7_undo_13 : decode cX7_undo 13 = .ok (.aload_n 0, 1) := by decide +kernel
theorem dX7_undo_14 : decode cX7_undo 14 = .ok (.getfield 10, 3) := by decide +kernel
theorem dX7_undo_17 : decode cX7_undo 17 = .ok (.aload_n 0, 1) := by decide +kernel
theorem dX7_undo_18 : decode cX7_undo 18 = .ok (.getfield 25, 3) := by decide +kernel
theorem dX7_undo_21 : decode cX7_undo 21 = .ok (.invokevirtual 56, 3) := by decide +kernel
theorem dX7_undo_24 : decode cX7_undo 24 = .ok (.aload_n 0, 1) := by decide +kernel
theorem dX7_undo_25 : decode cX7_undo 25 = .ok (.getfield 25, 3) := by decide +kernel
theorem dX7_undo_28 : decode cX7_undo 28 = .ok (.invokevirtual 59, 3) := by decide +kernel
theorem dX7_undo_31 : decode cX7_undo 31 = .ok (.invokevirtual 62, 3) := by decide +kernel
theorem dX7_undo_34 : decode cX7_undo 34 = .ok (.aload_n 0, 1) := by decide +kernel
theorem dX7_undo_35 : decode cX7_undo 35 = .ok (.getfield 25, 3) := by decide +kernel
theorem dX7_undo_38 : decode cX7_undo 38 = .ok (.invokevirtual 65, 3) := by decide +kernel
theorem dX7_undo_41 : decode cX7_undo 41 = .ok (.aload_n 0, 1) := by decide +kernel
theorem dX7_undo_42 : decode cX7_undo 42 = .ok (.dup, 1) := by decide +kernel
theorem dX7_undo_43 : decode cX7_undo 43 = .ok (.getfield 68, 3) := by decide +kernel
theorem dX7_undo_46 : decode cX7_undo 46 = .ok (.iconst 1, 1) := by decide +kernel
theorem dX7_undo_47 : decode cX7_undo 47 = .ok (.iadd, 1) := by decide +kernel
theorem dX7_undo_48 : decode cX7_undo 48 = .ok (.putfield 68, 3) := by decide +kernel
theorem dX7_undo_51 : decode cX7_undo 51 = .ok (.aload_n 0, 1) := by decide +kernel
theorem dX7_undo_52 : decode cX7_undo 52 = .ok (.getfield 25, 3) := by decide +kernel
theorem dX7_undo_55 : decode cX7_undo 55 = .ok (.invokevirtual 55, 3) := by decide +kernel
theorem dX7_undo_58 : decode cX7_undo 58 = .ok (.ireturn, 1) := by decide +kernel
set_option maxRecDepth 20000 in
theorem ggX7_station_X1_line : GoodIn wsX7_station wsX1_line := goodIn_r _ [6, 7, 30, 31, 32] (by decide +kernel) (by decide +kernel)
set_option maxRecDepth 20000 in
theorem gX7_station_X1_line : GoodIn wsX7_station (wsV RX7 72 RX1 yX1_line wsX1_line) := goodIn_app (goodIn_of _ (by decide +kernel)) ggX7_station_X1_line
set_option maxRecDepth 20000 in
theorem ggX7_station_X3_markAt : GoodIn wsX7_station wsX3_markAt := goodIn_r _ [11, 12, 13, 10, 14, 15, 16, 17, 18, 19, 20] (by decide +kernel) (by decide +kernel)
set_option maxRecDepth 20000 in
theorem gX7_station_X3_markAt : GoodIn wsX7_station (va_wsS RX7 76 yX3_markAt wsX3_markAt) := goodIn_app (goodIn_of _ (by decide +kernel)) ggX7_station_X3_markAt
theorem dX7_station_0 : decode cX7_station 0 = .ok (.aload_n 0, 1) := by decide +kernel
theorem dX7_station_1 : decode cX7_station 1 = .ok (.getfield 10, 3) := by decide +kernel
theorem dX7_station_4 : decode cX7_station 4 = .ok (.invokevirtual 72, 3) := by decide +kernel
theorem dX7_station_7 : decode cX7_station 7 = .ok (.iload_n 1, 1) := by decide +kernel
theorem dX7_station_8 : decode cX7_station 8 = .ok (.invokestatic 76, 3) := by decide +kernel
theorem dX7_station_11 : decode cX7_station 11 = .ok (.ireturn, 1) := by decide +kernel
set_option maxRecDepth 20000 in
theorem ggX7_spacing_X7_isLength : GoodIn wsX7_spacing wsX7_isLength := goodIn_r _ [5] (by decide +kernel) (by decide +kernel)
set_option maxRecDepth 20000 in
theorem gX7_spacing_X7_isLength : GoodIn wsX7_spacing (va_wsS RX7 82 yX7_isLength wsX7_isLength) := goodIn_app (goodIn_of _ (by decide +kernel)) ggX7_spacing_X7_isLength
set_option maxRecDepth 20000 in
theorem ggX7_spacing_X1_line : GoodIn wsX7_spacing wsX1_line := goodIn_r _ [10, 11, 32, 33, 34] (by decide +kernel) (by decide +kernel)
set_option maxRecDepth 20000 in
theorem gX7_spacing_X1_line : GoodIn wsX7_spacing (wsV RX7 72 RX1 yX1_line wsX1_line) := goodIn_app (goodIn_of _ (by decide +kernel)) ggX7_spacing_X1_line
set_option maxRecDepth 20000 in
theorem ggX7_spacing_X3_often : GoodIn wsX7_spacing wsX3_often := goodIn_r _ [15, 3, 4, 5, 16, 17, 18, 19, 20, 21, 22] (by decide +kernel) (by decide +kernel)
set_option maxRecDepth 20000 in
theorem gX7_spacing_X3_often : GoodIn wsX7_spacing (va_wsS RX7 85 yX3_often wsX3_often) := goodIn_app (goodIn_of _ (by decide +kernel)) ggX7_spacing_X3_often
theorem dX7_spacing_0 : decode cX7_spacing 0 = .ok (.iload_n 1, 1) := by decide +kernel
theorem dX7_spacing_1 : decode cX7_spacing 1 = .ok (.invokestatic 82, 3) := by decide +kernel
theorem dX7_spacing_4 : decode cX7_spacing 4 = .ok (.ifCond .ne 6, 3) := by decide +kernel
theorem dX7_spacing_7 : decode cX7_spacing 7 = .ok (.bipush (-2), 2) := by decide +kernel
theorem dX7_spacing_9 : decode cX7_spacing 9 = .ok (.ireturn, 1) := by decide +kernel
theorem dX7_spacing_10 : decode cX7_spacing 10 = .ok (.aload_n 0, 1) := by decide +kernel
theorem dX7_spacing_11 : decode cX7_spacing 11 = .ok (.getfield 10, 3) := by decide +kernel
theorem dX7_spacing_14 : decode cX7_spacing 14 = .ok (.invokevirtual 72, 3) := by decide +kernel
theorem dX7_spacing_17 : decode cX7_spacing 17 = .ok (.iload_n 1, 1) := by decide +kernel
theorem dX7_spacing_18 : decode cX7_spacing 18 = .ok (.invokestatic 85, 3) := by decide +kernel
theorem dX7_spacing_21 : decode cX7_spacing 21 = .ok (.ireturn, 1) := by decide +kernel
set_option maxRecDepth 20000 in
theorem ggX7_facts_X1_line : GoodIn wsX7_facts wsX1_line := goodIn_r _ [6, 7, 67, 68, 69] (by decide +kernel) (by decide +kernel)
set_option maxRecDepth 20000 in
theorem gX7_facts_X1_line : GoodIn wsX7_facts (wsV RX7 72 RX1 yX1_line wsX1_line) := goodIn_app (goodIn_of _ (by decide +kernel)) ggX7_facts_X1_line
set_option maxRecDepth 20000 in
theorem ggX7_facts_X1_count : GoodIn wsX7_facts wsX1_count := goodIn_r _ [11, 7, 12, 13, 14, 15, 16, 17, 18, 67, 68, 69] (by decide +kernel) (by decide +kernel)
set_option maxRecDepth 20000 in
theorem gX7_facts_X1_count : GoodIn wsX7_facts (wsV RX7 48 RX1 yX1_count wsX1_count) := goodIn_app (goodIn_of _ (by decide +kernel)) ggX7_facts_X1_count
set_option maxRecDepth 20000 in
theorem ggX7_facts_X3_span : GoodIn wsX7_facts wsX3_span := goodIn_r _ [22, 23, 13, 14, 15, 16, 17, 18, 24, 25, 21, 26, 27, 28, 29, 30, 31, 32, 33, 34, 35] (by decide +kernel) (by decide +kernel)
set_option maxRecDepth 20000 in
theorem gX7_facts_X3_span : GoodIn wsX7_facts (va_wsS RX7 88 yX3_span wsX3_span) := goodIn_app (goodIn_of _ (by decide +kernel)) ggX7_facts_X3_span
set_option maxRecDepth 20000 in
theorem ggX7_facts_X3_reach : GoodIn wsX7_facts wsX3_reach := goodIn_r _ [38, 39, 40, 21, 41, 42, 34, 43, 23, 13, 14, 15, 16, 17, 18] (by decide +kernel) (by decide +kernel)
set_option maxRecDepth 20000 in
theorem gX7_facts_X3_reach : GoodIn wsX7_facts (va_wsS RX7 92 yX3_reach wsX3_reach) := goodIn_app (goodIn_of _ (by decide +kernel)) ggX7_facts_X3_reach
set_option maxRecDepth 20000 in
theorem ggX7_facts_X3_lacking : GoodIn wsX7_facts wsX3_lacking := goodIn_r _ [46, 47, 20, 21, 22, 23, 13, 14, 15, 16, 17, 18, 24, 25, 26, 27, 28, 29, 30, 31, 32, 33, 34, 35, 39, 40, 41, 42, 43] (by decide +kernel) (by decide +kernel)
set_option maxRecDepth 20000 in
theorem gX7_facts_X3_lacking : GoodIn wsX7_facts (va_wsS RX7 95 yX3_lacking wsX3_lacking) := goodIn_app (goodIn_of _ (by decide +kernel)) ggX7_facts_X3_lacking
set_option maxRecDepth 20000 in
theorem ggX7_facts_X3_repeats : GoodIn wsX7_facts wsX3_repeats := goodIn_r _ [50, 39, 40, 21, 41, 42, 34, 43, 23, 13, 14, 15, 16, 17, 18] (by decide +kernel) (by decide +kernel)
set_option maxRecDepth 20000 in
theorem gX7_facts_X3_repeats : GoodIn wsX7_facts (va_wsS RX7 98 yX3_repeats wsX3_repeats) := goodIn_app (goodIn_of _ (by decide +kernel)) ggX7_facts_X3_repeats
set_option maxRecDepth 20000 in
theorem ggX7_facts_X3_leastLacking : GoodIn wsX7_facts wsX3_leastLacking := goodIn_r _ [53, 54, 37, 21, 38, 39, 40, 41, 42, 34, 43, 23, 13, 14, 15, 16, 17, 18, 47, 20, 22, 24, 25, 26, 27, 28, 29, 30, 31, 32, 33, 35] (by decide +kernel) (by decide +kernel)
set_option maxRecDepth 20000 in
theorem gX7_facts_X3_leastLacking : GoodIn wsX7_facts (va_wsS RX7 101 yX3_leastLacking wsX3_leastLacking) := goodIn_app (goodIn_of _ (by decide +kernel)) ggX7_facts_X3_leastLacking
set_option maxRecDepth 20000 in
theorem ggX7_facts_X3_mostOften : GoodIn wsX7_facts wsX3_mostOften := goodIn_r _ [57, 39, 40, 21, 41, 42, 34, 43, 23, 13, 14, 15, 16, 17, 18] (by decide +kernel) (by decide +kernel)
set_option maxRecDepth 20000 in
theorem gX7_facts_X3_mostOften : GoodIn wsX7_facts (va_wsS RX7 104 yX3_mostOften wsX3_mostOften) := goodIn_app (goodIn_of _ (by decide +kernel)) ggX7_facts_X3_mostOften
theorem dX7_facts_0 : decode cX7_facts 0 = .ok (.aload_n 0, 1) := by decide +kernel
theorem dX7_facts_1 : decode cX7_facts 1 = .ok (.getfield 10, 3) := by decide +kernel
theorem dX7_facts_4 : decode cX7_facts 4 = .ok (.invokevirtual 72, 3) := by decide +kernel
theorem dX7_facts_7 : decode cX7_facts 7 = .ok (.lstore_n 2, 1) := by decide +kernel
theorem dX7_facts_8 : decode cX7_facts 8 = .ok (.iload_n 1, 1) := by decide +kernel
theorem dX7_facts_9 : decode cX7_facts 9 = .ok (.tableswitch 81 0 6 #[43, 51, 56, 61, 66, 71, 76], 43) := by decide +kernel
theorem dX7_facts_52 : decode cX7_facts 52 = .ok (.aload_n 0, 1) := by decide +kernel
theorem dX7_facts_53 : decode cX7_facts 53 = .ok (.getfield 10, 3) := by decide +kernel
theorem dX7_facts_56 : decode cX7_facts 56 = .ok (.invokevirtual 48, 3) := by decide +kernel
theorem dX7_facts_59 : decode cX7_facts 59 = .ok (.ireturn, 1) := by decide +kernel
theorem dX7_facts_60 : decode cX7_facts 60 = .ok (.lload_n 2, 1) := by decide +kernel
theorem dX7_facts_61 : decode cX7_facts 61 = .ok (.invokestatic 88, 3) := by decide +kernel
theorem dX7_facts_64 : decode cX7_facts 64 = .ok (.ireturn, 1) := by decide +kernel
theorem dX7_facts_65 : decode cX7_facts 65 = .ok (.lload_n 2, 1) := by decide +kernel
theorem dX7_facts_66 : decode cX7_facts 66 = .ok (.invokestatic 92, 3) := by decide +kernel
theorem dX7_facts_69 : decode cX7_facts 69 = .ok (.ireturn, 1) := by decide +kernel
theorem dX7_facts_70 : decode cX7_facts 70 = .ok (.lload_n 2, 1) := by decide +kernel
theorem dX7_facts_71 : decode cX7_facts 71 = .ok (.invokestatic 95, 3) := by decide +kernel
theorem dX7_facts_74 : decode cX7_facts 74 = .ok (.ireturn, 1) := by decide +kernel
theorem dX7_facts_75 : decode cX7_facts 75 = .ok (.lload_n 2, 1) := by decide +kernel
theorem dX7_facts_76 : decode cX7_facts 76 = .ok (.invokestatic 98, 3) := by decide +kernel
theorem dX7_facts_79 : decode cX7_facts 79 = .ok (.ireturn, 1) := by decide +kernel
theorem dX7_facts_80 : decode cX7_facts 80 = .ok (.lload_n 2, 1) := by decide +kernel
theorem dX7_facts_81 : decode cX7_facts 81 = .ok (.invokestatic 101, 3) := by decide +kernel
theorem dX7_facts_84 : decode cX7_facts 84 = .ok (.ireturn, 1) := by decide +kernel
theorem dX7_facts_85 : decode cX7_facts 85 = .ok (.lload_n 2, 1) := by decide +kernel
theorem dX7_facts_86 : decode cX7_facts 86 = .ok (.invokestatic 104, 3) := by decide +kernel
theorem dX7_facts_89 : decode cX7_facts 89 = .ok (.ireturn, 1) := by decide +kernel
theorem dX7_facts_90 : decode cX7_facts 90 = .ok (.bipush (-2), 2) := by decide +kernel
theorem dX7_facts_92 : decode cX7_facts 92 = .ok (.ireturn, 1) := by decide +kernel
set_option maxRecDepth 20000 in
theorem ggX7_ruler_X7_isSearchable : GoodIn wsX7_ruler wsX7_isSearchable := goodIn_r _ [5] (by decide +kernel) (by decide +kernel)
set_option maxRecDepth 20000 in
theorem gX7_ruler_X7_isSearchable : GoodIn wsX7_ruler (va_wsS RX7 107 yX7_isSearchable wsX7_isSearchable) := goodIn_app (goodIn_of _ (by decide +kernel)) ggX7_ruler_X7_isSearchable
set_option maxRecDepth 20000 in
theorem ggX7_ruler_X7_isAskable : GoodIn wsX7_ruler wsX7_isAskable := goodIn_r _ [8] (by decide +kernel) (by decide +kernel)
set_option maxRecDepth 20000 in
theorem gX7_ruler_X7_isAskable : GoodIn wsX7_ruler (va_wsS RX7 111 yX7_isAskable wsX7_isAskable) := goodIn_app (goodIn_of _ (by decide +kernel)) ggX7_ruler_X7_isAskable
set_option maxRecDepth 20000 in
theorem ggX7_ruler_X6_found : GoodIn wsX7_ruler wsX6_found := goodIn_r _ [13, 14, 15, 16, 17, 18, 19, 20, 21, 22, 23, 24, 25, 26, 27, 28, 29, 30, 31, 32, 33, 34, 35, 36, 37, 4, 38, 39, 40, 41, 42, 43, 44, 45, 46, 47, 48, 49, 50, 51, 52, 53, 54, 55, 56, 57, 58, 59, 60, 61, 62, 63, 64, 87, 88, 89, 90, 91, 92, 93, 94, 95] (by decide +kernel) (by decide +kernel)
set_option maxRecDepth 20000 in
theorem gX7_ruler_X6_found : GoodIn wsX7_ruler (wsV RX7 114 RX6 yX6_found wsX6_found) := goodIn_app (goodIn_of _ (by decide +kernel)) ggX7_ruler_X6_found
set_option maxRecDepth 20000 in
theorem ggX7_ruler_X2_answer : GoodIn wsX7_ruler wsX2_answer := goodIn_r _ [68, 69, 44, 70, 45, 71, 72, 35, 73, 74, 75, 76, 77, 34, 36, 37, 4, 38, 91, 92, 93, 94, 95] (by decide +kernel) (by decide +kernel)
set_option maxRecDepth 20000 in
theorem gX7_ruler_X2_answer : GoodIn wsX7_ruler (wsV RX7 118 RX2 yX2_answer wsX2_answer) := goodIn_app (goodIn_of _ (by decide +kernel)) ggX7_ruler_X2_answer
theorem dX7_ruler_0 : decode cX7_ruler 0 = .ok (.iconst 0, 1) := by decide +kernel
theorem dX7_ruler_1 : decode cX7_ruler 1 = .ok (.iload_n 1, 1) := by decide +kernel
theorem dX7_ruler_2 : decode cX7_ruler 2 = .ok (.invokestatic 107, 3) := by decide +kernel
theorem dX7_ruler_5 : decode cX7_ruler 5 = .ok (.ifCond .eq 10, 3) := by decide +kernel
theorem dX7_ruler_8 : decode cX7_ruler 8 = .ok (.iload_n 2, 1) := by decide +kernel
theorem dX7_ruler_9 : decode cX7_ruler 9 = .ok (.invokestatic 111, 3) := by decide +kernel
theorem dX7_ruler_12 : decode cX7_ruler 12 = .ok (.ifCond .ne 6, 3) := by decide +kernel
theorem dX7_ruler_15 : decode cX7_ruler 15 = .ok (.bipush (-2), 2) := by decide +kernel
theorem dX7_ruler_17 : decode cX7_ruler 17 = .ok (.ireturn, 1) := by decide +kernel
theorem dX7_ruler_18 : decode cX7_ruler 18 = .ok (.aload_n 0, 1) := by decide +kernel
theorem dX7_ruler_19 : decode cX7_ruler 19 = .ok (.getfield 34, 3) := by decide +kernel
theorem dX7_ruler_22 : decode cX7_ruler 22 = .ok (.iload_n 1, 1) := by decide +kernel
theorem dX7_ruler_23 : decode cX7_ruler 23 = .ok (.invokevirtual 114, 3) := by decide +kernel
theorem dX7_ruler_26 : decode cX7_ruler 26 = .ok (.iload_n 2, 1) := by decide +kernel
theorem dX7_ruler_27 : decode cX7_ruler 27 = .ok (.invokevirtual 118, 3) := by decide +kernel
theorem dX7_ruler_30 : decode cX7_ruler 30 = .ok (.ireturn, 1) := by decide +kernel
set_option maxRecDepth 20000 in
theorem ggX7_cover_X7_isSearchable : GoodIn wsX7_cover wsX7_isSearchable := goodIn_r _ [5] (by decide +kernel) (by decide +kernel)
set_option maxRecDepth 20000 in
theorem gX7_cover_X7_isSearchable : GoodIn wsX7_cover (va_wsS RX7 107 yX7_isSearchable wsX7_isSearchable) := goodIn_app (goodIn_of _ (by decide +kernel)) ggX7_cover_X7_isSearchable
set_option maxRecDepth 20000 in
theorem ggX7_cover_X7_isAskable : GoodIn wsX7_cover wsX7_isAskable := goodIn_r _ [8] (by decide +kernel) (by decide +kernel)
set_option maxRecDepth 20000 in
theorem gX7_cover_X7_isAskable : GoodIn wsX7_cover (va_wsS RX7 111 yX7_isAskable wsX7_isAskable) := goodIn_app (goodIn_of _ (by decide +kernel)) ggX7_cover_X7_isAskable
set_option maxRecDepth 20000 in
theorem ggX7_cover_X6_found : GoodIn wsX7_cover wsX6_found := goodIn_r _ [13, 14, 15, 16, 17, 18, 19, 20, 21, 22, 23, 24, 25, 26, 27, 28, 29, 30, 31, 32, 33, 34, 35, 36, 37, 4, 38, 39, 40, 41, 42, 43, 44, 45, 46, 47, 48, 49, 50, 51, 52, 53, 54, 55, 56, 57, 58, 59, 60, 61, 62, 63, 64, 87, 88, 89, 90, 91, 92, 93, 94, 95] (by decide +kernel) (by decide +kernel)
set_option maxRecDepth 20000 in
theorem gX7_cover_X6_found : GoodIn wsX7_cover (wsV RX7 114 RX6 yX6_found wsX6_found) := goodIn_app (goodIn_of _ (by decide +kernel)) ggX7_cover_X6_found
set_option maxRecDepth 20000 in
theorem ggX7_cover_X2_answer : GoodIn wsX7_cover wsX2_answer := goodIn_r _ [68, 69, 44, 70, 45, 71, 72, 35, 73, 74, 75, 76, 77, 34, 36, 37, 4, 38, 91, 92, 93, 94, 95] (by decide +kernel) (by decide +kernel)
set_option maxRecDepth 20000 in
theorem gX7_cover_X2_answer : GoodIn wsX7_cover (wsV RX7 118 RX2 yX2_answer wsX2_answer) := goodIn_app (goodIn_of _ (by decide +kernel)) ggX7_cover_X2_answer
theorem dX7_cover_0 : decode cX7_cover 0 = .ok (.iconst 1, 1) := by decide +kernel
theorem dX7_cover_1 : decode cX7_cover 1 = .ok (.iload_n 1, 1) := by decide +kernel
theorem dX7_cover_2 : decode cX7_cover 2 = .ok (.invokestatic 107, 3) := by decide +kernel
theorem dX7_cover_5 : decode cX7_cover 5 = .ok (.ifCond .eq 10, 3) := by decide +kernel
theorem dX7_cover_8 : decode cX7_cover 8 = .ok (.iload_n 2, 1) := by decide +kernel
theorem dX7_cover_9 : decode cX7_cover 9 = .ok (.invokestatic 111, 3) := by decide +kernel
theorem dX7_cover_12 : decode cX7_cover 12 = .ok (.ifCond .ne 6, 3) := by decide +kernel
theorem dX7_cover_15 : decode cX7_cover 15 = .ok (.bipush (-2), 2) := by decide +kernel
theorem dX7_cover_17 : decode cX7_cover 17 = .ok (.ireturn, 1) := by decide +kernel
theorem dX7_cover_18 : decode cX7_cover 18 = .ok (.aload_n 0, 1) := by decide +kernel
theorem dX7_cover_19 : decode cX7_cover 19 = .ok (.getfield 38, 3) := by decide +kernel
theorem dX7_cover_22 : decode cX7_cover 22 = .ok (.iload_n 1, 1) := by decide +kernel
theorem dX7_cover_23 : decode cX7_cover 23 = .ok (.invokevirtual 114, 3) := by decide +kernel
theorem dX7_cover_26 : decode cX7_cover 26 = .ok (.iload_n 2, 1) := by decide +kernel
theorem dX7_cover_27 : decode cX7_cover 27 = .ok (.invokevirtual 118, 3) := by decide +kernel
theorem dX7_cover_30 : decode cX7_cover 30 = .ok (.ireturn, 1) := by decide +kernel
set_option maxRecDepth 20000 in
theorem ggX7_stand_X7_isSearchable : GoodIn wsX7_stand wsX7_isSearchable := goodIn_r _ [8] (by decide +kernel) (by decide +kernel)
set_option maxRecDepth 20000 in
theorem gX7_stand_X7_isSearchable : GoodIn wsX7_stand (va_wsS RX7 107 yX7_isSearchable wsX7_isSearchable) := goodIn_app (goodIn_of _ (by decide +kernel)) ggX7_stand_X7_isSearchable
set_option maxRecDepth 20000 in
theorem ggX7_stand_X7_isStation : GoodIn wsX7_stand wsX7_isStation := goodIn_r _ [11] (by decide +kernel) (by decide +kernel)
set_option maxRecDepth 20000 in
theorem gX7_stand_X7_isStation : GoodIn wsX7_stand (va_wsS RX7 41 yX7_isStation wsX7_isStation) := goodIn_app (goodIn_of _ (by decide +kernel)) ggX7_stand_X7_isStation
set_option maxRecDepth 20000 in
theorem ggX7_stand_X6_found : GoodIn wsX7_stand wsX6_found := goodIn_r _ [16, 17, 18, 19, 20, 21, 22, 23, 24, 25, 26, 27, 28, 29, 30, 31, 32, 33, 34, 35, 36, 37, 38, 39, 10, 7, 11, 40, 41, 42, 43, 44, 45, 46, 47, 48, 49, 50, 51, 52, 53, 54, 55, 56, 57, 58, 59, 60, 61, 62, 63, 64, 65, 115, 116, 117, 118, 119, 120, 121, 122, 123] (by decide +kernel) (by decide +kernel)
set_option maxRecDepth 20000 in
theorem gX7_stand_X6_found : GoodIn wsX7_stand (wsV RX7 114 RX6 yX6_found wsX6_found) := goodIn_app (goodIn_of _ (by decide +kernel)) ggX7_stand_X6_found
set_option maxRecDepth 20000 in
theorem ggX7_stand_X2_first : GoodIn wsX7_stand wsX2_first := goodIn_r _ [69, 46, 119, 120, 121, 122, 123] (by decide +kernel) (by decide +kernel)
set_option maxRecDepth 20000 in
theorem gX7_stand_X2_first : GoodIn wsX7_stand (wsV RX7 124 RX2 yX2_first wsX2_first) := goodIn_app (goodIn_of _ (by decide +kernel)) ggX7_stand_X2_first
set_option maxRecDepth 20000 in
theorem ggX7_stand_X3_span : GoodIn wsX7_stand wsX3_span := goodIn_r _ [72, 73, 59, 60, 61, 62, 63, 64, 74, 75, 38, 76, 77, 78, 79, 80, 37, 39, 10, 7, 11] (by decide +kernel) (by decide +kernel)
set_option maxRecDepth 20000 in
theorem gX7_stand_X3_span : GoodIn wsX7_stand (va_wsS RX7 88 yX3_span wsX3_span) := goodIn_app (goodIn_of _ (by decide +kernel)) ggX7_stand_X3_span
set_option maxRecDepth 20000 in
theorem ggX7_stand_X1_standAs : GoodIn wsX7_stand wsX1_standAs := goodIn_r _ [85, 86, 78, 38, 79, 80, 37, 39, 10, 7, 11, 87, 88, 89, 84, 90, 91, 92, 93, 94, 124, 125, 126] (by decide +kernel) (by decide +kernel)
set_option maxRecDepth 20000 in
theorem gX7_stand_X1_standAs : GoodIn wsX7_stand (wsV RX7 127 RX1 yX1_standAs wsX1_standAs) := goodIn_app (goodIn_of _ (by decide +kernel)) ggX7_stand_X1_standAs
set_option maxRecDepth 20000 in
theorem ggX7_stand_X4_forgetAll : GoodIn wsX7_stand wsX4_forgetAll := goodIn_r _ [99, 100, 127, 128, 129, 130] (by decide +kernel) (by decide +kernel)
set_option maxRecDepth 20000 in
theorem gX7_stand_X4_forgetAll : GoodIn wsX7_stand (wsV RX7 131 RX4 yX4_forgetAll wsX4_forgetAll) := goodIn_app (goodIn_of _ (by decide +kernel)) ggX7_stand_X4_forgetAll
set_option maxRecDepth 20000 in
theorem ggX7_stand_X1_count : GoodIn wsX7_stand wsX1_count := goodIn_r _ [104, 92, 105, 59, 60, 61, 62, 63, 64, 124, 125, 126] (by decide +kernel) (by decide +kernel)
set_option maxRecDepth 20000 in
theorem gX7_stand_X1_count : GoodIn wsX7_stand (wsV RX7 48 RX1 yX1_count wsX1_count) := goodIn_app (goodIn_of _ (by decide +kernel)) ggX7_stand_X1_count
theorem dX7_stand_0 : decode cX7_stand 0 = .ok (.iload_n 1, 1) := by decide +kernel
theorem dX7_stand_1 : decode cX7_stand 1 = .ok (.iload_n 2, 1) := by decide +kernel
theorem dX7_stand_2 : decode cX7_stand 2 = .ok (.invokestatic 107, 3) := by decide +kernel
theorem dX7_stand_5 : decode cX7_stand 5 = .ok (.ifCond .eq 10, 3) := by decide +kernel
theorem dX7_stand_8 : decode cX7_stand 8 = .ok (.iload_n 3, 1) := by decide +kernel
theorem dX7_stand_9 : decode cX7_stand 9 = .ok (.invokestatic 41, 3) := by decide +kernel
theorem dX7_stand_12 : decode cX7_stand 12 = .ok (.ifCond .ne 6, 3) := by decide +kernel
theorem dX7_stand_15 : decode cX7_stand 15 = .ok (.bipush (-2), 2) := by decide +kernel
theorem dX7_stand_17 : decode cX7_stand 17 = .ok (.ireturn, 1) := by decide +kernel
theorem dX7_stand_18 : decode cX7_stand 18 = .ok (.iload_n 1, 1) := by decide +kernel
theorem dX7_stand_19 : decode cX7_stand 19 = .ok (.ifCond .ne 10, 3) := by decide +kernel
theorem dX7_stand_22 : decode cX7_stand 22 = .ok (.aload_n 0, 1) := by decide +kernel
theorem dX7_stand_23 : decode cX7_stand 23 = .ok (.getfield 34, 3) := by decide +kernel
theorem dX7_stand_26 : decode cX7_stand 26 = .ok (.goto 7, 3) := by decide +kernel
theorem dX7_stand_29 : decode cX7_stand 29 = .ok (.aload_n 0, 1) := by decide +kernel
theorem dX7_stand_30 : decode cX7_stand 30 = .ok (.getfield 38, 3) := by decide +kernel
theorem dX7_stand_33 : decode cX7_stand 33 = .ok (.iload_n 2, 1) := by decide +kernel
theorem dX7_stand_34 : decode cX7_stand 34 = .ok (.invokevirtual 114, 3) := by decide +kernel
theorem dX7_stand_37 : decode cX7_stand 37 = .ok (.invokevirtual 124, 3) := by decide +kernel
theorem dX7_stand_40 : decode cX7_stand 40 = .ok (.lstore 4, 2) := by decide +kernel
theorem dX7_stand_42 : decode cX7_stand 42 = .ok (.lload 4, 2) := by decide +kernel
theorem dX7_stand_44 : decode cX7_stand 44 = .ok (.invokestatic 88, 3) := by decide +kernel
theorem dX7_stand_47 : decode cX7_stand 47 = .ok (.iload_n 3, 1) := by decide +kernel
theorem dX7_stand_48 : decode cX7_stand 48 = .ok (.iadd, 1) := by decide +kernel
theorem dX7_stand_49 : decode cX7_stand 49 = .ok (.bipush 60, 2) := by decide +kernel
theorem dX7_stand_51 : decode cX7_stand 51 = .ok (.if_icmp .le 6, 3) := by decide +kernel
theorem dX7_stand_54 : decode cX7_stand 54 = .ok (.bipush (-5), 2) := by decide +kernel
theorem dX7_stand_56 : decode cX7_stand 56 = .ok (.ireturn, 1) := by decide +kernel
theorem dX7_stand_57 : decode cX7_stand 57 = .ok (.aload_n 0, 1) := by decide +kernel
theorem dX7_stand_58 : decode cX7_stand 58 = .ok (.getfield 10, 3) := by decide +kernel
theorem dX7_stand_61 : decode cX7_stand 61 = .ok (.lload 4, 2) := by decide +kernel
theorem dX7_stand_63 : decode cX7_stand 63 = .ok (.iload_n 3, 1) := by decide +kernel
theorem dX7_stand_64 : decode cX7_stand 64 = .ok (.lshl, 1) := by decide +kernel
theorem dX7_stand_65 : decode cX7_stand 65 = .ok (.invokevirtual 127, 3) := by decide +kernel
theorem dX7_stand_68 : decode cX7_stand 68 = .ok (.aload_n 0, 1) := by decide +kernel
theorem dX7_stand_69 : decode cX7_stand 69 = .ok (.getfield 25, 3) := by decide +kernel
theorem dX7_stand_72 : decode cX7_stand 72 = .ok (.invokevirtual 131, 3) := by decide +kernel
theorem dX7_stand_75 : decode cX7_stand 75 = .ok (.aload_n 0, 1) := by decide +kernel
theorem dX7_stand_76 : decode cX7_stand 76 = .ok (.getfield 10, 3) := by decide +kernel
theorem dX7_stand_79 : decode cX7_stand 79 = .ok (.invokevirtual 48, 3) := by decide +kernel
theorem dX7_stand_82 : decode cX7_stand 82 = .ok (.ireturn, 1) := by decide +kernel
set_option maxRecDepth 20000 in
theorem ggX7_error_X1_standsAt : GoodIn wsX7_error wsX1_standsAt := goodIn_r _ [7, 8, 9, 10, 11, 12, 13, 14, 15, 16, 17, 18, 63, 64, 65] (by decide +kernel) (by decide +kernel)
set_option maxRecDepth 20000 in
theorem gX7_error_X1_standsAt : GoodIn wsX7_error (wsV RX7 45 RX1 yX1_standsAt wsX1_standsAt) := goodIn_app (goodIn_of _ (by decide +kernel)) ggX7_error_X1_standsAt
set_option maxRecDepth 20000 in
theorem ggX7_error_X7_isPhase : GoodIn wsX7_error wsX7_isPhase := goodIn_r _ [21] (by decide +kernel) (by decide +kernel)
set_option maxRecDepth 20000 in
theorem gX7_error_X7_isPhase : GoodIn wsX7_error (va_wsS RX7 134 yX7_isPhase wsX7_isPhase) := goodIn_app (goodIn_of _ (by decide +kernel)) ggX7_error_X7_isPhase
set_option maxRecDepth 20000 in
theorem ggX7_error_X1_errorAt : GoodIn wsX7_error wsX1_errorAt := goodIn_r _ [25, 26, 16, 17, 18, 63, 64, 65] (by decide +kernel) (by decide +kernel)
set_option maxRecDepth 20000 in
theorem gX7_error_X1_errorAt : GoodIn wsX7_error (wsV RX7 137 RX1 yX1_errorAt wsX1_errorAt) := goodIn_app (goodIn_of _ (by decide +kernel)) ggX7_error_X1_errorAt
set_option maxRecDepth 20000 in
theorem ggX7_error_X7_change : GoodIn wsX7_error wsX7_change := goodIn_r _ [30, 31, 1, 22, 23, 24, 6, 25, 26, 16, 17, 18, 32, 33, 34, 35, 36, 37, 38, 39, 40, 41, 42, 43, 44, 45, 46, 47, 48, 49, 50, 51, 8, 52, 53, 14, 11, 15, 54, 55, 56, 57, 58, 59, 60, 61, 62, 63, 64, 65, 66, 67, 68, 69] (by decide +kernel) (by decide +kernel)
set_option maxRecDepth 20000 in
theorem gX7_error_X7_change : GoodIn wsX7_error (wsV RX7 52 RX7 yX7_change wsX7_change) := goodIn_app (goodIn_of _ (by decide +kernel)) ggX7_error_X7_change
theorem dX7_error_0 : decode cX7_error 0 = .ok (.aload_n 0, 1) := by decide +kernel
theorem dX7_error_1 : decode cX7_error 1 = .ok (.getfield 10, 3) := by decide +kernel
theorem dX7_error_4 : decode cX7_error 4 = .ok (.iload_n 1, 1) := by decide +kernel
theorem dX7_error_5 : decode cX7_error 5 = .ok (.invokevirtual 45, 3) := by decide +kernel
theorem dX7_error_8 : decode cX7_error 8 = .ok (.ifCond .ne 5, 3) := by decide +kernel
theorem dX7_error_11 : decode cX7_error 11 = .ok (.iconst (-1), 1) := by decide +kernel
theorem dX7_error_12 : decode cX7_error 12 = .ok (.ireturn, 1) := by decide +kernel
theorem dX7_error_13 : decode cX7_error 13 = .ok (.iload_n 2, 1) := by decide +kernel
theorem dX7_error_14 : decode cX7_error 14 = .ok (.invokestatic 134, 3) := by decide +kernel
theorem dX7_error_17 : decode cX7_error 17 = .ok (.ifCond .ne 6, 3) := by decide +kernel
theorem dX7_error_20 : decode cX7_error 20 = .ok (.bipush (-2), 2) := by decide +kernel
theorem dX7_error_22 : decode cX7_error 22 = .ok (.ireturn, 1) := by decide +kernel
theorem dX7_error_23 : decode cX7_error 23 = .ok (.aload_n 0, 1) := by decide +kernel
theorem dX7_error_24 : decode cX7_error 24 = .ok (.getfield 10, 3) := by decide +kernel
theorem dX7_error_27 : decode cX7_error 27 = .ok (.iload_n 1, 1) := by decide +kernel
theorem dX7_error_28 : decode cX7_error 28 = .ok (.invokevirtual 137, 3) := by decide +kernel
theorem dX7_error_31 : decode cX7_error 31 = .ok (.istore_n 3, 1) := by decide +kernel
theorem dX7_error_32 : decode cX7_error 32 = .ok (.aload_n 0, 1) := by decide +kernel
theorem dX7_error_33 : decode cX7_error 33 = .ok (.iload_n 1, 1) := by decide +kernel
theorem dX7_error_34 : decode cX7_error 34 = .ok (.iload_n 2, 1) := by decide +kernel
theorem dX7_error_35 : decode cX7_error 35 = .ok (.invokevirtual 52, 3) := by decide +kernel
theorem dX7_error_38 : decode cX7_error 38 = .ok (.aload_n 0, 1) := by decide +kernel
theorem dX7_error_39 : decode cX7_error 39 = .ok (.dup, 1) := by decide +kernel
theorem dX7_error_40 : decode cX7_error 40 = .ok (.getfield 140, 3) := by decide +kernel
theorem dX7_error_43 : decode cX7_error 43 = .ok (.iconst 1, 1) := by decide +kernel
theorem dX7_error_44 : decode cX7_error 44 = .ok (.iadd, 1) := by decide +kernel
theorem dX7_error_45 : decode cX7_error 45 = .ok (.putfield 140, 3) := by decide +kernel
theorem dX7_error_48 : decode cX7_error 48 = .ok (.iload_n 3, 1) := by decide +kernel
theorem dX7_error_49 : decode cX7_error 49 = .ok (.ireturn, 1) := by decide +kernel
set_option maxRecDepth 20000 in
theorem ggX7_sky_X7_isLength : GoodIn wsX7_sky wsX7_isLength := goodIn_r _ [6] (by decide +kernel) (by decide +kernel)
set_option maxRecDepth 20000 in
theorem gX7_sky_X7_isLength : GoodIn wsX7_sky (va_wsS RX7 82 yX7_isLength wsX7_isLength) := goodIn_app (goodIn_of _ (by decide +kernel)) ggX7_sky_X7_isLength
set_option maxRecDepth 20000 in
theorem ggX7_sky_X7_isPhase : GoodIn wsX7_sky wsX7_isPhase := goodIn_r _ [9] (by decide +kernel) (by decide +kernel)
set_option maxRecDepth 20000 in
theorem gX7_sky_X7_isPhase : GoodIn wsX7_sky (va_wsS RX7 134 yX7_isPhase wsX7_isPhase) := goodIn_app (goodIn_of _ (by decide +kernel)) ggX7_sky_X7_isPhase
set_option maxRecDepth 20000 in
theorem ggX7_sky_X1_skyOf : GoodIn wsX7_sky wsX1_skyOf := goodIn_r _ [14, 15, 4, 5, 6, 29, 30, 31] (by decide +kernel) (by decide +kernel)
set_option maxRecDepth 20000 in
theorem gX7_sky_X1_skyOf : GoodIn wsX7_sky (wsV RX7 143 RX1 yX1_skyOf wsX1_skyOf) := goodIn_app (goodIn_of _ (by decide +kernel)) ggX7_sky_X1_skyOf
set_option maxRecDepth 20000 in
theorem ggX7_sky_X1_tellSky : GoodIn wsX7_sky wsX1_tellSky := goodIn_r _ [19, 15, 4, 5, 6, 29, 30, 31] (by decide +kernel) (by decide +kernel)
set_option maxRecDepth 20000 in
theorem gX7_sky_X1_tellSky : GoodIn wsX7_sky (wsV RX7 146 RX1 yX1_tellSky wsX1_tellSky) := goodIn_app (goodIn_of _ (by decide +kernel)) ggX7_sky_X1_tellSky
theorem dX7_sky_0 : decode cX7_sky 0 = .ok (.iload_n 1, 1) := by decide +kernel
theorem dX7_sky_1 : decode cX7_sky 1 = .ok (.invokestatic 82, 3) := by decide +kernel
theorem dX7_sky_4 : decode cX7_sky 4 = .ok (.ifCond .eq 10, 3) := by decide +kernel
theorem dX7_sky_7 : decode cX7_sky 7 = .ok (.iload_n 2, 1) := by decide +kernel
theorem dX7_sky_8 : decode cX7_sky 8 = .ok (.invokestatic 134, 3) := by decide +kernel
theorem dX7_sky_11 : decode cX7_sky 11 = .ok (.ifCond .ne 6, 3) := by decide +kernel
theorem dX7_sky_14 : decode cX7_sky 14 = .ok (.bipush (-2), 2) := by decide +kernel
theorem dX7_sky_16 : decode cX7_sky 16 = .ok (.ireturn, 1) := by decide +kernel
theorem dX7_sky_17 : decode cX7_sky 17 = .ok (.aload_n 0, 1) := by decide +kernel
theorem dX7_sky_18 : decode cX7_sky 18 = .ok (.getfield 10, 3) := by decide +kernel
theorem dX7_sky_21 : decode cX7_sky 21 = .ok (.iload_n 1, 1) := by decide +kernel
theorem dX7_sky_22 : decode cX7_sky 22 = .ok (.invokevirtual 143, 3) := by decide +kernel
theorem dX7_sky_25 : decode cX7_sky 25 = .ok (.istore_n 3, 1) := by decide +kernel
theorem dX7_sky_26 : decode cX7_sky 26 = .ok (.aload_n 0, 1) := by decide +kernel
theorem dX7_sky_27 : decode cX7_sky 27 = .ok (.getfield 10, 3) := by decide +kernel
theorem dX7_sky_30 : decode cX7_sky 30 = .ok (.iload_n 1, 1) := by decide +kernel
theorem dX7_sky_31 : decode cX7_sky 31 = .ok (.iload_n 2, 1) := by decide +kernel
theorem dX7_sky_32 : decode cX7_sky 32 = .ok (.invokevirtual 146, 3) := by decide +kernel
theorem dX7_sky_35 : decode cX7_sky 35 = .ok (.aload_n 0, 1) := by decide +kernel
theorem dX7_sky_36 : decode cX7_sky 36 = .ok (.dup, 1) := by decide +kernel
theorem dX7_sky_37 : decode cX7_sky 37 = .ok (.getfield 140, 3) := by decide +kernel
theorem dX7_sky_40 : decode cX7_sky 40 = .ok (.iconst 1, 1) := by decide +kernel
theorem dX7_sky_41 : decode cX7_sky 41 = .ok (.iadd, 1) := by decide +kernel
theorem dX7_sky_42 : decode cX7_sky 42 = .ok (.putfield 140, 3) := by decide +kernel
theorem dX7_sky_45 : decode cX7_sky 45 = .ok (.iload_n 3, 1) := by decide +kernel
theorem dX7_sky_46 : decode cX7_sky 46 = .ok (.ireturn, 1) := by decide +kernel
set_option maxRecDepth 20000 in
theorem ggX7_phase_X1_standsAt : GoodIn wsX7_phase wsX1_standsAt := goodIn_r _ [6, 7, 8, 9, 10, 11, 12, 13, 14, 15, 16, 17, 54, 55, 56] (by decide +kernel) (by decide +kernel)
set_option maxRecDepth 20000 in
theorem gX7_phase_X1_standsAt : GoodIn wsX7_phase (wsV RX7 45 RX1 yX1_standsAt wsX1_standsAt) := goodIn_app (goodIn_of _ (by decide +kernel)) ggX7_phase_X1_standsAt
set_option maxRecDepth 20000 in
theorem ggX7_phase_X1_phaseFrom : GoodIn wsX7_phase wsX1_phaseFrom := goodIn_r _ [21, 22, 23, 24, 25, 26, 27, 28, 29, 30, 31, 5, 32, 33, 34, 16, 35, 36, 37, 38, 39, 40, 15, 17, 41, 42, 43, 44, 54, 55, 56] (by decide +kernel) (by decide +kernel)
set_option maxRecDepth 20000 in
theorem gX7_phase_X1_phaseFrom : GoodIn wsX7_phase (wsV RX7 149 RX1 yX1_phaseFrom wsX1_phaseFrom) := goodIn_app (goodIn_of _ (by decide +kernel)) ggX7_phase_X1_phaseFrom
theorem dX7_phase_0 : decode cX7_phase 0 = .ok (.aload_n 0, 1) := by decide +kernel
theorem dX7_phase_1 : decode cX7_phase 1 = .ok (.getfield 10, 3) := by decide +kernel
theorem dX7_phase_4 : decode cX7_phase 4 = .ok (.iload_n 1, 1) := by decide +kernel
theorem dX7_phase_5 : decode cX7_phase 5 = .ok (.invokevirtual 45, 3) := by decide +kernel
theorem dX7_phase_8 : decode cX7_phase 8 = .ok (.ifCond .eq 14, 3) := by decide +kernel
theorem dX7_phase_11 : decode cX7_phase 11 = .ok (.aload_n 0, 1) := by decide +kernel
theorem dX7_phase_12 : decode cX7_phase 12 = .ok (.getfield 10, 3) := by decide +kernel
theorem dX7_phase_15 : decode cX7_phase 15 = .ok (.iload_n 2, 1) := by decide +kernel
theorem dX7_phase_16 : decode cX7_phase 16 = .ok (.invokevirtual 45, 3) := by decide +kernel
theorem dX7_phase_19 : decode cX7_phase 19 = .ok (.ifCond .ne 5, 3) := by decide +kernel
theorem dX7_phase_22 : decode cX7_phase 22 = .ok (.iconst (-1), 1) := by decide +kernel
theorem dX7_phase_23 : decode cX7_phase 23 = .ok (.ireturn, 1) := by decide +kernel
theorem dX7_phase_24 : decode cX7_phase 24 = .ok (.iload_n 1, 1) := by decide +kernel
theorem dX7_phase_25 : decode cX7_phase 25 = .ok (.iload_n 2, 1) := by decide +kernel
theorem dX7_phase_26 : decode cX7_phase 26 = .ok (.if_icmp .ne 6, 3) := by decide +kernel
theorem dX7_phase_29 : decode cX7_phase 29 = .ok (.bipush (-5), 2) := by decide +kernel
theorem dX7_phase_31 : decode cX7_phase 31 = .ok (.ireturn, 1) := by decide +kernel
theorem dX7_phase_32 : decode cX7_phase 32 = .ok (.aload_n 0, 1) := by decide +kernel
theorem dX7_phase_33 : decode cX7_phase 33 = .ok (.getfield 10, 3) := by decide +kernel
theorem dX7_phase_36 : decode cX7_phase 36 = .ok (.iload_n 1, 1) := by decide +kernel
theorem dX7_phase_37 : decode cX7_phase 37 = .ok (.iload_n 2, 1) := by decide +kernel
theorem dX7_phase_38 : decode cX7_phase 38 = .ok (.invokevirtual 149, 3) := by decide +kernel
theorem dX7_phase_41 : decode cX7_phase 41 = .ok (.ireturn, 1) := by decide +kernel
set_option maxRecDepth 20000 in
theorem ggX7_closure_X1_standsAt : GoodIn wsX7_closure wsX1_standsAt := goodIn_r _ [6, 7, 8, 9, 10, 11, 12, 13, 14, 15, 16, 17, 55, 56, 57] (by decide +kernel) (by decide +kernel)
set_option maxRecDepth 20000 in
theorem gX7_closure_X1_standsAt : GoodIn wsX7_closure (wsV RX7 45 RX1 yX1_standsAt wsX1_standsAt) := goodIn_app (goodIn_of _ (by decide +kernel)) ggX7_closure_X1_standsAt
set_option maxRecDepth 20000 in
theorem ggX7_closure_X1_phaseFrom : GoodIn wsX7_closure wsX1_phaseFrom := goodIn_r _ [21, 22, 23, 24, 25, 26, 27, 28, 29, 30, 31, 5, 32, 33, 34, 16, 35, 36, 37, 38, 39, 40, 15, 17, 41, 42, 43, 44, 55, 56, 57] (by decide +kernel) (by decide +kernel)
set_option maxRecDepth 20000 in
theorem gX7_closure_X1_phaseFrom : GoodIn wsX7_closure (wsV RX7 149 RX1 yX1_phaseFrom wsX1_phaseFrom) := goodIn_app (goodIn_of _ (by decide +kernel)) ggX7_closure_X1_phaseFrom
set_option maxRecDepth 20000 in
theorem ggX7_closure_J9_floorMod_7cf53 : GoodIn wsX7_closure wsJ9_floorMod_7cf53 := goodIn_r _ [44] (by decide +kernel) (by decide +kernel)
set_option maxRecDepth 20000 in
theorem gX7_closure_J9_floorMod_7cf53 : GoodIn wsX7_closure (va_wsS RX7 153 yJ9_floorMod_7cf53 wsJ9_floorMod_7cf53) := goodIn_app (goodIn_of _ (by decide +kernel)) ggX7_closure_J9_floorMod_7cf53
theorem dX7_closure_0 : decode cX7_closure 0 = .ok (.aload_n 0, 1) := by decide +kernel
theorem dX7_closure_1 : decode cX7_closure 1 = .ok (.getfield 10, 3) := by decide +kernel
theorem dX7_closure_4 : decode cX7_closure 4 = .ok (.iload_n 1, 1) := by decide +kernel
theorem dX7_closure_5 : decode cX7_closure 5 = .ok (.invokevirtual 45, 3) := by decide +kernel
theorem dX7_closure_8 : decode cX7_closure 8 = .ok (.ifCond .eq 25, 3) := by decide +kernel
theorem dX7_closure_11 : decode cX7_closure 11 = .ok (.aload_n 0, 1) := by decide +kernel
theorem dX7_closure_12 : decode cX7_closure 12 = .ok (.getfield 10, 3) := by decide +kernel
theorem dX7_closure_15 : decode cX7_closure 15 = .ok (.iload_n 2, 1) := by decide +kernel
theorem dX7_closure_16 : decode cX7_closure 16 = .ok (.invokevirtual 45, 3) := by decide +kernel
theorem dX7_closure_19 : decode cX7_closure 19 = .ok (.ifCond .eq 14, 3) := by decide +kernel
theorem dX7_closure_22 : decode cX7_closure 22 = .ok (.aload_n 0, 1) := by decide +kernel
theorem dX7_closure_23 : decode cX7_closure 23 = .ok (.getfield 10, 3) := by decide +kernel
theorem dX7_closure_26 : decode cX7_closure 26 = .ok (.iload_n 3, 1) := by decide +kernel
theorem dX7_closure_27 : decode cX7_closure 27 = .ok (.invokevirtual 45, 3) := by decide +kernel
theorem dX7_closure_30 : decode cX7_closure 30 = .ok (.ifCond .ne 5, 3) := by decide +kernel
theorem dX7_closure_33 : decode cX7_closure 33 = .ok (.iconst (-1), 1) := by decide +kernel
theorem dX7_closure_34 : decode cX7_closure 34 = .ok (.ireturn, 1) := by decide +kernel
theorem dX7_closure_35 : decode cX7_closure 35 = .ok (.iload_n 1, 1) := by decide +kernel
theorem dX7_closure_36 : decode cX7_closure 36 = .ok (.iload_n 2, 1) := by decide +kernel
theorem dX7_closure_37 : decode cX7_closure 37 = .ok (.if_icmp .eq 13, 3) := by decide +kernel
theorem dX7_closure_40 : decode cX7_closure 40 = .ok (.iload_n 2, 1) := by decide +kernel
theorem dX7_closure_41 : decode cX7_closure 41 = .ok (.iload_n 3, 1) := by decide +kernel
theorem dX7_closure_42 : decode cX7_closure 42 = .ok (.if_icmp .eq 8, 3) := by decide +kernel
theorem dX7_closure_45 : decode cX7_closure 45 = .ok (.iload_n 3, 1) := by decide +kernel
theorem dX7_closure_46 : decode cX7_closure 46 = .ok (.iload_n 1, 1) := by decide +kernel
theorem dX7_closure_47 : decode cX7_closure 47 = .ok (.if_icmp .ne 6, 3) := by decide +kernel
theorem dX7_closure_50 : decode cX7_closure 50 = .ok (.bipush (-5), 2) := by decide +kernel
theorem dX7_closure_52 : decode cX7_closure 52 = .ok (.ireturn, 1) := by decide +kernel
theorem dX7_closure_53 : decode cX7_closure 53 = .ok (.aload_n 0, 1) := by decide +kernel
theorem dX7_closure_54 : decode cX7_closure 54 = .ok (.getfield 10, 3) := by decide +kernel
theorem dX7_closure_57 : decode cX7_closure 57 = .ok (.iload_n 1, 1) := by decide +kernel
theorem dX7_closure_58 : decode cX7_closure 58 = .ok (.iload_n 2, 1) := by decide +kernel
theorem dX7_closure_59 : decode cX7_closure 59 = .ok (.invokevirtual 149, 3) := by decide +kernel
theorem dX7_closure_62 : decode cX7_closure 62 = .ok (.aload_n 0, 1) := by decide +kernel
theorem dX7_closure_63 : decode cX7_closure 63 = .ok (.getfield 10, 3) := by decide +kernel
theorem dX7_closure_66 : decode cX7_closure 66 = .ok (.iload_n 2, 1) := by decide +kernel
theorem dX7_closure_67 : decode cX7_closure 67 = .ok (.iload_n 3, 1) := by decide +kernel
theorem dX7_closure_68 : decode cX7_closure 68 = .ok (.invokevirtual 149, 3) := by decide +kernel
theorem dX7_closure_71 : decode cX7_closure 71 = .ok (.iadd, 1) := by decide +kernel
theorem dX7_closure_72 : decode cX7_closure 72 = .ok (.aload_n 0, 1) := by decide +kernel
theorem dX7_closure_73 : decode cX7_closure 73 = .ok (.getfield 10, 3) := by decide +kernel
theorem dX7_closure_76 : decode cX7_closure 76 = .ok (.iload_n 3, 1) := by decide +kernel
theorem dX7_closure_77 : decode cX7_closure 77 = .ok (.iload_n 1, 1) := by decide +kernel
theorem dX7_closure_78 : decode cX7_closure 78 = .ok (.invokevirtual 149, 3) := by decide +kernel
theorem dX7_closure_81 : decode cX7_closure 81 = .ok (.iadd, 1) := by decide +kernel
theorem dX7_closure_82 : decode cX7_closure 82 = .ok (.istore 4, 2) := by decide +kernel
theorem dX7_closure_84 : decode cX7_closure 84 = .ok (.iload 4, 2) := by decide +kernel
theorem dX7_closure_86 : decode cX7_closure 86 = .ok (.sipush 360, 3) := by decide +kernel
theorem dX7_closure_89 : decode cX7_closure 89 = .ok (.invokestatic 153, 3) := by decide +kernel
theorem dX7_closure_92 : decode cX7_closure 92 = .ok (.ireturn, 1) := by decide +kernel
set_option maxRecDepth 20000 in
theorem ggX7_left_X1_standsAt : GoodIn wsX7_left wsX1_standsAt := goodIn_r _ [6, 7, 8, 9, 10, 11, 12, 13, 14, 15, 16, 17, 50, 51, 52] (by decide +kernel) (by decide +kernel)
set_option maxRecDepth 20000 in
theorem gX7_left_X1_standsAt : GoodIn wsX7_left (wsV RX7 45 RX1 yX1_standsAt wsX1_standsAt) := goodIn_app (goodIn_of _ (by decide +kernel)) ggX7_left_X1_standsAt
set_option maxRecDepth 20000 in
theorem ggX7_left_X1_line : GoodIn wsX7_left wsX1_line := goodIn_r _ [21, 7, 50, 51, 52] (by decide +kernel) (by decide +kernel)
set_option maxRecDepth 20000 in
theorem gX7_left_X1_line : GoodIn wsX7_left (wsV RX7 72 RX1 yX1_line wsX1_line) := goodIn_app (goodIn_of _ (by decide +kernel)) ggX7_left_X1_line
set_option maxRecDepth 20000 in
theorem ggX7_left_X3_reachWithout : GoodIn wsX7_left wsX3_reachWithout := goodIn_r _ [24, 25, 12, 13, 10, 14, 15, 16, 17, 26, 27, 28, 29, 30, 31, 32, 33, 34, 35, 36, 37, 38, 39, 40] (by decide +kernel) (by decide +kernel)
set_option maxRecDepth 20000 in
theorem gX7_left_X3_reachWithout : GoodIn wsX7_left (va_wsS RX7 158 yX3_reachWithout wsX3_reachWithout) := goodIn_app (goodIn_of _ (by decide +kernel)) ggX7_left_X3_reachWithout
theorem dX7_left_0 : decode cX7_left 0 = .ok (.aload_n 0, 1) := by decide +kernel
theorem dX7_left_1 : decode cX7_left 1 = .ok (.getfield 10, 3) := by decide +kernel
theorem dX7_left_4 : decode cX7_left 4 = .ok (.iload_n 1, 1) := by decide +kernel
theorem dX7_left_5 : decode cX7_left 5 = .ok (.invokevirtual 45, 3) := by decide +kernel
theorem dX7_left_8 : decode cX7_left 8 = .ok (.ifCond .ne 5, 3) := by decide +kernel
theorem dX7_left_11 : decode cX7_left 11 = .ok (.iconst (-1), 1) := by decide +kernel
theorem dX7_left_12 : decode cX7_left 12 = .ok (.ireturn, 1) := by decide +kernel
theorem dX7_left_13 : decode cX7_left 13 = .ok (.aload_n 0, 1) := by decide +kernel
theorem dX7_left_14 : decode cX7_left 14 = .ok (.getfield 10, 3) := by decide +kernel
theorem dX7_left_17 : decode cX7_left 17 = .ok (.invokevirtual 72, 3) := by decide +kernel
theorem dX7_left_20 : decode cX7_left 20 = .ok (.iload_n 1, 1) := by decide +kernel
theorem dX7_left_21 : decode cX7_left 21 = .ok (.invokestatic 158, 3) := by decide +kernel
theorem dX7_left_24 : decode cX7_left 24 = .ok (.ireturn, 1) := by decide +kernel
set_option maxRecDepth 20000 in
theorem ggX7_missed_X1_count : GoodIn wsX7_missed wsX1_count := goodIn_r _ [7, 8, 9, 10, 11, 12, 13, 14, 15, 57, 58, 59] (by decide +kernel) (by decide +kernel)
set_option maxRecDepth 20000 in
theorem gX7_missed_X1_count : GoodIn wsX7_missed (wsV RX7 48 RX1 yX1_count wsX1_count) := goodIn_app (goodIn_of _ (by decide +kernel)) ggX7_missed_X1_count
set_option maxRecDepth 20000 in
theorem ggX7_missed_X1_line : GoodIn wsX7_missed wsX1_line := goodIn_r _ [19, 8, 57, 58, 59] (by decide +kernel) (by decide +kernel)
set_option maxRecDepth 20000 in
theorem gX7_missed_X1_line : GoodIn wsX7_missed (wsV RX7 72 RX1 yX1_line wsX1_line) := goodIn_app (goodIn_of _ (by decide +kernel)) ggX7_missed_X1_line
set_option maxRecDepth 20000 in
theorem ggX7_missed_X7_mostMissedOf : GoodIn wsX7_missed wsX7_mostMissedOf := goodIn_r _ [24, 1, 25, 26, 27, 28, 29, 30, 31, 32, 23, 33, 16, 17, 18, 6, 19, 8, 34, 35, 36, 37, 38, 39, 40, 41, 42, 43, 44, 45, 46, 10, 11, 12, 13, 14, 15, 48, 49, 50, 51, 52, 53, 54, 55, 56, 57, 58, 59] (by decide +kernel) (by decide +kernel)
set_option maxRecDepth 20000 in
theorem gX7_missed_X7_mostMissedOf : GoodIn wsX7_missed (wsV RX7 161 RX7 yX7_mostMissedOf wsX7_mostMissedOf) := goodIn_app (goodIn_of _ (by decide +kernel)) ggX7_missed_X7_mostMissedOf
set_option maxRecDepth 20000 in
theorem ggX7_missed_X3_bit : GoodIn wsX7_missed wsX3_bit := goodIn_r _ [31, 32, 23, 33] (by decide +kernel) (by decide +kernel)
set_option maxRecDepth 20000 in
theorem gX7_missed_X3_bit : GoodIn wsX7_missed (va_wsS RX7 164 yX3_bit wsX3_bit) := goodIn_app (goodIn_of _ (by decide +kernel)) ggX7_missed_X3_bit
theorem dX7_missed_0 : decode cX7_missed 0 = .ok (.iload_n 1, 1) := by decide +kernel
theorem dX7_missed_1 : decode cX7_missed 1 = .ok (.ifCond .lt 14, 3) := by decide +kernel
theorem dX7_missed_4 : decode cX7_missed 4 = .ok (.iload_n 1, 1) := by decide +kernel
theorem dX7_missed_5 : decode cX7_missed 5 = .ok (.aload_n 0, 1) := by decide +kernel
theorem dX7_missed_6 : decode cX7_missed 6 = .ok (.getfield 10, 3) := by decide +kernel
theorem dX7_missed_9 : decode cX7_missed 9 = .ok (.invokevirtual 48, 3) := by decide +kernel
theorem dX7_missed_12 : decode cX7_missed 12 = .ok (.if_icmp .lt 6, 3) := by decide +kernel
theorem dX7_missed_15 : decode cX7_missed 15 = .ok (.bipush (-6), 2) := by decide +kernel
theorem dX7_missed_17 : decode cX7_missed 17 = .ok (.ireturn, 1) := by decide +kernel
theorem dX7_missed_18 : decode cX7_missed 18 = .ok (.aload_n 0, 1) := by decide +kernel
theorem dX7_missed_19 : decode cX7_missed 19 = .ok (.getfield 10, 3) := by decide +kernel
theorem dX7_missed_22 : decode cX7_missed 22 = .ok (.invokevirtual 72, 3) := by decide +kernel
theorem dX7_missed_25 : decode cX7_missed 25 = .ok (.lstore_n 2, 1) := by decide +kernel
theorem dX7_missed_26 : decode cX7_missed 26 = .ok (.iconst 0, 1) := by decide +kernel
theorem dX7_missed_27 : decode cX7_missed 27 = .ok (.istore 4, 2) := by decide +kernel
theorem dX7_missed_29 : decode cX7_missed 29 = .ok (.iload 4, 2) := by decide +kernel
theorem dX7_missed_31 : decode cX7_missed 31 = .ok (.iload_n 1, 1) := by decide +kernel
theorem dX7_missed_32 : decode cX7_missed 32 = .ok (.if_icmp .ge 31, 3) := by decide +kernel
theorem dX7_missed_35 : decode cX7_missed 35 = .ok (.iload 4, 2) := by decide +kernel
theorem dX7_missed_37 : decode cX7_missed 37 = .ok (.bipush 12, 2) := by decide +kernel
theorem dX7_missed_39 : decode cX7_missed 39 = .ok (.if_icmp .ge 24, 3) := by decide +kernel
theorem dX7_missed_42 : decode cX7_missed 42 = .ok (.lload_n 2, 1) := by decide +kernel
theorem dX7_missed_43 : decode cX7_missed 43 = .ok (.aload_n 0, 1) := by decide +kernel
theorem dX7_missed_44 : decode cX7_missed 44 = .ok (.lload_n 2, 1) := by decide +kernel
theorem dX7_missed_45 : decode cX7_missed 45 = .ok (.invokevirtual 161, 3) := by decide +kernel
theorem dX7_missed_48 : decode cX7_missed 48 = .ok (.invokestatic 164, 3) := by decide +kernel
theorem dX7_missed_51 : decode cX7_missed 51 = .ok (.ldc2_w 168, 3) := by decide +kernel
theorem dX7_missed_54 : decode cX7_missed 54 = .ok (.lxor, 1) := by decide +kernel
theorem dX7_missed_55 : decode cX7_missed 55 = .ok (.land, 1) := by decide +kernel
theorem dX7_missed_56 : decode cX7_missed 56 = .ok (.lstore_n 2, 1) := by decide +kernel
theorem dX7_missed_57 : decode cX7_missed 57 = .ok (.iinc 4 1, 3) := by decide +kernel
theorem dX7_missed_60 : decode cX7_missed 60 = .ok (.goto (-31), 3) := by decide +kernel
theorem dX7_missed_63 : decode cX7_missed 63 = .ok (.aload_n 0, 1) := by decide +kernel
theorem dX7_missed_64 : decode cX7_missed 64 = .ok (.lload_n 2, 1) := by decide +kernel
theorem dX7_missed_65 : decode cX7_missed 65 = .ok (.invokevirtual 161, 3) := by decide +kernel
theorem dX7_missed_68 : decode cX7_missed 68 = .ok (.ireturn, 1) := by decide +kernel
set_option maxRecDepth 20000 in
theorem ggX7_sure_X1_count : GoodIn wsX7_sure wsX1_count := goodIn_r _ [6, 7, 8, 9, 10, 11, 12, 13, 14, 55, 56, 57] (by decide +kernel) (by decide +kernel)
set_option maxRecDepth 20000 in
theorem gX7_sure_X1_count : GoodIn wsX7_sure (wsV RX7 48 RX1 yX1_count wsX1_count) := goodIn_app (goodIn_of _ (by decide +kernel)) ggX7_sure_X1_count
set_option maxRecDepth 20000 in
theorem ggX7_sure_X1_line : GoodIn wsX7_sure wsX1_line := goodIn_r _ [18, 7, 55, 56, 57] (by decide +kernel) (by decide +kernel)
set_option maxRecDepth 20000 in
theorem gX7_sure_X1_line : GoodIn wsX7_sure (wsV RX7 72 RX1 yX1_line wsX1_line) := goodIn_app (goodIn_of _ (by decide +kernel)) ggX7_sure_X1_line
set_option maxRecDepth 20000 in
theorem ggX7_sure_X7_mostMissedOf : GoodIn wsX7_sure wsX7_mostMissedOf := goodIn_r _ [23, 1, 24, 25, 26, 27, 28, 29, 30, 31, 22, 32, 15, 16, 17, 5, 18, 7, 33, 34, 35, 36, 37, 38, 39, 40, 41, 42, 43, 44, 45, 9, 10, 11, 12, 13, 14, 46, 47, 48, 49, 50, 51, 52, 53, 54, 55, 56, 57] (by decide +kernel) (by decide +kernel)
set_option maxRecDepth 20000 in
theorem gX7_sure_X7_mostMissedOf : GoodIn wsX7_sure (wsV RX7 161 RX7 yX7_mostMissedOf wsX7_mostMissedOf) := goodIn_app (goodIn_of _ (by decide +kernel)) ggX7_sure_X7_mostMissedOf
set_option maxRecDepth 20000 in
theorem ggX7_sure_X3_reachWithout : GoodIn wsX7_sure wsX3_reachWithout := goodIn_r _ [35, 36, 28, 29, 26, 30, 31, 22, 32, 37, 38, 39, 40, 41, 42, 43, 44, 45, 9, 10, 11, 12, 13, 14] (by decide +kernel) (by decide +kernel)
set_option maxRecDepth 20000 in
theorem gX7_sure_X3_reachWithout : GoodIn wsX7_sure (va_wsS RX7 158 yX3_reachWithout wsX3_reachWithout) := goodIn_app (goodIn_of _ (by decide +kernel)) ggX7_sure_X3_reachWithout
theorem dX7_sure_0 : decode cX7_sure 0 = .ok (.aload_n 0, 1) := by decide +kernel
theorem dX7_sure_1 : decode cX7_sure 1 = .ok (.getfield 10, 3) := by decide +kernel
theorem dX7_sure_4 : decode cX7_sure 4 = .ok (.invokevirtual 48, 3) := by decide +kernel
theorem dX7_sure_7 : decode cX7_sure 7 = .ok (.ifCond .ne 5, 3) := by decide +kernel
theorem dX7_sure_10 : decode cX7_sure 10 = .ok (.iconst 0, 1) := by decide +kernel
theorem dX7_sure_11 : decode cX7_sure 11 = .ok (.ireturn, 1) := by decide +kernel
theorem dX7_sure_12 : decode cX7_sure 12 = .ok (.aload_n 0, 1) := by decide +kernel
theorem dX7_sure_13 : decode cX7_sure 13 = .ok (.getfield 10, 3) := by decide +kernel
theorem dX7_sure_16 : decode cX7_sure 16 = .ok (.invokevirtual 72, 3) := by decide +kernel
theorem dX7_sure_19 : decode cX7_sure 19 = .ok (.aload_n 0, 1) := by decide +kernel
theorem dX7_sure_20 : decode cX7_sure 20 = .ok (.aload_n 0, 1) := by decide +kernel
theorem dX7_sure_21 : decode cX7_sure 21 = .ok (.getfield 10, 3) := by decide +kernel
theorem dX7_sure_24 : decode cX7_sure 24 = .ok (.invokevirtual 72, 3) := by decide +kernel
theorem dX7_sure_27 : decode cX7_sure 27 = .ok (.invokevirtual 161, 3) := by decide +kernel
theorem dX7_sure_30 : decode cX7_sure 30 = .ok (.invokestatic 158, 3) := by decide +kernel
theorem dX7_sure_33 : decode cX7_sure 33 = .ok (.ireturn, 1) := by decide +kernel
set_option maxRecDepth 20000 in
theorem ggX7_image_X7_isImage : GoodIn wsX7_image wsX7_isImage := goodIn_r _ [6] (by decide +kernel) (by decide +kernel)
set_option maxRecDepth 20000 in
theorem gX7_image_X7_isImage : GoodIn wsX7_image (va_wsS RX7 170 yX7_isImage wsX7_isImage) := goodIn_app (goodIn_of _ (by decide +kernel)) ggX7_image_X7_isImage
set_option maxRecDepth 20000 in
theorem ggX7_image_X7_imageNamed : GoodIn wsX7_image wsX7_imageNamed := goodIn_r _ [10, 11, 12, 25, 26, 27, 28, 29, 30, 31, 32, 33] (by decide +kernel) (by decide +kernel)
set_option maxRecDepth 20000 in
theorem gX7_image_X7_imageNamed : GoodIn wsX7_image (wsV RX7 173 RX7 yX7_imageNamed wsX7_imageNamed) := goodIn_app (goodIn_of _ (by decide +kernel)) ggX7_image_X7_imageNamed
set_option maxRecDepth 20000 in
theorem ggX7_image_X1_takeAllFrom : GoodIn wsX7_image wsX1_takeAllFrom := goodIn_r _ [17, 18, 19, 20, 21, 22, 23, 24, 34, 35, 36] (by decide +kernel) (by decide +kernel)
set_option maxRecDepth 20000 in
theorem gX7_image_X1_takeAllFrom : GoodIn wsX7_image (wsV RX7 177 RX1 yX1_takeAllFrom wsX1_takeAllFrom) := goodIn_app (goodIn_of _ (by decide +kernel)) ggX7_image_X1_takeAllFrom
theorem dX7_image_0 : decode cX7_image 0 = .ok (.iload_n 1, 1) := by decide +kernel
theorem dX7_image_1 : decode cX7_image 1 = .ok (.invokestatic 170, 3) := by decide +kernel
theorem dX7_image_4 : decode cX7_image 4 = .ok (.ifCond .ne 6, 3) := by decide +kernel
theorem dX7_image_7 : decode cX7_image 7 = .ok (.bipush (-2), 2) := by decide +kernel
theorem dX7_image_9 : decode cX7_image 9 = .ok (.ireturn, 1) := by decide +kernel
theorem dX7_image_10 : decode cX7_image 10 = .ok (.aload_n 0, 1) := by decide +kernel
theorem dX7_image_11 : decode cX7_image 11 = .ok (.iload_n 1, 1) := by decide +kernel
theorem dX7_image_12 : decode cX7_image 12 = .ok (.invokevirtual 173, 3) := by decide +kernel
theorem dX7_image_15 : decode cX7_image 15 = .ok (.aload_n 0, 1) := by decide +kernel
theorem dX7_image_16 : decode cX7_image 16 = .ok (.getfield 10, 3) := by decide +kernel
theorem dX7_image_19 : decode cX7_image 19 = .ok (.invokevirtual 177, 3) := by decide +kernel
theorem dX7_image_22 : decode cX7_image 22 = .ok (.aload_n 0, 1) := by decide +kernel
theorem dX7_image_23 : decode cX7_image 23 = .ok (.dup, 1) := by decide +kernel
theorem dX7_image_24 : decode cX7_image 24 = .ok (.getfield 181, 3) := by decide +kernel
theorem dX7_image_27 : decode cX7_image 27 = .ok (.iconst 1, 1) := by decide +kernel
theorem dX7_image_28 : decode cX7_image 28 = .ok (.iload_n 1, 1) := by decide +kernel
theorem dX7_image_29 : decode cX7_image 29 = .ok (.ishl, 1) := by decide +kernel
theorem dX7_image_30 : decode cX7_image 30 = .ok (.ior, 1) := by decide +kernel
theorem dX7_image_31 : decode cX7_image 31 = .ok (.putfield 181, 3) := by decide +kernel
theorem dX7_image_34 : decode cX7_image 34 = .ok (.iconst 1, 1) := by decide +kernel
theorem dX7_image_35 : decode cX7_image 35 = .ok (.ireturn, 1) := by decide +kernel
set_option maxRecDepth 20000 in
theorem ggX7_restore_X7_isImage : GoodIn wsX7_restore wsX7_isImage := goodIn_r _ [7] (by decide +kernel) (by decide +kernel)
set_option maxRecDepth 20000 in
theorem gX7_restore_X7_isImage : GoodIn wsX7_restore (va_wsS RX7 170 yX7_isImage wsX7_isImage) := goodIn_app (goodIn_of _ (by decide +kernel)) ggX7_restore_X7_isImage
set_option maxRecDepth 20000 in
theorem ggX7_restore_X7_imageNamed : GoodIn wsX7_restore wsX7_imageNamed := goodIn_r _ [11, 12, 13, 32, 33, 34, 35, 36, 37, 38, 39, 40] (by decide +kernel) (by decide +kernel)
set_option maxRecDepth 20000 in
theorem gX7_restore_X7_imageNamed : GoodIn wsX7_restore (wsV RX7 173 RX7 yX7_imageNamed wsX7_imageNamed) := goodIn_app (goodIn_of _ (by decide +kernel)) ggX7_restore_X7_imageNamed
set_option maxRecDepth 20000 in
theorem ggX7_restore_X1_takeAllFrom : GoodIn wsX7_restore wsX1_takeAllFrom := goodIn_r _ [18, 19, 20, 21, 22, 23, 24, 25, 41, 42, 43] (by decide +kernel) (by decide +kernel)
set_option maxRecDepth 20000 in
theorem gX7_restore_X1_takeAllFrom : GoodIn wsX7_restore (wsV RX7 177 RX1 yX1_takeAllFrom wsX1_takeAllFrom) := goodIn_app (goodIn_of _ (by decide +kernel)) ggX7_restore_X1_takeAllFrom
set_option maxRecDepth 20000 in
theorem ggX7_restore_X4_forgetAll : GoodIn wsX7_restore wsX4_forgetAll := goodIn_r _ [30, 31, 44, 45, 46, 47] (by decide +kernel) (by decide +kernel)
set_option maxRecDepth 20000 in
theorem gX7_restore_X4_forgetAll : GoodIn wsX7_restore (wsV RX7 131 RX4 yX4_forgetAll wsX4_forgetAll) := goodIn_app (goodIn_of _ (by decide +kernel)) ggX7_restore_X4_forgetAll
theorem dX7_restore_0 : decode cX7_restore 0 = .ok (.iload_n 1, 1) := by decide +kernel
theorem dX7_restore_1 : decode cX7_restore 1 = .ok (.invokestatic 170, 3) := by decide +kernel
theorem dX7_restore_4 : decode cX7_restore 4 = .ok (.ifCond .ne 6, 3) := by decide +kernel
theorem dX7_restore_7 : decode cX7_restore 7 = .ok (.bipush (-2), 2) := by decide +kernel
theorem dX7_restore_9 : decode cX7_restore 9 = .ok (.ireturn, 1) := by decide +kernel
theorem dX7_restore_10 : decode cX7_restore 10 = .ok (.aload_n 0, 1) := by decide +kernel
theorem dX7_restore_11 : decode cX7_restore 11 = .ok (.getfield 181, 3) := by decide +kernel
theorem dX7_restore_14 : decode cX7_restore 14 = .ok (.iconst 1, 1) := by decide +kernel
theorem dX7_restore_15 : decode cX7_restore 15 = .ok (.iload_n 1, 1) := by decide +kernel
theorem dX7_restore_16 : decode cX7_restore 16 = .ok (.ishl, 1) := by decide +kernel
theorem dX7_restore_17 : decode cX7_restore 17 = .ok (.iand, 1) := by decide +kernel
theorem dX7_restore_18 : decode cX7_restore 18 = .ok (.ifCond .ne 6, 3) := by decide +kernel
theorem dX7_restore_21 : decode cX7_restore 21 = .ok (.bipush (-3), 2) := by decide +kernel
theorem dX7_restore_23 : decode cX7_restore 23 = .ok (.ireturn, 1) := by decide +kernel
theorem dX7_restore_24 : decode cX7_restore 24 = .ok (.aload_n 0, 1) := by decide +kernel
theorem dX7_restore_25 : decode cX7_restore 25 = .ok (.getfield 10, 3) := by decide +kernel
theorem dX7_restore_28 : decode cX7_restore 28 = .ok (.aload_n 0, 1) := by decide +kernel
theorem dX7_restore_29 : decode cX7_restore 29 = .ok (.iload_n 1, 1) := by decide +kernel
theorem dX7_restore_30 : decode cX7_restore 30 = .ok (.invokevirtual 173, 3) := by decide +kernel
theorem dX7_restore_33 : decode cX7_restore 33 = .ok (.invokevirtual 177, 3) := by decide +kernel
theorem dX7_restore_36 : decode cX7_restore 36 = .ok (.aload_n 0, 1) := by decide +kernel
theorem dX7_restore_37 : decode cX7_restore 37 = .ok (.getfield 25, 3) := by decide +kernel
theorem dX7_restore_40 : decode cX7_restore 40 = .ok (.invokevirtual 131, 3) := by decide +kernel
theorem dX7_restore_43 : decode cX7_restore 43 = .ok (.iconst 1, 1) := by decide +kernel
theorem dX7_restore_44 : decode cX7_restore 44 = .ok (.ireturn, 1) := by decide +kernel
set_option maxRecDepth 20000 in
theorem ggX7_told_X7_isStation : GoodIn wsX7_told wsX7_isStation := goodIn_r _ [10] (by decide +kernel) (by decide +kernel)
set_option maxRecDepth 20000 in
theorem gX7_told_X7_isStation : GoodIn wsX7_told (va_wsS RX7 41 yX7_isStation wsX7_isStation) := goodIn_app (goodIn_of _ (by decide +kernel)) ggX7_told_X7_isStation
set_option maxRecDepth 20000 in
theorem ggX7_told_X1_errorAt : GoodIn wsX7_told wsX1_errorAt := goodIn_r _ [15, 16, 8, 9, 10, 62, 63, 64] (by decide +kernel) (by decide +kernel)
set_option maxRecDepth 20000 in
theorem gX7_told_X1_errorAt : GoodIn wsX7_told (wsV RX7 137 RX1 yX1_errorAt wsX1_errorAt) := goodIn_app (goodIn_of _ (by decide +kernel)) ggX7_told_X1_errorAt
set_option maxRecDepth 20000 in
theorem ggX7_told_X7_isLength : GoodIn wsX7_told wsX7_isLength := goodIn_r _ [19] (by decide +kernel) (by decide +kernel)
set_option maxRecDepth 20000 in
theorem gX7_told_X7_isLength : GoodIn wsX7_told (va_wsS RX7 82 yX7_isLength wsX7_isLength) := goodIn_app (goodIn_of _ (by decide +kernel)) ggX7_told_X7_isLength
set_option maxRecDepth 20000 in
theorem ggX7_told_X1_skyOf : GoodIn wsX7_told wsX1_skyOf := goodIn_r _ [23, 24, 18, 9, 19, 62, 63, 64] (by decide +kernel) (by decide +kernel)
set_option maxRecDepth 20000 in
theorem gX7_told_X1_skyOf : GoodIn wsX7_told (wsV RX7 143 RX1 yX1_skyOf wsX1_skyOf) := goodIn_app (goodIn_of _ (by decide +kernel)) ggX7_told_X1_skyOf
set_option maxRecDepth 20000 in
theorem ggX7_told_X4_count : GoodIn wsX7_told wsX4_count := goodIn_r _ [29, 30, 65, 66, 67, 68] (by decide +kernel) (by decide +kernel)
set_option maxRecDepth 20000 in
theorem gX7_told_X4_count : GoodIn wsX7_told (wsV RX7 55 RX4 yX4_count wsX4_count) := goodIn_app (goodIn_of _ (by decide +kernel)) ggX7_told_X4_count
set_option maxRecDepth 20000 in
theorem ggX7_told_X6_count : GoodIn wsX7_told wsX6_count := goodIn_r _ [35, 36, 37, 38, 39, 40, 41, 42, 43, 69, 70, 71, 72] (by decide +kernel) (by decide +kernel)
set_option maxRecDepth 20000 in
theorem gX7_told_X6_count : GoodIn wsX7_told (wsV RX7 184 RX6 yX6_count wsX6_count) := goodIn_app (goodIn_of _ (by decide +kernel)) ggX7_told_X6_count
set_option maxRecDepth 20000 in
theorem ggX7_told_X6_triesInAll : GoodIn wsX7_told wsX6_triesInAll := goodIn_r _ [47, 48, 69, 70, 71, 72] (by decide +kernel) (by decide +kernel)
set_option maxRecDepth 20000 in
theorem gX7_told_X6_triesInAll : GoodIn wsX7_told (wsV RX7 185 RX6 yX6_triesInAll wsX6_triesInAll) := goodIn_app (goodIn_of _ (by decide +kernel)) ggX7_told_X6_triesInAll
set_option maxRecDepth 20000 in
theorem ggX7_told_X6_knownBits : GoodIn wsX7_told wsX6_knownBits := goodIn_r _ [52, 36, 69, 70, 71, 72] (by decide +kernel) (by decide +kernel)
set_option maxRecDepth 20000 in
theorem gX7_told_X6_knownBits : GoodIn wsX7_told (wsV RX7 188 RX6 yX6_knownBits wsX6_knownBits) := goodIn_app (goodIn_of _ (by decide +kernel)) ggX7_told_X6_knownBits
theorem dX7_told_0 : decode cX7_told 0 = .ok (.iload_n 1, 1) := by decide +kernel
theorem dX7_told_1 : decode cX7_told 1 = .ok (.bipush 100, 2) := by decide +kernel
theorem dX7_told_3 : decode cX7_told 3 = .ok (.isub, 1) := by decide +kernel
theorem dX7_told_4 : decode cX7_told 4 = .ok (.invokestatic 41, 3) := by decide +kernel
theorem dX7_told_7 : decode cX7_told 7 = .ok (.ifCond .eq 15, 3) := by decide +kernel
theorem dX7_told_10 : decode cX7_told 10 = .ok (.aload_n 0, 1) := by decide +kernel
theorem dX7_told_11 : decode cX7_told 11 = .ok (.getfield 10, 3) := by decide +kernel
theorem dX7_told_14 : decode cX7_told 14 = .ok (.iload_n 1, 1) := by decide +kernel
theorem dX7_told_15 : decode cX7_told 15 = .ok (.bipush 100, 2) := by decide +kernel
theorem dX7_told_17 : decode cX7_told 17 = .ok (.isub, 1) := by decide +kernel
theorem dX7_told_18 : decode cX7_told 18 = .ok (.invokevirtual 137, 3) := by decide +kernel
theorem dX7_told_21 : decode cX7_told 21 = .ok (.ireturn, 1) := by decide +kernel
theorem dX7_told_22 : decode cX7_told 22 = .ok (.iload_n 1, 1) := by decide +kernel
theorem dX7_told_23 : decode cX7_told 23 = .ok (.sipush 200, 3) := by decide +kernel
theorem dX7_told_26 : decode cX7_told 26 = .ok (.isub, 1) := by decide +kernel
theorem dX7_told_27 : decode cX7_told 27 = .ok (.invokestatic 82, 3) := by decide +kernel
theorem dX7_told_30 : decode cX7_told 30 = .ok (.ifCond .eq 16, 3) := by decide +kernel
theorem dX7_told_33 : decode cX7_told 33 = .ok (.aload_n 0, 1) := by decide +kernel
theorem dX7_told_34 : decode cX7_told 34 = .ok (.getfield 10, 3) := by decide +kernel
theorem dX7_told_37 : decode cX7_told 37 = .ok (.iload_n 1, 1) := by decide +kernel
theorem dX7_told_38 : decode cX7_told 38 = .ok (.sipush 200, 3) := by decide +kernel
theorem dX7_told_41 : decode cX7_told 41 = .ok (.isub, 1) := by decide +kernel
theorem dX7_told_42 : decode cX7_told 42 = .ok (.invokevirtual 143, 3) := by decide +kernel
theorem dX7_told_45 : decode cX7_told 45 = .ok (.ireturn, 1) := by decide +kernel
theorem dX7_told_46 : decode cX7_told 46 = .ok (.iload_n 1, 1) := by decide +kernel
theorem dX7_told_47 : decode cX7_told 47 = .ok (.tableswitch 107 0 6 #[41, 49, 65, 81, 86, 94, 102], 41) := by decide +kernel
theorem dX7_told_88 : decode cX7_told 88 = .ok (.aload_n 0, 1) := by decide +kernel
theorem dX7_told_89 : decode cX7_told 89 = .ok (.getfield 25, 3) := by decide +kernel
theorem dX7_told_92 : decode cX7_told 92 = .ok (.invokevirtual 55, 3) := by decide +kernel
theorem dX7_told_95 : decode cX7_told 95 = .ok (.ireturn, 1) := by decide +kernel
theorem dX7_told_96 : decode cX7_told 96 = .ok (.aload_n 0, 1) := by decide +kernel
theorem dX7_told_97 : decode cX7_told 97 = .ok (.getfield 34, 3) := by decide +kernel
theorem dX7_told_100 : decode cX7_told 100 = .ok (.invokevirtual 184, 3) := by decide +kernel
theorem dX7_told_103 : decode cX7_told 103 = .ok (.aload_n 0, 1) := by decide +kernel
theorem dX7_told_104 : decode cX7_told 104 = .ok (.getfield 38, 3) := by decide +kernel
theorem dX7_told_107 : decode cX7_told 107 = .ok (.invokevirtual 184, 3) := by decide +kernel
theorem dX7_told_110 : decode cX7_told 110 = .ok (.iadd, 1) := by decide +kernel
theorem dX7_told_111 : decode cX7_told 111 = .ok (.ireturn, 1) := by decide +kernel
theorem dX7_told_112 : decode cX7_told 112 = .ok (.aload_n 0, 1) := by decide +kernel
theorem dX7_told_113 : decode cX7_told 113 = .ok (.getfield 34, 3) := by decide +kernel
theorem dX7_told_116 : decode cX7_told 116 = .ok (.invokevirtual 185, 3) := by decide +kernel
theorem dX7_told_119 : decode cX7_told 119 = .ok (.aload_n 0, 1) := by decide +kernel
theorem dX7_told_120 : decode cX7_told 120 = .ok (.getfield 38, 3) := by decide +kernel
theorem dX7_told_123 : decode cX7_told 123 = .ok (.invokevirtual 185, 3) := by decide +kernel
theorem dX7_told_126 : decode cX7_told 126 = .ok (.iadd, 1) := by decide +kernel
theorem dX7_told_127 : decode cX7_told 127 = .ok (.ireturn, 1) := by decide +kernel
theorem dX7_told_128 : decode cX7_told 128 = .ok (.aload_n 0, 1) := by decide +kernel
theorem dX7_told_129 : decode cX7_told 129 = .ok (.getfield 68, 3) := by decide +kernel
theorem dX7_told_132 : decode cX7_told 132 = .ok (.ireturn, 1) := by decide +kernel
theorem dX7_told_133 : decode cX7_told 133 = .ok (.aload_n 0, 1) := by decide +kernel
theorem dX7_told_134 : decode cX7_told 134 = .ok (.getfield 34, 3) := by decide +kernel
theorem dX7_told_137 : decode cX7_told 137 = .ok (.invokevirtual 188, 3) := by decide +kernel
theorem dX7_told_140 : decode cX7_told 140 = .ok (.ireturn, 1) := by decide +kernel
theorem dX7_told_141 : decode cX7_told 141 = .ok (.aload_n 0, 1) := by decide +kernel
theorem dX7_told_142 : decode cX7_told 142 = .ok (.getfield 38, 3) := by decide +kernel
theorem dX7_told_145 : decode cX7_told 145 = .ok (.invokevirtual 188, 3) := by decide +kernel
theorem dX7_told_148 : decode cX7_told 148 = .ok (.ireturn, 1) := by decide +kernel
theorem dX7_told_149 : decode cX7_told 149 = .ok (.aload_n 0, 1) := by decide +kernel
theorem dX7_told_150 : decode cX7_told 150 = .ok (.getfield 140, 3) := by decide +kernel
theorem dX7_told_153 : decode cX7_told 153 = .ok (.ireturn, 1) := by decide +kernel
theorem dX7_told_154 : decode cX7_told 154 = .ok (.bipush (-2), 2) := by decide +kernel
theorem dX7_told_156 : decode cX7_told 156 = .ok (.ireturn, 1) := by decide +kernel
theorem dX7_isStation_0 : decode cX7_isStation 0 = .ok (.iload_n 0, 1) := by decide +kernel
theorem dX7_isStation_1 : decode cX7_isStation 1 = .ok (.ifCond .lt 13, 3) := by decide +kernel
theorem dX7_isStation_4 : decode cX7_isStation 4 = .ok (.iload_n 0, 1) := by decide +kernel
theorem dX7_isStation_5 : decode cX7_isStation 5 = .ok (.bipush 60, 2) := by decide +kernel
theorem dX7_isStation_7 : decode cX7_isStation 7 = .ok (.if_icmp .gt 7, 3) := by decide +kernel
theorem dX7_isStation_10 : decode cX7_isStation 10 = .ok (.iconst 1, 1) := by decide +kernel
theorem dX7_isStation_11 : decode cX7_isStation 11 = .ok (.goto 4, 3) := by decide +kernel
theorem dX7_isStation_14 : decode cX7_isStation 14 = .ok (.iconst 0, 1) := by decide +kernel
theorem dX7_isStation_15 : decode cX7_isStation 15 = .ok (.ireturn, 1) := by decide +kernel
theorem dX7_isLength_0 : decode cX7_isLength 0 = .ok (.iload_n 0, 1) := by decide +kernel
theorem dX7_isLength_1 : decode cX7_isLength 1 = .ok (.iconst 1, 1) := by decide +kernel
theorem dX7_isLength_2 : decode cX7_isLength 2 = .ok (.if_icmp .lt 13, 3) := by decide +kernel
theorem dX7_isLength_5 : decode cX7_isLength 5 = .ok (.iload_n 0, 1) := by decide +kernel
theorem dX7_isLength_6 : decode cX7_isLength 6 = .ok (.bipush 60, 2) := by decide +kernel
theorem dX7_isLength_8 : decode cX7_isLength 8 = .ok (.if_icmp .gt 7, 3) := by decide +kernel
theorem dX7_isLength_11 : decode cX7_isLength 11 = .ok (.iconst 1, 1) := by decide +kernel
theorem dX7_isLength_12 : decode cX7_isLength 12 = .ok (.goto 4, 3) := by decide +kernel
theorem dX7_isLength_15 : decode cX7_isLength 15 = .ok (.iconst 0, 1) := by decide +kernel
theorem dX7_isLength_16 : decode cX7_isLength 16 = .ok (.ireturn, 1) := by decide +kernel
theorem dX7_isPhase_0 : decode cX7_isPhase 0 = .ok (.iload_n 0, 1) := by decide +kernel
theorem dX7_isPhase_1 : decode cX7_isPhase 1 = .ok (.ifCond .lt 14, 3) := by decide +kernel
theorem dX7_isPhase_4 : decode cX7_isPhase 4 = .ok (.iload_n 0, 1) := by decide +kernel
theorem dX7_isPhase_5 : decode cX7_isPhase 5 = .ok (.sipush 360, 3) := by decide +kernel
theorem dX7_isPhase_8 : decode cX7_isPhase 8 = .ok (.if_icmp .ge 7, 3) := by decide +kernel
theorem dX7_isPhase_11 : decode cX7_isPhase 11 = .ok (.iconst 1, 1) := by decide +kernel
theorem dX7_isPhase_12 : decode cX7_isPhase 12 = .ok (.goto 4, 3) := by decide +kernel
theorem dX7_isPhase_15 : decode cX7_isPhase 15 = .ok (.iconst 0, 1) := by decide +kernel
theorem dX7_isPhase_16 : decode cX7_isPhase 16 = .ok (.ireturn, 1) := by decide +kernel
theorem dX7_isImage_0 : decode cX7_isImage 0 = .ok (.iload_n 0, 1) := by decide +kernel
theorem dX7_isImage_1 : decode cX7_isImage 1 = .ok (.ifCond .eq 8, 3) := by decide +kernel
theorem dX7_isImage_4 : decode cX7_isImage 4 = .ok (.iload_n 0, 1) := by decide +kernel
theorem dX7_isImage_5 : decode cX7_isImage 5 = .ok (.iconst 1, 1) := by decide +kernel
theorem dX7_isImage_6 : decode cX7_isImage 6 = .ok (.if_icmp .ne 7, 3) := by decide +kernel
theorem dX7_isImage_9 : decode cX7_isImage 9 = .ok (.iconst 1, 1) := by decide +kernel
theorem dX7_isImage_10 : decode cX7_isImage 10 = .ok (.goto 4, 3) := by decide +kernel
theorem dX7_isImage_13 : decode cX7_isImage 13 = .ok (.iconst 0, 1) := by decide +kernel
theorem dX7_isImage_14 : decode cX7_isImage 14 = .ok (.ireturn, 1) := by decide +kernel
theorem dX7_isAskable_0 : decode cX7_isAskable 0 = .ok (.iload_n 0, 1) := by decide +kernel
theorem dX7_isAskable_1 : decode cX7_isAskable 1 = .ok (.ifCond .lt 8, 3) := by decide +kernel
theorem dX7_isAskable_4 : decode cX7_isAskable 4 = .ok (.iload_n 0, 1) := by decide +kernel
theorem dX7_isAskable_5 : decode cX7_isAskable 5 = .ok (.iconst 2, 1) := by decide +kernel
theorem dX7_isAskable_6 : decode cX7_isAskable 6 = .ok (.if_icmp .le 9, 3) := by decide +kernel
theorem dX7_isAskable_9 : decode cX7_isAskable 9 = .ok (.iload_n 0, 1) := by decide +kernel
theorem dX7_isAskable_10 : decode cX7_isAskable 10 = .ok (.bipush 10, 2) := by decide +kernel
theorem dX7_isAskable_12 : decode cX7_isAskable 12 = .ok (.if_icmp .lt 7, 3) := by decide +kernel
theorem dX7_isAskable_15 : decode cX7_isAskable 15 = .ok (.iconst 1, 1) := by decide +kernel
theorem dX7_isAskable_16 : decode cX7_isAskable 16 = .ok (.goto 4, 3) := by decide +kernel
theorem dX7_isAskable_19 : decode cX7_isAskable 19 = .ok (.iconst 0, 1) := by decide +kernel
theorem dX7_isAskable_20 : decode cX7_isAskable 20 = .ok (.ireturn, 1) := by decide +kernel
theorem dX7_isSearchable_0 : decode cX7_isSearchable 0 = .ok (.iload_n 0, 1) := by decide +kernel
theorem dX7_isSearchable_1 : decode cX7_isSearchable 1 = .ok (.ifCond .ne 20, 3) := by decide +kernel
theorem dX7_isSearchable_4 : decode cX7_isSearchable 4 = .ok (.iload_n 1, 1) := by decide +kernel
theorem dX7_isSearchable_5 : decode cX7_isSearchable 5 = .ok (.iconst 2, 1) := by decide +kernel
theorem dX7_isSearchable_6 : decode cX7_isSearchable 6 = .ok (.if_icmp .lt 13, 3) := by decide +kernel
theorem dX7_isSearchable_9 : decode cX7_isSearchable 9 = .ok (.iload_n 1, 1) := by decide +kernel
theorem dX7_isSearchable_10 : decode cX7_isSearchable 10 = .ok (.bipush 7, 2) := by decide +kernel
theorem dX7_isSearchable_12 : decode cX7_isSearchable 12 = .ok (.if_icmp .gt 7, 3) := by decide +kernel
theorem dX7_isSearchable_15 : decode cX7_isSearchable 15 = .ok (.iconst 1, 1) := by decide +kernel
theorem dX7_isSearchable_16 : decode cX7_isSearchable 16 = .ok (.goto 4, 3) := by decide +kernel
theorem dX7_isSearchable_19 : decode cX7_isSearchable 19 = .ok (.iconst 0, 1) := by decide +kernel
theorem dX7_isSearchable_20 : decode cX7_isSearchable 20 = .ok (.ireturn, 1) := by decide +kernel
theorem dX7_isSearchable_21 : decode cX7_isSearchable 21 = .ok (.iload_n 0, 1) := by decide +kernel
theorem dX7_isSearchable_22 : decode cX7_isSearchable 22 = .ok (.iconst 1, 1) := by decide +kernel
theorem dX7_isSearchable_23 : decode cX7_isSearchable 23 = .ok (.if_icmp .ne 18, 3) := by decide +kernel
theorem dX7_isSearchable_26 : decode cX7_isSearchable 26 = .ok (.iload_n 1, 1) := by decide +kernel
theorem dX7_isSearchable_27 : decode cX7_isSearchable 27 = .ok (.iconst 1, 1) := by decide +kernel
theorem dX7_isSearchable_28 : decode cX7_isSearchable 28 = .ok (.if_icmp .lt 13, 3) := by decide +kernel
theorem dX7_isSearchable_31 : decode cX7_isSearchable 31 = .ok (.iload_n 1, 1) := by decide +kernel
theorem dX7_isSearchable_32 : decode cX7_isSearchable 32 = .ok (.bipush 20, 2) := by decide +kernel
theorem dX7_isSearchable_34 : decode cX7_isSearchable 34 = .ok (.if_icmp .gt 7, 3) := by decide +kernel
theorem dX7_isSearchable_37 : decode cX7_isSearchable 37 = .ok (.iconst 1, 1) := by decide +kernel
theorem dX7_isSearchable_38 : decode cX7_isSearchable 38 = .ok (.goto 4, 3) := by decide +kernel
theorem dX7_isSearchable_41 : decode cX7_isSearchable 41 = .ok (.iconst 0, 1) := by decide +kernel
theorem dX7_isSearchable_42 : decode cX7_isSearchable 42 = .ok (.ireturn, 1) := by decide +kernel
theorem dX7_imageNamed_0 : decode cX7_imageNamed 0 = .ok (.iload_n 1, 1) := by decide +kernel
theorem dX7_imageNamed_1 : decode cX7_imageNamed 1 = .ok (.ifCond .ne 10, 3) := by decide +kernel
theorem dX7_imageNamed_4 : decode cX7_imageNamed 4 = .ok (.aload_n 0, 1) := by decide +kernel
theorem dX7_imageNamed_5 : decode cX7_imageNamed 5 = .ok (.getfield 16, 3) := by decide +kernel
theorem dX7_imageNamed_8 : decode cX7_imageNamed 8 = .ok (.goto 7, 3) := by decide +kernel
theorem dX7_imageNamed_11 : decode cX7_imageNamed 11 = .ok (.aload_n 0, 1) := by decide +kernel
theorem dX7_imageNamed_12 : decode cX7_imageNamed 12 = .ok (.getfield 19, 3) := by decide +kernel
theorem dX7_imageNamed_15 : decode cX7_imageNamed 15 = .ok (.areturn, 1) := by decide +kernel
set_option maxRecDepth 20000 in
theorem ggX7_change_X1_errorAt : GoodIn wsX7_change wsX1_errorAt := goodIn_r _ [7, 8, 9, 10, 11, 47, 48, 49] (by decide +kernel) (by decide +kernel)
set_option maxRecDepth 20000 in
theorem gX7_change_X1_errorAt : GoodIn wsX7_change (wsV RX7 137 RX1 yX1_errorAt wsX1_errorAt) := goodIn_app (goodIn_of _ (by decide +kernel)) ggX7_change_X1_errorAt
set_option maxRecDepth 20000 in
theorem ggX7_change_X4_add : GoodIn wsX7_change wsX4_add := goodIn_r _ [16, 17, 18, 19, 20, 21, 22, 15, 23, 24, 25, 26, 27, 50, 51, 52, 53] (by decide +kernel) (by decide +kernel)
set_option maxRecDepth 20000 in
theorem gX7_change_X4_add : GoodIn wsX7_change (wsV RX7 191 RX4 yX4_add wsX4_add) := goodIn_app (goodIn_of _ (by decide +kernel)) ggX7_change_X4_add
set_option maxRecDepth 20000 in
theorem ggX7_change_X1_become : GoodIn wsX7_change wsX1_become := goodIn_r _ [31, 8, 32, 33, 9, 10, 11, 34, 35, 36, 37, 47, 48, 49] (by decide +kernel) (by decide +kernel)
set_option maxRecDepth 20000 in
theorem gX7_change_X1_become : GoodIn wsX7_change (wsV RX7 62 RX1 yX1_become wsX1_become) := goodIn_app (goodIn_of _ (by decide +kernel)) ggX7_change_X1_become
theorem dX7_change_0 : decode cX7_change 0 = .ok (.aload_n 0, 1) := by decide +kernel
theorem dX7_change_1 : decode cX7_change 1 = .ok (.getfield 25, 3) := by decide +kernel
theorem dX7_change_4 : decode cX7_change 4 = .ok (.iload_n 1, 1) := by decide +kernel
theorem dX7_change_5 : decode cX7_change 5 = .ok (.aload_n 0, 1) := by decide +kernel
theorem dX7_change_6 : decode cX7_change 6 = .ok (.getfield 10, 3) := by decide +kernel
theorem dX7_change_9 : decode cX7_change 9 = .ok (.iload_n 1, 1) := by decide +kernel
theorem dX7_change_10 : decode cX7_change 10 = .ok (.invokevirtual 137, 3) := by decide +kernel
theorem dX7_change_13 : decode cX7_change 13 = .ok (.invokevirtual 191, 3) := by decide +kernel
theorem dX7_change_16 : decode cX7_change 16 = .ok (.aload_n 0, 1) := by decide +kernel
theorem dX7_change_17 : decode cX7_change 17 = .ok (.getfield 10, 3) := by decide +kernel
theorem dX7_change_20 : decode cX7_change 20 = .ok (.iload_n 1, 1) := by decide +kernel
theorem dX7_change_21 : decode cX7_change 21 = .ok (.iload_n 2, 1) := by decide +kernel
theorem dX7_change_22 : decode cX7_change 22 = .ok (.invokevirtual 62, 3) := by decide +kernel
theorem dX7_change_25 : decode cX7_change 25 = .ok (.return_, 1) := by decide +kernel
set_option maxRecDepth 20000 in
theorem ggX7_mostMissedOf_X3_has : GoodIn wsX7_mostMissedOf wsX3_has := goodIn_r _ [5, 6, 7, 4, 8, 9, 10, 11] (by decide +kernel) (by decide +kernel)
set_option maxRecDepth 20000 in
theorem gX7_mostMissedOf_X3_has : GoodIn wsX7_mostMissedOf (va_wsS RX7 194 yX3_has wsX3_has) := goodIn_app (goodIn_of _ (by decide +kernel)) ggX7_mostMissedOf_X3_has
set_option maxRecDepth 20000 in
theorem ggX7_mostMissedOf_X1_line : GoodIn wsX7_mostMissedOf wsX1_line := goodIn_r _ [16, 17, 46, 47, 48] (by decide +kernel) (by decide +kernel)
set_option maxRecDepth 20000 in
theorem gX7_mostMissedOf_X1_line : GoodIn wsX7_mostMissedOf (wsV RX7 72 RX1 yX1_line wsX1_line) := goodIn_app (goodIn_of _ (by decide +kernel)) ggX7_mostMissedOf_X1_line
set_option maxRecDepth 20000 in
theorem ggX7_mostMissedOf_X3_reachWithout : GoodIn wsX7_mostMissedOf wsX3_reachWithout := goodIn_r _ [20, 21, 6, 7, 4, 8, 9, 10, 11, 22, 23, 24, 25, 26, 27, 28, 29, 30, 31, 32, 33, 34, 35, 36] (by decide +kernel) (by decide +kernel)
set_option maxRecDepth 20000 in
theorem gX7_mostMissedOf_X3_reachWithout : GoodIn wsX7_mostMissedOf (va_wsS RX7 158 yX3_reachWithout wsX3_reachWithout) := goodIn_app (goodIn_of _ (by decide +kernel)) ggX7_mostMissedOf_X3_reachWithout
theorem dX7_mostMissedOf_0 : decode cX7_mostMissedOf 0 = .ok (.bipush (-6), 2) := by decide +kernel
theorem dX7_mostMissedOf_2 : decode cX7_mostMissedOf 2 = .ok (.istore_n 3, 1) := by decide +kernel
theorem dX7_mostMissedOf_3 : decode cX7_mostMissedOf 3 = .ok (.bipush 61, 2) := by decide +kernel
theorem dX7_mostMissedOf_5 : decode cX7_mostMissedOf 5 = .ok (.istore 4, 2) := by decide +kernel
theorem dX7_mostMissedOf_7 : decode cX7_mostMissedOf 7 = .ok (.iconst 0, 1) := by decide +kernel
theorem dX7_mostMissedOf_8 : decode cX7_mostMissedOf 8 = .ok (.istore 5, 2) := by decide +kernel
theorem dX7_mostMissedOf_10 : decode cX7_mostMissedOf 10 = .ok (.iload 5, 2) := by decide +kernel
theorem dX7_mostMissedOf_12 : decode cX7_mostMissedOf 12 = .ok (.bipush 60, 2) := by decide +kernel
theorem dX7_mostMissedOf_14 : decode cX7_mostMissedOf 14 = .ok (.if_icmp .gt 49, 3) := by decide +kernel
theorem dX7_mostMissedOf_17 : decode cX7_mostMissedOf 17 = .ok (.lload_n 1, 1) := by decide +kernel
theorem dX7_mostMissedOf_18 : decode cX7_mostMissedOf 18 = .ok (.iload 5, 2) := by decide +kernel
theorem dX7_mostMissedOf_20 : decode cX7_mostMissedOf 20 = .ok (.invokestatic 194, 3) := by decide +kernel
theorem dX7_mostMissedOf_23 : decode cX7_mostMissedOf 23 = .ok (.ifCond .ne 6, 3) := by decide +kernel
theorem dX7_mostMissedOf_26 : decode cX7_mostMissedOf 26 = .ok (.goto 31, 3) := by decide +kernel
theorem dX7_mostMissedOf_29 : decode cX7_mostMissedOf 29 = .ok (.aload_n 0, 1) := by decide +kernel
theorem dX7_mostMissedOf_30 : decode cX7_mostMissedOf 30 = .ok (.getfield 10, 3) := by decide +kernel
theorem dX7_mostMissedOf_33 : decode cX7_mostMissedOf 33 = .ok (.invokevirtual 72, 3) := by decide +kernel
theorem dX7_mostMissedOf_36 : decode cX7_mostMissedOf 36 = .ok (.iload 5, 2) := by decide +kernel
theorem dX7_mostMissedOf_38 : decode cX7_mostMissedOf 38 = .ok (.invokestatic 158, 3) := by decide +kernel
theorem dX7_mostMissedOf_41 : decode cX7_mostMissedOf 41 = .ok (.istore 6, 2) := by decide +kernel
theorem dX7_mostMissedOf_43 : decode cX7_mostMissedOf 43 = .ok (.iload 6, 2) := by decide +kernel
theorem dX7_mostMissedOf_45 : decode cX7_mostMissedOf 45 = .ok (.iload 4, 2) := by decide +kernel
theorem dX7_mostMissedOf_47 : decode cX7_mostMissedOf 47 = .ok (.if_icmp .ge 10, 3) := by decide +kernel
theorem dX7_mostMissedOf_50 : decode cX7_mostMissedOf 50 = .ok (.iload 6, 2) := by decide +kernel
theorem dX7_mostMissedOf_52 : decode cX7_mostMissedOf 52 = .ok (.istore 4, 2) := by decide +kernel
theorem dX7_mostMissedOf_54 : decode cX7_mostMissedOf 54 = .ok (.iload 5, 2) := by decide +kernel
theorem dX7_mostMissedOf_56 : decode cX7_mostMissedOf 56 = .ok (.istore_n 3, 1) := by decide +kernel
theorem dX7_mostMissedOf_57 : decode cX7_mostMissedOf 57 = .ok (.iinc 5 1, 3) := by decide +kernel
theorem dX7_mostMissedOf_60 : decode cX7_mostMissedOf 60 = .ok (.goto (-50), 3) := by decide +kernel
theorem dX7_mostMissedOf_63 : decode cX7_mostMissedOf 63 = .ok (.iload_n 3, 1) := by decide +kernel
theorem dX7_mostMissedOf_64 : decode cX7_mostMissedOf 64 = .ok (.ireturn, 1) := by decide +kernel
