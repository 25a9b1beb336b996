theorem dX8_init_0 : decode cX8_init 0 = .ok (.aload_n 0, 1) := by decide +kernel
theorem dX8_init_1 : decode cX8_init 1 = .ok (.invokespecial 1, 3) := by decide +kernel
theorem dX8_init_4 : decode cX8_init 4 = .ok (.aload_n 0, 1) := by decide +kernel
theorem dX8_init_5 : decode cX8_init 5 = .ok (.bipush 61, 2) := by decide +kernel
theorem dX8_init_7 : decode cX8_init 7 = .ok (.newarray .int, 2) := by decide +kernel
theorem dX8_init_9 : decode cX8_init 9 = .ok (.putfield 7, 3) := by decide +kernel
theorem dX8_init_12 : decode cX8_init 12 = .ok (.aload_n 0, 1) := by decide +kernel
theorem dX8_init_13 : decode cX8_init 13 = .ok (.bipush 61, 2) := by decide +kernel
theorem dX8_init_15 : decode cX8_init 15 = .ok (.newarray .int, 2) := by decide +kernel
theorem dX8_init_17 : decode cX8_init 17 = .ok (.putfield 13, 3) := by decide +kernel
theorem dX8_init_20 : decode cX8_init 20 = .ok (.aload_n 0, 1) := by decide +kernel
theorem dX8_init_21 : decode cX8_init 21 = .ok (.bipush 61, 2) := by decide +kernel
theorem dX8_init_23 : decode cX8_init 23 = .ok (.newarray .int, 2) := by decide +kernel
theorem dX8_init_25 : decode cX8_init 25 = .ok (.putfield 16, 3) := by decide +kernel
theorem dX8_init_28 : decode cX8_init 28 = .ok (.aload_n 0, 1) := by decide +kernel
theorem dX8_init_29 : decode cX8_init 29 = .ok (.bipush 16, 2) := by decide +kernel
theorem dX8_init_31 : decode cX8_init 31 = .ok (.newarray .int, 2) := by decide +kernel
theorem dX8_init_33 : decode cX8_init 33 = .ok (.putfield 19, 3) := by decide +kernel
theorem dX8_init_36 : decode cX8_init 36 = .ok (.aload_n 0, 1) := by decide +kernel
theorem dX8_init_37 : decode cX8_init 37 = .ok (.bipush 16, 2) := by decide +kernel
theorem dX8_init_39 : decode cX8_init 39 = .ok (.newarray .int, 2) := by decide +kernel
theorem dX8_init_41 : decode cX8_init 41 = .ok (.putfield 22, 3) := by decide +kernel
theorem dX8_init_44 : decode cX8_init 44 = .ok (.aload_n 0, 1) := by decide +kernel
theorem dX8_init_45 : decode cX8_init 45 = .ok (.bipush 16, 2) := by decide +kernel
theorem dX8_init_47 : decode cX8_init 47 = .ok (.newarray .int, 2) := by decide +kernel
theorem dX8_init_49 : decode cX8_init 49 = .ok (.putfield 25, 3) := by decide +kernel
theorem dX8_init_52 : decode cX8_init 52 = .ok (.aload_n 0, 1) := by decide +kernel
theorem dX8_init_53 : decode cX8_init 53 = .ok (.bipush 8, 2) := by decide +kernel
theorem dX8_init_55 : decode cX8_init 55 = .ok (.newarray .int, 2) := by decide +kernel
theorem dX8_init_57 : decode cX8_init 57 = .ok (.putfield 28, 3) := by decide +kernel
theorem dX8_init_60 : decode cX8_init 60 = .ok (.aload_n 0, 1) := by decide +kernel
theorem dX8_init_61 : decode cX8_init 61 = .ok (.bipush 8, 2) := by decide +kernel
theorem dX8_init_63 : decode cX8_init 63 = .ok (.newarray .int, 2) := by decide +kernel
theorem dX8_init_65 : decode cX8_init 65 = .ok (.putfield 31, 3) := by decide +kernel
theorem dX8_init_68 : decode cX8_init 68 = .ok (.aload_n 0, 1) := by decide +kernel
theorem dX8_init_69 : decode cX8_init 69 = .ok (.bipush 8, 2) := by decide +kernel
theorem dX8_init_71 : decode cX8_init 71 = .ok (.newarray .int, 2) := by decide +kernel
theorem dX8_init_73 : decode cX8_init 73 = .ok (.putfield 34, 3) := by decide +kernel
theorem dX8_init_76 : decode cX8_init 76 = .ok (.aload_n 0, 1) := by decide +kernel
theorem dX8_init_77 : decode cX8_init 77 = .ok (.bipush 96, 2) := by decide +kernel
theorem dX8_init_79 : decode cX8_init 79 = .ok (.newarray .int, 2) := by decide +kernel
theorem dX8_init_81 : decode cX8_init 81 = .ok (.putfield 37, 3) := by decide +kernel
theorem dX8_init_84 : decode cX8_init 84 = .ok (.aload_n 0, 1) := by decide +kernel
theorem dX8_init_85 : decode cX8_init 85 = .ok (.bipush 21, 2) := by decide +kernel
theorem dX8_init_87 : decode cX8_init 87 = .ok (.newarray .int, 2) := by decide +kernel
theorem dX8_init_89 : decode cX8_init 89 = .ok (.putfield 40, 3) := by decide +kernel
theorem dX8_init_92 : decode cX8_init 92 = .ok (.aload_n 0, 1) := by decide +kernel
theorem dX8_init_93 : decode cX8_init 93 = .ok (.bipush 21, 2) := by decide +kernel
theorem dX8_init_95 : decode cX8_init 95 = .ok (.newarray .int, 2) := by decide +kernel
theorem dX8_init_97 : decode cX8_init 97 = .ok (.putfield 43, 3) := by decide +kernel
theorem dX8_init_100 : decode cX8_init 100 = .ok (.aload_n 0, 1) := by decide +kernel
theorem dX8_init_101 : decode cX8_init 101 = .ok (.bipush 21, 2) := by decide +kernel
theorem dX8_init_103 : decode cX8_init 103 = .ok (.newarray .int, 2) := by decide +kernel
theorem dX8_init_105 : decode cX8_init 105 = .ok (.putfield 46, 3) := by decide +kernel
theorem dX8_init_108 : decode cX8_init 108 = .ok (.aload_n 0, 1) := by decide +kernel
theorem dX8_init_109 : decode cX8_init 109 = .ok (.sipush 252, 3) := by decide +kernel
theorem dX8_init_112 : decode cX8_init 112 = .ok (.newarray .int, 2) := by decide +kernel
theorem dX8_init_114 : decode cX8_init 114 = .ok (.putfield 49, 3) := by decide +kernel
theorem dX8_init_117 : decode cX8_init 117 = .ok (.aload_n 0, 1) := by decide +kernel
theorem dX8_init_118 : decode cX8_init 118 = .ok (.bipush 12, 2) := by decide +kernel
theorem dX8_init_120 : decode cX8_init 120 = .ok (.newarray .int, 2) := by decide +kernel
theorem dX8_init_122 : decode cX8_init 122 = .ok (.putfield 52, 3) := by decide +kernel
theorem dX8_init_125 : decode cX8_init 125 = .ok (.aload_n 0, 1) := by decide +kernel
theorem dX8_init_126 : decode cX8_init 126 = .ok (.bipush 12, 2) := by decide +kernel
theorem dX8_init_128 : decode cX8_init 128 = .ok (.newarray .int, 2) := by decide +kernel
theorem dX8_init_130 : decode cX8_init 130 = .ok (.putfield 55, 3) := by decide +kernel
theorem dX8_init_133 : decode cX8_init 133 = .ok (.aload_n 0, 1) := by decide +kernel
theorem dX8_init_134 : decode cX8_init 134 = .ok (.sipush 366, 3) := by decide +kernel
theorem dX8_init_137 : decode cX8_init 137 = .ok (.newarray .int, 2) := by decide +kernel
theorem dX8_init_139 : decode cX8_init 139 = .ok (.putfield 58, 3) := by decide +kernel
theorem dX8_init_142 : decode cX8_init 142 = .ok (.aload_n 0, 1) := by decide +kernel
theorem dX8_init_143 : decode cX8_init 143 = .ok (.iconst 2, 1) := by decide +kernel
theorem dX8_init_144 : decode cX8_init 144 = .ok (.newarray .boolean, 2) := by decide +kernel
theorem dX8_init_146 : decode cX8_init 146 = .ok (.putfield 61, 3) := by decide +kernel
theorem dX8_init_149 : decode cX8_init 149 = .ok (.return_, 1) := by decide +kernel
theorem dX8_in_0 : decode cX8_in 0 = .ok (.lload_n 0, 1) := by decide +kernel
theorem dX8_in_1 : decode cX8_in 1 = .ok (.lload_n 2, 1) := by decide +kernel
theorem dX8_in_2 : decode cX8_in 2 = .ok (.lcmp, 1) := by decide +kernel
theorem dX8_in_3 : decode cX8_in 3 = .ok (.ifCond .lt 14, 3) := by decide +kernel
theorem dX8_in_6 : decode cX8_in 6 = .ok (.lload_n 0, 1) := by decide +kernel
theorem dX8_in_7 : decode cX8_in 7 = .ok (.lload 4, 2) := by decide +kernel
theorem dX8_in_9 : decode cX8_in 9 = .ok (.lcmp, 1) := by decide +kernel
theorem dX8_in_10 : decode cX8_in 10 = .ok (.ifCond .gt 7, 3) := by decide +kernel
theorem dX8_in_13 : decode cX8_in 13 = .ok (.iconst 1, 1) := by decide +kernel
theorem dX8_in_14 : decode cX8_in 14 = .ok (.goto 4, 3) := by decide +kernel
theorem dX8_in_17 : decode cX8_in 17 = .ok (.iconst 0, 1) := by decide +kernel
theorem dX8_in_18 : decode cX8_in 18 = .ok (.ireturn, 1) := by decide +kernel
set_option maxRecDepth 20000 in
theorem ggX8_isPhase_X8_in : GoodIn wsX8_isPhase wsX8_in := goodIn_r _ [5] (by decide +kernel) (by decide +kernel)
set_option maxRecDepth 20000 in
theorem gX8_isPhase_X8_in : GoodIn wsX8_isPhase (va_wsS RX8 67 yX8_in wsX8_in) := goodIn_app (goodIn_of _ (by decide +kernel)) ggX8_isPhase_X8_in
theorem dX8_isPhase_0 : decode cX8_isPhase 0 = .ok (.iload_n 0, 1) := by decide +kernel
theorem dX8_isPhase_1 : decode cX8_isPhase 1 = .ok (.i2l, 1) := by decide +kernel
theorem dX8_isPhase_2 : decode cX8_isPhase 2 = .ok (.lconst 0, 1) := by decide +kernel
theorem dX8_isPhase_3 : decode cX8_isPhase 3 = .ok (.ldc2_w 65, 3) := by decide +kernel
theorem dX8_isPhase_6 : decode cX8_isPhase 6 = .ok (.invokestatic 67, 3) := by decide +kernel
theorem dX8_isPhase_9 : decode cX8_isPhase 9 = .ok (.ireturn, 1) := by decide +kernel
theorem dX8_over_0 : decode cX8_over 0 = .ok (.iload_n 0, 1) := by decide +kernel
theorem dX8_over_1 : decode cX8_over 1 = .ok (.sipush 360, 3) := by decide +kernel
theorem dX8_over_4 : decode cX8_over 4 = .ok (.irem, 1) := by decide +kernel
theorem dX8_over_5 : decode cX8_over 5 = .ok (.sipush 360, 3) := by decide +kernel
theorem dX8_over_8 : decode cX8_over 8 = .ok (.iadd, 1) := by decide +kernel
theorem dX8_over_9 : decode cX8_over 9 = .ok (.sipush 360, 3) := by decide +kernel
theorem dX8_over_12 : decode cX8_over 12 = .ok (.irem, 1) := by decide +kernel
theorem dX8_over_13 : decode cX8_over 13 = .ok (.ireturn, 1) := by decide +kernel
set_option maxRecDepth 20000 in
theorem ggX8_isDish_X8_in : GoodIn wsX8_isDish wsX8_in := goodIn_r _ [6] (by decide +kernel) (by decide +kernel)
set_option maxRecDepth 20000 in
theorem gX8_isDish_X8_in : GoodIn wsX8_isDish (va_wsS RX8 67 yX8_in wsX8_in) := goodIn_app (goodIn_of _ (by decide +kernel)) ggX8_isDish_X8_in
theorem dX8_isDish_0 : decode cX8_isDish 0 = .ok (.iload_n 1, 1) := by decide +kernel
theorem dX8_isDish_1 : decode cX8_isDish 1 = .ok (.i2l, 1) := by decide +kernel
theorem dX8_isDish_2 : decode cX8_isDish 2 = .ok (.lconst 0, 1) := by decide +kernel
theorem dX8_isDish_3 : decode cX8_isDish 3 = .ok (.ldc2_w 71, 3) := by decide +kernel
theorem dX8_isDish_6 : decode cX8_isDish 6 = .ok (.invokestatic 67, 3) := by decide +kernel
theorem dX8_isDish_9 : decode cX8_isDish 9 = .ok (.ifCond .eq 17, 3) := by decide +kernel
theorem dX8_isDish_12 : decode cX8_isDish 12 = .ok (.aload_n 0, 1) := by decide +kernel
theorem dX8_isDish_13 : decode cX8_isDish 13 = .ok (.getfield 7, 3) := by decide +kernel
theorem dX8_isDish_16 : decode cX8_isDish 16 = .ok (.iload_n 1, 1) := by decide +kernel
theorem dX8_isDish_17 : decode cX8_isDish 17 = .ok (.iaload, 1) := by decide +kernel
theorem dX8_isDish_18 : decode cX8_isDish 18 = .ok (.iconst 1, 1) := by decide +kernel
theorem dX8_isDish_19 : decode cX8_isDish 19 = .ok (.if_icmp .ne 7, 3) := by decide +kernel
theorem dX8_isDish_22 : decode cX8_isDish 22 = .ok (.iconst 1, 1) := by decide +kernel
theorem dX8_isDish_23 : decode cX8_isDish 23 = .ok (.goto 4, 3) := by decide +kernel
theorem dX8_isDish_26 : decode cX8_isDish 26 = .ok (.iconst 0, 1) := by decide +kernel
theorem dX8_isDish_27 : decode cX8_isDish 27 = .ok (.ireturn, 1) := by decide +kernel
theorem dX8_dishes_0 : decode cX8_dishes 0 = .ok (.iconst 0, 1) := by decide +kernel
theorem dX8_dishes_1 : decode cX8_dishes 1 = .ok (.istore_n 1, 1) := by decide +kernel
theorem dX8_dishes_2 : decode cX8_dishes 2 = .ok (.iconst 0, 1) := by decide +kernel
theorem dX8_dishes_3 : decode cX8_dishes 3 = .ok (.istore_n 2, 1) := by decide +kernel
theorem dX8_dishes_4 : decode cX8_dishes 4 = .ok (.iload_n 2, 1) := by decide +kernel
theorem dX8_dishes_5 : decode cX8_dishes 5 = .ok (.bipush 60, 2) := by decide +kernel
theorem dX8_dishes_7 : decode cX8_dishes 7 = .ok (.if_icmp .gt 18, 3) := by decide +kernel
theorem dX8_dishes_10 : decode cX8_dishes 10 = .ok (.iload_n 1, 1) := by decide +kernel
theorem dX8_dishes_11 : decode cX8_dishes 11 = .ok (.aload_n 0, 1) := by decide +kernel
theorem dX8_dishes_12 : decode cX8_dishes 12 = .ok (.getfield 7, 3) := by decide +kernel
theorem dX8_dishes_15 : decode cX8_dishes 15 = .ok (.iload_n 2, 1) := by decide +kernel
theorem dX8_dishes_16 : decode cX8_dishes 16 = .ok (.iaload, 1) := by decide +kernel
theorem dX8_dishes_17 : decode cX8_dishes 17 = .ok (.iadd, 1) := by decide +kernel
theorem dX8_dishes_18 : decode cX8_dishes 18 = .ok (.istore_n 1, 1) := by decide +kernel
theorem dX8_dishes_19 : decode cX8_dishes 19 = .ok (.iinc 2 1, 3) := by decide +kernel
theorem dX8_dishes_22 : decode cX8_dishes 22 = .ok (.goto (-18), 3) := by decide +kernel
theorem dX8_dishes_25 : decode cX8_dishes 25 = .ok (.iload_n 1, 1) := by decide +kernel
theorem dX8_dishes_26 : decode cX8_dishes 26 = .ok (.ireturn, 1) := by decide +kernel
theorem dX8_log_0 : decode cX8_log 0 = .ok (.aload_n 0, 1) := by decide +kernel
theorem dX8_log_1 : decode cX8_log 1 = .ok (.getfield 73, 3) := by decide +kernel
theorem dX8_log_4 : decode cX8_log 4 = .ok (.bipush 16, 2) := by decide +kernel
theorem dX8_log_6 : decode cX8_log 6 = .ok (.if_icmp .ne 79, 3) := by decide +kernel
theorem dX8_log_9 : decode cX8_log 9 = .ok (.aload_n 0, 1) := by decide +kernel
theorem dX8_log_10 : decode cX8_log 10 = .ok (.dup, 1) := by decide +kernel
theorem dX8_log_11 : decode cX8_log 11 = .ok (.getfield 73, 3) := by decide +kernel
theorem dX8_log_14 : decode cX8_log 14 = .ok (.iconst 1, 1) := by decide +kernel
theorem dX8_log_15 : decode cX8_log 15 = .ok (.isub, 1) := by decide +kernel
theorem dX8_log_16 : decode cX8_log 16 = .ok (.putfield 73, 3) := by decide +kernel
theorem dX8_log_19 : decode cX8_log 19 = .ok (.iconst 0, 1) := by decide +kernel
theorem dX8_log_20 : decode cX8_log 20 = .ok (.istore 4, 2) := by decide +kernel
theorem dX8_log_22 : decode cX8_log 22 = .ok (.iload 4, 2) := by decide +kernel
theorem dX8_log_24 : decode cX8_log 24 = .ok (.aload_n 0, 1) := by decide +kernel
theorem dX8_log_25 : decode cX8_log 25 = .ok (.getfield 73, 3) := by decide +kernel
theorem dX8_log_28 : decode cX8_log 28 = .ok (.if_icmp .ge 57, 3) := by decide +kernel
theorem dX8_log_31 : decode cX8_log 31 = .ok (.aload_n 0, 1) := by decide +kernel
theorem dX8_log_32 : decode cX8_log 32 = .ok (.getfield 19, 3) := by decide +kernel
theorem dX8_log_35 : decode cX8_log 35 = .ok (.iload 4, 2) := by decide +kernel
theorem dX8_log_37 : decode cX8_log 37 = .ok (.aload_n 0, 1) := by decide +kernel
theorem dX8_log_38 : decode cX8_log 38 = .ok (.getfield 19, 3) := by decide +kernel
theorem dX8_log_41 : decode cX8_log 41 = .ok (.iload 4, 2) := by decide +kernel
theorem dX8_log_43 : decode cX8_log 43 = .ok (.iconst 1, 1) := by decide +kernel
theorem dX8_log_44 : decode cX8_log 44 = .ok (.iadd, 1) := by decide +kernel
theorem dX8_log_45 : decode cX8_log 45 = .ok (.iaload, 1) := by decide +kernel
theorem dX8_log_46 : decode cX8_log 46 = .ok (.iastore, 1) := by decide +kernel
theorem dX8_log_47 : decode cX8_log 47 = .ok (.aload_n 0, 1) := by decide +kernel
theorem dX8_log_48 : decode cX8_log 48 = .ok (.getfield 22, 3) := by decide +kernel
theorem dX8_log_51 : decode cX8_log 51 = .ok (.iload 4, 2) := by decide +kernel
theorem dX8_log_53 : decode cX8_log 53 = .ok (.aload_n 0, 1) := by decide +kernel
theorem dX8_log_54 : decode cX8_log 54 = .ok (.getfield 22, 3) := by decide +kernel
theorem dX8_log_57 : decode cX8_log 57 = .ok (.iload 4, 2) := by decide +kernel
theorem dX8_log_59 : decode cX8_log 59 = .ok (.iconst 1, 1) := by decide +kernel
theorem dX8_log_60 : decode cX8_log 60 = .ok (.iadd, 1) := by decide +kernel
theorem dX8_log_61 : decode cX8_log 61 = .ok (.iaload, 1) := by decide +kernel
theorem dX8_log_62 : decode cX8_log 62 = .ok (.iastore, 1) := by decide +kernel
theorem dX8_log_63 : decode cX8_log 63 = .ok (.aload_n 0, 1) := by decide +kernel
theorem dX8_log_64 : decode cX8_log 64 = .ok (.getfield 25, 3) := by decide +kernel
theorem dX8_log_67 : decode cX8_log 67 = .ok (.iload 4, 2) := by decide +kernel
theorem dX8_log_69 : decode cX8_log 69 = .ok (.aload_n 0, 1) := by decide +kernel
theorem dX8_log_70 : decode cX8_log 70 = .ok (.getfield 25, 3) := by decide +kernel
theorem dX8_log_73 : decode cX8_log 73 = .ok (.iload 4, 2) := by decide +kernel
theorem dX8_log_75 : decode cX8_log 75 = .ok (.iconst 1, 1) := by decide +kernel
theorem dX8_log_76 : decode cX8_log 76 = .ok (.iadd, 1) := by decide +kernel
theorem dX8_log_77 : decode cX8_log 77 = .ok (.iaload, 1) := by decide +kernel
theorem dX8_log_78 : decode cX8_log 78 = .ok (.iastore, 1) := by decide +kernel
theorem dX8_log_79 : decode cX8_log 79 = .ok (.iinc 4 1, 3) := by decide +kernel
theorem dX8_log_82 : decode cX8_log 82 = .ok (.goto (-60), 3) := by decide +kernel
theorem dX8_log_85 : decode cX8_log 85 = .ok (.aload_n 0, 1) := by decide +kernel
theorem dX8_log_86 : decode cX8_log 86 = .ok (.getfield 19, 3) := by decide +kernel
theorem dX8_log_89 : decode cX8_log 89 = .ok (.aload_n 0, 1) := by decide +kernel
theorem dX8_log_90 : decode cX8_log 90 = .ok (.getfield 73, 3) := by decide +kernel
theorem dX8_log_93 : decode cX8_log 93 = .ok (.iload_n 1, 1) := by decide +kernel
theorem dX8_log_94 : decode cX8_log 94 = .ok (.iastore, 1) := by decide +kernel
theorem dX8_log_95 : decode cX8_log 95 = .ok (.aload_n 0, 1) := by decide +kernel
theorem dX8_log_96 : decode cX8_log 96 = .ok (.getfield 22, 3) := by decide +kernel
theorem dX8_log_99 : decode cX8_log 99 = .ok (.aload_n 0, 1) := by decide +kernel
theorem dX8_log_100 : decode cX8_log 100 = .ok (.getfield 73, 3) := by decide +kernel
theorem dX8_log_103 : decode cX8_log 103 = .ok (.iload_n 2, 1) := by decide +kernel
theorem dX8_log_104 : decode cX8_log 104 = .ok (.iastore, 1) := by decide +kernel
theorem dX8_log_105 : decode cX8_log 105 = .ok (.aload_n 0, 1) := by decide +kernel
theorem dX8_log_106 : decode cX8_log 106 = .ok (.getfield 25, 3) := by decide +kernel
theorem dX8_log_109 : decode cX8_log 109 = .ok (.aload_n 0, 1) := by decide +kernel
theorem dX8_log_110 : decode cX8_log 110 = .ok (.getfield 73, 3) := by decide +kernel
theorem dX8_log_113 : decode cX8_log 113 = .ok (.iload_n 3, 1) := by decide +kernel
theorem dX8_log_114 : decode cX8_log 114 = .ok (.iastore, 1) := by decide +kernel
theorem dX8_log_115 : decode cX8_log 115 = .ok (.aload_n 0, 1) := by decide +kernel
theorem dX8_log_116 : decode cX8_log 116 = .ok (.dup, 1) := by decide +kernel
theorem dX8_log_117 : decode cX8_log 117 = .ok (.getfield 73, 3) := by decide +kernel
theorem dX8_log_120 : decode cX8_log 120 = .ok (.iconst 1, 1) := by decide +kernel
theorem dX8_log_121 : decode cX8_log 121 = .ok (.iadd, 1) := by decide +kernel
theorem dX8_log_122 : decode cX8_log 122 = .ok (.putfield 73, 3) := by decide +kernel
theorem dX8_log_125 : decode cX8_log 125 = .ok (.return_, 1) := by decide +kernel
set_option maxRecDepth 20000 in
theorem ggX8_put_X8_in : GoodIn wsX8_put wsX8_in := goodIn_r _ [7] (by decide +kernel) (by decide +kernel)
set_option maxRecDepth 20000 in
theorem gX8_put_X8_in : GoodIn wsX8_put (va_wsS RX8 67 yX8_in wsX8_in) := goodIn_app (goodIn_of _ (by decide +kernel)) ggX8_put_X8_in
set_option maxRecDepth 20000 in
theorem ggX8_put_X8_isDish : GoodIn wsX8_put wsX8_isDish := goodIn_r _ [11, 1, 2, 4, 5, 6, 7, 24, 25, 26, 27, 28, 29, 30, 31, 32, 33, 34, 35, 36, 37, 38, 39, 40, 41, 42, 43, 44, 45, 46, 47, 48, 49, 50] (by decide +kernel) (by decide +kernel)
set_option maxRecDepth 20000 in
theorem gX8_put_X8_isDish : GoodIn wsX8_put (wsV RX8 77 RX8 yX8_isDish wsX8_isDish) := goodIn_app (goodIn_of _ (by decide +kernel)) ggX8_put_X8_isDish
set_option maxRecDepth 20000 in
theorem ggX8_put_X8_dishes : GoodIn wsX8_put wsX8_dishes := goodIn_r _ [15, 2, 24, 25, 26, 27, 28, 29, 30, 31, 32, 33, 34, 35, 36, 37, 38, 39, 40, 41, 42, 43, 44, 45, 46, 47, 48, 49, 50] (by decide +kernel) (by decide +kernel)
set_option maxRecDepth 20000 in
theorem gX8_put_X8_dishes : GoodIn wsX8_put (wsV RX8 81 RX8 yX8_dishes wsX8_dishes) := goodIn_app (goodIn_of _ (by decide +kernel)) ggX8_put_X8_dishes
set_option maxRecDepth 20000 in
theorem ggX8_put_X8_log : GoodIn wsX8_put wsX8_log := goodIn_r _ [19, 20, 21, 22, 23, 24, 25, 26, 27, 28, 29, 30, 31, 32, 33, 34, 35, 36, 37, 38, 39, 40, 41, 42, 43, 44, 45, 46, 47, 48, 49, 50] (by decide +kernel) (by decide +kernel)
set_option maxRecDepth 20000 in
theorem gX8_put_X8_log : GoodIn wsX8_put (wsV RX8 85 RX8 yX8_log wsX8_log) := goodIn_app (goodIn_of _ (by decide +kernel)) ggX8_put_X8_log
theorem dX8_put_0 : decode cX8_put 0 = .ok (.iload_n 1, 1) := by decide +kernel
theorem dX8_put_1 : decode cX8_put 1 = .ok (.i2l, 1) := by decide +kernel
theorem dX8_put_2 : decode cX8_put 2 = .ok (.lconst 0, 1) := by decide +kernel
theorem dX8_put_3 : decode cX8_put 3 = .ok (.ldc2_w 71, 3) := by decide +kernel
theorem dX8_put_6 : decode cX8_put 6 = .ok (.invokestatic 67, 3) := by decide +kernel
theorem dX8_put_9 : decode cX8_put 9 = .ok (.ifCond .ne 6, 3) := by decide +kernel
theorem dX8_put_12 : decode cX8_put 12 = .ok (.bipush (-2), 2) := by decide +kernel
theorem dX8_put_14 : decode cX8_put 14 = .ok (.ireturn, 1) := by decide +kernel
theorem dX8_put_15 : decode cX8_put 15 = .ok (.aload_n 0, 1) := by decide +kernel
theorem dX8_put_16 : decode cX8_put 16 = .ok (.iload_n 1, 1) := by decide +kernel
theorem dX8_put_17 : decode cX8_put 17 = .ok (.invokevirtual 77, 3) := by decide +kernel
theorem dX8_put_20 : decode cX8_put 20 = .ok (.ifCond .eq 6, 3) := by decide +kernel
theorem dX8_put_23 : decode cX8_put 23 = .ok (.bipush (-5), 2) := by decide +kernel
theorem dX8_put_25 : decode cX8_put 25 = .ok (.ireturn, 1) := by decide +kernel
theorem dX8_put_26 : decode cX8_put 26 = .ok (.aload_n 0, 1) := by decide +kernel
theorem dX8_put_27 : decode cX8_put 27 = .ok (.invokevirtual 81, 3) := by decide +kernel
theorem dX8_put_30 : decode cX8_put 30 = .ok (.bipush 12, 2) := by decide +kernel
theorem dX8_put_32 : decode cX8_put 32 = .ok (.if_icmp .ne 6, 3) := by decide +kernel
theorem dX8_put_35 : decode cX8_put 35 = .ok (.bipush (-4), 2) := by decide +kernel
theorem dX8_put_37 : decode cX8_put 37 = .ok (.ireturn, 1) := by decide +kernel
theorem dX8_put_38 : decode cX8_put 38 = .ok (.aload_n 0, 1) := by decide +kernel
theorem dX8_put_39 : decode cX8_put 39 = .ok (.getfield 7, 3) := by decide +kernel
theorem dX8_put_42 : decode cX8_put 42 = .ok (.iload_n 1, 1) := by decide +kernel
theorem dX8_put_43 : decode cX8_put 43 = .ok (.iconst 1, 1) := by decide +kernel
theorem dX8_put_44 : decode cX8_put 44 = .ok (.iastore, 1) := by decide +kernel
theorem dX8_put_45 : decode cX8_put 45 = .ok (.aload_n 0, 1) := by decide +kernel
theorem dX8_put_46 : decode cX8_put 46 = .ok (.getfield 13, 3) := by decide +kernel
theorem dX8_put_49 : decode cX8_put 49 = .ok (.iload_n 1, 1) := by decide +kernel
theorem dX8_put_50 : decode cX8_put 50 = .ok (.iconst 0, 1) := by decide +kernel
theorem dX8_put_51 : decode cX8_put 51 = .ok (.iastore, 1) := by decide +kernel
theorem dX8_put_52 : decode cX8_put 52 = .ok (.aload_n 0, 1) := by decide +kernel
theorem dX8_put_53 : decode cX8_put 53 = .ok (.iconst 0, 1) := by decide +kernel
theorem dX8_put_54 : decode cX8_put 54 = .ok (.iload_n 1, 1) := by decide +kernel
theorem dX8_put_55 : decode cX8_put 55 = .ok (.iconst 0, 1) := by decide +kernel
theorem dX8_put_56 : decode cX8_put 56 = .ok (.invokevirtual 85, 3) := by decide +kernel
theorem dX8_put_59 : decode cX8_put 59 = .ok (.aload_n 0, 1) := by decide +kernel
theorem dX8_put_60 : decode cX8_put 60 = .ok (.invokevirtual 81, 3) := by decide +kernel
theorem dX8_put_63 : decode cX8_put 63 = .ok (.ireturn, 1) := by decide +kernel
set_option maxRecDepth 20000 in
theorem ggX8_lift_X8_isDish : GoodIn wsX8_lift wsX8_isDish := goodIn_r _ [7, 8, 1, 9, 10, 6, 11, 24, 25, 26, 27, 28, 29, 30, 31, 32, 33, 34, 35, 36, 37, 38, 39, 40, 41, 42, 43, 44, 45, 46, 47, 48, 49, 50] (by decide +kernel) (by decide +kernel)
set_option maxRecDepth 20000 in
theorem gX8_lift_X8_isDish : GoodIn wsX8_lift (wsV RX8 77 RX8 yX8_isDish wsX8_isDish) := goodIn_app (goodIn_of _ (by decide +kernel)) ggX8_lift_X8_isDish
set_option maxRecDepth 20000 in
theorem ggX8_lift_X8_log : GoodIn wsX8_lift wsX8_log := goodIn_r _ [15, 16, 17, 18, 19, 24, 25, 26, 27, 28, 29, 30, 31, 32, 33, 34, 35, 36, 37, 38, 39, 40, 41, 42, 43, 44, 45, 46, 47, 48, 49, 50] (by decide +kernel) (by decide +kernel)
set_option maxRecDepth 20000 in
theorem gX8_lift_X8_log : GoodIn wsX8_lift (wsV RX8 85 RX8 yX8_log wsX8_log) := goodIn_app (goodIn_of _ (by decide +kernel)) ggX8_lift_X8_log
set_option maxRecDepth 20000 in
theorem ggX8_lift_X8_dishes : GoodIn wsX8_lift wsX8_dishes := goodIn_r _ [23, 1, 24, 25, 26, 27, 28, 29, 30, 31, 32, 33, 34, 35, 36, 37, 38, 39, 40, 41, 42, 43, 44, 45, 46, 47, 48, 49, 50] (by decide +kernel) (by decide +kernel)
set_option maxRecDepth 20000 in
theorem gX8_lift_X8_dishes : GoodIn wsX8_lift (wsV RX8 81 RX8 yX8_dishes wsX8_dishes) := goodIn_app (goodIn_of _ (by decide +kernel)) ggX8_lift_X8_dishes
theorem dX8_lift_0 : decode cX8_lift 0 = .ok (.aload_n 0, 1) := by decide +kernel
theorem dX8_lift_1 : decode cX8_lift 1 = .ok (.iload_n 1, 1) := by decide +kernel
theorem dX8_lift_2 : decode cX8_lift 2 = .ok (.invokevirtual 77, 3) := by decide +kernel
theorem dX8_lift_5 : decode cX8_lift 5 = .ok (.ifCond .ne 5, 3) := by decide +kernel
theorem dX8_lift_8 : decode cX8_lift 8 = .ok (.iconst (-1), 1) := by decide +kernel
theorem dX8_lift_9 : decode cX8_lift 9 = .ok (.ireturn, 1) := by decide +kernel
theorem dX8_lift_10 : decode cX8_lift 10 = .ok (.aload_n 0, 1) := by decide +kernel
theorem dX8_lift_11 : decode cX8_lift 11 = .ok (.getfield 7, 3) := by decide +kernel
theorem dX8_lift_14 : decode cX8_lift 14 = .ok (.iload_n 1, 1) := by decide +kernel
theorem dX8_lift_15 : decode cX8_lift 15 = .ok (.iconst 0, 1) := by decide +kernel
theorem dX8_lift_16 : decode cX8_lift 16 = .ok (.iastore, 1) := by decide +kernel
theorem dX8_lift_17 : decode cX8_lift 17 = .ok (.aload_n 0, 1) := by decide +kernel
theorem dX8_lift_18 : decode cX8_lift 18 = .ok (.iconst 1, 1) := by decide +kernel
theorem dX8_lift_19 : decode cX8_lift 19 = .ok (.iload_n 1, 1) := by decide +kernel
theorem dX8_lift_20 : decode cX8_lift 20 = .ok (.aload_n 0, 1) := by decide +kernel
theorem dX8_lift_21 : decode cX8_lift 21 = .ok (.getfield 13, 3) := by decide +kernel
theorem dX8_lift_24 : decode cX8_lift 24 = .ok (.iload_n 1, 1) := by decide +kernel
theorem dX8_lift_25 : decode cX8_lift 25 = .ok (.iaload, 1) := by decide +kernel
theorem dX8_lift_26 : decode cX8_lift 26 = .ok (.invokevirtual 85, 3) := by decide +kernel
theorem dX8_lift_29 : decode cX8_lift 29 = .ok (.aload_n 0, 1) := by decide +kernel
theorem dX8_lift_30 : decode cX8_lift 30 = .ok (.invokevirtual 81, 3) := by decide +kernel
theorem dX8_lift_33 : decode cX8_lift 33 = .ok (.ireturn, 1) := by decide +kernel
theorem dX8_undo_0 : decode cX8_undo 0 = .ok (.aload_n 0, 1) := by decide +kernel
theorem dX8_undo_1 : decode cX8_undo 1 = .ok (.getfield 73, 3) := by decide +kernel
theorem dX8_undo_4 : decode cX8_undo 4 = .ok (.ifCond .ne 6, 3) := by decide +kernel
theorem dX8_undo_7 : decode cX8_undo 7 = .ok (.bipush (-5), 2) := by decide +kernel
theorem dX8_undo_9 : decode cX8_undo 9 = .ok (.ireturn, 1) := by decide +kernel
theorem dX8_undo_10 : decode cX8_undo 10 = .ok (.aload_n 0, 1) := by decide +kernel
theorem dX8_undo_11 : decode cX8_undo 11 = .ok (.dup, 1) := by decide +kernel
theorem dX8_undo_12 : decode cX8_undo 12 = .ok (.getfield 73, 3) := by decide +kernel
theorem dX8_undo_15 : decode cX8_undo 15 = .ok (.iconst 1, 1) := by decide +kernel
theorem dX8_undo_16 : decode cX8_undo 16 = .ok (.isub, 1) := by decide +kernel
theorem dX8_undo_17 : decode cX8_undo 17 = .ok (.putfield 73, 3) := by decide +kernel
theorem dX8_undo_20 : decode cX8_undo 20 = .ok (.aload_n 0, 1) := by decide +kernel
theorem dX8_undo_21 : decode cX8_undo 21 = .ok (.dup, 1) := by decide +kernel
theorem dX8_undo_22 : decode cX8_undo 22 = .ok (.getfield 89, 3) := by decide +kernel
theorem dX8_undo_25 : decode cX8_undo 25 = .ok (.iconst 1, 1) := by decide +kernel
theorem dX8_undo_26 : decode cX8_undo 26 = .ok (.iadd, 1) := by decide +kernel
theorem dX8_undo_27 : decode cX8_undo 27 = .ok (.putfield 89, 3) := by decide +kernel
theorem dX8_undo_30 : decode cX8_undo 30 = .ok (.aload_n 0, 1) := by decide +kernel
theorem dX8_undo_31 : decode cX8_undo 31 = .ok (.getfield 22, 3) := by decide +kernel
theorem dX8_undo_34 : decode cX8_undo 34 = .ok (.aload_n 0, 1) := by decide +kernel
theorem dX8_undo_35 : decode cX8_undo 35 = .ok (.getfield 73, 3) := by decide +kernel
theorem dX8_undo_38 : decode cX8_undo 38 = .ok (.iaload, 1) := by decide +kernel
theorem dX8_undo_39 : decode cX8_undo 39 = .ok (.istore_n 1, 1) := by decide +kernel
theorem dX8_undo_40 : decode cX8_undo 40 = .ok (.aload_n 0, 1) := by decide +kernel
theorem dX8_undo_41 : decode cX8_undo 41 = .ok (.getfield 7, 3) := by decide +kernel
theorem dX8_undo_44 : decode cX8_undo 44 = .ok (.iload_n 1, 1) := by decide +kernel
theorem dX8_undo_45 : decode cX8_undo 45 = .ok (.aload_n 0, 1) := by decide +kernel
theorem dX8_undo_46 : decode cX8_undo 46 = .ok (.getfield 19, 3) := by decide +kernel
theorem dX8_undo_49 : decode cX8_undo 49 = .ok (.aload_n 0, 1) := by decide +kernel
theorem dX8_undo_50 : decode cX8_undo 50 = .ok (.getfield 73, 3) := by decide +kernel
theorem dX8_undo_53 : decode cX8_undo 53 = .ok (.iaload, 1) := by decide +kernel
theorem dX8_undo_54 : decode cX8_undo 54 = .ok (.ifCond .ne 7, 3) := by decide +kernel
theorem dX8_undo_57 : decode cX8_undo 57 = .ok (.iconst 0, 1) := by decide +kernel
theorem dX8_undo_58 : decode cX8_undo 58 = .ok (.goto 4, 3) := by decide +kernel
theorem dX8_undo_61 : decode cX8_undo 61 = .ok (.iconst 1, 1) := by decide +kernel
theorem dX8_undo_62 : decode cX8_undo 62 = .ok (.iastore, 1) := by decide +kernel
theorem dX8_undo_63 : decode cX8_undo 63 = .ok (.aload_n 0, 1) := by decide +kernel
theorem dX8_undo_64 : decode cX8_undo 64 = .ok (.getfield 13, 3) := by decide +kernel
theorem dX8_undo_67 : decode cX8_undo 67 = .ok (.iload_n 1, 1) := by decide +kernel
theorem dX8_undo_68 : decode cX8_undo 68 = .ok (.aload_n 0, 1) := by decide +kernel
theorem dX8_undo_69 : decode cX8_undo 69 = .ok (.getfield 25, 3) := by decide +kernel
theorem dX8_undo_72 : decode cX8_undo 72 = .ok (.aload_n 0, 1) := by decide +kernel
theorem dX8_undo_73 : decode cX8_undo 73 = .ok (.getfield 73, 3) := by decide +kernel
theorem dX8_undo_76 : decode cX8_undo 76 = .ok (.iaload, 1) := by decide +kernel
theorem dX8_undo_77 : decode cX8_undo 77 = .ok (.iastore, 1) := by decide +kernel
theorem dX8_undo_78 : decode cX8_undo 78 = .ok (.aload_n 0, 1) := by decide +kernel
theorem dX8_undo_79 : decode cX8_undo 79 = .ok (.getfield 73, 3) := by decide +kernel
theorem dX8_undo_82 : decode cX8_undo 82 = .ok (.ireturn, 1) := by decide +kernel
theorem dX8_station_0 : decode cX8_station 0 = .ok (.iconst 0, 1) := by decide +kernel
theorem dX8_station_1 : decode cX8_station 1 = .ok (.istore_n 2, 1) := by decide +kernel
theorem dX8_station_2 : decode cX8_station 2 = .ok (.iconst 0, 1) := by decide +kernel
theorem dX8_station_3 : decode cX8_station 3 = .ok (.istore_n 3, 1) := by decide +kernel
theorem dX8_station_4 : decode cX8_station 4 = .ok (.iload_n 3, 1) := by decide +kernel
theorem dX8_station_5 : decode cX8_station 5 = .ok (.bipush 60, 2) := by decide +kernel
theorem dX8_station_7 : decode cX8_station 7 = .ok (.if_icmp .gt 29, 3) := by decide +kernel
theorem dX8_station_10 : decode cX8_station 10 = .ok (.aload_n 0, 1) := by decide +kernel
theorem dX8_station_11 : decode cX8_station 11 = .ok (.getfield 7, 3) := by decide +kernel
theorem dX8_station_14 : decode cX8_station 14 = .ok (.iload_n 3, 1) := by decide +kernel
theorem dX8_station_15 : decode cX8_station 15 = .ok (.iaload, 1) := by decide +kernel
theorem dX8_station_16 : decode cX8_station 16 = .ok (.iconst 1, 1) := by decide +kernel
theorem dX8_station_17 : decode cX8_station 17 = .ok (.if_icmp .ne 13, 3) := by decide +kernel
theorem dX8_station_20 : decode cX8_station 20 = .ok (.iload_n 2, 1) := by decide +kernel
theorem dX8_station_21 : decode cX8_station 21 = .ok (.iload_n 1, 1) := by decide +kernel
theorem dX8_station_22 : decode cX8_station 22 = .ok (.if_icmp .ne 5, 3) := by decide +kernel
theorem dX8_station_25 : decode cX8_station 25 = .ok (.iload_n 3, 1) := by decide +kernel
theorem dX8_station_26 : decode cX8_station 26 = .ok (.ireturn, 1) := by decide +kernel
theorem dX8_station_27 : decode cX8_station 27 = .ok (.iinc 2 1, 3) := by decide +kernel
theorem dX8_station_30 : decode cX8_station 30 = .ok (.iinc 3 1, 3) := by decide +kernel
theorem dX8_station_33 : decode cX8_station 33 = .ok (.goto (-29), 3) := by decide +kernel
theorem dX8_station_36 : decode cX8_station 36 = .ok (.bipush (-6), 2) := by decide +kernel
theorem dX8_station_38 : decode cX8_station 38 = .ok (.ireturn, 1) := by decide +kernel
theorem dX8_oftenBut_0 : decode cX8_oftenBut 0 = .ok (.iconst 0, 1) := by decide +kernel
theorem dX8_oftenBut_1 : decode cX8_oftenBut 1 = .ok (.istore_n 3, 1) := by decide +kernel
theorem dX8_oftenBut_2 : decode cX8_oftenBut 2 = .ok (.iconst 0, 1) := by decide +kernel
theorem dX8_oftenBut_3 : decode cX8_oftenBut 3 = .ok (.istore 4, 2) := by decide +kernel
theorem dX8_oftenBut_5 : decode cX8_oftenBut 5 = .ok (.iload 4, 2) := by decide +kernel
theorem dX8_oftenBut_7 : decode cX8_oftenBut 7 = .ok (.iload_n 1, 1) := by decide +kernel
theorem dX8_oftenBut_8 : decode cX8_oftenBut 8 = .ok (.iadd, 1) := by decide +kernel
theorem dX8_oftenBut_9 : decode cX8_oftenBut 9 = .ok (.bipush 60, 2) := by decide +kernel
theorem dX8_oftenBut_11 : decode cX8_oftenBut 11 = .ok (.if_icmp .gt 47, 3) := by decide +kernel
theorem dX8_oftenBut_14 : decode cX8_oftenBut 14 = .ok (.iload_n 3, 1) := by decide +kernel
theorem dX8_oftenBut_15 : decode cX8_oftenBut 15 = .ok (.iload 4, 2) := by decide +kernel
theorem dX8_oftenBut_17 : decode cX8_oftenBut 17 = .ok (.iload_n 2, 1) := by decide +kernel
theorem dX8_oftenBut_18 : decode cX8_oftenBut 18 = .ok (.if_icmp .eq 31, 3) := by decide +kernel
theorem dX8_oftenBut_21 : decode cX8_oftenBut 21 = .ok (.iload 4, 2) := by decide +kernel
theorem dX8_oftenBut_23 : decode cX8_oftenBut 23 = .ok (.iload_n 1, 1) := by decide +kernel
theorem dX8_oftenBut_24 : decode cX8_oftenBut 24 = .ok (.iadd, 1) := by decide +kernel
theorem dX8_oftenBut_25 : decode cX8_oftenBut 25 = .ok (.iload_n 2, 1) := by decide +kernel
theorem dX8_oftenBut_26 : decode cX8_oftenBut 26 = .ok (.if_icmp .eq 23, 3) := by decide +kernel
theorem dX8_oftenBut_29 : decode cX8_oftenBut 29 = .ok (.aload_n 0, 1) := by decide +kernel
theorem dX8_oftenBut_30 : decode cX8_oftenBut 30 = .ok (.getfield 7, 3) := by decide +kernel
theorem dX8_oftenBut_33 : decode cX8_oftenBut 33 = .ok (.iload 4, 2) := by decide +kernel
theorem dX8_oftenBut_35 : decode cX8_oftenBut 35 = .ok (.iaload, 1) := by decide +kernel
theorem dX8_oftenBut_36 : decode cX8_oftenBut 36 = .ok (.aload_n 0, 1) := by decide +kernel
theorem dX8_oftenBut_37 : decode cX8_oftenBut 37 = .ok (.getfield 7, 3) := by decide +kernel
theorem dX8_oftenBut_40 : decode cX8_oftenBut 40 = .ok (.iload 4, 2) := by decide +kernel
theorem dX8_oftenBut_42 : decode cX8_oftenBut 42 = .ok (.iload_n 1, 1) := by decide +kernel
theorem dX8_oftenBut_43 : decode cX8_oftenBut 43 = .ok (.iadd, 1) := by decide +kernel
theorem dX8_oftenBut_44 : decode cX8_oftenBut 44 = .ok (.iaload, 1) := by decide +kernel
theorem dX8_oftenBut_45 : decode cX8_oftenBut 45 = .ok (.imul, 1) := by decide +kernel
theorem dX8_oftenBut_46 : decode cX8_oftenBut 46 = .ok (.goto 4, 3) := by decide +kernel
theorem dX8_oftenBut_49 : decode cX8_oftenBut 49 = .ok (.iconst 0, 1) := by decide +kernel
theorem dX8_oftenBut_50 : decode cX8_oftenBut 50 = .ok (.iadd, 1) := by decide +kernel
theorem dX8_oftenBut_51 : decode cX8_oftenBut 51 = .ok (.istore_n 3, 1) := by decide +kernel
theorem dX8_oftenBut_52 : decode cX8_oftenBut 52 = .ok (.iinc 4 1, 3) := by decide +kernel
theorem dX8_oftenBut_55 : decode cX8_oftenBut 55 = .ok (.goto (-50), 3) := by decide +kernel
theorem dX8_oftenBut_58 : decode cX8_oftenBut 58 = .ok (.iload_n 3, 1) := by decide +kernel
theorem dX8_oftenBut_59 : decode cX8_oftenBut 59 = .ok (.ireturn, 1) := by decide +kernel
set_option maxRecDepth 20000 in
theorem ggX8_spacing_X8_in : GoodIn wsX8_spacing wsX8_in := goodIn_r _ [5] (by decide +kernel) (by decide +kernel)
set_option maxRecDepth 20000 in
theorem gX8_spacing_X8_in : GoodIn wsX8_spacing (va_wsS RX8 67 yX8_in wsX8_in) := goodIn_app (goodIn_of _ (by decide +kernel)) ggX8_spacing_X8_in
set_option maxRecDepth 20000 in
theorem ggX8_spacing_X8_oftenBut : GoodIn wsX8_spacing wsX8_oftenBut := goodIn_r _ [9, 10, 11, 12, 13, 14, 15, 16, 17, 18, 19, 20, 21, 22, 23, 24, 25, 26, 27, 28, 29, 30, 31, 32, 33, 34, 35, 36, 37] (by decide +kernel) (by decide +kernel)
set_option maxRecDepth 20000 in
theorem gX8_spacing_X8_oftenBut : GoodIn wsX8_spacing (wsV RX8 92 RX8 yX8_oftenBut wsX8_oftenBut) := goodIn_app (goodIn_of _ (by decide +kernel)) ggX8_spacing_X8_oftenBut
theorem dX8_spacing_0 : decode cX8_spacing 0 = .ok (.iload_n 1, 1) := by decide +kernel
theorem dX8_spacing_1 : decode cX8_spacing 1 = .ok (.i2l, 1) := by decide +kernel
theorem dX8_spacing_2 : decode cX8_spacing 2 = .ok (.lconst 1, 1) := by decide +kernel
theorem dX8_spacing_3 : decode cX8_spacing 3 = .ok (.ldc2_w 71, 3) := by decide +kernel
theorem dX8_spacing_6 : decode cX8_spacing 6 = .ok (.invokestatic 67, 3) := by decide +kernel
theorem dX8_spacing_9 : decode cX8_spacing 9 = .ok (.ifCond .eq 13, 3) := by decide +kernel
theorem dX8_spacing_12 : decode cX8_spacing 12 = .ok (.aload_n 0, 1) := by decide +kernel
theorem dX8_spacing_13 : decode cX8_spacing 13 = .ok (.iload_n 1, 1) := by decide +kernel
theorem dX8_spacing_14 : decode cX8_spacing 14 = .ok (.bipush (-6), 2) := by decide +kernel
theorem dX8_spacing_16 : decode cX8_spacing 16 = .ok (.invokevirtual 92, 3) := by decide +kernel
theorem dX8_spacing_19 : decode cX8_spacing 19 = .ok (.goto 5, 3) := by decide +kernel
theorem dX8_spacing_22 : decode cX8_spacing 22 = .ok (.bipush (-2), 2) := by decide +kernel
theorem dX8_spacing_24 : decode cX8_spacing 24 = .ok (.ireturn, 1) := by decide +kernel
set_option maxRecDepth 20000 in
theorem ggX8_span_X8_oftenBut : GoodIn wsX8_span wsX8_oftenBut := goodIn_r _ [5, 6, 7, 8, 9, 10, 11, 12, 13, 14, 15, 16, 17, 18, 19, 20, 21, 22, 23, 24, 25, 26, 27, 28, 29, 30, 31, 32, 33] (by decide +kernel) (by decide +kernel)
set_option maxRecDepth 20000 in
theorem gX8_span_X8_oftenBut : GoodIn wsX8_span (wsV RX8 92 RX8 yX8_oftenBut wsX8_oftenBut) := goodIn_app (goodIn_of _ (by decide +kernel)) ggX8_span_X8_oftenBut
theorem dX8_span_0 : decode cX8_span 0 = .ok (.iconst 0, 1) := by decide +kernel
theorem dX8_span_1 : decode cX8_span 1 = .ok (.istore_n 1, 1) := by decide +kernel
theorem dX8_span_2 : decode cX8_span 2 = .ok (.iconst 1, 1) := by decide +kernel
theorem dX8_span_3 : decode cX8_span 3 = .ok (.istore_n 2, 1) := by decide +kernel
theorem dX8_span_4 : decode cX8_span 4 = .ok (.iload_n 2, 1) := by decide +kernel
theorem dX8_span_5 : decode cX8_span 5 = .ok (.bipush 60, 2) := by decide +kernel
theorem dX8_span_7 : decode cX8_span 7 = .ok (.if_icmp .gt 25, 3) := by decide +kernel
theorem dX8_span_10 : decode cX8_span 10 = .ok (.aload_n 0, 1) := by decide +kernel
theorem dX8_span_11 : decode cX8_span 11 = .ok (.iload_n 2, 1) := by decide +kernel
theorem dX8_span_12 : decode cX8_span 12 = .ok (.bipush (-6), 2) := by decide +kernel
theorem dX8_span_14 : decode cX8_span 14 = .ok (.invokevirtual 92, 3) := by decide +kernel
theorem dX8_span_17 : decode cX8_span 17 = .ok (.ifCond .le 7, 3) := by decide +kernel
theorem dX8_span_20 : decode cX8_span 20 = .ok (.iload_n 2, 1) := by decide +kernel
theorem dX8_span_21 : decode cX8_span 21 = .ok (.goto 4, 3) := by decide +kernel
theorem dX8_span_24 : decode cX8_span 24 = .ok (.iload_n 1, 1) := by decide +kernel
theorem dX8_span_25 : decode cX8_span 25 = .ok (.istore_n 1, 1) := by decide +kernel
theorem dX8_span_26 : decode cX8_span 26 = .ok (.iinc 2 1, 3) := by decide +kernel
theorem dX8_span_29 : decode cX8_span 29 = .ok (.goto (-25), 3) := by decide +kernel
theorem dX8_span_32 : decode cX8_span 32 = .ok (.iload_n 1, 1) := by decide +kernel
theorem dX8_span_33 : decode cX8_span 33 = .ok (.ireturn, 1) := by decide +kernel
set_option maxRecDepth 20000 in
theorem ggX8_reachBut_X8_oftenBut : GoodIn wsX8_reachBut wsX8_oftenBut := goodIn_r _ [5, 6, 7, 8, 9, 10, 11, 12, 13, 14, 15, 16, 17, 18, 19, 20, 21, 22, 23, 24, 25, 26, 27, 28, 29, 30, 31, 32, 33] (by decide +kernel) (by decide +kernel)
set_option maxRecDepth 20000 in
theorem gX8_reachBut_X8_oftenBut : GoodIn wsX8_reachBut (wsV RX8 92 RX8 yX8_oftenBut wsX8_oftenBut) := goodIn_app (goodIn_of _ (by decide +kernel)) ggX8_reachBut_X8_oftenBut
theorem dX8_reachBut_0 : decode cX8_reachBut 0 = .ok (.iconst 0, 1) := by decide +kernel
theorem dX8_reachBut_1 : decode cX8_reachBut 1 = .ok (.istore_n 2, 1) := by decide +kernel
theorem dX8_reachBut_2 : decode cX8_reachBut 2 = .ok (.iload_n 2, 1) := by decide +kernel
theorem dX8_reachBut_3 : decode cX8_reachBut 3 = .ok (.bipush 60, 2) := by decide +kernel
theorem dX8_reachBut_5 : decode cX8_reachBut 5 = .ok (.if_icmp .ge 20, 3) := by decide +kernel
theorem dX8_reachBut_8 : decode cX8_reachBut 8 = .ok (.aload_n 0, 1) := by decide +kernel
theorem dX8_reachBut_9 : decode cX8_reachBut 9 = .ok (.iload_n 2, 1) := by decide +kernel
theorem dX8_reachBut_10 : decode cX8_reachBut 10 = .ok (.iconst 1, 1) := by decide +kernel
theorem dX8_reachBut_11 : decode cX8_reachBut 11 = .ok (.iadd, 1) := by decide +kernel
theorem dX8_reachBut_12 : decode cX8_reachBut 12 = .ok (.iload_n 1, 1) := by decide +kernel
theorem dX8_reachBut_13 : decode cX8_reachBut 13 = .ok (.invokevirtual 92, 3) := by decide +kernel
theorem dX8_reachBut_16 : decode cX8_reachBut 16 = .ok (.ifCond .le 9, 3) := by decide +kernel
theorem dX8_reachBut_19 : decode cX8_reachBut 19 = .ok (.iinc 2 1, 3) := by decide +kernel
theorem dX8_reachBut_22 : decode cX8_reachBut 22 = .ok (.goto (-20), 3) := by decide +kernel
theorem dX8_reachBut_25 : decode cX8_reachBut 25 = .ok (.iload_n 2, 1) := by decide +kernel
theorem dX8_reachBut_26 : decode cX8_reachBut 26 = .ok (.ireturn, 1) := by decide +kernel
set_option maxRecDepth 20000 in
theorem ggX8_missing_X8_span : GoodIn wsX8_missing wsX8_span := goodIn_r _ [5, 6, 7, 8, 4, 9, 10, 11, 12, 13, 14, 15, 16, 17, 18, 19, 20, 21, 22, 23, 24, 25, 26, 27, 28, 29, 30, 31, 32, 33, 34, 35, 36, 37] (by decide +kernel) (by decide +kernel)
set_option maxRecDepth 20000 in
theorem gX8_missing_X8_span : GoodIn wsX8_missing (wsV RX8 96 RX8 yX8_span wsX8_span) := goodIn_app (goodIn_of _ (by decide +kernel)) ggX8_missing_X8_span
set_option maxRecDepth 20000 in
theorem ggX8_missing_X8_oftenBut : GoodIn wsX8_missing wsX8_oftenBut := goodIn_r _ [9, 10, 11, 12, 13, 14, 15, 16, 17, 18, 19, 20, 21, 22, 23, 24, 25, 26, 27, 28, 29, 30, 31, 32, 33, 34, 35, 36, 37] (by decide +kernel) (by decide +kernel)
set_option maxRecDepth 20000 in
theorem gX8_missing_X8_oftenBut : GoodIn wsX8_missing (wsV RX8 92 RX8 yX8_oftenBut wsX8_oftenBut) := goodIn_app (goodIn_of _ (by decide +kernel)) ggX8_missing_X8_oftenBut
theorem dX8_missing_0 : decode cX8_missing 0 = .ok (.iconst 0, 1) := by decide +kernel
theorem dX8_missing_1 : decode cX8_missing 1 = .ok (.istore_n 1, 1) := by decide +kernel
theorem dX8_missing_2 : decode cX8_missing 2 = .ok (.aload_n 0, 1) := by decide +kernel
theorem dX8_missing_3 : decode cX8_missing 3 = .ok (.invokevirtual 96, 3) := by decide +kernel
theorem dX8_missing_6 : decode cX8_missing 6 = .ok (.istore_n 2, 1) := by decide +kernel
theorem dX8_missing_7 : decode cX8_missing 7 = .ok (.iload_n 2, 1) := by decide +kernel
theorem dX8_missing_8 : decode cX8_missing 8 = .ok (.ifCond .le 27, 3) := by decide +kernel
theorem dX8_missing_11 : decode cX8_missing 11 = .ok (.iload_n 1, 1) := by decide +kernel
theorem dX8_missing_12 : decode cX8_missing 12 = .ok (.aload_n 0, 1) := by decide +kernel
theorem dX8_missing_13 : decode cX8_missing 13 = .ok (.iload_n 2, 1) := by decide +kernel
theorem dX8_missing_14 : decode cX8_missing 14 = .ok (.bipush (-6), 2) := by decide +kernel
theorem dX8_missing_16 : decode cX8_missing 16 = .ok (.invokevirtual 92, 3) := by decide +kernel
theorem dX8_missing_19 : decode cX8_missing 19 = .ok (.ifCond .ne 7, 3) := by decide +kernel
theorem dX8_missing_22 : decode cX8_missing 22 = .ok (.iconst 1, 1) := by decide +kernel
theorem dX8_missing_23 : decode cX8_missing 23 = .ok (.goto 4, 3) := by decide +kernel
theorem dX8_missing_26 : decode cX8_missing 26 = .ok (.iconst 0, 1) := by decide +kernel
theorem dX8_missing_27 : decode cX8_missing 27 = .ok (.iadd, 1) := by decide +kernel
theorem dX8_missing_28 : decode cX8_missing 28 = .ok (.istore_n 1, 1) := by decide +kernel
theorem dX8_missing_29 : decode cX8_missing 29 = .ok (.iinc 2 (-1), 3) := by decide +kernel
theorem dX8_missing_32 : decode cX8_missing 32 = .ok (.goto (-25), 3) := by decide +kernel
theorem dX8_missing_35 : decode cX8_missing 35 = .ok (.iload_n 1, 1) := by decide +kernel
theorem dX8_missing_36 : decode cX8_missing 36 = .ok (.ireturn, 1) := by decide +kernel
set_option maxRecDepth 20000 in
theorem ggX8_repeats_X8_oftenBut : GoodIn wsX8_repeats wsX8_oftenBut := goodIn_r _ [5, 6, 7, 8, 9, 10, 11, 12, 13, 14, 15, 16, 17, 18, 19, 20, 21, 22, 23, 24, 25, 26, 27, 28, 29, 30, 31, 32, 33] (by decide +kernel) (by decide +kernel)
set_option maxRecDepth 20000 in
theorem gX8_repeats_X8_oftenBut : GoodIn wsX8_repeats (wsV RX8 92 RX8 yX8_oftenBut wsX8_oftenBut) := goodIn_app (goodIn_of _ (by decide +kernel)) ggX8_repeats_X8_oftenBut
theorem dX8_repeats_0 : decode cX8_repeats 0 = .ok (.iconst 0, 1) := by decide +kernel
theorem dX8_repeats_1 : decode cX8_repeats 1 = .ok (.istore_n 1, 1) := by decide +kernel
theorem dX8_repeats_2 : decode cX8_repeats 2 = .ok (.iconst 1, 1) := by decide +kernel
theorem dX8_repeats_3 : decode cX8_repeats 3 = .ok (.istore_n 2, 1) := by decide +kernel
theorem dX8_repeats_4 : decode cX8_repeats 4 = .ok (.iload_n 2, 1) := by decide +kernel
theorem dX8_repeats_5 : decode cX8_repeats 5 = .ok (.bipush 60, 2) := by decide +kernel
theorem dX8_repeats_7 : decode cX8_repeats 7 = .ok (.if_icmp .gt 31, 3) := by decide +kernel
theorem dX8_repeats_10 : decode cX8_repeats 10 = .ok (.aload_n 0, 1) := by decide +kernel
theorem dX8_repeats_11 : decode cX8_repeats 11 = .ok (.iload_n 2, 1) := by decide +kernel
theorem dX8_repeats_12 : decode cX8_repeats 12 = .ok (.bipush (-6), 2) := by decide +kernel
theorem dX8_repeats_14 : decode cX8_repeats 14 = .ok (.invokevirtual 92, 3) := by decide +kernel
theorem dX8_repeats_17 : decode cX8_repeats 17 = .ok (.istore_n 3, 1) := by decide +kernel
theorem dX8_repeats_18 : decode cX8_repeats 18 = .ok (.iload_n 1, 1) := by decide +kernel
theorem dX8_repeats_19 : decode cX8_repeats 19 = .ok (.iload_n 3, 1) := by decide +kernel
theorem dX8_repeats_20 : decode cX8_repeats 20 = .ok (.ifCond .le 9, 3) := by decide +kernel
theorem dX8_repeats_23 : decode cX8_repeats 23 = .ok (.iload_n 3, 1) := by decide +kernel
theorem dX8_repeats_24 : decode cX8_repeats 24 = .ok (.iconst 1, 1) := by decide +kernel
theorem dX8_repeats_25 : decode cX8_repeats 25 = .ok (.isub, 1) := by decide +kernel
theorem dX8_repeats_26 : decode cX8_repeats 26 = .ok (.goto 4, 3) := by decide +kernel
theorem dX8_repeats_29 : decode cX8_repeats 29 = .ok (.iconst 0, 1) := by decide +kernel
theorem dX8_repeats_30 : decode cX8_repeats 30 = .ok (.iadd, 1) := by decide +kernel
theorem dX8_repeats_31 : decode cX8_repeats 31 = .ok (.istore_n 1, 1) := by decide +kernel
theorem dX8_repeats_32 : decode cX8_repeats 32 = .ok (.iinc 2 1, 3) := by decide +kernel
theorem dX8_repeats_35 : decode cX8_repeats 35 = .ok (.goto (-31), 3) := by decide +kernel
theorem dX8_repeats_38 : decode cX8_repeats 38 = .ok (.iload_n 1, 1) := by decide +kernel
theorem dX8_repeats_39 : decode cX8_repeats 39 = .ok (.ireturn, 1) := by decide +kernel
set_option maxRecDepth 20000 in
theorem ggX8_firstMissing_X8_reachBut : GoodIn wsX8_firstMissing wsX8_reachBut := goodIn_r _ [5, 6, 7, 8, 4, 9, 10, 15, 16, 17, 18, 19, 20, 21, 22, 23, 24, 25, 26, 27, 28, 29, 30, 31, 32, 33, 34, 35, 36, 37, 38, 39, 40, 41] (by decide +kernel) (by decide +kernel)
set_option maxRecDepth 20000 in
theorem gX8_firstMissing_X8_reachBut : GoodIn wsX8_firstMissing (wsV RX8 99 RX8 yX8_reachBut wsX8_reachBut) := goodIn_app (goodIn_of _ (by decide +kernel)) ggX8_firstMissing_X8_reachBut
set_option maxRecDepth 20000 in
theorem ggX8_firstMissing_X8_span : GoodIn wsX8_firstMissing wsX8_span := goodIn_r _ [14, 6, 7, 8, 4, 9, 10, 15, 16, 17, 18, 19, 20, 21, 22, 23, 24, 25, 26, 27, 28, 29, 30, 31, 32, 33, 34, 35, 36, 37, 38, 39, 40, 41] (by decide +kernel) (by decide +kernel)
set_option maxRecDepth 20000 in
theorem gX8_firstMissing_X8_span : GoodIn wsX8_firstMissing (wsV RX8 96 RX8 yX8_span wsX8_span) := goodIn_app (goodIn_of _ (by decide +kernel)) ggX8_firstMissing_X8_span
theorem dX8_firstMissing_0 : decode cX8_firstMissing 0 = .ok (.aload_n 0, 1) := by decide +kernel
theorem dX8_firstMissing_1 : decode cX8_firstMissing 1 = .ok (.bipush (-6), 2) := by decide +kernel
theorem dX8_firstMissing_3 : decode cX8_firstMissing 3 = .ok (.invokevirtual 99, 3) := by decide +kernel
theorem dX8_firstMissing_6 : decode cX8_firstMissing 6 = .ok (.iconst 1, 1) := by decide +kernel
theorem dX8_firstMissing_7 : decode cX8_firstMissing 7 = .ok (.iadd, 1) := by decide +kernel
theorem dX8_firstMissing_8 : decode cX8_firstMissing 8 = .ok (.istore_n 1, 1) := by decide +kernel
theorem dX8_firstMissing_9 : decode cX8_firstMissing 9 = .ok (.iload_n 1, 1) := by decide +kernel
theorem dX8_firstMissing_10 : decode cX8_firstMissing 10 = .ok (.aload_n 0, 1) := by decide +kernel
theorem dX8_firstMissing_11 : decode cX8_firstMissing 11 = .ok (.invokevirtual 96, 3) := by decide +kernel
theorem dX8_firstMissing_14 : decode cX8_firstMissing 14 = .ok (.if_icmp .ge 7, 3) := by decide +kernel
theorem dX8_firstMissing_17 : decode cX8_firstMissing 17 = .ok (.iload_n 1, 1) := by decide +kernel
theorem dX8_firstMissing_18 : decode cX8_firstMissing 18 = .ok (.goto 5, 3) := by decide +kernel
theorem dX8_firstMissing_21 : decode cX8_firstMissing 21 = .ok (.bipush (-6), 2) := by decide +kernel
theorem dX8_firstMissing_23 : decode cX8_firstMissing 23 = .ok (.ireturn, 1) := by decide +kernel
set_option maxRecDepth 20000 in
theorem ggX8_mostOften_X8_oftenBut : GoodIn wsX8_mostOften wsX8_oftenBut := goodIn_r _ [5, 6, 7, 8, 9, 10, 11, 12, 13, 14, 15, 16, 17, 18, 19, 20, 21, 22, 23, 24, 25, 26, 27, 28, 29, 30, 31, 32, 33] (by decide +kernel) (by decide +kernel)
set_option maxRecDepth 20000 in
theorem gX8_mostOften_X8_oftenBut : GoodIn wsX8_mostOften (wsV RX8 92 RX8 yX8_oftenBut wsX8_oftenBut) := goodIn_app (goodIn_of _ (by decide +kernel)) ggX8_mostOften_X8_oftenBut
theorem dX8_mostOften_0 : decode cX8_mostOften 0 = .ok (.bipush (-6), 2) := by decide +kernel
theorem dX8_mostOften_2 : decode cX8_mostOften 2 = .ok (.istore_n 1, 1) := by decide +kernel
theorem dX8_mostOften_3 : decode cX8_mostOften 3 = .ok (.bipush 60, 2) := by decide +kernel
theorem dX8_mostOften_5 : decode cX8_mostOften 5 = .ok (.istore_n 2, 1) := by decide +kernel
theorem dX8_mostOften_6 : decode cX8_mostOften 6 = .ok (.iload_n 2, 1) := by decide +kernel
theorem dX8_mostOften_7 : decode cX8_mostOften 7 = .ok (.ifCond .le 42, 3) := by decide +kernel
theorem dX8_mostOften_10 : decode cX8_mostOften 10 = .ok (.aload_n 0, 1) := by decide +kernel
theorem dX8_mostOften_11 : decode cX8_mostOften 11 = .ok (.iload_n 2, 1) := by decide +kernel
theorem dX8_mostOften_12 : decode cX8_mostOften 12 = .ok (.bipush (-6), 2) := by decide +kernel
theorem dX8_mostOften_14 : decode cX8_mostOften 14 = .ok (.invokevirtual 92, 3) := by decide +kernel
theorem dX8_mostOften_17 : decode cX8_mostOften 17 = .ok (.istore_n 3, 1) := by decide +kernel
theorem dX8_mostOften_18 : decode cX8_mostOften 18 = .ok (.iload_n 3, 1) := by decide +kernel
theorem dX8_mostOften_19 : decode cX8_mostOften 19 = .ok (.ifCond .le 22, 3) := by decide +kernel
theorem dX8_mostOften_22 : decode cX8_mostOften 22 = .ok (.iload_n 1, 1) := by decide +kernel
theorem dX8_mostOften_23 : decode cX8_mostOften 23 = .ok (.ifCond .lt 14, 3) := by decide +kernel
theorem dX8_mostOften_26 : decode cX8_mostOften 26 = .ok (.iload_n 3, 1) := by decide +kernel
theorem dX8_mostOften_27 : decode cX8_mostOften 27 = .ok (.aload_n 0, 1) := by decide +kernel
theorem dX8_mostOften_28 : decode cX8_mostOften 28 = .ok (.iload_n 1, 1) := by decide +kernel
theorem dX8_mostOften_29 : decode cX8_mostOften 29 = .ok (.bipush (-6), 2) := by decide +kernel
theorem dX8_mostOften_31 : decode cX8_mostOften 31 = .ok (.invokevirtual 92, 3) := by decide +kernel
theorem dX8_mostOften_34 : decode cX8_mostOften 34 = .ok (.if_icmp .lt 7, 3) := by decide +kernel
theorem dX8_mostOften_37 : decode cX8_mostOften 37 = .ok (.iload_n 2, 1) := by decide +kernel
theorem dX8_mostOften_38 : decode cX8_mostOften 38 = .ok (.goto 4, 3) := by decide +kernel
theorem dX8_mostOften_41 : decode cX8_mostOften 41 = .ok (.iload_n 1, 1) := by decide +kernel
theorem dX8_mostOften_42 : decode cX8_mostOften 42 = .ok (.istore_n 1, 1) := by decide +kernel
theorem dX8_mostOften_43 : decode cX8_mostOften 43 = .ok (.iinc 2 (-1), 3) := by decide +kernel
theorem dX8_mostOften_46 : decode cX8_mostOften 46 = .ok (.goto (-40), 3) := by decide +kernel
theorem dX8_mostOften_49 : decode cX8_mostOften 49 = .ok (.iload_n 1, 1) := by decide +kernel
theorem dX8_mostOften_50 : decode cX8_mostOften 50 = .ok (.ireturn, 1) := by decide +kernel
set_option maxRecDepth 20000 in
theorem ggX8_facts_X8_dishes : GoodIn wsX8_facts wsX8_dishes := goodIn_r _ [5, 6, 35, 36, 37, 38, 39, 40, 41, 42, 43, 44, 45, 46, 47, 48, 49, 50, 51, 52, 53, 54, 55, 56, 57, 58, 59, 60, 61] (by decide +kernel) (by decide +kernel)
set_option maxRecDepth 20000 in
theorem gX8_facts_X8_dishes : GoodIn wsX8_facts (wsV RX8 81 RX8 yX8_dishes wsX8_dishes) := goodIn_app (goodIn_of _ (by decide +kernel)) ggX8_facts_X8_dishes
set_option maxRecDepth 20000 in
theorem ggX8_facts_X8_span : GoodIn wsX8_facts wsX8_span := goodIn_r _ [10, 11, 12, 13, 4, 14, 6, 35, 36, 37, 38, 39, 40, 41, 42, 43, 44, 45, 46, 47, 48, 49, 50, 51, 52, 53, 54, 55, 56, 57, 58, 59, 60, 61] (by decide +kernel) (by decide +kernel)
set_option maxRecDepth 20000 in
theorem gX8_facts_X8_span : GoodIn wsX8_facts (wsV RX8 96 RX8 yX8_span wsX8_span) := goodIn_app (goodIn_of _ (by decide +kernel)) ggX8_facts_X8_span
set_option maxRecDepth 20000 in
theorem ggX8_facts_X8_reachBut : GoodIn wsX8_facts wsX8_reachBut := goodIn_r _ [18, 11, 12, 13, 4, 14, 6, 35, 36, 37, 38, 39, 40, 41, 42, 43, 44, 45, 46, 47, 48, 49, 50, 51, 52, 53, 54, 55, 56, 57, 58, 59, 60, 61] (by decide +kernel) (by decide +kernel)
set_option maxRecDepth 20000 in
theorem gX8_facts_X8_reachBut : GoodIn wsX8_facts (wsV RX8 99 RX8 yX8_reachBut wsX8_reachBut) := goodIn_app (goodIn_of _ (by decide +kernel)) ggX8_facts_X8_reachBut
set_option maxRecDepth 20000 in
theorem ggX8_facts_X8_missing : GoodIn wsX8_facts wsX8_missing := goodIn_r _ [22, 7, 8, 9, 4, 10, 11, 12, 13, 14, 6, 35, 36, 37, 38, 39, 40, 41, 42, 43, 44, 45, 46, 47, 48, 49, 50, 51, 52, 53, 54, 55, 56, 57, 58, 59, 60, 61] (by decide +kernel) (by decide +kernel)
set_option maxRecDepth 20000 in
theorem gX8_facts_X8_missing : GoodIn wsX8_facts (wsV RX8 103 RX8 yX8_missing wsX8_missing) := goodIn_app (goodIn_of _ (by decide +kernel)) ggX8_facts_X8_missing
set_option maxRecDepth 20000 in
theorem ggX8_facts_X8_repeats : GoodIn wsX8_facts wsX8_repeats := goodIn_r _ [26, 11, 12, 13, 4, 14, 6, 35, 36, 37, 38, 39, 40, 41, 42, 43, 44, 45, 46, 47, 48, 49, 50, 51, 52, 53, 54, 55, 56, 57, 58, 59, 60, 61] (by decide +kernel) (by decide +kernel)
set_option maxRecDepth 20000 in
theorem gX8_facts_X8_repeats : GoodIn wsX8_facts (wsV RX8 106 RX8 yX8_repeats wsX8_repeats) := goodIn_app (goodIn_of _ (by decide +kernel)) ggX8_facts_X8_repeats
set_option maxRecDepth 20000 in
theorem ggX8_facts_X8_firstMissing : GoodIn wsX8_facts wsX8_firstMissing := goodIn_r _ [30, 15, 16, 17, 4, 18, 11, 12, 13, 14, 6, 7, 8, 9, 10, 35, 36, 37, 38, 39, 40, 41, 42, 43, 44, 45, 46, 47, 48, 49, 50, 51, 52, 53, 54, 55, 56, 57, 58, 59, 60, 61] (by decide +kernel) (by decide +kernel)
set_option maxRecDepth 20000 in
theorem gX8_facts_X8_firstMissing : GoodIn wsX8_facts (wsV RX8 109 RX8 yX8_firstMissing wsX8_firstMissing) := goodIn_app (goodIn_of _ (by decide +kernel)) ggX8_facts_X8_firstMissing
set_option maxRecDepth 20000 in
theorem ggX8_facts_X8_mostOften : GoodIn wsX8_facts wsX8_mostOften := goodIn_r _ [34, 11, 12, 13, 4, 14, 6, 35, 36, 37, 38, 39, 40, 41, 42, 43, 44, 45, 46, 47, 48, 49, 50, 51, 52, 53, 54, 55, 56, 57, 58, 59, 60, 61] (by decide +kernel) (by decide +kernel)
set_option maxRecDepth 20000 in
theorem gX8_facts_X8_mostOften : GoodIn wsX8_facts (wsV RX8 112 RX8 yX8_mostOften wsX8_mostOften) := goodIn_app (goodIn_of _ (by decide +kernel)) ggX8_facts_X8_mostOften
theorem dX8_facts_0 : decode cX8_facts 0 = .ok (.iload_n 1, 1) := by decide +kernel
theorem dX8_facts_1 : decode cX8_facts 1 = .ok (.tableswitch 80 0 6 #[43, 48, 53, 60, 65, 70, 75], 43) := by decide +kernel
theorem dX8_facts_44 : decode cX8_facts 44 = .ok (.aload_n 0, 1) := by decide +kernel
theorem dX8_facts_45 : decode cX8_facts 45 = .ok (.invokevirtual 81, 3) := by decide +kernel
theorem dX8_facts_48 : decode cX8_facts 48 = .ok (.ireturn, 1) := by decide +kernel
theorem dX8_facts_49 : decode cX8_facts 49 = .ok (.aload_n 0, 1) := by decide +kernel
theorem dX8_facts_50 : decode cX8_facts 50 = .ok (.invokevirtual 96, 3) := by decide +kernel
theorem dX8_facts_53 : decode cX8_facts 53 = .ok (.ireturn, 1) := by decide +kernel
theorem dX8_facts_54 : decode cX8_facts 54 = .ok (.aload_n 0, 1) := by decide +kernel
theorem dX8_facts_55 : decode cX8_facts 55 = .ok (.bipush (-6), 2) := by decide +kernel
theorem dX8_facts_57 : decode cX8_facts 57 = .ok (.invokevirtual 99, 3) := by decide +kernel
theorem dX8_facts_60 : decode cX8_facts 60 = .ok (.ireturn, 1) := by decide +kernel
theorem dX8_facts_61 : decode cX8_facts 61 = .ok (.aload_n 0, 1) := by decide +kernel
theorem dX8_facts_62 : decode cX8_facts 62 = .ok (.invokevirtual 103, 3) := by decide +kernel
theorem dX8_facts_65 : decode cX8_facts 65 = .ok (.ireturn, 1) := by decide +kernel
theorem dX8_facts_66 : decode cX8_facts 66 = .ok (.aload_n 0, 1) := by decide +kernel
theorem dX8_facts_67 : decode cX8_facts 67 = .ok (.invokevirtual 106, 3) := by decide +kernel
theorem dX8_facts_70 : decode cX8_facts 70 = .ok (.ireturn, 1) := by decide +kernel
theorem dX8_facts_71 : decode cX8_facts 71 = .ok (.aload_n 0, 1) := by decide +kernel
theorem dX8_facts_72 : decode cX8_facts 72 = .ok (.invokevirtual 109, 3) := by decide +kernel
theorem dX8_facts_75 : decode cX8_facts 75 = .ok (.ireturn, 1) := by decide +kernel
theorem dX8_facts_76 : decode cX8_facts 76 = .ok (.aload_n 0, 1) := by decide +kernel
theorem dX8_facts_77 : decode cX8_facts 77 = .ok (.invokevirtual 112, 3) := by decide +kernel
theorem dX8_facts_80 : decode cX8_facts 80 = .ok (.ireturn, 1) := by decide +kernel
theorem dX8_facts_81 : decode cX8_facts 81 = .ok (.bipush (-2), 2) := by decide +kernel
theorem dX8_facts_83 : decode cX8_facts 83 = .ok (.ireturn, 1) := by decide +kernel
theorem dX8_halved_0 : decode cX8_halved 0 = .ok (.iload_n 0, 1) := by decide +kernel
theorem dX8_halved_1 : decode cX8_halved 1 = .ok (.iload_n 0, 1) := by decide +kernel
theorem dX8_halved_2 : decode cX8_halved 2 = .ok (.iconst 1, 1) := by decide +kernel
theorem dX8_halved_3 : decode cX8_halved 3 = .ok (.iadd, 1) := by decide +kernel
theorem dX8_halved_4 : decode cX8_halved 4 = .ok (.imul, 1) := by decide +kernel
theorem dX8_halved_5 : decode cX8_halved 5 = .ok (.iconst 2, 1) := by decide +kernel
theorem dX8_halved_6 : decode cX8_halved 6 = .ok (.idiv, 1) := by decide +kernel
theorem dX8_halved_7 : decode cX8_halved 7 = .ok (.ireturn, 1) := by decide +kernel
theorem dX8_isNew_0 : decode cX8_isNew 0 = .ok (.iconst 1, 1) := by decide +kernel
theorem dX8_isNew_1 : decode cX8_isNew 1 = .ok (.istore_n 3, 1) := by decide +kernel
theorem dX8_isNew_2 : decode cX8_isNew 2 = .ok (.iconst 0, 1) := by decide +kernel
theorem dX8_isNew_3 : decode cX8_isNew 3 = .ok (.istore 4, 2) := by decide +kernel
theorem dX8_isNew_5 : decode cX8_isNew 5 = .ok (.iload 4, 2) := by decide +kernel
theorem dX8_isNew_7 : decode cX8_isNew 7 = .ok (.iload_n 1, 1) := by decide +kernel
theorem dX8_isNew_8 : decode cX8_isNew 8 = .ok (.if_icmp .ge 77, 3) := by decide +kernel
theorem dX8_isNew_11 : decode cX8_isNew 11 = .ok (.iconst 0, 1) := by decide +kernel
theorem dX8_isNew_12 : decode cX8_isNew 12 = .ok (.istore 5, 2) := by decide +kernel
theorem dX8_isNew_14 : decode cX8_isNew 14 = .ok (.iload 5, 2) := by decide +kernel
theorem dX8_isNew_16 : decode cX8_isNew 16 = .ok (.iload_n 1, 1) := by decide +kernel
theorem dX8_isNew_17 : decode cX8_isNew 17 = .ok (.if_icmp .ge 62, 3) := by decide +kernel
theorem dX8_isNew_20 : decode cX8_isNew 20 = .ok (.iconst 0, 1) := by decide +kernel
theorem dX8_isNew_21 : decode cX8_isNew 21 = .ok (.istore 6, 2) := by decide +kernel
theorem dX8_isNew_23 : decode cX8_isNew 23 = .ok (.iload 6, 2) := by decide +kernel
theorem dX8_isNew_25 : decode cX8_isNew 25 = .ok (.iload 5, 2) := by decide +kernel
theorem dX8_isNew_27 : decode cX8_isNew 27 = .ok (.if_icmp .ge 46, 3) := by decide +kernel
theorem dX8_isNew_30 : decode cX8_isNew 30 = .ok (.iload_n 3, 1) := by decide +kernel
theorem dX8_isNew_31 : decode cX8_isNew 31 = .ok (.ifCond .eq 34, 3) := by decide +kernel
theorem dX8_isNew_34 : decode cX8_isNew 34 = .ok (.aload_n 0, 1) := by decide +kernel
theorem dX8_isNew_35 : decode cX8_isNew 35 = .ok (.getfield 52, 3) := by decide +kernel
theorem dX8_isNew_38 : decode cX8_isNew 38 = .ok (.iload 5, 2) := by decide +kernel
theorem dX8_isNew_40 : decode cX8_isNew 40 = .ok (.iaload, 1) := by decide +kernel
theorem dX8_isNew_41 : decode cX8_isNew 41 = .ok (.aload_n 0, 1) := by decide +kernel
theorem dX8_isNew_42 : decode cX8_isNew 42 = .ok (.getfield 52, 3) := by decide +kernel
theorem dX8_isNew_45 : decode cX8_isNew 45 = .ok (.iload 6, 2) := by decide +kernel
theorem dX8_isNew_47 : decode cX8_isNew 47 = .ok (.iaload, 1) := by decide +kernel
theorem dX8_isNew_48 : decode cX8_isNew 48 = .ok (.isub, 1) := by decide +kernel
theorem dX8_isNew_49 : decode cX8_isNew 49 = .ok (.iload_n 2, 1) := by decide +kernel
theorem dX8_isNew_50 : decode cX8_isNew 50 = .ok (.aload_n 0, 1) := by decide +kernel
theorem dX8_isNew_51 : decode cX8_isNew 51 = .ok (.getfield 52, 3) := by decide +kernel
theorem dX8_isNew_54 : decode cX8_isNew 54 = .ok (.iload 4, 2) := by decide +kernel
theorem dX8_isNew_56 : decode cX8_isNew 56 = .ok (.iaload, 1) := by decide +kernel
theorem dX8_isNew_57 : decode cX8_isNew 57 = .ok (.isub, 1) := by decide +kernel
theorem dX8_isNew_58 : decode cX8_isNew 58 = .ok (.if_icmp .eq 7, 3) := by decide +kernel
theorem dX8_isNew_61 : decode cX8_isNew 61 = .ok (.iconst 1, 1) := by decide +kernel
theorem dX8_isNew_62 : decode cX8_isNew 62 = .ok (.goto 4, 3) := by decide +kernel
theorem dX8_isNew_65 : decode cX8_isNew 65 = .ok (.iconst 0, 1) := by decide +kernel
theorem dX8_isNew_66 : decode cX8_isNew 66 = .ok (.istore_n 3, 1) := by decide +kernel
theorem dX8_isNew_67 : decode cX8_isNew 67 = .ok (.iinc 6 1, 3) := by decide +kernel
theorem dX8_isNew_70 : decode cX8_isNew 70 = .ok (.goto (-47), 3) := by decide +kernel
theorem dX8_isNew_73 : decode cX8_isNew 73 = .ok (.iinc 5 1, 3) := by decide +kernel
theorem dX8_isNew_76 : decode cX8_isNew 76 = .ok (.goto (-62), 3) := by decide +kernel
theorem dX8_isNew_79 : decode cX8_isNew 79 = .ok (.iinc 4 1, 3) := by decide +kernel
theorem dX8_isNew_82 : decode cX8_isNew 82 = .ok (.goto (-77), 3) := by decide +kernel
theorem dX8_isNew_85 : decode cX8_isNew 85 = .ok (.iload_n 3, 1) := by decide +kernel
theorem dX8_isNew_86 : decode cX8_isNew 86 = .ok (.ireturn, 1) := by decide +kernel
set_option maxRecDepth 20000 in
theorem ggX8_searchRulers_X8_halved : GoodIn wsX8_searchRulers wsX8_halved := goodIn_r _ [7] (by decide +kernel) (by decide +kernel)
set_option maxRecDepth 20000 in
theorem gX8_searchRulers_X8_halved : GoodIn wsX8_searchRulers (va_wsS RX8 115 yX8_halved wsX8_halved) := goodIn_app (goodIn_of _ (by decide +kernel)) ggX8_searchRulers_X8_halved
set_option maxRecDepth 20000 in
theorem ggX8_searchRulers_X8_isNew : GoodIn wsX8_searchRulers wsX8_isNew := goodIn_r _ [11, 1, 18, 19, 20, 21, 22, 23, 24, 25, 26, 27, 28, 29, 30, 31, 32, 33, 34, 35, 36, 37, 38, 39, 40, 41, 42, 43, 44] (by decide +kernel) (by decide +kernel)
set_option maxRecDepth 20000 in
theorem gX8_searchRulers_X8_isNew : GoodIn wsX8_searchRulers (wsV RX8 118 RX8 yX8_isNew wsX8_isNew) := goodIn_app (goodIn_of _ (by decide +kernel)) ggX8_searchRulers_X8_isNew
set_option maxRecDepth 20000 in
theorem ggX8_searchRulers_X8_noteRuler : GoodIn wsX8_searchRulers wsX8_noteRuler := goodIn_r _ [15, 16, 17, 1, 18, 19, 20, 21, 22, 23, 24, 25, 26, 27, 28, 29, 30, 31, 32, 33, 34, 35, 36, 37, 38, 39, 40, 41, 42, 43, 44] (by decide +kernel) (by decide +kernel)
set_option maxRecDepth 20000 in
theorem gX8_searchRulers_X8_noteRuler : GoodIn wsX8_searchRulers (wsV RX8 122 RX8 yX8_noteRuler wsX8_noteRuler) := goodIn_app (goodIn_of _ (by decide +kernel)) ggX8_searchRulers_X8_noteRuler
theorem dX8_searchRulers_0 : decode cX8_searchRulers 0 = .ok (.iconst 1, 1) := by decide +kernel
theorem dX8_searchRulers_1 : decode cX8_searchRulers 1 = .ok (.istore_n 3, 1) := by decide +kernel
theorem dX8_searchRulers_2 : decode cX8_searchRulers 2 = .ok (.aload_n 0, 1) := by decide +kernel
theorem dX8_searchRulers_3 : decode cX8_searchRulers 3 = .ok (.getfield 52, 3) := by decide +kernel
theorem dX8_searchRulers_6 : decode cX8_searchRulers 6 = .ok (.iconst 0, 1) := by decide +kernel
theorem dX8_searchRulers_7 : decode cX8_searchRulers 7 = .ok (.iconst 0, 1) := by decide +kernel
theorem dX8_searchRulers_8 : decode cX8_searchRulers 8 = .ok (.iastore, 1) := by decide +kernel
theorem dX8_searchRulers_9 : decode cX8_searchRulers 9 = .ok (.aload_n 0, 1) := by decide +kernel
theorem dX8_searchRulers_10 : decode cX8_searchRulers 10 = .ok (.getfield 55, 3) := by decide +kernel
theorem dX8_searchRulers_13 : decode cX8_searchRulers 13 = .ok (.iconst 1, 1) := by decide +kernel
theorem dX8_searchRulers_14 : decode cX8_searchRulers 14 = .ok (.iconst 1, 1) := by decide +kernel
theorem dX8_searchRulers_15 : decode cX8_searchRulers 15 = .ok (.iastore, 1) := by decide +kernel
theorem dX8_searchRulers_16 : decode cX8_searchRulers 16 = .ok (.iload_n 3, 1) := by decide +kernel
theorem dX8_searchRulers_17 : decode cX8_searchRulers 17 = .ok (.ifCond .le 126, 3) := by decide +kernel
theorem dX8_searchRulers_20 : decode cX8_searchRulers 20 = .ok (.iload_n 1, 1) := by decide +kernel
theorem dX8_searchRulers_21 : decode cX8_searchRulers 21 = .ok (.iconst 1, 1) := by decide +kernel
theorem dX8_searchRulers_22 : decode cX8_searchRulers 22 = .ok (.isub, 1) := by decide +kernel
theorem dX8_searchRulers_23 : decode cX8_searchRulers 23 = .ok (.iload_n 3, 1) := by decide +kernel
theorem dX8_searchRulers_24 : decode cX8_searchRulers 24 = .ok (.isub, 1) := by decide +kernel
theorem dX8_searchRulers_25 : decode cX8_searchRulers 25 = .ok (.istore 4, 2) := by decide +kernel
theorem dX8_searchRulers_27 : decode cX8_searchRulers 27 = .ok (.iload_n 2, 1) := by decide +kernel
theorem dX8_searchRulers_28 : decode cX8_searchRulers 28 = .ok (.iload 4, 2) := by decide +kernel
theorem dX8_searchRulers_30 : decode cX8_searchRulers 30 = .ok (.invokestatic 115, 3) := by decide +kernel
theorem dX8_searchRulers_33 : decode cX8_searchRulers 33 = .ok (.isub, 1) := by decide +kernel
theorem dX8_searchRulers_34 : decode cX8_searchRulers 34 = .ok (.istore 5, 2) := by decide +kernel
theorem dX8_searchRulers_36 : decode cX8_searchRulers 36 = .ok (.iload 4, 2) := by decide +kernel
theorem dX8_searchRulers_38 : decode cX8_searchRulers 38 = .ok (.ifCond .ne 17, 3) := by decide +kernel
theorem dX8_searchRulers_41 : decode cX8_searchRulers 41 = .ok (.aload_n 0, 1) := by decide +kernel
theorem dX8_searchRulers_42 : decode cX8_searchRulers 42 = .ok (.getfield 55, 3) := by decide +kernel
theorem dX8_searchRulers_45 : decode cX8_searchRulers 45 = .ok (.iload_n 3, 1) := by decide +kernel
theorem dX8_searchRulers_46 : decode cX8_searchRulers 46 = .ok (.iaload, 1) := by decide +kernel
theorem dX8_searchRulers_47 : decode cX8_searchRulers 47 = .ok (.iload_n 2, 1) := by decide +kernel
theorem dX8_searchRulers_48 : decode cX8_searchRulers 48 = .ok (.if_icmp .ge 7, 3) := by decide +kernel
theorem dX8_searchRulers_51 : decode cX8_searchRulers 51 = .ok (.iload_n 2, 1) := by decide +kernel
theorem dX8_searchRulers_52 : decode cX8_searchRulers 52 = .ok (.goto 9, 3) := by decide +kernel
theorem dX8_searchRulers_55 : decode cX8_searchRulers 55 = .ok (.aload_n 0, 1) := by decide +kernel
theorem dX8_searchRulers_56 : decode cX8_searchRulers 56 = .ok (.getfield 55, 3) := by decide +kernel
theorem dX8_searchRulers_59 : decode cX8_searchRulers 59 = .ok (.iload_n 3, 1) := by decide +kernel
theorem dX8_searchRulers_60 : decode cX8_searchRulers 60 = .ok (.iaload, 1) := by decide +kernel
theorem dX8_searchRulers_61 : decode cX8_searchRulers 61 = .ok (.istore 6, 2) := by decide +kernel
theorem dX8_searchRulers_63 : decode cX8_searchRulers 63 = .ok (.iload 6, 2) := by decide +kernel
theorem dX8_searchRulers_65 : decode cX8_searchRulers 65 = .ok (.iload 5, 2) := by decide +kernel
theorem dX8_searchRulers_67 : decode cX8_searchRulers 67 = .ok (.if_icmp .le 9, 3) := by decide +kernel
theorem dX8_searchRulers_70 : decode cX8_searchRulers 70 = .ok (.iinc 3 (-1), 3) := by decide +kernel
theorem dX8_searchRulers_73 : decode cX8_searchRulers 73 = .ok (.goto 67, 3) := by decide +kernel
theorem dX8_searchRulers_76 : decode cX8_searchRulers 76 = .ok (.aload_n 0, 1) := by decide +kernel
theorem dX8_searchRulers_77 : decode cX8_searchRulers 77 = .ok (.getfield 55, 3) := by decide +kernel
theorem dX8_searchRulers_80 : decode cX8_searchRulers 80 = .ok (.iload_n 3, 1) := by decide +kernel
theorem dX8_searchRulers_81 : decode cX8_searchRulers 81 = .ok (.iload 6, 2) := by decide +kernel
theorem dX8_searchRulers_83 : decode cX8_searchRulers 83 = .ok (.iconst 1, 1) := by decide +kernel
theorem dX8_searchRulers_84 : decode cX8_searchRulers 84 = .ok (.iadd, 1) := by decide +kernel
theorem dX8_searchRulers_85 : decode cX8_searchRulers 85 = .ok (.iastore, 1) := by decide +kernel
theorem dX8_searchRulers_86 : decode cX8_searchRulers 86 = .ok (.aload_n 0, 1) := by decide +kernel
theorem dX8_searchRulers_87 : decode cX8_searchRulers 87 = .ok (.getfield 34, 3) := by decide +kernel
theorem dX8_searchRulers_90 : decode cX8_searchRulers 90 = .ok (.iload_n 1, 1) := by decide +kernel
theorem dX8_searchRulers_91 : decode cX8_searchRulers 91 = .ok (.dup2, 1) := by decide +kernel
theorem dX8_searchRulers_92 : decode cX8_searchRulers 92 = .ok (.iaload, 1) := by decide +kernel
theorem dX8_searchRulers_93 : decode cX8_searchRulers 93 = .ok (.iconst 1, 1) := by decide +kernel
theorem dX8_searchRulers_94 : decode cX8_searchRulers 94 = .ok (.iadd, 1) := by decide +kernel
theorem dX8_searchRulers_95 : decode cX8_searchRulers 95 = .ok (.iastore, 1) := by decide +kernel
theorem dX8_searchRulers_96 : decode cX8_searchRulers 96 = .ok (.aload_n 0, 1) := by decide +kernel
theorem dX8_searchRulers_97 : decode cX8_searchRulers 97 = .ok (.iload_n 3, 1) := by decide +kernel
theorem dX8_searchRulers_98 : decode cX8_searchRulers 98 = .ok (.iload 6, 2) := by decide +kernel
theorem dX8_searchRulers_100 : decode cX8_searchRulers 100 = .ok (.invokevirtual 118, 3) := by decide +kernel
theorem dX8_searchRulers_103 : decode cX8_searchRulers 103 = .ok (.ifCond .eq 37, 3) := by decide +kernel
theorem dX8_searchRulers_106 : decode cX8_searchRulers 106 = .ok (.aload_n 0, 1) := by decide +kernel
theorem dX8_searchRulers_107 : decode cX8_searchRulers 107 = .ok (.getfield 52, 3) := by decide +kernel
theorem dX8_searchRulers_110 : decode cX8_searchRulers 110 = .ok (.iload_n 3, 1) := by decide +kernel
theorem dX8_searchRulers_111 : decode cX8_searchRulers 111 = .ok (.iload 6, 2) := by decide +kernel
theorem dX8_searchRulers_113 : decode cX8_searchRulers 113 = .ok (.iastore, 1) := by decide +kernel
theorem dX8_searchRulers_114 : decode cX8_searchRulers 114 = .ok (.iload 4, 2) := by decide +kernel
theorem dX8_searchRulers_116 : decode cX8_searchRulers 116 = .ok (.ifCond .ne 11, 3) := by decide +kernel
theorem dX8_searchRulers_119 : decode cX8_searchRulers 119 = .ok (.aload_n 0, 1) := by decide +kernel
theorem dX8_searchRulers_120 : decode cX8_searchRulers 120 = .ok (.iload_n 1, 1) := by decide +kernel
theorem dX8_searchRulers_121 : decode cX8_searchRulers 121 = .ok (.invokevirtual 122, 3) := by decide +kernel
theorem dX8_searchRulers_124 : decode cX8_searchRulers 124 = .ok (.goto 16, 3) := by decide +kernel
theorem dX8_searchRulers_127 : decode cX8_searchRulers 127 = .ok (.iinc 3 1, 3) := by decide +kernel
theorem dX8_searchRulers_130 : decode cX8_searchRulers 130 = .ok (.aload_n 0, 1) := by decide +kernel
theorem dX8_searchRulers_131 : decode cX8_searchRulers 131 = .ok (.getfield 55, 3) := by decide +kernel
theorem dX8_searchRulers_134 : decode cX8_searchRulers 134 = .ok (.iload_n 3, 1) := by decide +kernel
theorem dX8_searchRulers_135 : decode cX8_searchRulers 135 = .ok (.iload 6, 2) := by decide +kernel
theorem dX8_searchRulers_137 : decode cX8_searchRulers 137 = .ok (.iconst 1, 1) := by decide +kernel
theorem dX8_searchRulers_138 : decode cX8_searchRulers 138 = .ok (.iadd, 1) := by decide +kernel
theorem dX8_searchRulers_139 : decode cX8_searchRulers 139 = .ok (.iastore, 1) := by decide +kernel
theorem dX8_searchRulers_140 : decode cX8_searchRulers 140 = .ok (.goto (-124), 3) := by decide +kernel
theorem dX8_searchRulers_143 : decode cX8_searchRulers 143 = .ok (.return_, 1) := by decide +kernel
theorem dX8_noteRuler_0 : decode cX8_noteRuler 0 = .ok (.iconst 0, 1) := by decide +kernel
theorem dX8_noteRuler_1 : decode cX8_noteRuler 1 = .ok (.istore_n 2, 1) := by decide +kernel
theorem dX8_noteRuler_2 : decode cX8_noteRuler 2 = .ok (.iload_n 2, 1) := by decide +kernel
theorem dX8_noteRuler_3 : decode cX8_noteRuler 3 = .ok (.iload_n 1, 1) := by decide +kernel
theorem dX8_noteRuler_4 : decode cX8_noteRuler 4 = .ok (.if_icmp .ge 35, 3) := by decide +kernel
theorem dX8_noteRuler_7 : decode cX8_noteRuler 7 = .ok (.aload_n 0, 1) := by decide +kernel
theorem dX8_noteRuler_8 : decode cX8_noteRuler 8 = .ok (.getfield 31, 3) := by decide +kernel
theorem dX8_noteRuler_11 : decode cX8_noteRuler 11 = .ok (.iload_n 1, 1) := by decide +kernel
theorem dX8_noteRuler_12 : decode cX8_noteRuler 12 = .ok (.iaload, 1) := by decide +kernel
theorem dX8_noteRuler_13 : decode cX8_noteRuler 13 = .ok (.ifCond .ne 26, 3) := by decide +kernel
theorem dX8_noteRuler_16 : decode cX8_noteRuler 16 = .ok (.aload_n 0, 1) := by decide +kernel
theorem dX8_noteRuler_17 : decode cX8_noteRuler 17 = .ok (.getfield 37, 3) := by decide +kernel
theorem dX8_noteRuler_20 : decode cX8_noteRuler 20 = .ok (.bipush 12, 2) := by decide +kernel
theorem dX8_noteRuler_22 : decode cX8_noteRuler 22 = .ok (.iload_n 1, 1) := by decide +kernel
theorem dX8_noteRuler_23 : decode cX8_noteRuler 23 = .ok (.imul, 1) := by decide +kernel
theorem dX8_noteRuler_24 : decode cX8_noteRuler 24 = .ok (.iload_n 2, 1) := by decide +kernel
theorem dX8_noteRuler_25 : decode cX8_noteRuler 25 = .ok (.iadd, 1) := by decide +kernel
theorem dX8_noteRuler_26 : decode cX8_noteRuler 26 = .ok (.aload_n 0, 1) := by decide +kernel
theorem dX8_noteRuler_27 : decode cX8_noteRuler 27 = .ok (.getfield 52, 3) := by decide +kernel
theorem dX8_noteRuler_30 : decode cX8_noteRuler 30 = .ok (.iload_n 2, 1) := by decide +kernel
theorem dX8_noteRuler_31 : decode cX8_noteRuler 31 = .ok (.iaload, 1) := by decide +kernel
theorem dX8_noteRuler_32 : decode cX8_noteRuler 32 = .ok (.iastore, 1) := by decide +kernel
theorem dX8_noteRuler_33 : decode cX8_noteRuler 33 = .ok (.iinc 2 1, 3) := by decide +kernel
theorem dX8_noteRuler_36 : decode cX8_noteRuler 36 = .ok (.goto (-34), 3) := by decide +kernel
theorem dX8_noteRuler_39 : decode cX8_noteRuler 39 = .ok (.aload_n 0, 1) := by decide +kernel
theorem dX8_noteRuler_40 : decode cX8_noteRuler 40 = .ok (.getfield 31, 3) := by decide +kernel
theorem dX8_noteRuler_43 : decode cX8_noteRuler 43 = .ok (.iload_n 1, 1) := by decide +kernel
theorem dX8_noteRuler_44 : decode cX8_noteRuler 44 = .ok (.dup2, 1) := by decide +kernel
theorem dX8_noteRuler_45 : decode cX8_noteRuler 45 = .ok (.iaload, 1) := by decide +kernel
theorem dX8_noteRuler_46 : decode cX8_noteRuler 46 = .ok (.iconst 1, 1) := by decide +kernel
theorem dX8_noteRuler_47 : decode cX8_noteRuler 47 = .ok (.iadd, 1) := by decide +kernel
theorem dX8_noteRuler_48 : decode cX8_noteRuler 48 = .ok (.iastore, 1) := by decide +kernel
theorem dX8_noteRuler_49 : decode cX8_noteRuler 49 = .ok (.return_, 1) := by decide +kernel
set_option maxRecDepth 20000 in
theorem ggX8_findRulers_X8_halved : GoodIn wsX8_findRulers wsX8_halved := goodIn_r _ [10] (by decide +kernel) (by decide +kernel)
set_option maxRecDepth 20000 in
theorem gX8_findRulers_X8_halved : GoodIn wsX8_findRulers (va_wsS RX8 115 yX8_halved wsX8_halved) := goodIn_app (goodIn_of _ (by decide +kernel)) ggX8_findRulers_X8_halved
set_option maxRecDepth 20000 in
theorem ggX8_findRulers_X8_searchRulers : GoodIn wsX8_findRulers wsX8_searchRulers := goodIn_r _ [14, 15, 16, 6, 7, 8, 9, 10, 17, 18, 19, 20, 21, 22, 23, 24, 3, 25, 26, 27, 28, 29, 30, 31, 32, 33, 34, 35, 36, 37, 38, 39, 40, 41, 42, 43, 44, 45, 46, 47, 48, 49, 50, 51, 52] (by decide +kernel) (by decide +kernel)
set_option maxRecDepth 20000 in
theorem gX8_findRulers_X8_searchRulers : GoodIn wsX8_findRulers (wsV RX8 132 RX8 yX8_searchRulers wsX8_searchRulers) := goodIn_app (goodIn_of _ (by decide +kernel)) ggX8_findRulers_X8_searchRulers
theorem dX8_findRulers_0 : decode cX8_findRulers 0 = .ok (.aload_n 0, 1) := by decide +kernel
theorem dX8_findRulers_1 : decode cX8_findRulers 1 = .ok (.getfield 126, 3) := by decide +kernel
theorem dX8_findRulers_4 : decode cX8_findRulers 4 = .ok (.iload_n 1, 1) := by decide +kernel
theorem dX8_findRulers_5 : decode cX8_findRulers 5 = .ok (.ishr, 1) := by decide +kernel
theorem dX8_findRulers_6 : decode cX8_findRulers 6 = .ok (.iconst 1, 1) := by decide +kernel
theorem dX8_findRulers_7 : decode cX8_findRulers 7 = .ok (.iand, 1) := by decide +kernel
theorem dX8_findRulers_8 : decode cX8_findRulers 8 = .ok (.iconst 1, 1) := by decide +kernel
theorem dX8_findRulers_9 : decode cX8_findRulers 9 = .ok (.if_icmp .ne 4, 3) := by decide +kernel
theorem dX8_findRulers_12 : decode cX8_findRulers 12 = .ok (.return_, 1) := by decide +kernel
theorem dX8_findRulers_13 : decode cX8_findRulers 13 = .ok (.aload_n 0, 1) := by decide +kernel
theorem dX8_findRulers_14 : decode cX8_findRulers 14 = .ok (.dup, 1) := by decide +kernel
theorem dX8_findRulers_15 : decode cX8_findRulers 15 = .ok (.getfield 126, 3) := by decide +kernel
theorem dX8_findRulers_18 : decode cX8_findRulers 18 = .ok (.iconst 1, 1) := by decide +kernel
theorem dX8_findRulers_19 : decode cX8_findRulers 19 = .ok (.iload_n 1, 1) := by decide +kernel
theorem dX8_findRulers_20 : decode cX8_findRulers 20 = .ok (.ishl, 1) := by decide +kernel
theorem dX8_findRulers_21 : decode cX8_findRulers 21 = .ok (.ior, 1) := by decide +kernel
theorem dX8_findRulers_22 : decode cX8_findRulers 22 = .ok (.putfield 126, 3) := by decide +kernel
theorem dX8_findRulers_25 : decode cX8_findRulers 25 = .ok (.aload_n 0, 1) := by decide +kernel
theorem dX8_findRulers_26 : decode cX8_findRulers 26 = .ok (.dup, 1) := by decide +kernel
theorem dX8_findRulers_27 : decode cX8_findRulers 27 = .ok (.getfield 129, 3) := by decide +kernel
theorem dX8_findRulers_30 : decode cX8_findRulers 30 = .ok (.iconst 1, 1) := by decide +kernel
theorem dX8_findRulers_31 : decode cX8_findRulers 31 = .ok (.iadd, 1) := by decide +kernel
theorem dX8_findRulers_32 : decode cX8_findRulers 32 = .ok (.putfield 129, 3) := by decide +kernel
theorem dX8_findRulers_35 : decode cX8_findRulers 35 = .ok (.iload_n 1, 1) := by decide +kernel
theorem dX8_findRulers_36 : decode cX8_findRulers 36 = .ok (.iconst 1, 1) := by decide +kernel
theorem dX8_findRulers_37 : decode cX8_findRulers 37 = .ok (.isub, 1) := by decide +kernel
theorem dX8_findRulers_38 : decode cX8_findRulers 38 = .ok (.invokestatic 115, 3) := by decide +kernel
theorem dX8_findRulers_41 : decode cX8_findRulers 41 = .ok (.iconst 1, 1) := by decide +kernel
theorem dX8_findRulers_42 : decode cX8_findRulers 42 = .ok (.isub, 1) := by decide +kernel
theorem dX8_findRulers_43 : decode cX8_findRulers 43 = .ok (.istore_n 2, 1) := by decide +kernel
theorem dX8_findRulers_44 : decode cX8_findRulers 44 = .ok (.aload_n 0, 1) := by decide +kernel
theorem dX8_findRulers_45 : decode cX8_findRulers 45 = .ok (.getfield 31, 3) := by decide +kernel
theorem dX8_findRulers_48 : decode cX8_findRulers 48 = .ok (.iload_n 1, 1) := by decide +kernel
theorem dX8_findRulers_49 : decode cX8_findRulers 49 = .ok (.iaload, 1) := by decide +kernel
theorem dX8_findRulers_50 : decode cX8_findRulers 50 = .ok (.ifCond .ne 15, 3) := by decide +kernel
theorem dX8_findRulers_53 : decode cX8_findRulers 53 = .ok (.iinc 2 1, 3) := by decide +kernel
theorem dX8_findRulers_56 : decode cX8_findRulers 56 = .ok (.aload_n 0, 1) := by decide +kernel
theorem dX8_findRulers_57 : decode cX8_findRulers 57 = .ok (.iload_n 1, 1) := by decide +kernel
theorem dX8_findRulers_58 : decode cX8_findRulers 58 = .ok (.iload_n 2, 1) := by decide +kernel
theorem dX8_findRulers_59 : decode cX8_findRulers 59 = .ok (.invokevirtual 132, 3) := by decide +kernel
theorem dX8_findRulers_62 : decode cX8_findRulers 62 = .ok (.goto (-18), 3) := by decide +kernel
theorem dX8_findRulers_65 : decode cX8_findRulers 65 = .ok (.aload_n 0, 1) := by decide +kernel
theorem dX8_findRulers_66 : decode cX8_findRulers 66 = .ok (.getfield 28, 3) := by decide +kernel
theorem dX8_findRulers_69 : decode cX8_findRulers 69 = .ok (.iload_n 1, 1) := by decide +kernel
theorem dX8_findRulers_70 : decode cX8_findRulers 70 = .ok (.iload_n 2, 1) := by decide +kernel
theorem dX8_findRulers_71 : decode cX8_findRulers 71 = .ok (.iastore, 1) := by decide +kernel
theorem dX8_findRulers_72 : decode cX8_findRulers 72 = .ok (.aload_n 0, 1) := by decide +kernel
theorem dX8_findRulers_73 : decode cX8_findRulers 73 = .ok (.dup, 1) := by decide +kernel
theorem dX8_findRulers_74 : decode cX8_findRulers 74 = .ok (.getfield 136, 3) := by decide +kernel
theorem dX8_findRulers_77 : decode cX8_findRulers 77 = .ok (.aload_n 0, 1) := by decide +kernel
theorem dX8_findRulers_78 : decode cX8_findRulers 78 = .ok (.getfield 34, 3) := by decide +kernel
theorem dX8_findRulers_81 : decode cX8_findRulers 81 = .ok (.iload_n 1, 1) := by decide +kernel
theorem dX8_findRulers_82 : decode cX8_findRulers 82 = .ok (.iaload, 1) := by decide +kernel
theorem dX8_findRulers_83 : decode cX8_findRulers 83 = .ok (.iadd, 1) := by decide +kernel
theorem dX8_findRulers_84 : decode cX8_findRulers 84 = .ok (.putfield 136, 3) := by decide +kernel
theorem dX8_findRulers_87 : decode cX8_findRulers 87 = .ok (.return_, 1) := by decide +kernel
set_option maxRecDepth 20000 in
theorem ggX8_isWhat_X8_in : GoodIn wsX8_isWhat wsX8_in := goodIn_r _ [5] (by decide +kernel) (by decide +kernel)
set_option maxRecDepth 20000 in
theorem gX8_isWhat_X8_in : GoodIn wsX8_isWhat (va_wsS RX8 67 yX8_in wsX8_in) := goodIn_app (goodIn_of _ (by decide +kernel)) ggX8_isWhat_X8_in
theorem dX8_isWhat_0 : decode cX8_isWhat 0 = .ok (.iload_n 0, 1) := by decide +kernel
theorem dX8_isWhat_1 : decode cX8_isWhat 1 = .ok (.i2l, 1) := by decide +kernel
theorem dX8_isWhat_2 : decode cX8_isWhat 2 = .ok (.lconst 0, 1) := by decide +kernel
theorem dX8_isWhat_3 : decode cX8_isWhat 3 = .ok (.ldc2_w 139, 3) := by decide +kernel
theorem dX8_isWhat_6 : decode cX8_isWhat 6 = .ok (.invokestatic 67, 3) := by decide +kernel
theorem dX8_isWhat_9 : decode cX8_isWhat 9 = .ok (.ifCond .ne 9, 3) := by decide +kernel
theorem dX8_isWhat_12 : decode cX8_isWhat 12 = .ok (.iload_n 0, 1) := by decide +kernel
theorem dX8_isWhat_13 : decode cX8_isWhat 13 = .ok (.bipush 10, 2) := by decide +kernel
theorem dX8_isWhat_15 : decode cX8_isWhat 15 = .ok (.if_icmp .lt 7, 3) := by decide +kernel
theorem dX8_isWhat_18 : decode cX8_isWhat 18 = .ok (.iconst 1, 1) := by decide +kernel
theorem dX8_isWhat_19 : decode cX8_isWhat 19 = .ok (.goto 4, 3) := by decide +kernel
theorem dX8_isWhat_22 : decode cX8_isWhat 22 = .ok (.iconst 0, 1) := by decide +kernel
theorem dX8_isWhat_23 : decode cX8_isWhat 23 = .ok (.ireturn, 1) := by decide +kernel
set_option maxRecDepth 20000 in
theorem ggX8_ruler_X8_in : GoodIn wsX8_ruler wsX8_in := goodIn_r _ [10] (by decide +kernel) (by decide +kernel)
set_option maxRecDepth 20000 in
theorem gX8_ruler_X8_in : GoodIn wsX8_ruler (va_wsS RX8 67 yX8_in wsX8_in) := goodIn_app (goodIn_of _ (by decide +kernel)) ggX8_ruler_X8_in
set_option maxRecDepth 20000 in
theorem ggX8_ruler_X8_isWhat : GoodIn wsX8_ruler wsX8_isWhat := goodIn_r _ [13, 1, 7, 8, 9, 10] (by decide +kernel) (by decide +kernel)
set_option maxRecDepth 20000 in
theorem gX8_ruler_X8_isWhat : GoodIn wsX8_ruler (va_wsS RX8 143 yX8_isWhat wsX8_isWhat) := goodIn_app (goodIn_of _ (by decide +kernel)) ggX8_ruler_X8_isWhat
set_option maxRecDepth 20000 in
theorem ggX8_ruler_X8_findRulers : GoodIn wsX8_ruler wsX8_findRulers := goodIn_r _ [17, 18, 19, 5, 4, 20, 6, 21, 22, 9, 23, 24, 25, 26, 27, 28, 29, 30, 31, 32, 33, 34, 35, 36, 37, 3, 38, 39, 40, 41, 42, 43, 44, 45, 46, 47, 48, 49, 50, 51, 52, 53, 54, 55, 56, 57, 58, 59, 60, 61, 62, 63, 64] (by decide +kernel) (by decide +kernel)
set_option maxRecDepth 20000 in
theorem gX8_ruler_X8_findRulers : GoodIn wsX8_ruler (wsV RX8 146 RX8 yX8_findRulers wsX8_findRulers) := goodIn_app (goodIn_of _ (by decide +kernel)) ggX8_ruler_X8_findRulers
theorem dX8_ruler_0 : decode cX8_ruler 0 = .ok (.iload_n 1, 1) := by decide +kernel
theorem dX8_ruler_1 : decode cX8_ruler 1 = .ok (.i2l, 1) := by decide +kernel
theorem dX8_ruler_2 : decode cX8_ruler 2 = .ok (.ldc2_w 139, 3) := by decide +kernel
theorem dX8_ruler_5 : decode cX8_ruler 5 = .ok (.ldc2_w 141, 3) := by decide +kernel
theorem dX8_ruler_8 : decode cX8_ruler 8 = .ok (.invokestatic 67, 3) := by decide +kernel
theorem dX8_ruler_11 : decode cX8_ruler 11 = .ok (.ifCond .eq 10, 3) := by decide +kernel
theorem dX8_ruler_14 : decode cX8_ruler 14 = .ok (.iload_n 2, 1) := by decide +kernel
theorem dX8_ruler_15 : decode cX8_ruler 15 = .ok (.invokestatic 143, 3) := by decide +kernel
theorem dX8_ruler_18 : decode cX8_ruler 18 = .ok (.ifCond .ne 6, 3) := by decide +kernel
theorem dX8_ruler_21 : decode cX8_ruler 21 = .ok (.bipush (-2), 2) := by decide +kernel
theorem dX8_ruler_23 : decode cX8_ruler 23 = .ok (.ireturn, 1) := by decide +kernel
theorem dX8_ruler_24 : decode cX8_ruler 24 = .ok (.aload_n 0, 1) := by decide +kernel
theorem dX8_ruler_25 : decode cX8_ruler 25 = .ok (.iload_n 1, 1) := by decide +kernel
theorem dX8_ruler_26 : decode cX8_ruler 26 = .ok (.invokevirtual 146, 3) := by decide +kernel
theorem dX8_ruler_29 : decode cX8_ruler 29 = .ok (.iload_n 2, 1) := by decide +kernel
theorem dX8_ruler_30 : decode cX8_ruler 30 = .ok (.bipush 10, 2) := by decide +kernel
theorem dX8_ruler_32 : decode cX8_ruler 32 = .ok (.if_icmp .lt 31, 3) := by decide +kernel
theorem dX8_ruler_35 : decode cX8_ruler 35 = .ok (.iload_n 2, 1) := by decide +kernel
theorem dX8_ruler_36 : decode cX8_ruler 36 = .ok (.bipush 10, 2) := by decide +kernel
theorem dX8_ruler_38 : decode cX8_ruler 38 = .ok (.isub, 1) := by decide +kernel
theorem dX8_ruler_39 : decode cX8_ruler 39 = .ok (.iload_n 1, 1) := by decide +kernel
theorem dX8_ruler_40 : decode cX8_ruler 40 = .ok (.if_icmp .ge 20, 3) := by decide +kernel
theorem dX8_ruler_43 : decode cX8_ruler 43 = .ok (.aload_n 0, 1) := by decide +kernel
theorem dX8_ruler_44 : decode cX8_ruler 44 = .ok (.getfield 37, 3) := by decide +kernel
theorem dX8_ruler_47 : decode cX8_ruler 47 = .ok (.bipush 12, 2) := by decide +kernel
theorem dX8_ruler_49 : decode cX8_ruler 49 = .ok (.iload_n 1, 1) := by decide +kernel
theorem dX8_ruler_50 : decode cX8_ruler 50 = .ok (.imul, 1) := by decide +kernel
theorem dX8_ruler_51 : decode cX8_ruler 51 = .ok (.iload_n 2, 1) := by decide +kernel
theorem dX8_ruler_52 : decode cX8_ruler 52 = .ok (.iadd, 1) := by decide +kernel
theorem dX8_ruler_53 : decode cX8_ruler 53 = .ok (.bipush 10, 2) := by decide +kernel
theorem dX8_ruler_55 : decode cX8_ruler 55 = .ok (.isub, 1) := by decide +kernel
theorem dX8_ruler_56 : decode cX8_ruler 56 = .ok (.iaload, 1) := by decide +kernel
theorem dX8_ruler_57 : decode cX8_ruler 57 = .ok (.goto 5, 3) := by decide +kernel
theorem dX8_ruler_60 : decode cX8_ruler 60 = .ok (.bipush (-6), 2) := by decide +kernel
theorem dX8_ruler_62 : decode cX8_ruler 62 = .ok (.ireturn, 1) := by decide +kernel
theorem dX8_ruler_63 : decode cX8_ruler 63 = .ok (.iload_n 2, 1) := by decide +kernel
theorem dX8_ruler_64 : decode cX8_ruler 64 = .ok (.ifCond .ne 12, 3) := by decide +kernel
theorem dX8_ruler_67 : decode cX8_ruler 67 = .ok (.aload_n 0, 1) := by decide +kernel
theorem dX8_ruler_68 : decode cX8_ruler 68 = .ok (.getfield 28, 3) := by decide +kernel
theorem dX8_ruler_71 : decode cX8_ruler 71 = .ok (.iload_n 1, 1) := by decide +kernel
theorem dX8_ruler_72 : decode cX8_ruler 72 = .ok (.iaload, 1) := by decide +kernel
theorem dX8_ruler_73 : decode cX8_ruler 73 = .ok (.goto 23, 3) := by decide +kernel
theorem dX8_ruler_76 : decode cX8_ruler 76 = .ok (.iload_n 2, 1) := by decide +kernel
theorem dX8_ruler_77 : decode cX8_ruler 77 = .ok (.iconst 1, 1) := by decide +kernel
theorem dX8_ruler_78 : decode cX8_ruler 78 = .ok (.if_icmp .ne 12, 3) := by decide +kernel
theorem dX8_ruler_81 : decode cX8_ruler 81 = .ok (.aload_n 0, 1) := by decide +kernel
theorem dX8_ruler_82 : decode cX8_ruler 82 = .ok (.getfield 31, 3) := by decide +kernel
theorem dX8_ruler_85 : decode cX8_ruler 85 = .ok (.iload_n 1, 1) := by decide +kernel
theorem dX8_ruler_86 : decode cX8_ruler 86 = .ok (.iaload, 1) := by decide +kernel
theorem dX8_ruler_87 : decode cX8_ruler 87 = .ok (.goto 9, 3) := by decide +kernel
theorem dX8_ruler_90 : decode cX8_ruler 90 = .ok (.aload_n 0, 1) := by decide +kernel
theorem dX8_ruler_91 : decode cX8_ruler 91 = .ok (.getfield 34, 3) := by decide +kernel
theorem dX8_ruler_94 : decode cX8_ruler 94 = .ok (.iload_n 1, 1) := by decide +kernel
theorem dX8_ruler_95 : decode cX8_ruler 95 = .ok (.iaload, 1) := by decide +kernel
theorem dX8_ruler_96 : decode cX8_ruler 96 = .ok (.ireturn, 1) := by decide +kernel
theorem dX8_lacking_0 : decode cX8_lacking 0 = .ok (.iconst 0, 1) := by decide +kernel
theorem dX8_lacking_1 : decode cX8_lacking 1 = .ok (.istore_n 3, 1) := by decide +kernel
theorem dX8_lacking_2 : decode cX8_lacking 2 = .ok (.iconst 1, 1) := by decide +kernel
theorem dX8_lacking_3 : decode cX8_lacking 3 = .ok (.istore 4, 2) := by decide +kernel
theorem dX8_lacking_5 : decode cX8_lacking 5 = .ok (.iload 4, 2) := by decide +kernel
theorem dX8_lacking_7 : decode cX8_lacking 7 = .ok (.iload_n 1, 1) := by decide +kernel
theorem dX8_lacking_8 : decode cX8_lacking 8 = .ok (.if_icmp .gt 87, 3) := by decide +kernel
theorem dX8_lacking_11 : decode cX8_lacking 11 = .ok (.iconst 0, 1) := by decide +kernel
theorem dX8_lacking_12 : decode cX8_lacking 12 = .ok (.istore 5, 2) := by decide +kernel
theorem dX8_lacking_14 : decode cX8_lacking 14 = .ok (.iconst 0, 1) := by decide +kernel
theorem dX8_lacking_15 : decode cX8_lacking 15 = .ok (.istore 6, 2) := by decide +kernel
theorem dX8_lacking_17 : decode cX8_lacking 17 = .ok (.iload 6, 2) := by decide +kernel
theorem dX8_lacking_19 : decode cX8_lacking 19 = .ok (.iload_n 2, 1) := by decide +kernel
theorem dX8_lacking_20 : decode cX8_lacking 20 = .ok (.if_icmp .ge 56, 3) := by decide +kernel
theorem dX8_lacking_23 : decode cX8_lacking 23 = .ok (.iconst 0, 1) := by decide +kernel
theorem dX8_lacking_24 : decode cX8_lacking 24 = .ok (.istore 7, 2) := by decide +kernel
theorem dX8_lacking_26 : decode cX8_lacking 26 = .ok (.iload 7, 2) := by decide +kernel
theorem dX8_lacking_28 : decode cX8_lacking 28 = .ok (.iload_n 2, 1) := by decide +kernel
theorem dX8_lacking_29 : decode cX8_lacking 29 = .ok (.if_icmp .ge 41, 3) := by decide +kernel
theorem dX8_lacking_32 : decode cX8_lacking 32 = .ok (.iload 5, 2) := by decide +kernel
theorem dX8_lacking_34 : decode cX8_lacking 34 = .ok (.ifCond .ne 23, 3) := by decide +kernel
theorem dX8_lacking_37 : decode cX8_lacking 37 = .ok (.aload_n 0, 1) := by decide +kernel
theorem dX8_lacking_38 : decode cX8_lacking 38 = .ok (.getfield 52, 3) := by decide +kernel
theorem dX8_lacking_41 : decode cX8_lacking 41 = .ok (.iload 6, 2) := by decide +kernel
theorem dX8_lacking_43 : decode cX8_lacking 43 = .ok (.iaload, 1) := by decide +kernel
theorem dX8_lacking_44 : decode cX8_lacking 44 = .ok (.aload_n 0, 1) := by decide +kernel
theorem dX8_lacking_45 : decode cX8_lacking 45 = .ok (.getfield 52, 3) := by decide +kernel
theorem dX8_lacking_48 : decode cX8_lacking 48 = .ok (.iload 7, 2) := by decide +kernel
theorem dX8_lacking_50 : decode cX8_lacking 50 = .ok (.iaload, 1) := by decide +kernel
theorem dX8_lacking_51 : decode cX8_lacking 51 = .ok (.isub, 1) := by decide +kernel
theorem dX8_lacking_52 : decode cX8_lacking 52 = .ok (.iload 4, 2) := by decide +kernel
theorem dX8_lacking_54 : decode cX8_lacking 54 = .ok (.if_icmp .ne 7, 3) := by decide +kernel
theorem dX8_lacking_57 : decode cX8_lacking 57 = .ok (.iconst 1, 1) := by decide +kernel
theorem dX8_lacking_58 : decode cX8_lacking 58 = .ok (.goto 4, 3) := by decide +kernel
theorem dX8_lacking_61 : decode cX8_lacking 61 = .ok (.iconst 0, 1) := by decide +kernel
theorem dX8_lacking_62 : decode cX8_lacking 62 = .ok (.istore 5, 2) := by decide +kernel
theorem dX8_lacking_64 : decode cX8_lacking 64 = .ok (.iinc 7 1, 3) := by decide +kernel
theorem dX8_lacking_67 : decode cX8_lacking 67 = .ok (.goto (-41), 3) := by decide +kernel
theorem dX8_lacking_70 : decode cX8_lacking 70 = .ok (.iinc 6 1, 3) := by decide +kernel
theorem dX8_lacking_73 : decode cX8_lacking 73 = .ok (.goto (-56), 3) := by decide +kernel
theorem dX8_lacking_76 : decode cX8_lacking 76 = .ok (.iload_n 3, 1) := by decide +kernel
theorem dX8_lacking_77 : decode cX8_lacking 77 = .ok (.iload 5, 2) := by decide +kernel
theorem dX8_lacking_79 : decode cX8_lacking 79 = .ok (.ifCond .eq 7, 3) := by decide +kernel
theorem dX8_lacking_82 : decode cX8_lacking 82 = .ok (.iconst 0, 1) := by decide +kernel
theorem dX8_lacking_83 : decode cX8_lacking 83 = .ok (.goto 4, 3) := by decide +kernel
theorem dX8_lacking_86 : decode cX8_lacking 86 = .ok (.iconst 1, 1) := by decide +kernel
theorem dX8_lacking_87 : decode cX8_lacking 87 = .ok (.iadd, 1) := by decide +kernel
theorem dX8_lacking_88 : decode cX8_lacking 88 = .ok (.istore_n 3, 1) := by decide +kernel
theorem dX8_lacking_89 : decode cX8_lacking 89 = .ok (.iinc 4 1, 3) := by decide +kernel
theorem dX8_lacking_92 : decode cX8_lacking 92 = .ok (.goto (-87), 3) := by decide +kernel
theorem dX8_lacking_95 : decode cX8_lacking 95 = .ok (.iload_n 3, 1) := by decide +kernel
theorem dX8_lacking_96 : decode cX8_lacking 96 = .ok (.ireturn, 1) := by decide +kernel
theorem dX8_noteCover_0 : decode cX8_noteCover 0 = .ok (.iconst 0, 1) := by decide +kernel
theorem dX8_noteCover_1 : decode cX8_noteCover 1 = .ok (.istore_n 3, 1) := by decide +kernel
theorem dX8_noteCover_2 : decode cX8_noteCover 2 = .ok (.iload_n 3, 1) := by decide +kernel
theorem dX8_noteCover_3 : decode cX8_noteCover 3 = .ok (.iload_n 2, 1) := by decide +kernel
theorem dX8_noteCover_4 : decode cX8_noteCover 4 = .ok (.if_icmp .ge 56, 3) := by decide +kernel
theorem dX8_noteCover_7 : decode cX8_noteCover 7 = .ok (.aload_n 0, 1) := by decide +kernel
theorem dX8_noteCover_8 : decode cX8_noteCover 8 = .ok (.getfield 43, 3) := by decide +kernel
theorem dX8_noteCover_11 : decode cX8_noteCover 11 = .ok (.iload_n 1, 1) := by decide +kernel
theorem dX8_noteCover_12 : decode cX8_noteCover 12 = .ok (.iaload, 1) := by decide +kernel
theorem dX8_noteCover_13 : decode cX8_noteCover 13 = .ok (.ifCond .ne 47, 3) := by decide +kernel
theorem dX8_noteCover_16 : decode cX8_noteCover 16 = .ok (.aload_n 0, 1) := by decide +kernel
theorem dX8_noteCover_17 : decode cX8_noteCover 17 = .ok (.getfield 49, 3) := by decide +kernel
theorem dX8_noteCover_20 : decode cX8_noteCover 20 = .ok (.bipush 12, 2) := by decide +kernel
theorem dX8_noteCover_22 : decode cX8_noteCover 22 = .ok (.iload_n 1, 1) := by decide +kernel
theorem dX8_noteCover_23 : decode cX8_noteCover 23 = .ok (.imul, 1) := by decide +kernel
theorem dX8_noteCover_24 : decode cX8_noteCover 24 = .ok (.iload_n 3, 1) := by decide +kernel
theorem dX8_noteCover_25 : decode cX8_noteCover 25 = .ok (.iadd, 1) := by decide +kernel
theorem dX8_noteCover_26 : decode cX8_noteCover 26 = .ok (.iload_n 3, 1) := by decide +kernel
theorem dX8_noteCover_27 : decode cX8_noteCover 27 = .ok (.ifCond .ne 7, 3) := by decide +kernel
theorem dX8_noteCover_30 : decode cX8_noteCover 30 = .ok (.iconst 0, 1) := by decide +kernel
theorem dX8_noteCover_31 : decode cX8_noteCover 31 = .ok (.goto 22, 3) := by decide +kernel
theorem dX8_noteCover_34 : decode cX8_noteCover 34 = .ok (.iload_n 3, 1) := by decide +kernel
theorem dX8_noteCover_35 : decode cX8_noteCover 35 = .ok (.iload_n 2, 1) := by decide +kernel
theorem dX8_noteCover_36 : decode cX8_noteCover 36 = .ok (.iconst 1, 1) := by decide +kernel
theorem dX8_noteCover_37 : decode cX8_noteCover 37 = .ok (.isub, 1) := by decide +kernel
theorem dX8_noteCover_38 : decode cX8_noteCover 38 = .ok (.if_icmp .ne 7, 3) := by decide +kernel
theorem dX8_noteCover_41 : decode cX8_noteCover 41 = .ok (.iload_n 1, 1) := by decide +kernel
theorem dX8_noteCover_42 : decode cX8_noteCover 42 = .ok (.goto 11, 3) := by decide +kernel
theorem dX8_noteCover_45 : decode cX8_noteCover 45 = .ok (.aload_n 0, 1) := by decide +kernel
theorem dX8_noteCover_46 : decode cX8_noteCover 46 = .ok (.getfield 52, 3) := by decide +kernel
theorem dX8_noteCover_49 : decode cX8_noteCover 49 = .ok (.iload_n 3, 1) := by decide +kernel
theorem dX8_noteCover_50 : decode cX8_noteCover 50 = .ok (.iconst 1, 1) := by decide +kernel
theorem dX8_noteCover_51 : decode cX8_noteCover 51 = .ok (.iadd, 1) := by decide +kernel
theorem dX8_noteCover_52 : decode cX8_noteCover 52 = .ok (.iaload, 1) := by decide +kernel
theorem dX8_noteCover_53 : decode cX8_noteCover 53 = .ok (.iastore, 1) := by decide +kernel
theorem dX8_noteCover_54 : decode cX8_noteCover 54 = .ok (.iinc 3 1, 3) := by decide +kernel
theorem dX8_noteCover_57 : decode cX8_noteCover 57 = .ok (.goto (-55), 3) := by decide +kernel
theorem dX8_noteCover_60 : decode cX8_noteCover 60 = .ok (.aload_n 0, 1) := by decide +kernel
theorem dX8_noteCover_61 : decode cX8_noteCover 61 = .ok (.getfield 43, 3) := by decide +kernel
theorem dX8_noteCover_64 : decode cX8_noteCover 64 = .ok (.iload_n 1, 1) := by decide +kernel
theorem dX8_noteCover_65 : decode cX8_noteCover 65 = .ok (.dup2, 1) := by decide +kernel
theorem dX8_noteCover_66 : decode cX8_noteCover 66 = .ok (.iaload, 1) := by decide +kernel
theorem dX8_noteCover_67 : decode cX8_noteCover 67 = .ok (.iconst 1, 1) := by decide +kernel
theorem dX8_noteCover_68 : decode cX8_noteCover 68 = .ok (.iadd, 1) := by decide +kernel
theorem dX8_noteCover_69 : decode cX8_noteCover 69 = .ok (.iastore, 1) := by decide +kernel
theorem dX8_noteCover_70 : decode cX8_noteCover 70 = .ok (.return_, 1) := by decide +kernel
set_option maxRecDepth 20000 in
theorem ggX8_searchCovers_X8_lacking : GoodIn wsX8_searchCovers wsX8_lacking := goodIn_r _ [8, 1, 15, 16, 17, 18, 19, 20, 21, 22, 23, 24, 25, 26, 27, 28, 29, 30, 31, 32, 33, 34, 35, 36, 37, 38, 39, 40, 41] (by decide +kernel) (by decide +kernel)
set_option maxRecDepth 20000 in
theorem gX8_searchCovers_X8_lacking : GoodIn wsX8_searchCovers (wsV RX8 149 RX8 yX8_lacking wsX8_lacking) := goodIn_app (goodIn_of _ (by decide +kernel)) ggX8_searchCovers_X8_lacking
set_option maxRecDepth 20000 in
theorem ggX8_searchCovers_X8_noteCover : GoodIn wsX8_searchCovers wsX8_noteCover := goodIn_r _ [12, 13, 14, 1, 15, 16, 17, 18, 19, 20, 21, 22, 23, 24, 25, 26, 27, 28, 29, 30, 31, 32, 33, 34, 35, 36, 37, 38, 39, 40, 41] (by decide +kernel) (by decide +kernel)
set_option maxRecDepth 20000 in
theorem gX8_searchCovers_X8_noteCover : GoodIn wsX8_searchCovers (wsV RX8 152 RX8 yX8_noteCover wsX8_noteCover) := goodIn_app (goodIn_of _ (by decide +kernel)) ggX8_searchCovers_X8_noteCover
theorem dX8_searchCovers_0 : decode cX8_searchCovers 0 = .ok (.aload_n 0, 1) := by decide +kernel
theorem dX8_searchCovers_1 : decode cX8_searchCovers 1 = .ok (.getfield 52, 3) := by decide +kernel
theorem dX8_searchCovers_4 : decode cX8_searchCovers 4 = .ok (.iconst 0, 1) := by decide +kernel
theorem dX8_searchCovers_5 : decode cX8_searchCovers 5 = .ok (.iconst 0, 1) := by decide +kernel
theorem dX8_searchCovers_6 : decode cX8_searchCovers 6 = .ok (.iastore, 1) := by decide +kernel
theorem dX8_searchCovers_7 : decode cX8_searchCovers 7 = .ok (.aload_n 0, 1) := by decide +kernel
theorem dX8_searchCovers_8 : decode cX8_searchCovers 8 = .ok (.getfield 52, 3) := by decide +kernel
theorem dX8_searchCovers_11 : decode cX8_searchCovers 11 = .ok (.iconst 1, 1) := by decide +kernel
theorem dX8_searchCovers_12 : decode cX8_searchCovers 12 = .ok (.iload_n 1, 1) := by decide +kernel
theorem dX8_searchCovers_13 : decode cX8_searchCovers 13 = .ok (.iastore, 1) := by decide +kernel
theorem dX8_searchCovers_14 : decode cX8_searchCovers 14 = .ok (.iload_n 2, 1) := by decide +kernel
theorem dX8_searchCovers_15 : decode cX8_searchCovers 15 = .ok (.iconst 2, 1) := by decide +kernel
theorem dX8_searchCovers_16 : decode cX8_searchCovers 16 = .ok (.if_icmp .ne 18, 3) := by decide +kernel
theorem dX8_searchCovers_19 : decode cX8_searchCovers 19 = .ok (.aload_n 0, 1) := by decide +kernel
theorem dX8_searchCovers_20 : decode cX8_searchCovers 20 = .ok (.iload_n 1, 1) := by decide +kernel
theorem dX8_searchCovers_21 : decode cX8_searchCovers 21 = .ok (.iconst 2, 1) := by decide +kernel
theorem dX8_searchCovers_22 : decode cX8_searchCovers 22 = .ok (.invokevirtual 149, 3) := by decide +kernel
theorem dX8_searchCovers_25 : decode cX8_searchCovers 25 = .ok (.ifCond .ne 9, 3) := by decide +kernel
theorem dX8_searchCovers_28 : decode cX8_searchCovers 28 = .ok (.aload_n 0, 1) := by decide +kernel
theorem dX8_searchCovers_29 : decode cX8_searchCovers 29 = .ok (.iload_n 1, 1) := by decide +kernel
theorem dX8_searchCovers_30 : decode cX8_searchCovers 30 = .ok (.iconst 2, 1) := by decide +kernel
theorem dX8_searchCovers_31 : decode cX8_searchCovers 31 = .ok (.invokevirtual 152, 3) := by decide +kernel
theorem dX8_searchCovers_34 : decode cX8_searchCovers 34 = .ok (.iload_n 2, 1) := by decide +kernel
theorem dX8_searchCovers_35 : decode cX8_searchCovers 35 = .ok (.iconst 2, 1) := by decide +kernel
theorem dX8_searchCovers_36 : decode cX8_searchCovers 36 = .ok (.if_icmp .ne 7, 3) := by decide +kernel
theorem dX8_searchCovers_39 : decode cX8_searchCovers 39 = .ok (.iconst 1, 1) := by decide +kernel
theorem dX8_searchCovers_40 : decode cX8_searchCovers 40 = .ok (.goto 4, 3) := by decide +kernel
theorem dX8_searchCovers_43 : decode cX8_searchCovers 43 = .ok (.iconst 2, 1) := by decide +kernel
theorem dX8_searchCovers_44 : decode cX8_searchCovers 44 = .ok (.istore_n 3, 1) := by decide +kernel
theorem dX8_searchCovers_45 : decode cX8_searchCovers 45 = .ok (.aload_n 0, 1) := by decide +kernel
theorem dX8_searchCovers_46 : decode cX8_searchCovers 46 = .ok (.getfield 55, 3) := by decide +kernel
theorem dX8_searchCovers_49 : decode cX8_searchCovers 49 = .ok (.iconst 2, 1) := by decide +kernel
theorem dX8_searchCovers_50 : decode cX8_searchCovers 50 = .ok (.iconst 1, 1) := by decide +kernel
theorem dX8_searchCovers_51 : decode cX8_searchCovers 51 = .ok (.iastore, 1) := by decide +kernel
theorem dX8_searchCovers_52 : decode cX8_searchCovers 52 = .ok (.iload_n 3, 1) := by decide +kernel
theorem dX8_searchCovers_53 : decode cX8_searchCovers 53 = .ok (.iconst 1, 1) := by decide +kernel
theorem dX8_searchCovers_54 : decode cX8_searchCovers 54 = .ok (.if_icmp .le 117, 3) := by decide +kernel
theorem dX8_searchCovers_57 : decode cX8_searchCovers 57 = .ok (.aload_n 0, 1) := by decide +kernel
theorem dX8_searchCovers_58 : decode cX8_searchCovers 58 = .ok (.getfield 55, 3) := by decide +kernel
theorem dX8_searchCovers_61 : decode cX8_searchCovers 61 = .ok (.iload_n 3, 1) := by decide +kernel
theorem dX8_searchCovers_62 : decode cX8_searchCovers 62 = .ok (.iaload, 1) := by decide +kernel
theorem dX8_searchCovers_63 : decode cX8_searchCovers 63 = .ok (.istore 4, 2) := by decide +kernel
theorem dX8_searchCovers_65 : decode cX8_searchCovers 65 = .ok (.iload 4, 2) := by decide +kernel
theorem dX8_searchCovers_67 : decode cX8_searchCovers 67 = .ok (.iload_n 1, 1) := by decide +kernel
theorem dX8_searchCovers_68 : decode cX8_searchCovers 68 = .ok (.if_icmp .lt 9, 3) := by decide +kernel
theorem dX8_searchCovers_71 : decode cX8_searchCovers 71 = .ok (.iinc 3 (-1), 3) := by decide +kernel
theorem dX8_searchCovers_74 : decode cX8_searchCovers 74 = .ok (.goto 94, 3) := by decide +kernel
theorem dX8_searchCovers_77 : decode cX8_searchCovers 77 = .ok (.aload_n 0, 1) := by decide +kernel
theorem dX8_searchCovers_78 : decode cX8_searchCovers 78 = .ok (.getfield 55, 3) := by decide +kernel
theorem dX8_searchCovers_81 : decode cX8_searchCovers 81 = .ok (.iload_n 3, 1) := by decide +kernel
theorem dX8_searchCovers_82 : decode cX8_searchCovers 82 = .ok (.iload 4, 2) := by decide +kernel
theorem dX8_searchCovers_84 : decode cX8_searchCovers 84 = .ok (.iconst 1, 1) := by decide +kernel
theorem dX8_searchCovers_85 : decode cX8_searchCovers 85 = .ok (.iadd, 1) := by decide +kernel
theorem dX8_searchCovers_86 : decode cX8_searchCovers 86 = .ok (.iastore, 1) := by decide +kernel
theorem dX8_searchCovers_87 : decode cX8_searchCovers 87 = .ok (.aload_n 0, 1) := by decide +kernel
theorem dX8_searchCovers_88 : decode cX8_searchCovers 88 = .ok (.getfield 46, 3) := by decide +kernel
theorem dX8_searchCovers_91 : decode cX8_searchCovers 91 = .ok (.iload_n 1, 1) := by decide +kernel
theorem dX8_searchCovers_92 : decode cX8_searchCovers 92 = .ok (.dup2, 1) := by decide +kernel
theorem dX8_searchCovers_93 : decode cX8_searchCovers 93 = .ok (.iaload, 1) := by decide +kernel
theorem dX8_searchCovers_94 : decode cX8_searchCovers 94 = .ok (.iconst 1, 1) := by decide +kernel
theorem dX8_searchCovers_95 : decode cX8_searchCovers 95 = .ok (.iadd, 1) := by decide +kernel
theorem dX8_searchCovers_96 : decode cX8_searchCovers 96 = .ok (.iastore, 1) := by decide +kernel
theorem dX8_searchCovers_97 : decode cX8_searchCovers 97 = .ok (.aload_n 0, 1) := by decide +kernel
theorem dX8_searchCovers_98 : decode cX8_searchCovers 98 = .ok (.getfield 52, 3) := by decide +kernel
theorem dX8_searchCovers_101 : decode cX8_searchCovers 101 = .ok (.iload_n 3, 1) := by decide +kernel
theorem dX8_searchCovers_102 : decode cX8_searchCovers 102 = .ok (.iload 4, 2) := by decide +kernel
theorem dX8_searchCovers_104 : decode cX8_searchCovers 104 = .ok (.iastore, 1) := by decide +kernel
theorem dX8_searchCovers_105 : decode cX8_searchCovers 105 = .ok (.iload_n 3, 1) := by decide +kernel
theorem dX8_searchCovers_106 : decode cX8_searchCovers 106 = .ok (.iconst 1, 1) := by decide +kernel
theorem dX8_searchCovers_107 : decode cX8_searchCovers 107 = .ok (.iadd, 1) := by decide +kernel
theorem dX8_searchCovers_108 : decode cX8_searchCovers 108 = .ok (.istore 5, 2) := by decide +kernel
theorem dX8_searchCovers_110 : decode cX8_searchCovers 110 = .ok (.iload_n 2, 1) := by decide +kernel
theorem dX8_searchCovers_111 : decode cX8_searchCovers 111 = .ok (.iload 5, 2) := by decide +kernel
theorem dX8_searchCovers_113 : decode cX8_searchCovers 113 = .ok (.isub, 1) := by decide +kernel
theorem dX8_searchCovers_114 : decode cX8_searchCovers 114 = .ok (.istore 6, 2) := by decide +kernel
theorem dX8_searchCovers_116 : decode cX8_searchCovers 116 = .ok (.aload_n 0, 1) := by decide +kernel
theorem dX8_searchCovers_117 : decode cX8_searchCovers 117 = .ok (.iload_n 1, 1) := by decide +kernel
theorem dX8_searchCovers_118 : decode cX8_searchCovers 118 = .ok (.iload 5, 2) := by decide +kernel
theorem dX8_searchCovers_120 : decode cX8_searchCovers 120 = .ok (.invokevirtual 149, 3) := by decide +kernel
theorem dX8_searchCovers_123 : decode cX8_searchCovers 123 = .ok (.iload 6, 2) := by decide +kernel
theorem dX8_searchCovers_125 : decode cX8_searchCovers 125 = .ok (.iload 5, 2) := by decide +kernel
theorem dX8_searchCovers_127 : decode cX8_searchCovers 127 = .ok (.imul, 1) := by decide +kernel
theorem dX8_searchCovers_128 : decode cX8_searchCovers 128 = .ok (.iload 6, 2) := by decide +kernel
theorem dX8_searchCovers_130 : decode cX8_searchCovers 130 = .ok (.iload 6, 2) := by decide +kernel
theorem dX8_searchCovers_132 : decode cX8_searchCovers 132 = .ok (.iconst 1, 1) := by decide +kernel
theorem dX8_searchCovers_133 : decode cX8_searchCovers 133 = .ok (.isub, 1) := by decide +kernel
theorem dX8_searchCovers_134 : decode cX8_searchCovers 134 = .ok (.imul, 1) := by decide +kernel
theorem dX8_searchCovers_135 : decode cX8_searchCovers 135 = .ok (.iconst 2, 1) := by decide +kernel
theorem dX8_searchCovers_136 : decode cX8_searchCovers 136 = .ok (.idiv, 1) := by decide +kernel
theorem dX8_searchCovers_137 : decode cX8_searchCovers 137 = .ok (.iadd, 1) := by decide +kernel
theorem dX8_searchCovers_138 : decode cX8_searchCovers 138 = .ok (.if_icmp .gt 30, 3) := by decide +kernel
theorem dX8_searchCovers_141 : decode cX8_searchCovers 141 = .ok (.iload 6, 2) := by decide +kernel
theorem dX8_searchCovers_143 : decode cX8_searchCovers 143 = .ok (.ifCond .ne 12, 3) := by decide +kernel
theorem dX8_searchCovers_146 : decode cX8_searchCovers 146 = .ok (.aload_n 0, 1) := by decide +kernel
theorem dX8_searchCovers_147 : decode cX8_searchCovers 147 = .ok (.iload_n 1, 1) := by decide +kernel
theorem dX8_searchCovers_148 : decode cX8_searchCovers 148 = .ok (.iload_n 2, 1) := by decide +kernel
theorem dX8_searchCovers_149 : decode cX8_searchCovers 149 = .ok (.invokevirtual 152, 3) := by decide +kernel
theorem dX8_searchCovers_152 : decode cX8_searchCovers 152 = .ok (.goto 16, 3) := by decide +kernel
theorem dX8_searchCovers_155 : decode cX8_searchCovers 155 = .ok (.iinc 3 1, 3) := by decide +kernel
theorem dX8_searchCovers_158 : decode cX8_searchCovers 158 = .ok (.aload_n 0, 1) := by decide +kernel
theorem dX8_searchCovers_159 : decode cX8_searchCovers 159 = .ok (.getfield 55, 3) := by decide +kernel
theorem dX8_searchCovers_162 : decode cX8_searchCovers 162 = .ok (.iload_n 3, 1) := by decide +kernel
theorem dX8_searchCovers_163 : decode cX8_searchCovers 163 = .ok (.iload 4, 2) := by decide +kernel
theorem dX8_searchCovers_165 : decode cX8_searchCovers 165 = .ok (.iconst 1, 1) := by decide +kernel
theorem dX8_searchCovers_166 : decode cX8_searchCovers 166 = .ok (.iadd, 1) := by decide +kernel
theorem dX8_searchCovers_167 : decode cX8_searchCovers 167 = .ok (.iastore, 1) := by decide +kernel
theorem dX8_searchCovers_168 : decode cX8_searchCovers 168 = .ok (.goto (-116), 3) := by decide +kernel
theorem dX8_searchCovers_171 : decode cX8_searchCovers 171 = .ok (.return_, 1) := by decide +kernel
set_option maxRecDepth 20000 in
theorem ggX8_findCovers_X8_halved : GoodIn wsX8_findCovers wsX8_halved := goodIn_r _ [10] (by decide +kernel) (by decide +kernel)
set_option maxRecDepth 20000 in
theorem gX8_findCovers_X8_halved : GoodIn wsX8_findCovers (va_wsS RX8 115 yX8_halved wsX8_halved) := goodIn_app (goodIn_of _ (by decide +kernel)) ggX8_findCovers_X8_halved
set_option maxRecDepth 20000 in
theorem ggX8_findCovers_X8_searchCovers : GoodIn wsX8_findCovers wsX8_searchCovers := goodIn_r _ [14, 15, 16, 6, 17, 18, 19, 9, 20, 21, 22, 23, 24, 3, 25, 26, 27, 28, 29, 30, 31, 32, 33, 34, 35, 36, 37, 38, 39, 40, 41, 42, 43, 44, 45, 46, 47, 48, 49, 50, 51, 52] (by decide +kernel) (by decide +kernel)
set_option maxRecDepth 20000 in
theorem gX8_findCovers_X8_searchCovers : GoodIn wsX8_findCovers (wsV RX8 158 RX8 yX8_searchCovers wsX8_searchCovers) := goodIn_app (goodIn_of _ (by decide +kernel)) ggX8_findCovers_X8_searchCovers
theorem dX8_findCovers_0 : decode cX8_findCovers 0 = .ok (.aload_n 0, 1) := by decide +kernel
theorem dX8_findCovers_1 : decode cX8_findCovers 1 = .ok (.getfield 155, 3) := by decide +kernel
theorem dX8_findCovers_4 : decode cX8_findCovers 4 = .ok (.iload_n 1, 1) := by decide +kernel
theorem dX8_findCovers_5 : decode cX8_findCovers 5 = .ok (.ishr, 1) := by decide +kernel
theorem dX8_findCovers_6 : decode cX8_findCovers 6 = .ok (.iconst 1, 1) := by decide +kernel
theorem dX8_findCovers_7 : decode cX8_findCovers 7 = .ok (.iand, 1) := by decide +kernel
theorem dX8_findCovers_8 : decode cX8_findCovers 8 = .ok (.iconst 1, 1) := by decide +kernel
theorem dX8_findCovers_9 : decode cX8_findCovers 9 = .ok (.if_icmp .ne 4, 3) := by decide +kernel
theorem dX8_findCovers_12 : decode cX8_findCovers 12 = .ok (.return_, 1) := by decide +kernel
theorem dX8_findCovers_13 : decode cX8_findCovers 13 = .ok (.aload_n 0, 1) := by decide +kernel
theorem dX8_findCovers_14 : decode cX8_findCovers 14 = .ok (.dup, 1) := by decide +kernel
theorem dX8_findCovers_15 : decode cX8_findCovers 15 = .ok (.getfield 155, 3) := by decide +kernel
theorem dX8_findCovers_18 : decode cX8_findCovers 18 = .ok (.iconst 1, 1) := by decide +kernel
theorem dX8_findCovers_19 : decode cX8_findCovers 19 = .ok (.iload_n 1, 1) := by decide +kernel
theorem dX8_findCovers_20 : decode cX8_findCovers 20 = .ok (.ishl, 1) := by decide +kernel
theorem dX8_findCovers_21 : decode cX8_findCovers 21 = .ok (.ior, 1) := by decide +kernel
theorem dX8_findCovers_22 : decode cX8_findCovers 22 = .ok (.putfield 155, 3) := by decide +kernel
theorem dX8_findCovers_25 : decode cX8_findCovers 25 = .ok (.aload_n 0, 1) := by decide +kernel
theorem dX8_findCovers_26 : decode cX8_findCovers 26 = .ok (.dup, 1) := by decide +kernel
theorem dX8_findCovers_27 : decode cX8_findCovers 27 = .ok (.getfield 129, 3) := by decide +kernel
theorem dX8_findCovers_30 : decode cX8_findCovers 30 = .ok (.iconst 1, 1) := by decide +kernel
theorem dX8_findCovers_31 : decode cX8_findCovers 31 = .ok (.iadd, 1) := by decide +kernel
theorem dX8_findCovers_32 : decode cX8_findCovers 32 = .ok (.putfield 129, 3) := by decide +kernel
theorem dX8_findCovers_35 : decode cX8_findCovers 35 = .ok (.iconst 2, 1) := by decide +kernel
theorem dX8_findCovers_36 : decode cX8_findCovers 36 = .ok (.istore_n 2, 1) := by decide +kernel
theorem dX8_findCovers_37 : decode cX8_findCovers 37 = .ok (.iload_n 2, 1) := by decide +kernel
theorem dX8_findCovers_38 : decode cX8_findCovers 38 = .ok (.iconst 1, 1) := by decide +kernel
theorem dX8_findCovers_39 : decode cX8_findCovers 39 = .ok (.isub, 1) := by decide +kernel
theorem dX8_findCovers_40 : decode cX8_findCovers 40 = .ok (.invokestatic 115, 3) := by decide +kernel
theorem dX8_findCovers_43 : decode cX8_findCovers 43 = .ok (.iload_n 1, 1) := by decide +kernel
theorem dX8_findCovers_44 : decode cX8_findCovers 44 = .ok (.if_icmp .ge 9, 3) := by decide +kernel
theorem dX8_findCovers_47 : decode cX8_findCovers 47 = .ok (.iinc 2 1, 3) := by decide +kernel
theorem dX8_findCovers_50 : decode cX8_findCovers 50 = .ok (.goto (-13), 3) := by decide +kernel
theorem dX8_findCovers_53 : decode cX8_findCovers 53 = .ok (.iinc 2 (-1), 3) := by decide +kernel
theorem dX8_findCovers_56 : decode cX8_findCovers 56 = .ok (.aload_n 0, 1) := by decide +kernel
theorem dX8_findCovers_57 : decode cX8_findCovers 57 = .ok (.getfield 43, 3) := by decide +kernel
theorem dX8_findCovers_60 : decode cX8_findCovers 60 = .ok (.iload_n 1, 1) := by decide +kernel
theorem dX8_findCovers_61 : decode cX8_findCovers 61 = .ok (.iaload, 1) := by decide +kernel
theorem dX8_findCovers_62 : decode cX8_findCovers 62 = .ok (.ifCond .ne 15, 3) := by decide +kernel
theorem dX8_findCovers_65 : decode cX8_findCovers 65 = .ok (.iinc 2 1, 3) := by decide +kernel
theorem dX8_findCovers_68 : decode cX8_findCovers 68 = .ok (.aload_n 0, 1) := by decide +kernel
theorem dX8_findCovers_69 : decode cX8_findCovers 69 = .ok (.iload_n 1, 1) := by decide +kernel
theorem dX8_findCovers_70 : decode cX8_findCovers 70 = .ok (.iload_n 2, 1) := by decide +kernel
theorem dX8_findCovers_71 : decode cX8_findCovers 71 = .ok (.invokevirtual 158, 3) := by decide +kernel
theorem dX8_findCovers_74 : decode cX8_findCovers 74 = .ok (.goto (-18), 3) := by decide +kernel
theorem dX8_findCovers_77 : decode cX8_findCovers 77 = .ok (.aload_n 0, 1) := by decide +kernel
theorem dX8_findCovers_78 : decode cX8_findCovers 78 = .ok (.getfield 40, 3) := by decide +kernel
theorem dX8_findCovers_81 : decode cX8_findCovers 81 = .ok (.iload_n 1, 1) := by decide +kernel
theorem dX8_findCovers_82 : decode cX8_findCovers 82 = .ok (.iload_n 2, 1) := by decide +kernel
theorem dX8_findCovers_83 : decode cX8_findCovers 83 = .ok (.iastore, 1) := by decide +kernel
theorem dX8_findCovers_84 : decode cX8_findCovers 84 = .ok (.aload_n 0, 1) := by decide +kernel
theorem dX8_findCovers_85 : decode cX8_findCovers 85 = .ok (.dup, 1) := by decide +kernel
theorem dX8_findCovers_86 : decode cX8_findCovers 86 = .ok (.getfield 136, 3) := by decide +kernel
theorem dX8_findCovers_89 : decode cX8_findCovers 89 = .ok (.aload_n 0, 1) := by decide +kernel
theorem dX8_findCovers_90 : decode cX8_findCovers 90 = .ok (.getfield 46, 3) := by decide +kernel
theorem dX8_findCovers_93 : decode cX8_findCovers 93 = .ok (.iload_n 1, 1) := by decide +kernel
theorem dX8_findCovers_94 : decode cX8_findCovers 94 = .ok (.iaload, 1) := by decide +kernel
theorem dX8_findCovers_95 : decode cX8_findCovers 95 = .ok (.iadd, 1) := by decide +kernel
theorem dX8_findCovers_96 : decode cX8_findCovers 96 = .ok (.putfield 136, 3) := by decide +kernel
theorem dX8_findCovers_99 : decode cX8_findCovers 99 = .ok (.return_, 1) := by decide +kernel
set_option maxRecDepth 20000 in
theorem ggX8_cover_X8_in : GoodIn wsX8_cover wsX8_in := goodIn_r _ [9] (by decide +kernel) (by decide +kernel)
set_option maxRecDepth 20000 in
theorem gX8_cover_X8_in : GoodIn wsX8_cover (va_wsS RX8 67 yX8_in wsX8_in) := goodIn_app (goodIn_of _ (by decide +kernel)) ggX8_cover_X8_in
set_option maxRecDepth 20000 in
theorem ggX8_cover_X8_isWhat : GoodIn wsX8_cover wsX8_isWhat := goodIn_r _ [12, 13, 6, 7, 8, 9] (by decide +kernel) (by decide +kernel)
set_option maxRecDepth 20000 in
theorem gX8_cover_X8_isWhat : GoodIn wsX8_cover (va_wsS RX8 143 yX8_isWhat wsX8_isWhat) := goodIn_app (goodIn_of _ (by decide +kernel)) ggX8_cover_X8_isWhat
set_option maxRecDepth 20000 in
theorem ggX8_cover_X8_findCovers : GoodIn wsX8_cover wsX8_findCovers := goodIn_r _ [17, 18, 19, 4, 2, 20, 5, 21, 22, 8, 23, 24, 25, 26, 27, 28, 29, 30, 31, 32, 33, 34, 35, 36, 37, 3, 38, 39, 40, 41, 42, 43, 44, 45, 46, 47, 48, 49, 50, 51, 52, 53, 54, 55, 56, 57, 58, 59, 60, 61, 62, 63, 64] (by decide +kernel) (by decide +kernel)
set_option maxRecDepth 20000 in
theorem gX8_cover_X8_findCovers : GoodIn wsX8_cover (wsV RX8 163 RX8 yX8_findCovers wsX8_findCovers) := goodIn_app (goodIn_of _ (by decide +kernel)) ggX8_cover_X8_findCovers
theorem dX8_cover_0 : decode cX8_cover 0 = .ok (.iload_n 1, 1) := by decide +kernel
theorem dX8_cover_1 : decode cX8_cover 1 = .ok (.i2l, 1) := by decide +kernel
theorem dX8_cover_2 : decode cX8_cover 2 = .ok (.lconst 1, 1) := by decide +kernel
theorem dX8_cover_3 : decode cX8_cover 3 = .ok (.ldc2_w 161, 3) := by decide +kernel
theorem dX8_cover_6 : decode cX8_cover 6 = .ok (.invokestatic 67, 3) := by decide +kernel
theorem dX8_cover_9 : decode cX8_cover 9 = .ok (.ifCond .eq 10, 3) := by decide +kernel
theorem dX8_cover_12 : decode cX8_cover 12 = .ok (.iload_n 2, 1) := by decide +kernel
theorem dX8_cover_13 : decode cX8_cover 13 = .ok (.invokestatic 143, 3) := by decide +kernel
theorem dX8_cover_16 : decode cX8_cover 16 = .ok (.ifCond .ne 6, 3) := by decide +kernel
theorem dX8_cover_19 : decode cX8_cover 19 = .ok (.bipush (-2), 2) := by decide +kernel
theorem dX8_cover_21 : decode cX8_cover 21 = .ok (.ireturn, 1) := by decide +kernel
theorem dX8_cover_22 : decode cX8_cover 22 = .ok (.aload_n 0, 1) := by decide +kernel
theorem dX8_cover_23 : decode cX8_cover 23 = .ok (.iload_n 1, 1) := by decide +kernel
theorem dX8_cover_24 : decode cX8_cover 24 = .ok (.invokevirtual 163, 3) := by decide +kernel
theorem dX8_cover_27 : decode cX8_cover 27 = .ok (.iload_n 2, 1) := by decide +kernel
theorem dX8_cover_28 : decode cX8_cover 28 = .ok (.bipush 10, 2) := by decide +kernel
theorem dX8_cover_30 : decode cX8_cover 30 = .ok (.if_icmp .lt 36, 3) := by decide +kernel
theorem dX8_cover_33 : decode cX8_cover 33 = .ok (.iload_n 2, 1) := by decide +kernel
theorem dX8_cover_34 : decode cX8_cover 34 = .ok (.bipush 10, 2) := by decide +kernel
theorem dX8_cover_36 : decode cX8_cover 36 = .ok (.isub, 1) := by decide +kernel
theorem dX8_cover_37 : decode cX8_cover 37 = .ok (.aload_n 0, 1) := by decide +kernel
theorem dX8_cover_38 : decode cX8_cover 38 = .ok (.getfield 40, 3) := by decide +kernel
theorem dX8_cover_41 : decode cX8_cover 41 = .ok (.iload_n 1, 1) := by decide +kernel
theorem dX8_cover_42 : decode cX8_cover 42 = .ok (.iaload, 1) := by decide +kernel
theorem dX8_cover_43 : decode cX8_cover 43 = .ok (.if_icmp .ge 20, 3) := by decide +kernel
theorem dX8_cover_46 : decode cX8_cover 46 = .ok (.aload_n 0, 1) := by decide +kernel
theorem dX8_cover_47 : decode cX8_cover 47 = .ok (.getfield 49, 3) := by decide +kernel
theorem dX8_cover_50 : decode cX8_cover 50 = .ok (.bipush 12, 2) := by decide +kernel
theorem dX8_cover_52 : decode cX8_cover 52 = .ok (.iload_n 1, 1) := by decide +kernel
theorem dX8_cover_53 : decode cX8_cover 53 = .ok (.imul, 1) := by decide +kernel
theorem dX8_cover_54 : decode cX8_cover 54 = .ok (.iload_n 2, 1) := by decide +kernel
theorem dX8_cover_55 : decode cX8_cover 55 = .ok (.iadd, 1) := by decide +kernel
theorem dX8_cover_56 : decode cX8_cover 56 = .ok (.bipush 10, 2) := by decide +kernel
theorem dX8_cover_58 : decode cX8_cover 58 = .ok (.isub, 1) := by decide +kernel
theorem dX8_cover_59 : decode cX8_cover 59 = .ok (.iaload, 1) := by decide +kernel
theorem dX8_cover_60 : decode cX8_cover 60 = .ok (.goto 5, 3) := by decide +kernel
theorem dX8_cover_63 : decode cX8_cover 63 = .ok (.bipush (-6), 2) := by decide +kernel
theorem dX8_cover_65 : decode cX8_cover 65 = .ok (.ireturn, 1) := by decide +kernel
theorem dX8_cover_66 : decode cX8_cover 66 = .ok (.iload_n 2, 1) := by decide +kernel
theorem dX8_cover_67 : decode cX8_cover 67 = .ok (.ifCond .ne 12, 3) := by decide +kernel
theorem dX8_cover_70 : decode cX8_cover 70 = .ok (.aload_n 0, 1) := by decide +kernel
theorem dX8_cover_71 : decode cX8_cover 71 = .ok (.getfield 40, 3) := by decide +kernel
theorem dX8_cover_74 : decode cX8_cover 74 = .ok (.iload_n 1, 1) := by decide +kernel
theorem dX8_cover_75 : decode cX8_cover 75 = .ok (.iaload, 1) := by decide +kernel
theorem dX8_cover_76 : decode cX8_cover 76 = .ok (.goto 23, 3) := by decide +kernel
theorem dX8_cover_79 : decode cX8_cover 79 = .ok (.iload_n 2, 1) := by decide +kernel
theorem dX8_cover_80 : decode cX8_cover 80 = .ok (.iconst 1, 1) := by decide +kernel
theorem dX8_cover_81 : decode cX8_cover 81 = .ok (.if_icmp .ne 12, 3) := by decide +kernel
theorem dX8_cover_84 : decode cX8_cover 84 = .ok (.aload_n 0, 1) := by decide +kernel
theorem dX8_cover_85 : decode cX8_cover 85 = .ok (.getfield 43, 3) := by decide +kernel
theorem dX8_cover_88 : decode cX8_cover 88 = .ok (.iload_n 1, 1) := by decide +kernel
theorem dX8_cover_89 : decode cX8_cover 89 = .ok (.iaload, 1) := by decide +kernel
theorem dX8_cover_90 : decode cX8_cover 90 = .ok (.goto 9, 3) := by decide +kernel
theorem dX8_cover_93 : decode cX8_cover 93 = .ok (.aload_n 0, 1) := by decide +kernel
theorem dX8_cover_94 : decode cX8_cover 94 = .ok (.getfield 46, 3) := by decide +kernel
theorem dX8_cover_97 : decode cX8_cover 97 = .ok (.iload_n 1, 1) := by decide +kernel
theorem dX8_cover_98 : decode cX8_cover 98 = .ok (.iaload, 1) := by decide +kernel
theorem dX8_cover_99 : decode cX8_cover 99 = .ok (.ireturn, 1) := by decide +kernel
set_option maxRecDepth 20000 in
theorem ggX8_stand_X8_in : GoodIn wsX8_stand wsX8_in := goodIn_r _ [15] (by decide +kernel) (by decide +kernel)
set_option maxRecDepth 20000 in
theorem gX8_stand_X8_in : GoodIn wsX8_stand (va_wsS RX8 67 yX8_in wsX8_in) := goodIn_app (goodIn_of _ (by decide +kernel)) ggX8_stand_X8_in
set_option maxRecDepth 20000 in
theorem ggX8_stand_X8_findRulers : GoodIn wsX8_stand wsX8_findRulers := goodIn_r _ [19, 20, 21, 22, 6, 23, 24, 25, 26, 14, 27, 28, 29, 30, 31, 32, 33, 34, 35, 36, 37, 38, 39, 40, 41, 9, 61, 62, 63, 64, 65, 66, 67, 68, 69, 70, 71, 72, 73, 74, 75, 76, 77, 78, 79, 80, 81, 82, 83, 84, 85, 86, 87] (by decide +kernel) (by decide +kernel)
set_option maxRecDepth 20000 in
theorem gX8_stand_X8_findRulers : GoodIn wsX8_stand (wsV RX8 146 RX8 yX8_findRulers wsX8_findRulers) := goodIn_app (goodIn_of _ (by decide +kernel)) ggX8_stand_X8_findRulers
set_option maxRecDepth 20000 in
theorem ggX8_stand_X8_findCovers : GoodIn wsX8_stand wsX8_findCovers := goodIn_r _ [45, 46, 21, 47, 5, 23, 48, 25, 26, 14, 27, 49, 50, 51, 52, 32, 33, 53, 54, 55, 56, 57, 58, 59, 60, 10, 61, 62, 63, 64, 65, 66, 67, 68, 69, 70, 71, 72, 73, 74, 75, 76, 77, 78, 79, 80, 81, 82, 83, 84, 85, 86, 87] (by decide +kernel) (by decide +kernel)
set_option maxRecDepth 20000 in
theorem gX8_stand_X8_findCovers : GoodIn wsX8_stand (wsV RX8 163 RX8 yX8_findCovers wsX8_findCovers) := goodIn_app (goodIn_of _ (by decide +kernel)) ggX8_stand_X8_findCovers
theorem dX8_stand_0 : decode cX8_stand 0 = .ok (.iload_n 1, 1) := by decide +kernel
theorem dX8_stand_1 : decode cX8_stand 1 = .ok (.i2l, 1) := by decide +kernel
theorem dX8_stand_2 : decode cX8_stand 2 = .ok (.lconst 0, 1) := by decide +kernel
theorem dX8_stand_3 : decode cX8_stand 3 = .ok (.lconst 1, 1) := by decide +kernel
theorem dX8_stand_4 : decode cX8_stand 4 = .ok (.invokestatic 67, 3) := by decide +kernel
theorem dX8_stand_7 : decode cX8_stand 7 = .ok (.ifCond .eq 50, 3) := by decide +kernel
theorem dX8_stand_10 : decode cX8_stand 10 = .ok (.iload_n 1, 1) := by decide +kernel
theorem dX8_stand_11 : decode cX8_stand 11 = .ok (.ifCond .ne 17, 3) := by decide +kernel
theorem dX8_stand_14 : decode cX8_stand 14 = .ok (.iload_n 2, 1) := by decide +kernel
theorem dX8_stand_15 : decode cX8_stand 15 = .ok (.i2l, 1) := by decide +kernel
theorem dX8_stand_16 : decode cX8_stand 16 = .ok (.ldc2_w 139, 3) := by decide +kernel
theorem dX8_stand_19 : decode cX8_stand 19 = .ok (.ldc2_w 141, 3) := by decide +kernel
theorem dX8_stand_22 : decode cX8_stand 22 = .ok (.invokestatic 67, 3) := by decide +kernel
theorem dX8_stand_25 : decode cX8_stand 25 = .ok (.ifCond .eq 32, 3) := by decide +kernel
theorem dX8_stand_28 : decode cX8_stand 28 = .ok (.iload_n 1, 1) := by decide +kernel
theorem dX8_stand_29 : decode cX8_stand 29 = .ok (.iconst 1, 1) := by decide +kernel
theorem dX8_stand_30 : decode cX8_stand 30 = .ok (.if_icmp .ne 15, 3) := by decide +kernel
theorem dX8_stand_33 : decode cX8_stand 33 = .ok (.iload_n 2, 1) := by decide +kernel
theorem dX8_stand_34 : decode cX8_stand 34 = .ok (.i2l, 1) := by decide +kernel
theorem dX8_stand_35 : decode cX8_stand 35 = .ok (.lconst 1, 1) := by decide +kernel
theorem dX8_stand_36 : decode cX8_stand 36 = .ok (.ldc2_w 161, 3) := by decide +kernel
theorem dX8_stand_39 : decode cX8_stand 39 = .ok (.invokestatic 67, 3) := by decide +kernel
theorem dX8_stand_42 : decode cX8_stand 42 = .ok (.ifCond .eq 15, 3) := by decide +kernel
theorem dX8_stand_45 : decode cX8_stand 45 = .ok (.iload_n 3, 1) := by decide +kernel
theorem dX8_stand_46 : decode cX8_stand 46 = .ok (.i2l, 1) := by decide +kernel
theorem dX8_stand_47 : decode cX8_stand 47 = .ok (.lconst 0, 1) := by decide +kernel
theorem dX8_stand_48 : decode cX8_stand 48 = .ok (.ldc2_w 71, 3) := by decide +kernel
theorem dX8_stand_51 : decode cX8_stand 51 = .ok (.invokestatic 67, 3) := by decide +kernel
theorem dX8_stand_54 : decode cX8_stand 54 = .ok (.ifCond .ne 6, 3) := by decide +kernel
theorem dX8_stand_57 : decode cX8_stand 57 = .ok (.bipush (-2), 2) := by decide +kernel
theorem dX8_stand_59 : decode cX8_stand 59 = .ok (.ireturn, 1) := by decide +kernel
theorem dX8_stand_60 : decode cX8_stand 60 = .ok (.iload_n 1, 1) := by decide +kernel
theorem dX8_stand_61 : decode cX8_stand 61 = .ok (.ifCond .ne 11, 3) := by decide +kernel
theorem dX8_stand_64 : decode cX8_stand 64 = .ok (.aload_n 0, 1) := by decide +kernel
theorem dX8_stand_65 : decode cX8_stand 65 = .ok (.iload_n 2, 1) := by decide +kernel
theorem dX8_stand_66 : decode cX8_stand 66 = .ok (.invokevirtual 146, 3) := by decide +kernel
theorem dX8_stand_69 : decode cX8_stand 69 = .ok (.goto 8, 3) := by decide +kernel
theorem dX8_stand_72 : decode cX8_stand 72 = .ok (.aload_n 0, 1) := by decide +kernel
theorem dX8_stand_73 : decode cX8_stand 73 = .ok (.iload_n 2, 1) := by decide +kernel
theorem dX8_stand_74 : decode cX8_stand 74 = .ok (.invokevirtual 163, 3) := by decide +kernel
theorem dX8_stand_77 : decode cX8_stand 77 = .ok (.iload_n 1, 1) := by decide +kernel
theorem dX8_stand_78 : decode cX8_stand 78 = .ok (.ifCond .ne 7, 3) := by decide +kernel
theorem dX8_stand_81 : decode cX8_stand 81 = .ok (.iload_n 2, 1) := by decide +kernel
theorem dX8_stand_82 : decode cX8_stand 82 = .ok (.goto 9, 3) := by decide +kernel
theorem dX8_stand_85 : decode cX8_stand 85 = .ok (.aload_n 0, 1) := by decide +kernel
theorem dX8_stand_86 : decode cX8_stand 86 = .ok (.getfield 40, 3) := by decide +kernel
theorem dX8_stand_89 : decode cX8_stand 89 = .ok (.iload_n 2, 1) := by decide +kernel
theorem dX8_stand_90 : decode cX8_stand 90 = .ok (.iaload, 1) := by decide +kernel
theorem dX8_stand_91 : decode cX8_stand 91 = .ok (.istore 4, 2) := by decide +kernel
theorem dX8_stand_93 : decode cX8_stand 93 = .ok (.iload_n 1, 1) := by decide +kernel
theorem dX8_stand_94 : decode cX8_stand 94 = .ok (.ifCond .ne 12, 3) := by decide +kernel
theorem dX8_stand_97 : decode cX8_stand 97 = .ok (.aload_n 0, 1) := by decide +kernel
theorem dX8_stand_98 : decode cX8_stand 98 = .ok (.getfield 28, 3) := by decide +kernel
theorem dX8_stand_101 : decode cX8_stand 101 = .ok (.iload_n 2, 1) := by decide +kernel
theorem dX8_stand_102 : decode cX8_stand 102 = .ok (.iaload, 1) := by decide +kernel
theorem dX8_stand_103 : decode cX8_stand 103 = .ok (.goto 4, 3) := by decide +kernel
theorem dX8_stand_106 : decode cX8_stand 106 = .ok (.iload_n 2, 1) := by decide +kernel
theorem dX8_stand_107 : decode cX8_stand 107 = .ok (.istore 5, 2) := by decide +kernel
theorem dX8_stand_109 : decode cX8_stand 109 = .ok (.iload 5, 2) := by decide +kernel
theorem dX8_stand_111 : decode cX8_stand 111 = .ok (.iload_n 3, 1) := by decide +kernel
theorem dX8_stand_112 : decode cX8_stand 112 = .ok (.iadd, 1) := by decide +kernel
theorem dX8_stand_113 : decode cX8_stand 113 = .ok (.bipush 60, 2) := by decide +kernel
theorem dX8_stand_115 : decode cX8_stand 115 = .ok (.if_icmp .le 6, 3) := by decide +kernel
theorem dX8_stand_118 : decode cX8_stand 118 = .ok (.bipush (-5), 2) := by decide +kernel
theorem dX8_stand_120 : decode cX8_stand 120 = .ok (.ireturn, 1) := by decide +kernel
theorem dX8_stand_121 : decode cX8_stand 121 = .ok (.iconst 0, 1) := by decide +kernel
theorem dX8_stand_122 : decode cX8_stand 122 = .ok (.istore 6, 2) := by decide +kernel
theorem dX8_stand_124 : decode cX8_stand 124 = .ok (.iload 6, 2) := by decide +kernel
theorem dX8_stand_126 : decode cX8_stand 126 = .ok (.bipush 60, 2) := by decide +kernel
theorem dX8_stand_128 : decode cX8_stand 128 = .ok (.if_icmp .gt 25, 3) := by decide +kernel
theorem dX8_stand_131 : decode cX8_stand 131 = .ok (.aload_n 0, 1) := by decide +kernel
theorem dX8_stand_132 : decode cX8_stand 132 = .ok (.getfield 7, 3) := by decide +kernel
theorem dX8_stand_135 : decode cX8_stand 135 = .ok (.iload 6, 2) := by decide +kernel
theorem dX8_stand_137 : decode cX8_stand 137 = .ok (.iconst 0, 1) := by decide +kernel
theorem dX8_stand_138 : decode cX8_stand 138 = .ok (.iastore, 1) := by decide +kernel
theorem dX8_stand_139 : decode cX8_stand 139 = .ok (.aload_n 0, 1) := by decide +kernel
theorem dX8_stand_140 : decode cX8_stand 140 = .ok (.getfield 13, 3) := by decide +kernel
theorem dX8_stand_143 : decode cX8_stand 143 = .ok (.iload 6, 2) := by decide +kernel
theorem dX8_stand_145 : decode cX8_stand 145 = .ok (.iconst 0, 1) := by decide +kernel
theorem dX8_stand_146 : decode cX8_stand 146 = .ok (.iastore, 1) := by decide +kernel
theorem dX8_stand_147 : decode cX8_stand 147 = .ok (.iinc 6 1, 3) := by decide +kernel
theorem dX8_stand_150 : decode cX8_stand 150 = .ok (.goto (-26), 3) := by decide +kernel
theorem dX8_stand_153 : decode cX8_stand 153 = .ok (.iconst 0, 1) := by decide +kernel
theorem dX8_stand_154 : decode cX8_stand 154 = .ok (.istore 6, 2) := by decide +kernel
theorem dX8_stand_156 : decode cX8_stand 156 = .ok (.iload 6, 2) := by decide +kernel
theorem dX8_stand_158 : decode cX8_stand 158 = .ok (.iload 4, 2) := by decide +kernel
theorem dX8_stand_160 : decode cX8_stand 160 = .ok (.if_icmp .ge 48, 3) := by decide +kernel
theorem dX8_stand_163 : decode cX8_stand 163 = .ok (.aload_n 0, 1) := by decide +kernel
theorem dX8_stand_164 : decode cX8_stand 164 = .ok (.getfield 7, 3) := by decide +kernel
theorem dX8_stand_167 : decode cX8_stand 167 = .ok (.iload_n 3, 1) := by decide +kernel
theorem dX8_stand_168 : decode cX8_stand 168 = .ok (.iload_n 1, 1) := by decide +kernel
theorem dX8_stand_169 : decode cX8_stand 169 = .ok (.ifCond .ne 18, 3) := by decide +kernel
theorem dX8_stand_172 : decode cX8_stand 172 = .ok (.aload_n 0, 1) := by decide +kernel
theorem dX8_stand_173 : decode cX8_stand 173 = .ok (.getfield 37, 3) := by decide +kernel
theorem dX8_stand_176 : decode cX8_stand 176 = .ok (.bipush 12, 2) := by decide +kernel
theorem dX8_stand_178 : decode cX8_stand 178 = .ok (.iload_n 2, 1) := by decide +kernel
theorem dX8_stand_179 : decode cX8_stand 179 = .ok (.imul, 1) := by decide +kernel
theorem dX8_stand_180 : decode cX8_stand 180 = .ok (.iload 6, 2) := by decide +kernel
theorem dX8_stand_182 : decode cX8_stand 182 = .ok (.iadd, 1) := by decide +kernel
theorem dX8_stand_183 : decode cX8_stand 183 = .ok (.iaload, 1) := by decide +kernel
theorem dX8_stand_184 : decode cX8_stand 184 = .ok (.goto 15, 3) := by decide +kernel
theorem dX8_stand_187 : decode cX8_stand 187 = .ok (.aload_n 0, 1) := by decide +kernel
theorem dX8_stand_188 : decode cX8_stand 188 = .ok (.getfield 49, 3) := by decide +kernel
theorem dX8_stand_191 : decode cX8_stand 191 = .ok (.bipush 12, 2) := by decide +kernel
theorem dX8_stand_193 : decode cX8_stand 193 = .ok (.iload_n 2, 1) := by decide +kernel
theorem dX8_stand_194 : decode cX8_stand 194 = .ok (.imul, 1) := by decide +kernel
theorem dX8_stand_195 : decode cX8_stand 195 = .ok (.iload 6, 2) := by decide +kernel
theorem dX8_stand_197 : decode cX8_stand 197 = .ok (.iadd, 1) := by decide +kernel
theorem dX8_stand_198 : decode cX8_stand 198 = .ok (.iaload, 1) := by decide +kernel
theorem dX8_stand_199 : decode cX8_stand 199 = .ok (.iadd, 1) := by decide +kernel
theorem dX8_stand_200 : decode cX8_stand 200 = .ok (.iconst 1, 1) := by decide +kernel
theorem dX8_stand_201 : decode cX8_stand 201 = .ok (.iastore, 1) := by decide +kernel
theorem dX8_stand_202 : decode cX8_stand 202 = .ok (.iinc 6 1, 3) := by decide +kernel
theorem dX8_stand_205 : decode cX8_stand 205 = .ok (.goto (-49), 3) := by decide +kernel
theorem dX8_stand_208 : decode cX8_stand 208 = .ok (.aload_n 0, 1) := by decide +kernel
theorem dX8_stand_209 : decode cX8_stand 209 = .ok (.iconst 0, 1) := by decide +kernel
theorem dX8_stand_210 : decode cX8_stand 210 = .ok (.putfield 73, 3) := by decide +kernel
theorem dX8_stand_213 : decode cX8_stand 213 = .ok (.iload 4, 2) := by decide +kernel
theorem dX8_stand_215 : decode cX8_stand 215 = .ok (.ireturn, 1) := by decide +kernel
set_option maxRecDepth 20000 in
theorem ggX8_error_X8_isDish : GoodIn wsX8_error wsX8_isDish := goodIn_r _ [7, 8, 9, 10, 11, 6, 12, 25, 26, 27, 28, 29, 30, 31, 32, 33, 34, 35, 36, 37, 38, 39, 40, 41, 42, 43, 44, 45, 46, 47, 48, 49, 50, 51] (by decide +kernel) (by decide +kernel)
set_option maxRecDepth 20000 in
theorem gX8_error_X8_isDish : GoodIn wsX8_error (wsV RX8 77 RX8 yX8_isDish wsX8_isDish) := goodIn_app (goodIn_of _ (by decide +kernel)) ggX8_error_X8_isDish
set_option maxRecDepth 20000 in
theorem ggX8_error_X8_isPhase : GoodIn wsX8_error wsX8_isPhase := goodIn_r _ [15, 16, 10, 11, 6, 12] (by decide +kernel) (by decide +kernel)
set_option maxRecDepth 20000 in
theorem gX8_error_X8_isPhase : GoodIn wsX8_error (va_wsS RX8 166 yX8_isPhase wsX8_isPhase) := goodIn_app (goodIn_of _ (by decide +kernel)) ggX8_error_X8_isPhase
set_option maxRecDepth 20000 in
theorem ggX8_error_X8_log : GoodIn wsX8_error wsX8_log := goodIn_r _ [20, 21, 22, 23, 24, 25, 26, 27, 28, 29, 30, 31, 32, 33, 34, 35, 36, 37, 38, 39, 40, 41, 42, 43, 44, 45, 46, 47, 48, 49, 50, 51] (by decide +kernel) (by decide +kernel)
set_option maxRecDepth 20000 in
theorem gX8_error_X8_log : GoodIn wsX8_error (wsV RX8 85 RX8 yX8_log wsX8_log) := goodIn_app (goodIn_of _ (by decide +kernel)) ggX8_error_X8_log
theorem dX8_error_0 : decode cX8_error 0 = .ok (.aload_n 0, 1) := by decide +kernel
theorem dX8_error_1 : decode cX8_error 1 = .ok (.iload_n 1, 1) := by decide +kernel
theorem dX8_error_2 : decode cX8_error 2 = .ok (.invokevirtual 77, 3) := by decide +kernel
theorem dX8_error_5 : decode cX8_error 5 = .ok (.ifCond .ne 5, 3) := by decide +kernel
theorem dX8_error_8 : decode cX8_error 8 = .ok (.iconst (-1), 1) := by decide +kernel
theorem dX8_error_9 : decode cX8_error 9 = .ok (.ireturn, 1) := by decide +kernel
theorem dX8_error_10 : decode cX8_error 10 = .ok (.iload_n 2, 1) := by decide +kernel
theorem dX8_error_11 : decode cX8_error 11 = .ok (.invokestatic 166, 3) := by decide +kernel
theorem dX8_error_14 : decode cX8_error 14 = .ok (.ifCond .ne 6, 3) := by decide +kernel
theorem dX8_error_17 : decode cX8_error 17 = .ok (.bipush (-2), 2) := by decide +kernel
theorem dX8_error_19 : decode cX8_error 19 = .ok (.ireturn, 1) := by decide +kernel
theorem dX8_error_20 : decode cX8_error 20 = .ok (.aload_n 0, 1) := by decide +kernel
theorem dX8_error_21 : decode cX8_error 21 = .ok (.getfield 13, 3) := by decide +kernel
theorem dX8_error_24 : decode cX8_error 24 = .ok (.iload_n 1, 1) := by decide +kernel
theorem dX8_error_25 : decode cX8_error 25 = .ok (.iaload, 1) := by decide +kernel
theorem dX8_error_26 : decode cX8_error 26 = .ok (.istore_n 3, 1) := by decide +kernel
theorem dX8_error_27 : decode cX8_error 27 = .ok (.aload_n 0, 1) := by decide +kernel
theorem dX8_error_28 : decode cX8_error 28 = .ok (.iconst 2, 1) := by decide +kernel
theorem dX8_error_29 : decode cX8_error 29 = .ok (.iload_n 1, 1) := by decide +kernel
theorem dX8_error_30 : decode cX8_error 30 = .ok (.iload_n 3, 1) := by decide +kernel
theorem dX8_error_31 : decode cX8_error 31 = .ok (.invokevirtual 85, 3) := by decide +kernel
theorem dX8_error_34 : decode cX8_error 34 = .ok (.aload_n 0, 1) := by decide +kernel
theorem dX8_error_35 : decode cX8_error 35 = .ok (.getfield 13, 3) := by decide +kernel
theorem dX8_error_38 : decode cX8_error 38 = .ok (.iload_n 1, 1) := by decide +kernel
theorem dX8_error_39 : decode cX8_error 39 = .ok (.iload_n 2, 1) := by decide +kernel
theorem dX8_error_40 : decode cX8_error 40 = .ok (.iastore, 1) := by decide +kernel
theorem dX8_error_41 : decode cX8_error 41 = .ok (.aload_n 0, 1) := by decide +kernel
theorem dX8_error_42 : decode cX8_error 42 = .ok (.dup, 1) := by decide +kernel
theorem dX8_error_43 : decode cX8_error 43 = .ok (.getfield 169, 3) := by decide +kernel
theorem dX8_error_46 : decode cX8_error 46 = .ok (.iconst 1, 1) := by decide +kernel
theorem dX8_error_47 : decode cX8_error 47 = .ok (.iadd, 1) := by decide +kernel
theorem dX8_error_48 : decode cX8_error 48 = .ok (.putfield 169, 3) := by decide +kernel
theorem dX8_error_51 : decode cX8_error 51 = .ok (.iload_n 3, 1) := by decide +kernel
theorem dX8_error_52 : decode cX8_error 52 = .ok (.ireturn, 1) := by decide +kernel
set_option maxRecDepth 20000 in
theorem ggX8_sky_X8_in : GoodIn wsX8_sky wsX8_in := goodIn_r _ [7] (by decide +kernel) (by decide +kernel)
set_option maxRecDepth 20000 in
theorem gX8_sky_X8_in : GoodIn wsX8_sky (va_wsS RX8 67 yX8_in wsX8_in) := goodIn_app (goodIn_of _ (by decide +kernel)) ggX8_sky_X8_in
set_option maxRecDepth 20000 in
theorem ggX8_sky_X8_isPhase : GoodIn wsX8_sky wsX8_isPhase := goodIn_r _ [10, 11, 4, 5, 6, 7] (by decide +kernel) (by decide +kernel)
set_option maxRecDepth 20000 in
theorem gX8_sky_X8_isPhase : GoodIn wsX8_sky (va_wsS RX8 166 yX8_isPhase wsX8_isPhase) := goodIn_app (goodIn_of _ (by decide +kernel)) ggX8_sky_X8_isPhase
theorem dX8_sky_0 : decode cX8_sky 0 = .ok (.iload_n 1, 1) := by decide +kernel
theorem dX8_sky_1 : decode cX8_sky 1 = .ok (.i2l, 1) := by decide +kernel
theorem dX8_sky_2 : decode cX8_sky 2 = .ok (.lconst 1, 1) := by decide +kernel
theorem dX8_sky_3 : decode cX8_sky 3 = .ok (.ldc2_w 71, 3) := by decide +kernel
theorem dX8_sky_6 : decode cX8_sky 6 = .ok (.invokestatic 67, 3) := by decide +kernel
theorem dX8_sky_9 : decode cX8_sky 9 = .ok (.ifCond .eq 10, 3) := by decide +kernel
theorem dX8_sky_12 : decode cX8_sky 12 = .ok (.iload_n 2, 1) := by decide +kernel
theorem dX8_sky_13 : decode cX8_sky 13 = .ok (.invokestatic 166, 3) := by decide +kernel
theorem dX8_sky_16 : decode cX8_sky 16 = .ok (.ifCond .ne 6, 3) := by decide +kernel
theorem dX8_sky_19 : decode cX8_sky 19 = .ok (.bipush (-2), 2) := by decide +kernel
theorem dX8_sky_21 : decode cX8_sky 21 = .ok (.ireturn, 1) := by decide +kernel
theorem dX8_sky_22 : decode cX8_sky 22 = .ok (.aload_n 0, 1) := by decide +kernel
theorem dX8_sky_23 : decode cX8_sky 23 = .ok (.getfield 16, 3) := by decide +kernel
theorem dX8_sky_26 : decode cX8_sky 26 = .ok (.iload_n 1, 1) := by decide +kernel
theorem dX8_sky_27 : decode cX8_sky 27 = .ok (.iaload, 1) := by decide +kernel
theorem dX8_sky_28 : decode cX8_sky 28 = .ok (.istore_n 3, 1) := by decide +kernel
theorem dX8_sky_29 : decode cX8_sky 29 = .ok (.aload_n 0, 1) := by decide +kernel
theorem dX8_sky_30 : decode cX8_sky 30 = .ok (.getfield 16, 3) := by decide +kernel
theorem dX8_sky_33 : decode cX8_sky 33 = .ok (.iload_n 1, 1) := by decide +kernel
theorem dX8_sky_34 : decode cX8_sky 34 = .ok (.iload_n 2, 1) := by decide +kernel
theorem dX8_sky_35 : decode cX8_sky 35 = .ok (.iastore, 1) := by decide +kernel
theorem dX8_sky_36 : decode cX8_sky 36 = .ok (.aload_n 0, 1) := by decide +kernel
theorem dX8_sky_37 : decode cX8_sky 37 = .ok (.dup, 1) := by decide +kernel
theorem dX8_sky_38 : decode cX8_sky 38 = .ok (.getfield 169, 3) := by decide +kernel
theorem dX8_sky_41 : decode cX8_sky 41 = .ok (.iconst 1, 1) := by decide +kernel
theorem dX8_sky_42 : decode cX8_sky 42 = .ok (.iadd, 1) := by decide +kernel
theorem dX8_sky_43 : decode cX8_sky 43 = .ok (.putfield 169, 3) := by decide +kernel
theorem dX8_sky_46 : decode cX8_sky 46 = .ok (.iload_n 3, 1) := by decide +kernel
theorem dX8_sky_47 : decode cX8_sky 47 = .ok (.ireturn, 1) := by decide +kernel
set_option maxRecDepth 20000 in
theorem ggX8_phaseOf_X8_over : GoodIn wsX8_phaseOf wsX8_over := goodIn_r _ [6] (by decide +kernel) (by decide +kernel)
set_option maxRecDepth 20000 in
theorem gX8_phaseOf_X8_over : GoodIn wsX8_phaseOf (va_wsS RX8 172 yX8_over wsX8_over) := goodIn_app (goodIn_of _ (by decide +kernel)) ggX8_phaseOf_X8_over
theorem dX8_phaseOf_0 : decode cX8_phaseOf 0 = .ok (.iload_n 2, 1) := by decide +kernel
theorem dX8_phaseOf_1 : decode cX8_phaseOf 1 = .ok (.iload_n 1, 1) := by decide +kernel
theorem dX8_phaseOf_2 : decode cX8_phaseOf 2 = .ok (.if_icmp .le 31, 3) := by decide +kernel
theorem dX8_phaseOf_5 : decode cX8_phaseOf 5 = .ok (.aload_n 0, 1) := by decide +kernel
theorem dX8_phaseOf_6 : decode cX8_phaseOf 6 = .ok (.getfield 16, 3) := by decide +kernel
theorem dX8_phaseOf_9 : decode cX8_phaseOf 9 = .ok (.iload_n 2, 1) := by decide +kernel
theorem dX8_phaseOf_10 : decode cX8_phaseOf 10 = .ok (.iload_n 1, 1) := by decide +kernel
theorem dX8_phaseOf_11 : decode cX8_phaseOf 11 = .ok (.isub, 1) := by decide +kernel
theorem dX8_phaseOf_12 : decode cX8_phaseOf 12 = .ok (.iaload, 1) := by decide +kernel
theorem dX8_phaseOf_13 : decode cX8_phaseOf 13 = .ok (.aload_n 0, 1) := by decide +kernel
theorem dX8_phaseOf_14 : decode cX8_phaseOf 14 = .ok (.getfield 13, 3) := by decide +kernel
theorem dX8_phaseOf_17 : decode cX8_phaseOf 17 = .ok (.iload_n 2, 1) := by decide +kernel
theorem dX8_phaseOf_18 : decode cX8_phaseOf 18 = .ok (.iaload, 1) := by decide +kernel
theorem dX8_phaseOf_19 : decode cX8_phaseOf 19 = .ok (.iadd, 1) := by decide +kernel
theorem dX8_phaseOf_20 : decode cX8_phaseOf 20 = .ok (.aload_n 0, 1) := by decide +kernel
theorem dX8_phaseOf_21 : decode cX8_phaseOf 21 = .ok (.getfield 13, 3) := by decide +kernel
theorem dX8_phaseOf_24 : decode cX8_phaseOf 24 = .ok (.iload_n 1, 1) := by decide +kernel
theorem dX8_phaseOf_25 : decode cX8_phaseOf 25 = .ok (.iaload, 1) := by decide +kernel
theorem dX8_phaseOf_26 : decode cX8_phaseOf 26 = .ok (.isub, 1) := by decide +kernel
theorem dX8_phaseOf_27 : decode cX8_phaseOf 27 = .ok (.invokestatic 172, 3) := by decide +kernel
theorem dX8_phaseOf_30 : decode cX8_phaseOf 30 = .ok (.goto 29, 3) := by decide +kernel
theorem dX8_phaseOf_33 : decode cX8_phaseOf 33 = .ok (.aload_n 0, 1) := by decide +kernel
theorem dX8_phaseOf_34 : decode cX8_phaseOf 34 = .ok (.getfield 16, 3) := by decide +kernel
theorem dX8_phaseOf_37 : decode cX8_phaseOf 37 = .ok (.iload_n 1, 1) := by decide +kernel
theorem dX8_phaseOf_38 : decode cX8_phaseOf 38 = .ok (.iload_n 2, 1) := by decide +kernel
theorem dX8_phaseOf_39 : decode cX8_phaseOf 39 = .ok (.isub, 1) := by decide +kernel
theorem dX8_phaseOf_40 : decode cX8_phaseOf 40 = .ok (.iaload, 1) := by decide +kernel
theorem dX8_phaseOf_41 : decode cX8_phaseOf 41 = .ok (.aload_n 0, 1) := by decide +kernel
theorem dX8_phaseOf_42 : decode cX8_phaseOf 42 = .ok (.getfield 13, 3) := by decide +kernel
theorem dX8_phaseOf_45 : decode cX8_phaseOf 45 = .ok (.iload_n 1, 1) := by decide +kernel
theorem dX8_phaseOf_46 : decode cX8_phaseOf 46 = .ok (.iaload, 1) := by decide +kernel
theorem dX8_phaseOf_47 : decode cX8_phaseOf 47 = .ok (.iadd, 1) := by decide +kernel
theorem dX8_phaseOf_48 : decode cX8_phaseOf 48 = .ok (.aload_n 0, 1) := by decide +kernel
theorem dX8_phaseOf_49 : decode cX8_phaseOf 49 = .ok (.getfield 13, 3) := by decide +kernel
theorem dX8_phaseOf_52 : decode cX8_phaseOf 52 = .ok (.iload_n 2, 1) := by decide +kernel
theorem dX8_phaseOf_53 : decode cX8_phaseOf 53 = .ok (.iaload, 1) := by decide +kernel
theorem dX8_phaseOf_54 : decode cX8_phaseOf 54 = .ok (.isub, 1) := by decide +kernel
theorem dX8_phaseOf_55 : decode cX8_phaseOf 55 = .ok (.ineg, 1) := by decide +kernel
theorem dX8_phaseOf_56 : decode cX8_phaseOf 56 = .ok (.invokestatic 172, 3) := by decide +kernel
theorem dX8_phaseOf_59 : decode cX8_phaseOf 59 = .ok (.ireturn, 1) := by decide +kernel
set_option maxRecDepth 20000 in
theorem ggX8_phase_X8_isDish : GoodIn wsX8_phase wsX8_isDish := goodIn_r _ [5, 6, 7, 8, 9, 4, 10, 20, 21, 22, 23, 24, 25, 26, 27, 28, 29, 30, 31, 32, 33, 34, 35, 36, 37, 38, 39, 40, 41, 42, 43, 44, 45, 46] (by decide +kernel) (by decide +kernel)
set_option maxRecDepth 20000 in
theorem gX8_phase_X8_isDish : GoodIn wsX8_phase (wsV RX8 77 RX8 yX8_isDish wsX8_isDish) := goodIn_app (goodIn_of _ (by decide +kernel)) ggX8_phase_X8_isDish
set_option maxRecDepth 20000 in
theorem ggX8_phase_X8_phaseOf : GoodIn wsX8_phase wsX8_phaseOf := goodIn_r _ [14, 15, 16, 17, 18, 4, 19, 20, 21, 22, 23, 24, 25, 26, 27, 28, 29, 30, 31, 32, 33, 34, 35, 36, 37, 38, 39, 40, 41, 42, 43, 44, 45, 46] (by decide +kernel) (by decide +kernel)
set_option maxRecDepth 20000 in
theorem gX8_phase_X8_phaseOf : GoodIn wsX8_phase (wsV RX8 175 RX8 yX8_phaseOf wsX8_phaseOf) := goodIn_app (goodIn_of _ (by decide +kernel)) ggX8_phase_X8_phaseOf
theorem dX8_phase_0 : decode cX8_phase 0 = .ok (.aload_n 0, 1) := by decide +kernel
theorem dX8_phase_1 : decode cX8_phase 1 = .ok (.iload_n 1, 1) := by decide +kernel
theorem dX8_phase_2 : decode cX8_phase 2 = .ok (.invokevirtual 77, 3) := by decide +kernel
theorem dX8_phase_5 : decode cX8_phase 5 = .ok (.ifCond .eq 11, 3) := by decide +kernel
theorem dX8_phase_8 : decode cX8_phase 8 = .ok (.aload_n 0, 1) := by decide +kernel
theorem dX8_phase_9 : decode cX8_phase 9 = .ok (.iload_n 2, 1) := by decide +kernel
theorem dX8_phase_10 : decode cX8_phase 10 = .ok (.invokevirtual 77, 3) := by decide +kernel
theorem dX8_phase_13 : decode cX8_phase 13 = .ok (.ifCond .ne 5, 3) := by decide +kernel
theorem dX8_phase_16 : decode cX8_phase 16 = .ok (.iconst (-1), 1) := by decide +kernel
theorem dX8_phase_17 : decode cX8_phase 17 = .ok (.ireturn, 1) := by decide +kernel
theorem dX8_phase_18 : decode cX8_phase 18 = .ok (.iload_n 1, 1) := by decide +kernel
theorem dX8_phase_19 : decode cX8_phase 19 = .ok (.iload_n 2, 1) := by decide +kernel
theorem dX8_phase_20 : decode cX8_phase 20 = .ok (.if_icmp .ne 8, 3) := by decide +kernel
theorem dX8_phase_23 : decode cX8_phase 23 = .ok (.bipush (-5), 2) := by decide +kernel
theorem dX8_phase_25 : decode cX8_phase 25 = .ok (.goto 9, 3) := by decide +kernel
theorem dX8_phase_28 : decode cX8_phase 28 = .ok (.aload_n 0, 1) := by decide +kernel
theorem dX8_phase_29 : decode cX8_phase 29 = .ok (.iload_n 1, 1) := by decide +kernel
theorem dX8_phase_30 : decode cX8_phase 30 = .ok (.iload_n 2, 1) := by decide +kernel
theorem dX8_phase_31 : decode cX8_phase 31 = .ok (.invokevirtual 175, 3) := by decide +kernel
theorem dX8_phase_34 : decode cX8_phase 34 = .ok (.ireturn, 1) := by decide +kernel
set_option maxRecDepth 20000 in
theorem ggX8_closure_X8_isDish : GoodIn wsX8_closure wsX8_isDish := goodIn_r _ [5, 6, 7, 8, 9, 4, 10, 20, 21, 22, 23, 24, 25, 26, 27, 28, 29, 30, 31, 32, 33, 34, 35, 36, 37, 38, 39, 40, 41, 42, 43, 44, 45, 46] (by decide +kernel) (by decide +kernel)
set_option maxRecDepth 20000 in
theorem gX8_closure_X8_isDish : GoodIn wsX8_closure (wsV RX8 77 RX8 yX8_isDish wsX8_isDish) := goodIn_app (goodIn_of _ (by decide +kernel)) ggX8_closure_X8_isDish
set_option maxRecDepth 20000 in
theorem ggX8_closure_X8_phaseOf : GoodIn wsX8_closure wsX8_phaseOf := goodIn_r _ [14, 15, 16, 17, 18, 4, 19, 20, 21, 22, 23, 24, 25, 26, 27, 28, 29, 30, 31, 32, 33, 34, 35, 36, 37, 38, 39, 40, 41, 42, 43, 44, 45, 46] (by decide +kernel) (by decide +kernel)
set_option maxRecDepth 20000 in
theorem gX8_closure_X8_phaseOf : GoodIn wsX8_closure (wsV RX8 175 RX8 yX8_phaseOf wsX8_phaseOf) := goodIn_app (goodIn_of _ (by decide +kernel)) ggX8_closure_X8_phaseOf
set_option maxRecDepth 20000 in
theorem ggX8_closure_X8_over : GoodIn wsX8_closure wsX8_over := goodIn_r _ [19] (by decide +kernel) (by decide +kernel)
set_option maxRecDepth 20000 in
theorem gX8_closure_X8_over : GoodIn wsX8_closure (va_wsS RX8 172 yX8_over wsX8_over) := goodIn_app (goodIn_of _ (by decide +kernel)) ggX8_closure_X8_over
theorem dX8_closure_0 : decode cX8_closure 0 = .ok (.aload_n 0, 1) := by decide +kernel
theorem dX8_closure_1 : decode cX8_closure 1 = .ok (.iload_n 1, 1) := by decide +kernel
theorem dX8_closure_2 : decode cX8_closure 2 = .ok (.invokevirtual 77, 3) := by decide +kernel
theorem dX8_closure_5 : decode cX8_closure 5 = .ok (.ifCond .eq 19, 3) := by decide +kernel
theorem dX8_closure_8 : decode cX8_closure 8 = .ok (.aload_n 0, 1) := by decide +kernel
theorem dX8_closure_9 : decode cX8_closure 9 = .ok (.iload_n 2, 1) := by decide +kernel
theorem dX8_closure_10 : decode cX8_closure 10 = .ok (.invokevirtual 77, 3) := by decide +kernel
theorem dX8_closure_13 : decode cX8_closure 13 = .ok (.ifCond .eq 11, 3) := by decide +kernel
theorem dX8_closure_16 : decode cX8_closure 16 = .ok (.aload_n 0, 1) := by decide +kernel
theorem dX8_closure_17 : decode cX8_closure 17 = .ok (.iload_n 3, 1) := by decide +kernel
theorem dX8_closure_18 : decode cX8_closure 18 = .ok (.invokevirtual 77, 3) := by decide +kernel
theorem dX8_closure_21 : decode cX8_closure 21 = .ok (.ifCond .ne 5, 3) := by decide +kernel
theorem dX8_closure_24 : decode cX8_closure 24 = .ok (.iconst (-1), 1) := by decide +kernel
theorem dX8_closure_25 : decode cX8_closure 25 = .ok (.ireturn, 1) := by decide +kernel
theorem dX8_closure_26 : decode cX8_closure 26 = .ok (.iload_n 1, 1) := by decide +kernel
theorem dX8_closure_27 : decode cX8_closure 27 = .ok (.iload_n 2, 1) := by decide +kernel
theorem dX8_closure_28 : decode cX8_closure 28 = .ok (.if_icmp .eq 13, 3) := by decide +kernel
theorem dX8_closure_31 : decode cX8_closure 31 = .ok (.iload_n 2, 1) := by decide +kernel
theorem dX8_closure_32 : decode cX8_closure 32 = .ok (.iload_n 3, 1) := by decide +kernel
theorem dX8_closure_33 : decode cX8_closure 33 = .ok (.if_icmp .eq 8, 3) := by decide +kernel
theorem dX8_closure_36 : decode cX8_closure 36 = .ok (.iload_n 3, 1) := by decide +kernel
theorem dX8_closure_37 : decode cX8_closure 37 = .ok (.iload_n 1, 1) := by decide +kernel
theorem dX8_closure_38 : decode cX8_closure 38 = .ok (.if_icmp .ne 6, 3) := by decide +kernel
theorem dX8_closure_41 : decode cX8_closure 41 = .ok (.bipush (-5), 2) := by decide +kernel
theorem dX8_closure_43 : decode cX8_closure 43 = .ok (.ireturn, 1) := by decide +kernel
theorem dX8_closure_44 : decode cX8_closure 44 = .ok (.aload_n 0, 1) := by decide +kernel
theorem dX8_closure_45 : decode cX8_closure 45 = .ok (.iload_n 1, 1) := by decide +kernel
theorem dX8_closure_46 : decode cX8_closure 46 = .ok (.iload_n 2, 1) := by decide +kernel
theorem dX8_closure_47 : decode cX8_closure 47 = .ok (.invokevirtual 175, 3) := by decide +kernel
theorem dX8_closure_50 : decode cX8_closure 50 = .ok (.aload_n 0, 1) := by decide +kernel
theorem dX8_closure_51 : decode cX8_closure 51 = .ok (.iload_n 2, 1) := by decide +kernel
theorem dX8_closure_52 : decode cX8_closure 52 = .ok (.iload_n 3, 1) := by decide +kernel
theorem dX8_closure_53 : decode cX8_closure 53 = .ok (.invokevirtual 175, 3) := by decide +kernel
theorem dX8_closure_56 : decode cX8_closure 56 = .ok (.iadd, 1) := by decide +kernel
theorem dX8_closure_57 : decode cX8_closure 57 = .ok (.aload_n 0, 1) := by decide +kernel
theorem dX8_closure_58 : decode cX8_closure 58 = .ok (.iload_n 3, 1) := by decide +kernel
theorem dX8_closure_59 : decode cX8_closure 59 = .ok (.iload_n 1, 1) := by decide +kernel
theorem dX8_closure_60 : decode cX8_closure 60 = .ok (.invokevirtual 175, 3) := by decide +kernel
theorem dX8_closure_63 : decode cX8_closure 63 = .ok (.iadd, 1) := by decide +kernel
theorem dX8_closure_64 : decode cX8_closure 64 = .ok (.invokestatic 172, 3) := by decide +kernel
theorem dX8_closure_67 : decode cX8_closure 67 = .ok (.ireturn, 1) := by decide +kernel
set_option maxRecDepth 20000 in
theorem ggX8_left_X8_isDish : GoodIn wsX8_left wsX8_isDish := goodIn_r _ [5, 6, 7, 8, 9, 4, 10, 19, 20, 21, 22, 23, 24, 25, 26, 27, 28, 29, 30, 31, 32, 33, 34, 35, 36, 37, 38, 39, 40, 41, 42, 43, 44, 45] (by decide +kernel) (by decide +kernel)
set_option maxRecDepth 20000 in
theorem gX8_left_X8_isDish : GoodIn wsX8_left (wsV RX8 77 RX8 yX8_isDish wsX8_isDish) := goodIn_app (goodIn_of _ (by decide +kernel)) ggX8_left_X8_isDish
set_option maxRecDepth 20000 in
theorem ggX8_left_X8_reachBut : GoodIn wsX8_left wsX8_reachBut := goodIn_r _ [14, 15, 16, 17, 4, 18, 7, 19, 20, 21, 22, 23, 24, 25, 26, 27, 28, 29, 30, 31, 32, 33, 34, 35, 36, 37, 38, 39, 40, 41, 42, 43, 44, 45] (by decide +kernel) (by decide +kernel)
set_option maxRecDepth 20000 in
theorem gX8_left_X8_reachBut : GoodIn wsX8_left (wsV RX8 99 RX8 yX8_reachBut wsX8_reachBut) := goodIn_app (goodIn_of _ (by decide +kernel)) ggX8_left_X8_reachBut
theorem dX8_left_0 : decode cX8_left 0 = .ok (.aload_n 0, 1) := by decide +kernel
theorem dX8_left_1 : decode cX8_left 1 = .ok (.iload_n 1, 1) := by decide +kernel
theorem dX8_left_2 : decode cX8_left 2 = .ok (.invokevirtual 77, 3) := by decide +kernel
theorem dX8_left_5 : decode cX8_left 5 = .ok (.ifCond .eq 11, 3) := by decide +kernel
theorem dX8_left_8 : decode cX8_left 8 = .ok (.aload_n 0, 1) := by decide +kernel
theorem dX8_left_9 : decode cX8_left 9 = .ok (.iload_n 1, 1) := by decide +kernel
theorem dX8_left_10 : decode cX8_left 10 = .ok (.invokevirtual 99, 3) := by decide +kernel
theorem dX8_left_13 : decode cX8_left 13 = .ok (.goto 4, 3) := by decide +kernel
theorem dX8_left_16 : decode cX8_left 16 = .ok (.iconst (-1), 1) := by decide +kernel
theorem dX8_left_17 : decode cX8_left 17 = .ok (.ireturn, 1) := by decide +kernel
set_option maxRecDepth 20000 in
theorem ggX8_aheadOf_X8_reachBut : GoodIn wsX8_aheadOf wsX8_reachBut := goodIn_r _ [6, 7, 8, 9, 5, 10, 1, 11, 12, 13, 14, 15, 16, 17, 18, 19, 20, 21, 22, 23, 24, 25, 26, 27, 28, 29, 30, 31, 32, 33, 34, 35, 36, 37] (by decide +kernel) (by decide +kernel)
set_option maxRecDepth 20000 in
theorem gX8_aheadOf_X8_reachBut : GoodIn wsX8_aheadOf (wsV RX8 99 RX8 yX8_reachBut wsX8_reachBut) := goodIn_app (goodIn_of _ (by decide +kernel)) ggX8_aheadOf_X8_reachBut
theorem dX8_aheadOf_0 : decode cX8_aheadOf 0 = .ok (.iconst 0, 1) := by decide +kernel
theorem dX8_aheadOf_1 : decode cX8_aheadOf 1 = .ok (.istore_n 2, 1) := by decide +kernel
theorem dX8_aheadOf_2 : decode cX8_aheadOf 2 = .ok (.aload_n 0, 1) := by decide +kernel
theorem dX8_aheadOf_3 : decode cX8_aheadOf 3 = .ok (.iload_n 1, 1) := by decide +kernel
theorem dX8_aheadOf_4 : decode cX8_aheadOf 4 = .ok (.invokevirtual 99, 3) := by decide +kernel
theorem dX8_aheadOf_7 : decode cX8_aheadOf 7 = .ok (.istore_n 3, 1) := by decide +kernel
theorem dX8_aheadOf_8 : decode cX8_aheadOf 8 = .ok (.iconst 0, 1) := by decide +kernel
theorem dX8_aheadOf_9 : decode cX8_aheadOf 9 = .ok (.istore 4, 2) := by decide +kernel
theorem dX8_aheadOf_11 : decode cX8_aheadOf 11 = .ok (.iload 4, 2) := by decide +kernel
theorem dX8_aheadOf_13 : decode cX8_aheadOf 13 = .ok (.bipush 60, 2) := by decide +kernel
theorem dX8_aheadOf_15 : decode cX8_aheadOf 15 = .ok (.if_icmp .gt 60, 3) := by decide +kernel
theorem dX8_aheadOf_18 : decode cX8_aheadOf 18 = .ok (.aload_n 0, 1) := by decide +kernel
theorem dX8_aheadOf_19 : decode cX8_aheadOf 19 = .ok (.getfield 7, 3) := by decide +kernel
theorem dX8_aheadOf_22 : decode cX8_aheadOf 22 = .ok (.iload 4, 2) := by decide +kernel
theorem dX8_aheadOf_24 : decode cX8_aheadOf 24 = .ok (.iaload, 1) := by decide +kernel
theorem dX8_aheadOf_25 : decode cX8_aheadOf 25 = .ok (.iconst 1, 1) := by decide +kernel
theorem dX8_aheadOf_26 : decode cX8_aheadOf 26 = .ok (.if_icmp .ne 43, 3) := by decide +kernel
theorem dX8_aheadOf_29 : decode cX8_aheadOf 29 = .ok (.iload 4, 2) := by decide +kernel
theorem dX8_aheadOf_31 : decode cX8_aheadOf 31 = .ok (.iload_n 1, 1) := by decide +kernel
theorem dX8_aheadOf_32 : decode cX8_aheadOf 32 = .ok (.if_icmp .eq 37, 3) := by decide +kernel
theorem dX8_aheadOf_35 : decode cX8_aheadOf 35 = .ok (.aload_n 0, 1) := by decide +kernel
theorem dX8_aheadOf_36 : decode cX8_aheadOf 36 = .ok (.iload 4, 2) := by decide +kernel
theorem dX8_aheadOf_38 : decode cX8_aheadOf 38 = .ok (.invokevirtual 99, 3) := by decide +kernel
theorem dX8_aheadOf_41 : decode cX8_aheadOf 41 = .ok (.istore 5, 2) := by decide +kernel
theorem dX8_aheadOf_43 : decode cX8_aheadOf 43 = .ok (.iload_n 2, 1) := by decide +kernel
theorem dX8_aheadOf_44 : decode cX8_aheadOf 44 = .ok (.iload 5, 2) := by decide +kernel
theorem dX8_aheadOf_46 : decode cX8_aheadOf 46 = .ok (.iload_n 3, 1) := by decide +kernel
theorem dX8_aheadOf_47 : decode cX8_aheadOf 47 = .ok (.if_icmp .lt 15, 3) := by decide +kernel
theorem dX8_aheadOf_50 : decode cX8_aheadOf 50 = .ok (.iload 5, 2) := by decide +kernel
theorem dX8_aheadOf_52 : decode cX8_aheadOf 52 = .ok (.iload_n 3, 1) := by decide +kernel
theorem dX8_aheadOf_53 : decode cX8_aheadOf 53 = .ok (.if_icmp .ne 13, 3) := by decide +kernel
theorem dX8_aheadOf_56 : decode cX8_aheadOf 56 = .ok (.iload 4, 2) := by decide +kernel
theorem dX8_aheadOf_58 : decode cX8_aheadOf 58 = .ok (.iload_n 1, 1) := by decide +kernel
theorem dX8_aheadOf_59 : decode cX8_aheadOf 59 = .ok (.if_icmp .ge 7, 3) := by decide +kernel
theorem dX8_aheadOf_62 : decode cX8_aheadOf 62 = .ok (.iconst 1, 1) := by decide +kernel
theorem dX8_aheadOf_63 : decode cX8_aheadOf 63 = .ok (.goto 4, 3) := by decide +kernel
theorem dX8_aheadOf_66 : decode cX8_aheadOf 66 = .ok (.iconst 0, 1) := by decide +kernel
theorem dX8_aheadOf_67 : decode cX8_aheadOf 67 = .ok (.iadd, 1) := by decide +kernel
theorem dX8_aheadOf_68 : decode cX8_aheadOf 68 = .ok (.istore_n 2, 1) := by decide +kernel
theorem dX8_aheadOf_69 : decode cX8_aheadOf 69 = .ok (.iinc 4 1, 3) := by decide +kernel
theorem dX8_aheadOf_72 : decode cX8_aheadOf 72 = .ok (.goto (-61), 3) := by decide +kernel
theorem dX8_aheadOf_75 : decode cX8_aheadOf 75 = .ok (.iload_n 2, 1) := by decide +kernel
theorem dX8_aheadOf_76 : decode cX8_aheadOf 76 = .ok (.ireturn, 1) := by decide +kernel
set_option maxRecDepth 20000 in
theorem ggX8_missed_X8_aheadOf : GoodIn wsX8_missed wsX8_aheadOf := goodIn_r _ [6, 1, 7, 8, 9, 5, 10, 11, 12, 13, 14, 15, 16, 17, 18, 19, 20, 21, 22, 23, 24, 25, 26, 27, 28, 29, 30, 31, 32, 33, 34, 35, 36, 37, 38, 39, 40, 41] (by decide +kernel) (by decide +kernel)
set_option maxRecDepth 20000 in
theorem gX8_missed_X8_aheadOf : GoodIn wsX8_missed (wsV RX8 178 RX8 yX8_aheadOf wsX8_aheadOf) := goodIn_app (goodIn_of _ (by decide +kernel)) ggX8_missed_X8_aheadOf
theorem dX8_missed_0 : decode cX8_missed 0 = .ok (.iconst 0, 1) := by decide +kernel
theorem dX8_missed_1 : decode cX8_missed 1 = .ok (.istore_n 2, 1) := by decide +kernel
theorem dX8_missed_2 : decode cX8_missed 2 = .ok (.iload_n 2, 1) := by decide +kernel
theorem dX8_missed_3 : decode cX8_missed 3 = .ok (.bipush 60, 2) := by decide +kernel
theorem dX8_missed_5 : decode cX8_missed 5 = .ok (.if_icmp .gt 30, 3) := by decide +kernel
theorem dX8_missed_8 : decode cX8_missed 8 = .ok (.aload_n 0, 1) := by decide +kernel
theorem dX8_missed_9 : decode cX8_missed 9 = .ok (.getfield 7, 3) := by decide +kernel
theorem dX8_missed_12 : decode cX8_missed 12 = .ok (.iload_n 2, 1) := by decide +kernel
theorem dX8_missed_13 : decode cX8_missed 13 = .ok (.iaload, 1) := by decide +kernel
theorem dX8_missed_14 : decode cX8_missed 14 = .ok (.iconst 1, 1) := by decide +kernel
theorem dX8_missed_15 : decode cX8_missed 15 = .ok (.if_icmp .ne 14, 3) := by decide +kernel
theorem dX8_missed_18 : decode cX8_missed 18 = .ok (.aload_n 0, 1) := by decide +kernel
theorem dX8_missed_19 : decode cX8_missed 19 = .ok (.iload_n 2, 1) := by decide +kernel
theorem dX8_missed_20 : decode cX8_missed 20 = .ok (.invokevirtual 178, 3) := by decide +kernel
theorem dX8_missed_23 : decode cX8_missed 23 = .ok (.iload_n 1, 1) := by decide +kernel
theorem dX8_missed_24 : decode cX8_missed 24 = .ok (.if_icmp .ne 5, 3) := by decide +kernel
theorem dX8_missed_27 : decode cX8_missed 27 = .ok (.iload_n 2, 1) := by decide +kernel
theorem dX8_missed_28 : decode cX8_missed 28 = .ok (.ireturn, 1) := by decide +kernel
theorem dX8_missed_29 : decode cX8_missed 29 = .ok (.iinc 2 1, 3) := by decide +kernel
theorem dX8_missed_32 : decode cX8_missed 32 = .ok (.goto (-30), 3) := by decide +kernel
theorem dX8_missed_35 : decode cX8_missed 35 = .ok (.bipush (-6), 2) := by decide +kernel
theorem dX8_missed_37 : decode cX8_missed 37 = .ok (.ireturn, 1) := by decide +kernel
set_option maxRecDepth 20000 in
theorem ggX8_sure_X8_missed : GoodIn wsX8_sure wsX8_missed := goodIn_r _ [5, 6, 7, 8, 9, 4, 10, 11, 12, 13, 14, 15, 16, 17, 18, 19, 20, 21, 22, 23, 24, 25, 26, 27, 28, 29, 30, 31, 32, 33, 34, 35, 36, 37, 38, 39, 40, 41, 42, 43, 44, 45] (by decide +kernel) (by decide +kernel)
set_option maxRecDepth 20000 in
theorem gX8_sure_X8_missed : GoodIn wsX8_sure (wsV RX8 181 RX8 yX8_missed wsX8_missed) := goodIn_app (goodIn_of _ (by decide +kernel)) ggX8_sure_X8_missed
set_option maxRecDepth 20000 in
theorem ggX8_sure_X8_reachBut : GoodIn wsX8_sure wsX8_reachBut := goodIn_r _ [14, 15, 16, 17, 4, 18, 6, 19, 20, 21, 22, 23, 24, 25, 26, 27, 28, 29, 30, 31, 32, 33, 34, 35, 36, 37, 38, 39, 40, 41, 42, 43, 44, 45] (by decide +kernel) (by decide +kernel)
set_option maxRecDepth 20000 in
theorem gX8_sure_X8_reachBut : GoodIn wsX8_sure (wsV RX8 99 RX8 yX8_reachBut wsX8_reachBut) := goodIn_app (goodIn_of _ (by decide +kernel)) ggX8_sure_X8_reachBut
theorem dX8_sure_0 : decode cX8_sure 0 = .ok (.aload_n 0, 1) := by decide +kernel
theorem dX8_sure_1 : decode cX8_sure 1 = .ok (.iconst 0, 1) := by decide +kernel
theorem dX8_sure_2 : decode cX8_sure 2 = .ok (.invokevirtual 181, 3) := by decide +kernel
theorem dX8_sure_5 : decode cX8_sure 5 = .ok (.istore_n 1, 1) := by decide +kernel
theorem dX8_sure_6 : decode cX8_sure 6 = .ok (.iload_n 1, 1) := by decide +kernel
theorem dX8_sure_7 : decode cX8_sure 7 = .ok (.ifCond .ge 7, 3) := by decide +kernel
theorem dX8_sure_10 : decode cX8_sure 10 = .ok (.iconst 0, 1) := by decide +kernel
theorem dX8_sure_11 : decode cX8_sure 11 = .ok (.goto 8, 3) := by decide +kernel
theorem dX8_sure_14 : decode cX8_sure 14 = .ok (.aload_n 0, 1) := by decide +kernel
theorem dX8_sure_15 : decode cX8_sure 15 = .ok (.iload_n 1, 1) := by decide +kernel
theorem dX8_sure_16 : decode cX8_sure 16 = .ok (.invokevirtual 99, 3) := by decide +kernel
theorem dX8_sure_19 : decode cX8_sure 19 = .ok (.ireturn, 1) := by decide +kernel
theorem dX8_passRow_0 : decode cX8_passRow 0 = .ok (.iconst 0, 1) := by decide +kernel
theorem dX8_passRow_1 : decode cX8_passRow 1 = .ok (.istore_n 2, 1) := by decide +kernel
theorem dX8_passRow_2 : decode cX8_passRow 2 = .ok (.iload_n 2, 1) := by decide +kernel
theorem dX8_passRow_3 : decode cX8_passRow 3 = .ok (.bipush 61, 2) := by decide +kernel
theorem dX8_passRow_5 : decode cX8_passRow 5 = .ok (.if_icmp .ge 56, 3) := by decide +kernel
theorem dX8_passRow_8 : decode cX8_passRow 8 = .ok (.aload_n 1, 1) := by decide +kernel
theorem dX8_passRow_9 : decode cX8_passRow 9 = .ok (.iload_n 2, 1) := by decide +kernel
theorem dX8_passRow_10 : decode cX8_passRow 10 = .ok (.aload_n 0, 1) := by decide +kernel
theorem dX8_passRow_11 : decode cX8_passRow 11 = .ok (.getfield 184, 3) := by decide +kernel
theorem dX8_passRow_14 : decode cX8_passRow 14 = .ok (.ifCond .eq 9, 3) := by decide +kernel
theorem dX8_passRow_17 : decode cX8_passRow 17 = .ok (.aload_n 1, 1) := by decide +kernel
theorem dX8_passRow_18 : decode cX8_passRow 18 = .ok (.iload_n 2, 1) := by decide +kernel
theorem dX8_passRow_19 : decode cX8_passRow 19 = .ok (.iaload, 1) := by decide +kernel
theorem dX8_passRow_20 : decode cX8_passRow 20 = .ok (.goto 12, 3) := by decide +kernel
theorem dX8_passRow_23 : decode cX8_passRow 23 = .ok (.aload_n 0, 1) := by decide +kernel
theorem dX8_passRow_24 : decode cX8_passRow 24 = .ok (.getfield 58, 3) := by decide +kernel
theorem dX8_passRow_27 : decode cX8_passRow 27 = .ok (.aload_n 0, 1) := by decide +kernel
theorem dX8_passRow_28 : decode cX8_passRow 28 = .ok (.getfield 188, 3) := by decide +kernel
theorem dX8_passRow_31 : decode cX8_passRow 31 = .ok (.iaload, 1) := by decide +kernel
theorem dX8_passRow_32 : decode cX8_passRow 32 = .ok (.iastore, 1) := by decide +kernel
theorem dX8_passRow_33 : decode cX8_passRow 33 = .ok (.aload_n 0, 1) := by decide +kernel
theorem dX8_passRow_34 : decode cX8_passRow 34 = .ok (.getfield 58, 3) := by decide +kernel
theorem dX8_passRow_37 : decode cX8_passRow 37 = .ok (.aload_n 0, 1) := by decide +kernel
theorem dX8_passRow_38 : decode cX8_passRow 38 = .ok (.getfield 188, 3) := by decide +kernel
theorem dX8_passRow_41 : decode cX8_passRow 41 = .ok (.aload_n 1, 1) := by decide +kernel
theorem dX8_passRow_42 : decode cX8_passRow 42 = .ok (.iload_n 2, 1) := by decide +kernel
theorem dX8_passRow_43 : decode cX8_passRow 43 = .ok (.iaload, 1) := by decide +kernel
theorem dX8_passRow_44 : decode cX8_passRow 44 = .ok (.iastore, 1) := by decide +kernel
theorem dX8_passRow_45 : decode cX8_passRow 45 = .ok (.aload_n 0, 1) := by decide +kernel
theorem dX8_passRow_46 : decode cX8_passRow 46 = .ok (.dup, 1) := by decide +kernel
theorem dX8_passRow_47 : decode cX8_passRow 47 = .ok (.getfield 188, 3) := by decide +kernel
theorem dX8_passRow_50 : decode cX8_passRow 50 = .ok (.iconst 1, 1) := by decide +kernel
theorem dX8_passRow_51 : decode cX8_passRow 51 = .ok (.iadd, 1) := by decide +kernel
theorem dX8_passRow_52 : decode cX8_passRow 52 = .ok (.putfield 188, 3) := by decide +kernel
theorem dX8_passRow_55 : decode cX8_passRow 55 = .ok (.iinc 2 1, 3) := by decide +kernel
theorem dX8_passRow_58 : decode cX8_passRow 58 = .ok (.goto (-56), 3) := by decide +kernel
theorem dX8_passRow_61 : decode cX8_passRow 61 = .ok (.return_, 1) := by decide +kernel
set_option maxRecDepth 20000 in
theorem ggX8_passAll_X8_passRow : GoodIn wsX8_passAll wsX8_passRow := goodIn_r _ [8, 9, 10, 11, 12, 13, 14, 15, 16, 17, 18, 19, 20, 21, 22, 23, 24, 25, 26, 27, 28, 29, 30, 31, 32, 33, 34, 35, 36, 37, 38] (by decide +kernel) (by decide +kernel)
set_option maxRecDepth 20000 in
theorem gX8_passAll_X8_passRow : GoodIn wsX8_passAll (wsV RX8 191 RX8 yX8_passRow wsX8_passRow) := goodIn_app (goodIn_of _ (by decide +kernel)) ggX8_passAll_X8_passRow
theorem dX8_passAll_0 : decode cX8_passAll 0 = .ok (.aload_n 0, 1) := by decide +kernel
theorem dX8_passAll_1 : decode cX8_passAll 1 = .ok (.aload_n 0, 1) := by decide +kernel
theorem dX8_passAll_2 : decode cX8_passAll 2 = .ok (.getfield 7, 3) := by decide +kernel
theorem dX8_passAll_5 : decode cX8_passAll 5 = .ok (.invokevirtual 191, 3) := by decide +kernel
theorem dX8_passAll_8 : decode cX8_passAll 8 = .ok (.aload_n 0, 1) := by decide +kernel
theorem dX8_passAll_9 : decode cX8_passAll 9 = .ok (.aload_n 0, 1) := by decide +kernel
theorem dX8_passAll_10 : decode cX8_passAll 10 = .ok (.getfield 13, 3) := by decide +kernel
theorem dX8_passAll_13 : decode cX8_passAll 13 = .ok (.invokevirtual 191, 3) := by decide +kernel
theorem dX8_passAll_16 : decode cX8_passAll 16 = .ok (.aload_n 0, 1) := by decide +kernel
theorem dX8_passAll_17 : decode cX8_passAll 17 = .ok (.aload_n 0, 1) := by decide +kernel
theorem dX8_passAll_18 : decode cX8_passAll 18 = .ok (.getfield 16, 3) := by decide +kernel
theorem dX8_passAll_21 : decode cX8_passAll 21 = .ok (.invokevirtual 191, 3) := by decide +kernel
theorem dX8_passAll_24 : decode cX8_passAll 24 = .ok (.return_, 1) := by decide +kernel
set_option maxRecDepth 20000 in
theorem ggX8_image_X8_in : GoodIn wsX8_image wsX8_in := goodIn_r _ [7] (by decide +kernel) (by decide +kernel)
set_option maxRecDepth 20000 in
theorem gX8_image_X8_in : GoodIn wsX8_image (va_wsS RX8 67 yX8_in wsX8_in) := goodIn_app (goodIn_of _ (by decide +kernel)) ggX8_image_X8_in
set_option maxRecDepth 20000 in
theorem ggX8_image_X8_passAll : GoodIn wsX8_image wsX8_passAll := goodIn_r _ [11, 12, 13, 14, 15, 16, 17, 6, 18, 2, 19, 1, 20, 21, 22, 23, 24, 25, 26, 27, 28, 29, 30, 31, 32, 33, 34, 35, 36, 37, 38, 39, 40, 41, 42, 43, 44, 45, 46] (by decide +kernel) (by decide +kernel)
set_option maxRecDepth 20000 in
theorem gX8_image_X8_passAll : GoodIn wsX8_image (wsV RX8 195 RX8 yX8_passAll wsX8_passAll) := goodIn_app (goodIn_of _ (by decide +kernel)) ggX8_image_X8_passAll
theorem dX8_image_0 : decode cX8_image 0 = .ok (.iload_n 1, 1) := by decide +kernel
theorem dX8_image_1 : decode cX8_image 1 = .ok (.i2l, 1) := by decide +kernel
theorem dX8_image_2 : decode cX8_image 2 = .ok (.lconst 0, 1) := by decide +kernel
theorem dX8_image_3 : decode cX8_image 3 = .ok (.lconst 1, 1) := by decide +kernel
theorem dX8_image_4 : decode cX8_image 4 = .ok (.invokestatic 67, 3) := by decide +kernel
theorem dX8_image_7 : decode cX8_image 7 = .ok (.ifCond .ne 6, 3) := by decide +kernel
theorem dX8_image_10 : decode cX8_image 10 = .ok (.bipush (-2), 2) := by decide +kernel
theorem dX8_image_12 : decode cX8_image 12 = .ok (.ireturn, 1) := by decide +kernel
theorem dX8_image_13 : decode cX8_image 13 = .ok (.aload_n 0, 1) := by decide +kernel
theorem dX8_image_14 : decode cX8_image 14 = .ok (.sipush 183, 3) := by decide +kernel
theorem dX8_image_17 : decode cX8_image 17 = .ok (.iload_n 1, 1) := by decide +kernel
theorem dX8_image_18 : decode cX8_image 18 = .ok (.imul, 1) := by decide +kernel
theorem dX8_image_19 : decode cX8_image 19 = .ok (.putfield 188, 3) := by decide +kernel
theorem dX8_image_22 : decode cX8_image 22 = .ok (.aload_n 0, 1) := by decide +kernel
theorem dX8_image_23 : decode cX8_image 23 = .ok (.iconst 1, 1) := by decide +kernel
theorem dX8_image_24 : decode cX8_image 24 = .ok (.putfield 184, 3) := by decide +kernel
theorem dX8_image_27 : decode cX8_image 27 = .ok (.aload_n 0, 1) := by decide +kernel
theorem dX8_image_28 : decode cX8_image 28 = .ok (.invokevirtual 195, 3) := by decide +kernel
theorem dX8_image_31 : decode cX8_image 31 = .ok (.aload_n 0, 1) := by decide +kernel
theorem dX8_image_32 : decode cX8_image 32 = .ok (.getfield 61, 3) := by decide +kernel
theorem dX8_image_35 : decode cX8_image 35 = .ok (.iload_n 1, 1) := by decide +kernel
theorem dX8_image_36 : decode cX8_image 36 = .ok (.iconst 1, 1) := by decide +kernel
theorem dX8_image_37 : decode cX8_image 37 = .ok (.bastore, 1) := by decide +kernel
theorem dX8_image_38 : decode cX8_image 38 = .ok (.iconst 1, 1) := by decide +kernel
theorem dX8_image_39 : decode cX8_image 39 = .ok (.ireturn, 1) := by decide +kernel
set_option maxRecDepth 20000 in
theorem ggX8_restore_X8_in : GoodIn wsX8_restore wsX8_in := goodIn_r _ [8] (by decide +kernel) (by decide +kernel)
set_option maxRecDepth 20000 in
theorem gX8_restore_X8_in : GoodIn wsX8_restore (va_wsS RX8 67 yX8_in wsX8_in) := goodIn_app (goodIn_of _ (by decide +kernel)) ggX8_restore_X8_in
set_option maxRecDepth 20000 in
theorem ggX8_restore_X8_passAll : GoodIn wsX8_restore wsX8_passAll := goodIn_r _ [12, 13, 14, 15, 16, 17, 18, 7, 19, 3, 20, 2, 21, 22, 23, 24, 25, 26, 27, 28, 29, 30, 31, 32, 33, 34, 35, 36, 37, 38, 39, 40, 41, 42, 43, 44, 45, 46, 47] (by decide +kernel) (by decide +kernel)
set_option maxRecDepth 20000 in
theorem gX8_restore_X8_passAll : GoodIn wsX8_restore (wsV RX8 195 RX8 yX8_passAll wsX8_passAll) := goodIn_app (goodIn_of _ (by decide +kernel)) ggX8_restore_X8_passAll
theorem dX8_restore_0 : decode cX8_restore 0 = .ok (.iload_n 1, 1) := by decide +kernel
theorem dX8_restore_1 : decode cX8_restore 1 = .ok (.i2l, 1) := by decide +kernel
theorem dX8_restore_2 : decode cX8_restore 2 = .ok (.lconst 0, 1) := by decide +kernel
theorem dX8_restore_3 : decode cX8_restore 3 = .ok (.lconst 1, 1) := by decide +kernel
theorem dX8_restore_4 : decode cX8_restore 4 = .ok (.invokestatic 67, 3) := by decide +kernel
theorem dX8_restore_7 : decode cX8_restore 7 = .ok (.ifCond .ne 6, 3) := by decide +kernel
theorem dX8_restore_10 : decode cX8_restore 10 = .ok (.bipush (-2), 2) := by decide +kernel
theorem dX8_restore_12 : decode cX8_restore 12 = .ok (.ireturn, 1) := by decide +kernel
theorem dX8_restore_13 : decode cX8_restore 13 = .ok (.aload_n 0, 1) := by decide +kernel
theorem dX8_restore_14 : decode cX8_restore 14 = .ok (.getfield 61, 3) := by decide +kernel
theorem dX8_restore_17 : decode cX8_restore 17 = .ok (.iload_n 1, 1) := by decide +kernel
theorem dX8_restore_18 : decode cX8_restore 18 = .ok (.baload, 1) := by decide +kernel
theorem dX8_restore_19 : decode cX8_restore 19 = .ok (.ifCond .ne 6, 3) := by decide +kernel
theorem dX8_restore_22 : decode cX8_restore 22 = .ok (.bipush (-3), 2) := by decide +kernel
theorem dX8_restore_24 : decode cX8_restore 24 = .ok (.ireturn, 1) := by decide +kernel
theorem dX8_restore_25 : decode cX8_restore 25 = .ok (.aload_n 0, 1) := by decide +kernel
theorem dX8_restore_26 : decode cX8_restore 26 = .ok (.sipush 183, 3) := by decide +kernel
theorem dX8_restore_29 : decode cX8_restore 29 = .ok (.iload_n 1, 1) := by decide +kernel
theorem dX8_restore_30 : decode cX8_restore 30 = .ok (.imul, 1) := by decide +kernel
theorem dX8_restore_31 : decode cX8_restore 31 = .ok (.putfield 188, 3) := by decide +kernel
theorem dX8_restore_34 : decode cX8_restore 34 = .ok (.aload_n 0, 1) := by decide +kernel
theorem dX8_restore_35 : decode cX8_restore 35 = .ok (.iconst 0, 1) := by decide +kernel
theorem dX8_restore_36 : decode cX8_restore 36 = .ok (.putfield 184, 3) := by decide +kernel
theorem dX8_restore_39 : decode cX8_restore 39 = .ok (.aload_n 0, 1) := by decide +kernel
theorem dX8_restore_40 : decode cX8_restore 40 = .ok (.invokevirtual 195, 3) := by decide +kernel
theorem dX8_restore_43 : decode cX8_restore 43 = .ok (.aload_n 0, 1) := by decide +kernel
theorem dX8_restore_44 : decode cX8_restore 44 = .ok (.iconst 0, 1) := by decide +kernel
theorem dX8_restore_45 : decode cX8_restore 45 = .ok (.putfield 73, 3) := by decide +kernel
theorem dX8_restore_48 : decode cX8_restore 48 = .ok (.iconst 1, 1) := by decide +kernel
theorem dX8_restore_49 : decode cX8_restore 49 = .ok (.ireturn, 1) := by decide +kernel
set_option maxRecDepth 20000 in
theorem ggX8_told_X8_in : GoodIn wsX8_told wsX8_in := goodIn_r _ [18] (by decide +kernel) (by decide +kernel)
set_option maxRecDepth 20000 in
theorem gX8_told_X8_in : GoodIn wsX8_told (va_wsS RX8 67 yX8_in wsX8_in) := goodIn_app (goodIn_of _ (by decide +kernel)) ggX8_told_X8_in
theorem dX8_told_0 : decode cX8_told 0 = .ok (.iload_n 1, 1) := by decide +kernel
theorem dX8_told_1 : decode cX8_told 1 = .ok (.i2l, 1) := by decide +kernel
theorem dX8_told_2 : decode cX8_told 2 = .ok (.ldc2_w 198, 3) := by decide +kernel
theorem dX8_told_5 : decode cX8_told 5 = .ok (.ldc2_w 200, 3) := by decide +kernel
theorem dX8_told_8 : decode cX8_told 8 = .ok (.invokestatic 67, 3) := by decide +kernel
theorem dX8_told_11 : decode cX8_told 11 = .ok (.ifCond .eq 31, 3) := by decide +kernel
theorem dX8_told_14 : decode cX8_told 14 = .ok (.aload_n 0, 1) := by decide +kernel
theorem dX8_told_15 : decode cX8_told 15 = .ok (.getfield 7, 3) := by decide +kernel
theorem dX8_told_18 : decode cX8_told 18 = .ok (.iload_n 1, 1) := by decide +kernel
theorem dX8_told_19 : decode cX8_told 19 = .ok (.bipush 100, 2) := by decide +kernel
theorem dX8_told_21 : decode cX8_told 21 = .ok (.isub, 1) := by decide +kernel
theorem dX8_told_22 : decode cX8_told 22 = .ok (.iaload, 1) := by decide +kernel
theorem dX8_told_23 : decode cX8_told 23 = .ok (.iconst 1, 1) := by decide +kernel
theorem dX8_told_24 : decode cX8_told 24 = .ok (.if_icmp .ne 15, 3) := by decide +kernel
theorem dX8_told_27 : decode cX8_told 27 = .ok (.aload_n 0, 1) := by decide +kernel
theorem dX8_told_28 : decode cX8_told 28 = .ok (.getfield 13, 3) := by decide +kernel
theorem dX8_told_31 : decode cX8_told 31 = .ok (.iload_n 1, 1) := by decide +kernel
theorem dX8_told_32 : decode cX8_told 32 = .ok (.bipush 100, 2) := by decide +kernel
theorem dX8_told_34 : decode cX8_told 34 = .ok (.isub, 1) := by decide +kernel
theorem dX8_told_35 : decode cX8_told 35 = .ok (.iaload, 1) := by decide +kernel
theorem dX8_told_36 : decode cX8_told 36 = .ok (.goto 5, 3) := by decide +kernel
theorem dX8_told_39 : decode cX8_told 39 = .ok (.bipush (-6), 2) := by decide +kernel
theorem dX8_told_41 : decode cX8_told 41 = .ok (.ireturn, 1) := by decide +kernel
theorem dX8_told_42 : decode cX8_told 42 = .ok (.iload_n 1, 1) := by decide +kernel
theorem dX8_told_43 : decode cX8_told 43 = .ok (.i2l, 1) := by decide +kernel
theorem dX8_told_44 : decode cX8_told 44 = .ok (.ldc2_w 202, 3) := by decide +kernel
theorem dX8_told_47 : decode cX8_told 47 = .ok (.ldc2_w 204, 3) := by decide +kernel
theorem dX8_told_50 : decode cX8_told 50 = .ok (.invokestatic 67, 3) := by decide +kernel
theorem dX8_told_53 : decode cX8_told 53 = .ok (.ifCond .eq 14, 3) := by decide +kernel
theorem dX8_told_56 : decode cX8_told 56 = .ok (.aload_n 0, 1) := by decide +kernel
theorem dX8_told_57 : decode cX8_told 57 = .ok (.getfield 16, 3) := by decide +kernel
theorem dX8_told_60 : decode cX8_told 60 = .ok (.iload_n 1, 1) := by decide +kernel
theorem dX8_told_61 : decode cX8_told 61 = .ok (.sipush 200, 3) := by decide +kernel
theorem dX8_told_64 : decode cX8_told 64 = .ok (.isub, 1) := by decide +kernel
theorem dX8_told_65 : decode cX8_told 65 = .ok (.iaload, 1) := by decide +kernel
theorem dX8_told_66 : decode cX8_told 66 = .ok (.ireturn, 1) := by decide +kernel
theorem dX8_told_67 : decode cX8_told 67 = .ok (.iload_n 1, 1) := by decide +kernel
theorem dX8_told_68 : decode cX8_told 68 = .ok (.tableswitch 79 0 6 #[44, 49, 54, 59, 64, 69, 74], 44) := by decide +kernel
theorem dX8_told_112 : decode cX8_told 112 = .ok (.aload_n 0, 1) := by decide +kernel
theorem dX8_told_113 : decode cX8_told 113 = .ok (.getfield 73, 3) := by decide +kernel
theorem dX8_told_116 : decode cX8_told 116 = .ok (.ireturn, 1) := by decide +kernel
theorem dX8_told_117 : decode cX8_told 117 = .ok (.aload_n 0, 1) := by decide +kernel
theorem dX8_told_118 : decode cX8_told 118 = .ok (.getfield 129, 3) := by decide +kernel
theorem dX8_told_121 : decode cX8_told 121 = .ok (.ireturn, 1) := by decide +kernel
theorem dX8_told_122 : decode cX8_told 122 = .ok (.aload_n 0, 1) := by decide +kernel
theorem dX8_told_123 : decode cX8_told 123 = .ok (.getfield 136, 3) := by decide +kernel
theorem dX8_told_126 : decode cX8_told 126 = .ok (.ireturn, 1) := by decide +kernel
theorem dX8_told_127 : decode cX8_told 127 = .ok (.aload_n 0, 1) := by decide +kernel
theorem dX8_told_128 : decode cX8_told 128 = .ok (.getfield 89, 3) := by decide +kernel
theorem dX8_told_131 : decode cX8_told 131 = .ok (.ireturn, 1) := by decide +kernel
theorem dX8_told_132 : decode cX8_told 132 = .ok (.aload_n 0, 1) := by decide +kernel
theorem dX8_told_133 : decode cX8_told 133 = .ok (.getfield 126, 3) := by decide +kernel
theorem dX8_told_136 : decode cX8_told 136 = .ok (.ireturn, 1) := by decide +kernel
theorem dX8_told_137 : decode cX8_told 137 = .ok (.aload_n 0, 1) := by decide +kernel
theorem dX8_told_138 : decode cX8_told 138 = .ok (.getfield 155, 3) := by decide +kernel
theorem dX8_told_141 : decode cX8_told 141 = .ok (.ireturn, 1) := by decide +kernel
theorem dX8_told_142 : decode cX8_told 142 = .ok (.aload_n 0, 1) := by decide +kernel
theorem dX8_told_143 : decode cX8_told 143 = .ok (.getfield 169, 3) := by decide +kernel
theorem dX8_told_146 : decode cX8_told 146 = .ok (.ireturn, 1) := by decide +kernel
theorem dX8_told_147 : decode cX8_told 147 = .ok (.bipush (-2), 2) := by decide +kernel
theorem dX8_told_149 : decode cX8_told 149 = .ok (.ireturn, 1) := by decide +kernel
theorem dJ6_bitCount_0f7a4_0 : decode cJ6_bitCount_0f7a4 0 = .ok (.iload_n 0, 1) := by decide +kernel
theorem dJ6_bitCount_0f7a4_1 : decode cJ6_bitCount_0f7a4 1 = .ok (.iload_n 0, 1) := by decide +kernel
theorem dJ6_bitCount_0f7a4_2 : decode cJ6_bitCount_0f7a4 2 = .ok (.iconst 1, 1) := by decide +kernel
theorem dJ6_bitCount_0f7a4_3 : decode cJ6_bitCount_0f7a4 3 = .ok (.iushr, 1) := by decide +kernel
theorem dJ6_bitCount_0f7a4_4 : decode cJ6_bitCount_0f7a4 4 = .ok (.ldc_w 265, 3) := by decide +kernel
theorem dJ6_bitCount_0f7a4_7 : decode cJ6_bitCount_0f7a4 7 = .ok (.iand, 1) := by decide +kernel
theorem dJ6_bitCount_0f7a4_8 : decode cJ6_bitCount_0f7a4 8 = .ok (.isub, 1) := by decide +kernel
theorem dJ6_bitCount_0f7a4_9 : decode cJ6_bitCount_0f7a4 9 = .ok (.istore_n 0, 1) := by decide +kernel
theorem dJ6_bitCount_0f7a4_10 : decode cJ6_bitCount_0f7a4 10 = .ok (.iload_n 0, 1) := by decide +kernel
theorem dJ6_bitCount_0f7a4_11 : decode cJ6_bitCount_0f7a4 11 = .ok (.ldc_w 266, 3) := by decide +kernel
theorem dJ6_bitCount_0f7a4_14 : decode cJ6_bitCount_0f7a4 14 = .ok (.iand, 1) := by decide +kernel
theorem dJ6_bitCount_0f7a4_15 : decode cJ6_bitCount_0f7a4 15 = .ok (.iload_n 0, 1) := by decide +kernel
theorem dJ6_bitCount_0f7a4_16 : decode cJ6_bitCount_0f7a4 16 = .ok (.iconst 2, 1) := by decide +kernel
theorem dJ6_bitCount_0f7a4_17 : decode cJ6_bitCount_0f7a4 17 = .ok (.iushr, 1) := by decide +kernel
theorem dJ6_bitCount_0f7a4_18 : decode cJ6_bitCount_0f7a4 18 = .ok (.ldc_w 266, 3) := by decide +kernel
theorem dJ6_bitCount_0f7a4_21 : decode cJ6_bitCount_0f7a4 21 = .ok (.iand, 1) := by decide +kernel
theorem dJ6_bitCount_0f7a4_22 : decode cJ6_bitCount_0f7a4 22 = .ok (.iadd, 1) := by decide +kernel
theorem dJ6_bitCount_0f7a4_23 : decode cJ6_bitCount_0f7a4 23 = .ok (.istore_n 0, 1) := by decide +kernel
theorem dJ6_bitCount_0f7a4_24 : decode cJ6_bitCount_0f7a4 24 = .ok (.iload_n 0, 1) := by decide +kernel
theorem dJ6_bitCount_0f7a4_25 : decode cJ6_bitCount_0f7a4 25 = .ok (.iload_n 0, 1) := by decide +kernel
theorem dJ6_bitCount_0f7a4_26 : decode cJ6_bitCount_0f7a4 26 = .ok (.iconst 4, 1) := by decide +kernel
theorem dJ6_bitCount_0f7a4_27 : decode cJ6_bitCount_0f7a4 27 = .ok (.iushr, 1) := by decide +kernel
theorem dJ6_bitCount_0f7a4_28 : decode cJ6_bitCount_0f7a4 28 = .ok (.iadd, 1) := by decide +kernel
theorem dJ6_bitCount_0f7a4_29 : decode cJ6_bitCount_0f7a4 29 = .ok (.ldc_w 267, 3) := by decide +kernel
theorem dJ6_bitCount_0f7a4_32 : decode cJ6_bitCount_0f7a4 32 = .ok (.iand, 1) := by decide +kernel
theorem dJ6_bitCount_0f7a4_33 : decode cJ6_bitCount_0f7a4 33 = .ok (.istore_n 0, 1) := by decide +kernel
theorem dJ6_bitCount_0f7a4_34 : decode cJ6_bitCount_0f7a4 34 = .ok (.iload_n 0, 1) := by decide +kernel
theorem dJ6_bitCount_0f7a4_35 : decode cJ6_bitCount_0f7a4 35 = .ok (.iload_n 0, 1) := by decide +kernel
theorem dJ6_bitCount_0f7a4_36 : decode cJ6_bitCount_0f7a4 36 = .ok (.bipush 8, 2) := by decide +kernel
theorem dJ6_bitCount_0f7a4_38 : decode cJ6_bitCount_0f7a4 38 = .ok (.iushr, 1) := by decide +kernel
theorem dJ6_bitCount_0f7a4_39 : decode cJ6_bitCount_0f7a4 39 = .ok (.iadd, 1) := by decide +kernel
theorem dJ6_bitCount_0f7a4_40 : decode cJ6_bitCount_0f7a4 40 = .ok (.istore_n 0, 1) := by decide +kernel
theorem dJ6_bitCount_0f7a4_41 : decode cJ6_bitCount_0f7a4 41 = .ok (.iload_n 0, 1) := by decide +kernel
theorem dJ6_bitCount_0f7a4_42 : decode cJ6_bitCount_0f7a4 42 = .ok (.iload_n 0, 1) := by decide +kernel
theorem dJ6_bitCount_0f7a4_43 : decode cJ6_bitCount_0f7a4 43 = .ok (.bipush 16, 2) := by decide +kernel
theorem dJ6_bitCount_0f7a4_45 : decode cJ6_bitCount_0f7a4 45 = .ok (.iushr, 1) := by decide +kernel
theorem dJ6_bitCount_0f7a4_46 : decode cJ6_bitCount_0f7a4 46 = .ok (.iadd, 1) := by decide +kernel
theorem dJ6_bitCount_0f7a4_47 : decode cJ6_bitCount_0f7a4 47 = .ok (.istore_n 0, 1) := by decide +kernel
theorem dJ6_bitCount_0f7a4_48 : decode cJ6_bitCount_0f7a4 48 = .ok (.iload_n 0, 1) := by decide +kernel
theorem dJ6_bitCount_0f7a4_49 : decode cJ6_bitCount_0f7a4 49 = .ok (.bipush 63, 2) := by decide +kernel
theorem dJ6_bitCount_0f7a4_51 : decode cJ6_bitCount_0f7a4 51 = .ok (.iand, 1) := by decide +kernel
theorem dJ6_bitCount_0f7a4_52 : decode cJ6_bitCount_0f7a4 52 = .ok (.ireturn, 1) := by decide +kernel
theorem dJ13_bitCount_95d88_0 : decode cJ13_bitCount_95d88 0 = .ok (.lload_n 0, 1) := by decide +kernel
theorem dJ13_bitCount_95d88_1 : decode cJ13_bitCount_95d88 1 = .ok (.lload_n 0, 1) := by decide +kernel
theorem dJ13_bitCount_95d88_2 : decode cJ13_bitCount_95d88 2 = .ok (.iconst 1, 1) := by decide +kernel
theorem dJ13_bitCount_95d88_3 : decode cJ13_bitCount_95d88 3 = .ok (.lushr, 1) := by decide +kernel
theorem dJ13_bitCount_95d88_4 : decode cJ13_bitCount_95d88 4 = .ok (.ldc2_w 314, 3) := by decide +kernel
theorem dJ13_bitCount_95d88_7 : decode cJ13_bitCount_95d88 7 = .ok (.land, 1) := by decide +kernel
theorem dJ13_bitCount_95d88_8 : decode cJ13_bitCount_95d88 8 = .ok (.lsub, 1) := by decide +kernel
theorem dJ13_bitCount_95d88_9 : decode cJ13_bitCount_95d88 9 = .ok (.lstore_n 0, 1) := by decide +kernel
theorem dJ13_bitCount_95d88_10 : decode cJ13_bitCount_95d88 10 = .ok (.lload_n 0, 1) := by decide +kernel
theorem dJ13_bitCount_95d88_11 : decode cJ13_bitCount_95d88 11 = .ok (.ldc2_w 316, 3) := by decide +kernel
theorem dJ13_bitCount_95d88_14 : decode cJ13_bitCount_95d88 14 = .ok (.land, 1) := by decide +kernel
theorem dJ13_bitCount_95d88_15 : decode cJ13_bitCount_95d88 15 = .ok (.lload_n 0, 1) := by decide +kernel
theorem dJ13_bitCount_95d88_16 : decode cJ13_bitCount_95d88 16 = .ok (.iconst 2, 1) := by decide +kernel
theorem dJ13_bitCount_95d88_17 : decode cJ13_bitCount_95d88 17 = .ok (.lushr, 1) := by decide +kernel
theorem dJ13_bitCount_95d88_18 : decode cJ13_bitCount_95d88 18 = .ok (.ldc2_w 316, 3) := by decide +kernel
theorem dJ13_bitCount_95d88_21 : decode cJ13_bitCount_95d88 21 = .ok (.land, 1) := by decide +kernel
theorem dJ13_bitCount_95d88_22 : decode cJ13_bitCount_95d88 22 = .ok (.ladd, 1) := by decide +kernel
theorem dJ13_bitCount_95d88_23 : decode cJ13_bitCount_95d88 23 = .ok (.lstore_n 0, 1) := by decide +kernel
theorem dJ13_bitCount_95d88_24 : decode cJ13_bitCount_95d88 24 = .ok (.lload_n 0, 1) := by decide +kernel
theorem dJ13_bitCount_95d88_25 : decode cJ13_bitCount_95d88 25 = .ok (.lload_n 0, 1) := by decide +kernel
theorem dJ13_bitCount_95d88_26 : decode cJ13_bitCount_95d88 26 = .ok (.iconst 4, 1) := by decide +kernel
theorem dJ13_bitCount_95d88_27 : decode cJ13_bitCount_95d88 27 = .ok (.lushr, 1) := by decide +kernel
theorem dJ13_bitCount_95d88_28 : decode cJ13_bitCount_95d88 28 = .ok (.ladd, 1) := by decide +kernel
theorem dJ13_bitCount_95d88_29 : decode cJ13_bitCount_95d88 29 = .ok (.ldc2_w 318, 3) := by decide +kernel
theorem dJ13_bitCount_95d88_32 : decode cJ13_bitCount_95d88 32 = .ok (.land, 1) := by decide +kernel
theorem dJ13_bitCount_95d88_33 : decode cJ13_bitCount_95d88 33 = .ok (.lstore_n 0, 1) := by decide +kernel
theorem dJ13_bitCount_95d88_34 : decode cJ13_bitCount_95d88 34 = .ok (.lload_n 0, 1) := by decide +kernel
theorem dJ13_bitCount_95d88_35 : decode cJ13_bitCount_95d88 35 = .ok (.lload_n 0, 1) := by decide +kernel
theorem dJ13_bitCount_95d88_36 : decode cJ13_bitCount_95d88 36 = .ok (.bipush 8, 2) := by decide +kernel
theorem dJ13_bitCount_95d88_38 : decode cJ13_bitCount_95d88 38 = .ok (.lushr, 1) := by decide +kernel
theorem dJ13_bitCount_95d88_39 : decode cJ13_bitCount_95d88 39 = .ok (.ladd, 1) := by decide +kernel
theorem dJ13_bitCount_95d88_40 : decode cJ13_bitCount_95d88 40 = .ok (.lstore_n 0, 1) := by decide +kernel
theorem dJ13_bitCount_95d88_41 : decode cJ13_bitCount_95d88 41 = .ok (.lload_n 0, 1) := by decide +kernel
theorem dJ13_bitCount_95d88_42 : decode cJ13_bitCount_95d88 42 = .ok (.lload_n 0, 1) := by decide +kernel
theorem dJ13_bitCount_95d88_43 : decode cJ13_bitCount_95d88 43 = .ok (.bipush 16, 2) := by decide +kernel
theorem dJ13_bitCount_95d88_45 : decode cJ13_bitCount_95d88 45 = .ok (.lushr, 1) := by decide +kernel
theorem dJ13_bitCount_95d88_46 : decode cJ13_bitCount_95d88 46 = .ok (.ladd, 1) := by decide +kernel
theorem dJ13_bitCount_95d88_47 : decode cJ13_bitCount_95d88 47 = .ok (.lstore_n 0, 1) := by decide +kernel
theorem dJ13_bitCount_95d88_48 : decode cJ13_bitCount_95d88 48 = .ok (.lload_n 0, 1) := by decide +kernel
theorem dJ13_bitCount_95d88_49 : decode cJ13_bitCount_95d88 49 = .ok (.lload_n 0, 1) := by decide +kernel
theorem dJ13_bitCount_95d88_50 : decode cJ13_bitCount_95d88 50 = .ok (.bipush 32, 2) := by decide +kernel
theorem dJ13_bitCount_95d88_52 : decode cJ13_bitCount_95d88 52 = .ok (.lushr, 1) := by decide +kernel
theorem dJ13_bitCount_95d88_53 : decode cJ13_bitCount_95d88 53 = .ok (.ladd, 1) := by decide +kernel
theorem dJ13_bitCount_95d88_54 : decode cJ13_bitCount_95d88 54 = .ok (.lstore_n 0, 1) := by decide +kernel
theorem dJ13_bitCount_95d88_55 : decode cJ13_bitCount_95d88 55 = .ok (.lload_n 0, 1) := by decide +kernel
theorem dJ13_bitCount_95d88_56 : decode cJ13_bitCount_95d88 56 = .ok (.l2i, 1) := by decide +kernel
theorem dJ13_bitCount_95d88_57 : decode cJ13_bitCount_95d88 57 = .ok (.bipush 127, 2) := by decide +kernel
theorem dJ13_bitCount_95d88_59 : decode cJ13_bitCount_95d88 59 = .ok (.iand, 1) := by decide +kernel
theorem dJ13_bitCount_95d88_60 : decode cJ13_bitCount_95d88 60 = .ok (.ireturn, 1) := by decide +kernel
theorem dJ9_floorMod_7cf53_0 : decode cJ9_floorMod_7cf53 0 = .ok (.iload_n 0, 1) := by decide +kernel
theorem dJ9_floorMod_7cf53_1 : decode cJ9_floorMod_7cf53 1 = .ok (.iload_n 1, 1) := by decide +kernel
theorem dJ9_floorMod_7cf53_2 : decode cJ9_floorMod_7cf53 2 = .ok (.irem, 1) := by decide +kernel
theorem dJ9_floorMod_7cf53_3 : decode cJ9_floorMod_7cf53 3 = .ok (.istore_n 2, 1) := by decide +kernel
theorem dJ9_floorMod_7cf53_4 : decode cJ9_floorMod_7cf53 4 = .ok (.iload_n 0, 1) := by decide +kernel
theorem dJ9_floorMod_7cf53_5 : decode cJ9_floorMod_7cf53 5 = .ok (.iload_n 1, 1) := by decide +kernel
theorem dJ9_floorMod_7cf53_6 : decode cJ9_floorMod_7cf53 6 = .ok (.ixor, 1) := by decide +kernel
theorem dJ9_floorMod_7cf53_7 : decode cJ9_floorMod_7cf53 7 = .ok (.ifCond .ge 11, 3) := by decide +kernel
theorem dJ9_floorMod_7cf53_10 : decode cJ9_floorMod_7cf53 10 = .ok (.iload_n 2, 1) := by decide +kernel
theorem dJ9_floorMod_7cf53_11 : decode cJ9_floorMod_7cf53 11 = .ok (.ifCond .eq 7, 3) := by decide +kernel
theorem dJ9_floorMod_7cf53_14 : decode cJ9_floorMod_7cf53 14 = .ok (.iload_n 2, 1) := by decide +kernel
theorem dJ9_floorMod_7cf53_15 : decode cJ9_floorMod_7cf53 15 = .ok (.iload_n 1, 1) := by decide +kernel
theorem dJ9_floorMod_7cf53_16 : decode cJ9_floorMod_7cf53 16 = .ok (.iadd, 1) := by decide +kernel
theorem dJ9_floorMod_7cf53_17 : decode cJ9_floorMod_7cf53 17 = .ok (.ireturn, 1) := by decide +kernel
theorem dJ9_floorMod_7cf53_18 : decode cJ9_floorMod_7cf53 18 = .ok (.iload_n 2, 1) := by decide +kernel
theorem dJ9_floorMod_7cf53_19 : decode cJ9_floorMod_7cf53 19 = .ok (.ireturn, 1) := by decide +kernel
theorem dJ9_max_7cf53_0 : decode cJ9_max_7cf53 0 = .ok (.iload_n 0, 1) := by decide +kernel
theorem dJ9_max_7cf53_1 : decode cJ9_max_7cf53 1 = .ok (.iload_n 1, 1) := by decide +kernel
theorem dJ9_max_7cf53_2 : decode cJ9_max_7cf53 2 = .ok (.if_icmp .lt 7, 3) := by decide +kernel
theorem dJ9_max_7cf53_5 : decode cJ9_max_7cf53 5 = .ok (.iload_n 0, 1) := by decide +kernel
theorem dJ9_max_7cf53_6 : decode cJ9_max_7cf53 6 = .ok (.goto 4, 3) := by decide +kernel
theorem dJ9_max_7cf53_9 : decode cJ9_max_7cf53 9 = .ok (.iload_n 1, 1) := by decide +kernel
theorem dJ9_max_7cf53_10 : decode cJ9_max_7cf53 10 = .ok (.ireturn, 1) := by decide +kernel
theorem dJ9_min_7cf53_0 : decode cJ9_min_7cf53 0 = .ok (.iload_n 0, 1) := by decide +kernel
theorem dJ9_min_7cf53_1 : decode cJ9_min_7cf53 1 = .ok (.iload_n 1, 1) := by decide +kernel
theorem dJ9_min_7cf53_2 : decode cJ9_min_7cf53 2 = .ok (.if_icmp .gt 7, 3) := by decide +kernel
theorem dJ9_min_7cf53_5 : decode cJ9_min_7cf53 5 = .ok (.iload_n 0, 1) := by decide +kernel
theorem dJ9_min_7cf53_6 : decode cJ9_min_7cf53 6 = .ok (.goto 4, 3) := by decide +kernel
theorem dJ9_min_7cf53_9 : decode cJ9_min_7cf53 9 = .ok (.iload_n 1, 1) := by decide +kernel
theorem dJ9_min_7cf53_10 : decode cJ9_min_7cf53 10 = .ok (.ireturn, 1) := by decide +kernel
