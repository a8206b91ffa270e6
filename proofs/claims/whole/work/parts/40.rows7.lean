theorem dX7_init_0 : decode cX7_init 0 = .ok (.aload_n 0, 1) := by decide +kernel
theorem dX7_init_1 : decode cX7_init 1 = .ok (.invokespecial 1, 3) := by decide +kernel
theorem dX7_init_4 : decode cX7_init 4 = .ok (.aload_n 0, 1) := by decide +kernel
theorem dX7_init_5 : decode cX7_init 5 = .ok (.bipush 26, 2) := by decide +kernel
theorem dX7_init_7 : decode cX7_init 7 = .ok (.newarray .int, 2) := by decide +kernel
theorem dX7_init_9 : decode cX7_init 9 = .ok (.putfield 7, 3) := by decide +kernel
theorem dX7_init_12 : decode cX7_init 12 = .ok (.aload_n 0, 1) := by decide +kernel
theorem dX7_init_13 : decode cX7_init 13 = .ok (.bipush 26, 2) := by decide +kernel
theorem dX7_init_15 : decode cX7_init 15 = .ok (.newarray .int, 2) := by decide +kernel
theorem dX7_init_17 : decode cX7_init 17 = .ok (.putfield 13, 3) := by decide +kernel
theorem dX7_init_20 : decode cX7_init 20 = .ok (.aload_n 0, 1) := by decide +kernel
theorem dX7_init_21 : decode cX7_init 21 = .ok (.bipush 26, 2) := by decide +kernel
theorem dX7_init_23 : decode cX7_init 23 = .ok (.newarray .int, 2) := by decide +kernel
theorem dX7_init_25 : decode cX7_init 25 = .ok (.putfield 16, 3) := by decide +kernel
theorem dX7_init_28 : decode cX7_init 28 = .ok (.aload_n 0, 1) := by decide +kernel
theorem dX7_init_29 : decode cX7_init 29 = .ok (.bipush 26, 2) := by decide +kernel
theorem dX7_init_31 : decode cX7_init 31 = .ok (.newarray .int, 2) := by decide +kernel
theorem dX7_init_33 : decode cX7_init 33 = .ok (.putfield 19, 3) := by decide +kernel
theorem dX7_init_36 : decode cX7_init 36 = .ok (.aload_n 0, 1) := by decide +kernel
theorem dX7_init_37 : decode cX7_init 37 = .ok (.bipush 26, 2) := by decide +kernel
theorem dX7_init_39 : decode cX7_init 39 = .ok (.newarray .boolean, 2) := by decide +kernel
theorem dX7_init_41 : decode cX7_init 41 = .ok (.putfield 22, 3) := by decide +kernel
theorem dX7_init_44 : decode cX7_init 44 = .ok (.aload_n 0, 1) := by decide +kernel
theorem dX7_init_45 : decode cX7_init 45 = .ok (.sipush 676, 3) := by decide +kernel
theorem dX7_init_48 : decode cX7_init 48 = .ok (.newarray .int, 2) := by decide +kernel
theorem dX7_init_50 : decode cX7_init 50 = .ok (.putfield 26, 3) := by decide +kernel
theorem dX7_init_53 : decode cX7_init 53 = .ok (.aload_n 0, 1) := by decide +kernel
theorem dX7_init_54 : decode cX7_init 54 = .ok (.bipush 40, 2) := by decide +kernel
theorem dX7_init_56 : decode cX7_init 56 = .ok (.newarray .int, 2) := by decide +kernel
theorem dX7_init_58 : decode cX7_init 58 = .ok (.putfield 29, 3) := by decide +kernel
theorem dX7_init_61 : decode cX7_init 61 = .ok (.aload_n 0, 1) := by decide +kernel
theorem dX7_init_62 : decode cX7_init 62 = .ok (.bipush 40, 2) := by decide +kernel
theorem dX7_init_64 : decode cX7_init 64 = .ok (.newarray .int, 2) := by decide +kernel
theorem dX7_init_66 : decode cX7_init 66 = .ok (.putfield 32, 3) := by decide +kernel
theorem dX7_init_69 : decode cX7_init 69 = .ok (.aload_n 0, 1) := by decide +kernel
theorem dX7_init_70 : decode cX7_init 70 = .ok (.iconst 5, 1) := by decide +kernel
theorem dX7_init_71 : decode cX7_init 71 = .ok (.newarray .int, 2) := by decide +kernel
theorem dX7_init_73 : decode cX7_init 73 = .ok (.putfield 35, 3) := by decide +kernel
theorem dX7_init_76 : decode cX7_init 76 = .ok (.aload_n 0, 1) := by decide +kernel
theorem dX7_init_77 : decode cX7_init 77 = .ok (.bipush 8, 2) := by decide +kernel
theorem dX7_init_79 : decode cX7_init 79 = .ok (.newarray .int, 2) := by decide +kernel
theorem dX7_init_81 : decode cX7_init 81 = .ok (.putfield 38, 3) := by decide +kernel
theorem dX7_init_84 : decode cX7_init 84 = .ok (.aload_n 0, 1) := by decide +kernel
theorem dX7_init_85 : decode cX7_init 85 = .ok (.sipush 300, 3) := by decide +kernel
theorem dX7_init_88 : decode cX7_init 88 = .ok (.putfield 41, 3) := by decide +kernel
theorem dX7_init_91 : decode cX7_init 91 = .ok (.aload_n 0, 1) := by decide +kernel
theorem dX7_init_92 : decode cX7_init 92 = .ok (.sipush 1000, 3) := by decide +kernel
theorem dX7_init_95 : decode cX7_init 95 = .ok (.putfield 45, 3) := by decide +kernel
theorem dX7_init_98 : decode cX7_init 98 = .ok (.aload_n 0, 1) := by decide +kernel
theorem dX7_init_99 : decode cX7_init 99 = .ok (.bipush 100, 2) := by decide +kernel
theorem dX7_init_101 : decode cX7_init 101 = .ok (.newarray .int, 2) := by decide +kernel
theorem dX7_init_103 : decode cX7_init 103 = .ok (.putfield 48, 3) := by decide +kernel
theorem dX7_init_106 : decode cX7_init 106 = .ok (.iconst 0, 1) := by decide +kernel
theorem dX7_init_107 : decode cX7_init 107 = .ok (.istore_n 1, 1) := by decide +kernel
theorem dX7_init_108 : decode cX7_init 108 = .ok (.iload_n 1, 1) := by decide +kernel
theorem dX7_init_109 : decode cX7_init 109 = .ok (.bipush 26, 2) := by decide +kernel
theorem dX7_init_111 : decode cX7_init 111 = .ok (.if_icmp .ge 41, 3) := by decide +kernel
theorem dX7_init_114 : decode cX7_init 114 = .ok (.aload_n 0, 1) := by decide +kernel
theorem dX7_init_115 : decode cX7_init 115 = .ok (.getfield 7, 3) := by decide +kernel
theorem dX7_init_118 : decode cX7_init 118 = .ok (.iload_n 1, 1) := by decide +kernel
theorem dX7_init_119 : decode cX7_init 119 = .ok (.iload_n 1, 1) := by decide +kernel
theorem dX7_init_120 : decode cX7_init 120 = .ok (.iastore, 1) := by decide +kernel
theorem dX7_init_121 : decode cX7_init 121 = .ok (.aload_n 0, 1) := by decide +kernel
theorem dX7_init_122 : decode cX7_init 122 = .ok (.getfield 16, 3) := by decide +kernel
theorem dX7_init_125 : decode cX7_init 125 = .ok (.iload_n 1, 1) := by decide +kernel
theorem dX7_init_126 : decode cX7_init 126 = .ok (.sipush 400, 3) := by decide +kernel
theorem dX7_init_129 : decode cX7_init 129 = .ok (.iastore, 1) := by decide +kernel
theorem dX7_init_130 : decode cX7_init 130 = .ok (.aload_n 0, 1) := by decide +kernel
theorem dX7_init_131 : decode cX7_init 131 = .ok (.getfield 22, 3) := by decide +kernel
theorem dX7_init_134 : decode cX7_init 134 = .ok (.iload_n 1, 1) := by decide +kernel
theorem dX7_init_135 : decode cX7_init 135 = .ok (.iload_n 1, 1) := by decide +kernel
theorem dX7_init_136 : decode cX7_init 136 = .ok (.iconst 4, 1) := by decide +kernel
theorem dX7_init_137 : decode cX7_init 137 = .ok (.if_icmp .ge 7, 3) := by decide +kernel
theorem dX7_init_140 : decode cX7_init 140 = .ok (.iconst 1, 1) := by decide +kernel
theorem dX7_init_141 : decode cX7_init 141 = .ok (.goto 4, 3) := by decide +kernel
theorem dX7_init_144 : decode cX7_init 144 = .ok (.iconst 0, 1) := by decide +kernel
theorem dX7_init_145 : decode cX7_init 145 = .ok (.bastore, 1) := by decide +kernel
theorem dX7_init_146 : decode cX7_init 146 = .ok (.iinc 1 1, 3) := by decide +kernel
theorem dX7_init_149 : decode cX7_init 149 = .ok (.goto (-41), 3) := by decide +kernel
theorem dX7_init_152 : decode cX7_init 152 = .ok (.iconst 0, 1) := by decide +kernel
theorem dX7_init_153 : decode cX7_init 153 = .ok (.istore_n 1, 1) := by decide +kernel
theorem dX7_init_154 : decode cX7_init 154 = .ok (.iload_n 1, 1) := by decide +kernel
theorem dX7_init_155 : decode cX7_init 155 = .ok (.sipush 676, 3) := by decide +kernel
theorem dX7_init_158 : decode cX7_init 158 = .ok (.if_icmp .ge 18, 3) := by decide +kernel
theorem dX7_init_161 : decode cX7_init 161 = .ok (.aload_n 0, 1) := by decide +kernel
theorem dX7_init_162 : decode cX7_init 162 = .ok (.getfield 26, 3) := by decide +kernel
theorem dX7_init_165 : decode cX7_init 165 = .ok (.iload_n 1, 1) := by decide +kernel
theorem dX7_init_166 : decode cX7_init 166 = .ok (.sipush 400, 3) := by decide +kernel
theorem dX7_init_169 : decode cX7_init 169 = .ok (.iastore, 1) := by decide +kernel
theorem dX7_init_170 : decode cX7_init 170 = .ok (.iinc 1 1, 3) := by decide +kernel
theorem dX7_init_173 : decode cX7_init 173 = .ok (.goto (-19), 3) := by decide +kernel
theorem dX7_init_176 : decode cX7_init 176 = .ok (.return_, 1) := by decide +kernel
theorem dX7_thrown_0 : decode cX7_thrown 0 = .ok (.aload_n 0, 1) := by decide +kernel
theorem dX7_thrown_1 : decode cX7_thrown 1 = .ok (.getfield 51, 3) := by decide +kernel
theorem dX7_thrown_4 : decode cX7_thrown 4 = .ok (.ireturn, 1) := by decide +kernel
theorem dX7_holds_0 : decode cX7_holds 0 = .ok (.aload_n 0, 1) := by decide +kernel
theorem dX7_holds_1 : decode cX7_holds 1 = .ok (.iload_n 1, 1) := by decide +kernel
theorem dX7_holds_2 : decode cX7_holds 2 = .ok (.putfield 51, 3) := by decide +kernel
theorem dX7_holds_5 : decode cX7_holds 5 = .ok (.iload_n 1, 1) := by decide +kernel
theorem dX7_holds_6 : decode cX7_holds 6 = .ok (.ifCond .ne 7, 3) := by decide +kernel
theorem dX7_holds_9 : decode cX7_holds 9 = .ok (.iconst 1, 1) := by decide +kernel
theorem dX7_holds_10 : decode cX7_holds 10 = .ok (.goto 4, 3) := by decide +kernel
theorem dX7_holds_13 : decode cX7_holds 13 = .ok (.iconst 0, 1) := by decide +kernel
theorem dX7_holds_14 : decode cX7_holds 14 = .ok (.ireturn, 1) := by decide +kernel
theorem dX7_in_0 : decode cX7_in 0 = .ok (.iload_n 0, 1) := by decide +kernel
theorem dX7_in_1 : decode cX7_in 1 = .ok (.iload_n 1, 1) := by decide +kernel
theorem dX7_in_2 : decode cX7_in 2 = .ok (.if_icmp .lt 12, 3) := by decide +kernel
theorem dX7_in_5 : decode cX7_in 5 = .ok (.iload_n 0, 1) := by decide +kernel
theorem dX7_in_6 : decode cX7_in 6 = .ok (.iload_n 2, 1) := by decide +kernel
theorem dX7_in_7 : decode cX7_in 7 = .ok (.if_icmp .gt 7, 3) := by decide +kernel
theorem dX7_in_10 : decode cX7_in 10 = .ok (.iconst 1, 1) := by decide +kernel
theorem dX7_in_11 : decode cX7_in 11 = .ok (.goto 4, 3) := by decide +kernel
theorem dX7_in_14 : decode cX7_in 14 = .ok (.iconst 0, 1) := by decide +kernel
theorem dX7_in_15 : decode cX7_in 15 = .ok (.ireturn, 1) := by decide +kernel
set_option maxRecDepth 20000 in
theorem ggX7_isLetter_X7_in : GoodIn wsX7_isLetter wsX7_in := goodIn_r _ [4] (by decide +kernel) (by decide +kernel)
set_option maxRecDepth 20000 in
theorem gX7_isLetter_X7_in : GoodIn wsX7_isLetter (va_wsS RX7 54 yX7_in wsX7_in) := goodIn_app (goodIn_of _ (by decide +kernel)) ggX7_isLetter_X7_in
theorem dX7_isLetter_0 : decode cX7_isLetter 0 = .ok (.iload_n 0, 1) := by decide +kernel
theorem dX7_isLetter_1 : decode cX7_isLetter 1 = .ok (.iconst 0, 1) := by decide +kernel
theorem dX7_isLetter_2 : decode cX7_isLetter 2 = .ok (.bipush 25, 2) := by decide +kernel
theorem dX7_isLetter_4 : decode cX7_isLetter 4 = .ok (.invokestatic 54, 3) := by decide +kernel
theorem dX7_isLetter_7 : decode cX7_isLetter 7 = .ok (.ireturn, 1) := by decide +kernel
theorem dX7_letterAt_0 : decode cX7_letterAt 0 = .ok (.iconst 0, 1) := by decide +kernel
theorem dX7_letterAt_1 : decode cX7_letterAt 1 = .ok (.istore_n 2, 1) := by decide +kernel
theorem dX7_letterAt_2 : decode cX7_letterAt 2 = .ok (.iload_n 2, 1) := by decide +kernel
theorem dX7_letterAt_3 : decode cX7_letterAt 3 = .ok (.bipush 26, 2) := by decide +kernel
theorem dX7_letterAt_5 : decode cX7_letterAt 5 = .ok (.if_icmp .ge 21, 3) := by decide +kernel
theorem dX7_letterAt_8 : decode cX7_letterAt 8 = .ok (.aload_n 0, 1) := by decide +kernel
theorem dX7_letterAt_9 : decode cX7_letterAt 9 = .ok (.getfield 7, 3) := by decide +kernel
theorem dX7_letterAt_12 : decode cX7_letterAt 12 = .ok (.iload_n 2, 1) := by decide +kernel
theorem dX7_letterAt_13 : decode cX7_letterAt 13 = .ok (.iaload, 1) := by decide +kernel
theorem dX7_letterAt_14 : decode cX7_letterAt 14 = .ok (.iload_n 1, 1) := by decide +kernel
theorem dX7_letterAt_15 : decode cX7_letterAt 15 = .ok (.if_icmp .ne 5, 3) := by decide +kernel
theorem dX7_letterAt_18 : decode cX7_letterAt 18 = .ok (.iload_n 2, 1) := by decide +kernel
theorem dX7_letterAt_19 : decode cX7_letterAt 19 = .ok (.ireturn, 1) := by decide +kernel
theorem dX7_letterAt_20 : decode cX7_letterAt 20 = .ok (.iinc 2 1, 3) := by decide +kernel
theorem dX7_letterAt_23 : decode cX7_letterAt 23 = .ok (.goto (-21), 3) := by decide +kernel
theorem dX7_letterAt_26 : decode cX7_letterAt 26 = .ok (.iconst (-1), 1) := by decide +kernel
theorem dX7_letterAt_27 : decode cX7_letterAt 27 = .ok (.ireturn, 1) := by decide +kernel
set_option maxRecDepth 20000 in
theorem ggX7_put_X7_isLetter : GoodIn wsX7_put wsX7_isLetter := goodIn_r _ [5, 6, 7, 4, 8] (by decide +kernel) (by decide +kernel)
set_option maxRecDepth 20000 in
theorem gX7_put_X7_isLetter : GoodIn wsX7_put (va_wsS RX7 58 yX7_isLetter wsX7_isLetter) := goodIn_app (goodIn_of _ (by decide +kernel)) ggX7_put_X7_isLetter
set_option maxRecDepth 20000 in
theorem ggX7_put_X7_in : GoodIn wsX7_put wsX7_in := goodIn_r _ [8] (by decide +kernel) (by decide +kernel)
set_option maxRecDepth 20000 in
theorem gX7_put_X7_in : GoodIn wsX7_put (va_wsS RX7 54 yX7_in wsX7_in) := goodIn_app (goodIn_of _ (by decide +kernel)) ggX7_put_X7_in
set_option maxRecDepth 20000 in
theorem ggX7_put_X7_holds : GoodIn wsX7_put wsX7_holds := goodIn_r _ [12, 13, 18, 19, 20, 21, 22, 23, 24, 25, 26, 27, 28, 29, 30, 31, 32, 33, 34, 35, 36, 37] (by decide +kernel) (by decide +kernel)
set_option maxRecDepth 20000 in
theorem gX7_put_X7_holds : GoodIn wsX7_put (wsV RX7 62 RX7 yX7_holds wsX7_holds) := goodIn_app (goodIn_of _ (by decide +kernel)) ggX7_put_X7_holds
set_option maxRecDepth 20000 in
theorem ggX7_put_X7_letterAt : GoodIn wsX7_put wsX7_letterAt := goodIn_r _ [17, 1, 18, 19, 20, 21, 22, 23, 24, 25, 26, 27, 28, 29, 30, 31, 32, 33, 34, 35, 36, 37] (by decide +kernel) (by decide +kernel)
set_option maxRecDepth 20000 in
theorem gX7_put_X7_letterAt : GoodIn wsX7_put (wsV RX7 65 RX7 yX7_letterAt wsX7_letterAt) := goodIn_app (goodIn_of _ (by decide +kernel)) ggX7_put_X7_letterAt
theorem dX7_put_0 : decode cX7_put 0 = .ok (.iload_n 1, 1) := by decide +kernel
theorem dX7_put_1 : decode cX7_put 1 = .ok (.invokestatic 58, 3) := by decide +kernel
theorem dX7_put_4 : decode cX7_put 4 = .ok (.ifCond .eq 26, 3) := by decide +kernel
theorem dX7_put_7 : decode cX7_put 7 = .ok (.iload_n 2, 1) := by decide +kernel
theorem dX7_put_8 : decode cX7_put 8 = .ok (.iconst 0, 1) := by decide +kernel
theorem dX7_put_9 : decode cX7_put 9 = .ok (.bipush 9, 2) := by decide +kernel
theorem dX7_put_11 : decode cX7_put 11 = .ok (.invokestatic 54, 3) := by decide +kernel
theorem dX7_put_14 : decode cX7_put 14 = .ok (.ifCond .eq 16, 3) := by decide +kernel
theorem dX7_put_17 : decode cX7_put 17 = .ok (.iload_n 3, 1) := by decide +kernel
theorem dX7_put_18 : decode cX7_put 18 = .ok (.iconst 0, 1) := by decide +kernel
theorem dX7_put_19 : decode cX7_put 19 = .ok (.iconst 2, 1) := by decide +kernel
theorem dX7_put_20 : decode cX7_put 20 = .ok (.invokestatic 54, 3) := by decide +kernel
theorem dX7_put_23 : decode cX7_put 23 = .ok (.ifCond .eq 7, 3) := by decide +kernel
theorem dX7_put_26 : decode cX7_put 26 = .ok (.iconst 1, 1) := by decide +kernel
theorem dX7_put_27 : decode cX7_put 27 = .ok (.goto 4, 3) := by decide +kernel
theorem dX7_put_30 : decode cX7_put 30 = .ok (.iconst 0, 1) := by decide +kernel
theorem dX7_put_31 : decode cX7_put 31 = .ok (.istore 4, 2) := by decide +kernel
theorem dX7_put_33 : decode cX7_put 33 = .ok (.aload_n 0, 1) := by decide +kernel
theorem dX7_put_34 : decode cX7_put 34 = .ok (.iload 4, 2) := by decide +kernel
theorem dX7_put_36 : decode cX7_put 36 = .ok (.ifCond .eq 7, 3) := by decide +kernel
theorem dX7_put_39 : decode cX7_put 39 = .ok (.iconst 0, 1) := by decide +kernel
theorem dX7_put_40 : decode cX7_put 40 = .ok (.goto 4, 3) := by decide +kernel
theorem dX7_put_43 : decode cX7_put 43 = .ok (.iconst 1, 1) := by decide +kernel
theorem dX7_put_44 : decode cX7_put 44 = .ok (.invokevirtual 62, 3) := by decide +kernel
theorem dX7_put_47 : decode cX7_put 47 = .ok (.ifCond .ne 5, 3) := by decide +kernel
theorem dX7_put_50 : decode cX7_put 50 = .ok (.iconst 0, 1) := by decide +kernel
theorem dX7_put_51 : decode cX7_put 51 = .ok (.ireturn, 1) := by decide +kernel
theorem dX7_put_52 : decode cX7_put 52 = .ok (.aload_n 0, 1) := by decide +kernel
theorem dX7_put_53 : decode cX7_put 53 = .ok (.bipush 10, 2) := by decide +kernel
theorem dX7_put_55 : decode cX7_put 55 = .ok (.iload_n 3, 1) := by decide +kernel
theorem dX7_put_56 : decode cX7_put 56 = .ok (.imul, 1) := by decide +kernel
theorem dX7_put_57 : decode cX7_put 57 = .ok (.iload_n 2, 1) := by decide +kernel
theorem dX7_put_58 : decode cX7_put 58 = .ok (.iadd, 1) := by decide +kernel
theorem dX7_put_59 : decode cX7_put 59 = .ok (.invokevirtual 65, 3) := by decide +kernel
theorem dX7_put_62 : decode cX7_put 62 = .ok (.istore 5, 2) := by decide +kernel
theorem dX7_put_64 : decode cX7_put 64 = .ok (.iload 5, 2) := by decide +kernel
theorem dX7_put_66 : decode cX7_put 66 = .ok (.iconst (-1), 1) := by decide +kernel
theorem dX7_put_67 : decode cX7_put 67 = .ok (.if_icmp .eq 16, 3) := by decide +kernel
theorem dX7_put_70 : decode cX7_put 70 = .ok (.aload_n 0, 1) := by decide +kernel
theorem dX7_put_71 : decode cX7_put 71 = .ok (.getfield 7, 3) := by decide +kernel
theorem dX7_put_74 : decode cX7_put 74 = .ok (.iload 5, 2) := by decide +kernel
theorem dX7_put_76 : decode cX7_put 76 = .ok (.aload_n 0, 1) := by decide +kernel
theorem dX7_put_77 : decode cX7_put 77 = .ok (.getfield 7, 3) := by decide +kernel
theorem dX7_put_80 : decode cX7_put 80 = .ok (.iload_n 1, 1) := by decide +kernel
theorem dX7_put_81 : decode cX7_put 81 = .ok (.iaload, 1) := by decide +kernel
theorem dX7_put_82 : decode cX7_put 82 = .ok (.iastore, 1) := by decide +kernel
theorem dX7_put_83 : decode cX7_put 83 = .ok (.aload_n 0, 1) := by decide +kernel
theorem dX7_put_84 : decode cX7_put 84 = .ok (.getfield 7, 3) := by decide +kernel
theorem dX7_put_87 : decode cX7_put 87 = .ok (.iload_n 1, 1) := by decide +kernel
theorem dX7_put_88 : decode cX7_put 88 = .ok (.bipush 10, 2) := by decide +kernel
theorem dX7_put_90 : decode cX7_put 90 = .ok (.iload_n 3, 1) := by decide +kernel
theorem dX7_put_91 : decode cX7_put 91 = .ok (.imul, 1) := by decide +kernel
theorem dX7_put_92 : decode cX7_put 92 = .ok (.iload_n 2, 1) := by decide +kernel
theorem dX7_put_93 : decode cX7_put 93 = .ok (.iadd, 1) := by decide +kernel
theorem dX7_put_94 : decode cX7_put 94 = .ok (.iastore, 1) := by decide +kernel
theorem dX7_put_95 : decode cX7_put 95 = .ok (.iload 5, 2) := by decide +kernel
theorem dX7_put_97 : decode cX7_put 97 = .ok (.ireturn, 1) := by decide +kernel
theorem dX7_fingerOf_0 : decode cX7_fingerOf 0 = .ok (.aload_n 0, 1) := by decide +kernel
theorem dX7_fingerOf_1 : decode cX7_fingerOf 1 = .ok (.getfield 7, 3) := by decide +kernel
theorem dX7_fingerOf_4 : decode cX7_fingerOf 4 = .ok (.iload_n 1, 1) := by decide +kernel
theorem dX7_fingerOf_5 : decode cX7_fingerOf 5 = .ok (.iaload, 1) := by decide +kernel
theorem dX7_fingerOf_6 : decode cX7_fingerOf 6 = .ok (.bipush 10, 2) := by decide +kernel
theorem dX7_fingerOf_8 : decode cX7_fingerOf 8 = .ok (.irem, 1) := by decide +kernel
theorem dX7_fingerOf_9 : decode cX7_fingerOf 9 = .ok (.istore_n 2, 1) := by decide +kernel
theorem dX7_fingerOf_10 : decode cX7_fingerOf 10 = .ok (.iload_n 2, 1) := by decide +kernel
theorem dX7_fingerOf_11 : decode cX7_fingerOf 11 = .ok (.iconst 4, 1) := by decide +kernel
theorem dX7_fingerOf_12 : decode cX7_fingerOf 12 = .ok (.if_icmp .ge 7, 3) := by decide +kernel
theorem dX7_fingerOf_15 : decode cX7_fingerOf 15 = .ok (.iload_n 2, 1) := by decide +kernel
theorem dX7_fingerOf_16 : decode cX7_fingerOf 16 = .ok (.goto 24, 3) := by decide +kernel
theorem dX7_fingerOf_19 : decode cX7_fingerOf 19 = .ok (.iload_n 2, 1) := by decide +kernel
theorem dX7_fingerOf_20 : decode cX7_fingerOf 20 = .ok (.iconst 4, 1) := by decide +kernel
theorem dX7_fingerOf_21 : decode cX7_fingerOf 21 = .ok (.if_icmp .ne 7, 3) := by decide +kernel
theorem dX7_fingerOf_24 : decode cX7_fingerOf 24 = .ok (.iconst 3, 1) := by decide +kernel
theorem dX7_fingerOf_25 : decode cX7_fingerOf 25 = .ok (.goto 15, 3) := by decide +kernel
theorem dX7_fingerOf_28 : decode cX7_fingerOf 28 = .ok (.iload_n 2, 1) := by decide +kernel
theorem dX7_fingerOf_29 : decode cX7_fingerOf 29 = .ok (.iconst 5, 1) := by decide +kernel
theorem dX7_fingerOf_30 : decode cX7_fingerOf 30 = .ok (.if_icmp .ne 7, 3) := by decide +kernel
theorem dX7_fingerOf_33 : decode cX7_fingerOf 33 = .ok (.iconst 4, 1) := by decide +kernel
theorem dX7_fingerOf_34 : decode cX7_fingerOf 34 = .ok (.goto 6, 3) := by decide +kernel
theorem dX7_fingerOf_37 : decode cX7_fingerOf 37 = .ok (.iload_n 2, 1) := by decide +kernel
theorem dX7_fingerOf_38 : decode cX7_fingerOf 38 = .ok (.iconst 2, 1) := by decide +kernel
theorem dX7_fingerOf_39 : decode cX7_fingerOf 39 = .ok (.isub, 1) := by decide +kernel
theorem dX7_fingerOf_40 : decode cX7_fingerOf 40 = .ok (.ireturn, 1) := by decide +kernel
set_option maxRecDepth 20000 in
theorem ggX7_finger_X7_isLetter : GoodIn wsX7_finger wsX7_isLetter := goodIn_r _ [4, 5, 6, 3, 7] (by decide +kernel) (by decide +kernel)
set_option maxRecDepth 20000 in
theorem gX7_finger_X7_isLetter : GoodIn wsX7_finger (va_wsS RX7 58 yX7_isLetter wsX7_isLetter) := goodIn_app (goodIn_of _ (by decide +kernel)) ggX7_finger_X7_isLetter
set_option maxRecDepth 20000 in
theorem ggX7_finger_X7_holds : GoodIn wsX7_finger wsX7_holds := goodIn_r _ [11, 12, 18, 19, 20, 21, 22, 23, 24, 25, 26, 27, 28, 29, 30, 31, 32, 33, 34, 35, 36, 37] (by decide +kernel) (by decide +kernel)
set_option maxRecDepth 20000 in
theorem gX7_finger_X7_holds : GoodIn wsX7_finger (wsV RX7 62 RX7 yX7_holds wsX7_holds) := goodIn_app (goodIn_of _ (by decide +kernel)) ggX7_finger_X7_holds
set_option maxRecDepth 20000 in
theorem ggX7_finger_X7_fingerOf : GoodIn wsX7_finger wsX7_fingerOf := goodIn_r _ [16, 17, 18, 19, 20, 21, 22, 23, 24, 25, 26, 27, 28, 29, 30, 31, 32, 33, 34, 35, 36, 37] (by decide +kernel) (by decide +kernel)
set_option maxRecDepth 20000 in
theorem gX7_finger_X7_fingerOf : GoodIn wsX7_finger (wsV RX7 69 RX7 yX7_fingerOf wsX7_fingerOf) := goodIn_app (goodIn_of _ (by decide +kernel)) ggX7_finger_X7_fingerOf
theorem dX7_finger_0 : decode cX7_finger 0 = .ok (.aload_n 0, 1) := by decide +kernel
theorem dX7_finger_1 : decode cX7_finger 1 = .ok (.iload_n 1, 1) := by decide +kernel
theorem dX7_finger_2 : decode cX7_finger 2 = .ok (.invokestatic 58, 3) := by decide +kernel
theorem dX7_finger_5 : decode cX7_finger 5 = .ok (.ifCond .eq 7, 3) := by decide +kernel
theorem dX7_finger_8 : decode cX7_finger 8 = .ok (.iconst 0, 1) := by decide +kernel
theorem dX7_finger_9 : decode cX7_finger 9 = .ok (.goto 4, 3) := by decide +kernel
theorem dX7_finger_12 : decode cX7_finger 12 = .ok (.iconst 1, 1) := by decide +kernel
theorem dX7_finger_13 : decode cX7_finger 13 = .ok (.invokevirtual 62, 3) := by decide +kernel
theorem dX7_finger_16 : decode cX7_finger 16 = .ok (.ifCond .eq 11, 3) := by decide +kernel
theorem dX7_finger_19 : decode cX7_finger 19 = .ok (.aload_n 0, 1) := by decide +kernel
theorem dX7_finger_20 : decode cX7_finger 20 = .ok (.iload_n 1, 1) := by decide +kernel
theorem dX7_finger_21 : decode cX7_finger 21 = .ok (.invokevirtual 69, 3) := by decide +kernel
theorem dX7_finger_24 : decode cX7_finger 24 = .ok (.goto 4, 3) := by decide +kernel
theorem dX7_finger_27 : decode cX7_finger 27 = .ok (.iconst 0, 1) := by decide +kernel
theorem dX7_finger_28 : decode cX7_finger 28 = .ok (.ireturn, 1) := by decide +kernel
set_option maxRecDepth 20000 in
theorem ggX7_isBeside_X7_in : GoodIn wsX7_isBeside wsX7_in := goodIn_r _ [5] (by decide +kernel) (by decide +kernel)
set_option maxRecDepth 20000 in
theorem gX7_isBeside_X7_in : GoodIn wsX7_isBeside (va_wsS RX7 54 yX7_in wsX7_in) := goodIn_app (goodIn_of _ (by decide +kernel)) ggX7_isBeside_X7_in
theorem dX7_isBeside_0 : decode cX7_isBeside 0 = .ok (.aload_n 0, 1) := by decide +kernel
theorem dX7_isBeside_1 : decode cX7_isBeside 1 = .ok (.getfield 7, 3) := by decide +kernel
theorem dX7_isBeside_4 : decode cX7_isBeside 4 = .ok (.iload_n 1, 1) := by decide +kernel
theorem dX7_isBeside_5 : decode cX7_isBeside 5 = .ok (.iaload, 1) := by decide +kernel
theorem dX7_isBeside_6 : decode cX7_isBeside 6 = .ok (.bipush 10, 2) := by decide +kernel
theorem dX7_isBeside_8 : decode cX7_isBeside 8 = .ok (.irem, 1) := by decide +kernel
theorem dX7_isBeside_9 : decode cX7_isBeside 9 = .ok (.aload_n 0, 1) := by decide +kernel
theorem dX7_isBeside_10 : decode cX7_isBeside 10 = .ok (.getfield 7, 3) := by decide +kernel
theorem dX7_isBeside_13 : decode cX7_isBeside 13 = .ok (.iload_n 2, 1) := by decide +kernel
theorem dX7_isBeside_14 : decode cX7_isBeside 14 = .ok (.iaload, 1) := by decide +kernel
theorem dX7_isBeside_15 : decode cX7_isBeside 15 = .ok (.bipush 10, 2) := by decide +kernel
theorem dX7_isBeside_17 : decode cX7_isBeside 17 = .ok (.irem, 1) := by decide +kernel
theorem dX7_isBeside_18 : decode cX7_isBeside 18 = .ok (.isub, 1) := by decide +kernel
theorem dX7_isBeside_19 : decode cX7_isBeside 19 = .ok (.istore_n 3, 1) := by decide +kernel
theorem dX7_isBeside_20 : decode cX7_isBeside 20 = .ok (.aload_n 0, 1) := by decide +kernel
theorem dX7_isBeside_21 : decode cX7_isBeside 21 = .ok (.getfield 7, 3) := by decide +kernel
theorem dX7_isBeside_24 : decode cX7_isBeside 24 = .ok (.iload_n 1, 1) := by decide +kernel
theorem dX7_isBeside_25 : decode cX7_isBeside 25 = .ok (.iaload, 1) := by decide +kernel
theorem dX7_isBeside_26 : decode cX7_isBeside 26 = .ok (.bipush 10, 2) := by decide +kernel
theorem dX7_isBeside_28 : decode cX7_isBeside 28 = .ok (.idiv, 1) := by decide +kernel
theorem dX7_isBeside_29 : decode cX7_isBeside 29 = .ok (.aload_n 0, 1) := by decide +kernel
theorem dX7_isBeside_30 : decode cX7_isBeside 30 = .ok (.getfield 7, 3) := by decide +kernel
theorem dX7_isBeside_33 : decode cX7_isBeside 33 = .ok (.iload_n 2, 1) := by decide +kernel
theorem dX7_isBeside_34 : decode cX7_isBeside 34 = .ok (.iaload, 1) := by decide +kernel
theorem dX7_isBeside_35 : decode cX7_isBeside 35 = .ok (.bipush 10, 2) := by decide +kernel
theorem dX7_isBeside_37 : decode cX7_isBeside 37 = .ok (.idiv, 1) := by decide +kernel
theorem dX7_isBeside_38 : decode cX7_isBeside 38 = .ok (.isub, 1) := by decide +kernel
theorem dX7_isBeside_39 : decode cX7_isBeside 39 = .ok (.istore 4, 2) := by decide +kernel
theorem dX7_isBeside_41 : decode cX7_isBeside 41 = .ok (.iload_n 3, 1) := by decide +kernel
theorem dX7_isBeside_42 : decode cX7_isBeside 42 = .ok (.iconst (-1), 1) := by decide +kernel
theorem dX7_isBeside_43 : decode cX7_isBeside 43 = .ok (.iconst 1, 1) := by decide +kernel
theorem dX7_isBeside_44 : decode cX7_isBeside 44 = .ok (.invokestatic 54, 3) := by decide +kernel
theorem dX7_isBeside_47 : decode cX7_isBeside 47 = .ok (.ifCond .eq 17, 3) := by decide +kernel
theorem dX7_isBeside_50 : decode cX7_isBeside 50 = .ok (.iload 4, 2) := by decide +kernel
theorem dX7_isBeside_52 : decode cX7_isBeside 52 = .ok (.iconst (-1), 1) := by decide +kernel
theorem dX7_isBeside_53 : decode cX7_isBeside 53 = .ok (.iconst 1, 1) := by decide +kernel
theorem dX7_isBeside_54 : decode cX7_isBeside 54 = .ok (.invokestatic 54, 3) := by decide +kernel
theorem dX7_isBeside_57 : decode cX7_isBeside 57 = .ok (.ifCond .eq 7, 3) := by decide +kernel
theorem dX7_isBeside_60 : decode cX7_isBeside 60 = .ok (.iconst 1, 1) := by decide +kernel
theorem dX7_isBeside_61 : decode cX7_isBeside 61 = .ok (.goto 4, 3) := by decide +kernel
theorem dX7_isBeside_64 : decode cX7_isBeside 64 = .ok (.iconst 0, 1) := by decide +kernel
theorem dX7_isBeside_65 : decode cX7_isBeside 65 = .ok (.ireturn, 1) := by decide +kernel
set_option maxRecDepth 20000 in
theorem ggX7_areBeside_X7_isLetter : GoodIn wsX7_areBeside wsX7_isLetter := goodIn_r _ [4, 5, 6, 3, 7] (by decide +kernel) (by decide +kernel)
set_option maxRecDepth 20000 in
theorem gX7_areBeside_X7_isLetter : GoodIn wsX7_areBeside (va_wsS RX7 58 yX7_isLetter wsX7_isLetter) := goodIn_app (goodIn_of _ (by decide +kernel)) ggX7_areBeside_X7_isLetter
set_option maxRecDepth 20000 in
theorem ggX7_areBeside_X7_holds : GoodIn wsX7_areBeside wsX7_holds := goodIn_r _ [11, 12, 18, 19, 20, 21, 22, 23, 24, 25, 26, 27, 28, 29, 30, 31, 32, 33, 34, 35, 36, 37] (by decide +kernel) (by decide +kernel)
set_option maxRecDepth 20000 in
theorem gX7_areBeside_X7_holds : GoodIn wsX7_areBeside (wsV RX7 62 RX7 yX7_holds wsX7_holds) := goodIn_app (goodIn_of _ (by decide +kernel)) ggX7_areBeside_X7_holds
set_option maxRecDepth 20000 in
theorem ggX7_areBeside_X7_isBeside : GoodIn wsX7_areBeside wsX7_isBeside := goodIn_r _ [16, 17, 5, 6, 3, 7, 18, 19, 20, 21, 22, 23, 24, 25, 26, 27, 28, 29, 30, 31, 32, 33, 34, 35, 36, 37] (by decide +kernel) (by decide +kernel)
set_option maxRecDepth 20000 in
theorem gX7_areBeside_X7_isBeside : GoodIn wsX7_areBeside (wsV RX7 72 RX7 yX7_isBeside wsX7_isBeside) := goodIn_app (goodIn_of _ (by decide +kernel)) ggX7_areBeside_X7_isBeside
theorem dX7_areBeside_0 : decode cX7_areBeside 0 = .ok (.aload_n 0, 1) := by decide +kernel
theorem dX7_areBeside_1 : decode cX7_areBeside 1 = .ok (.iload_n 1, 1) := by decide +kernel
theorem dX7_areBeside_2 : decode cX7_areBeside 2 = .ok (.invokestatic 58, 3) := by decide +kernel
theorem dX7_areBeside_5 : decode cX7_areBeside 5 = .ok (.ifCond .eq 14, 3) := by decide +kernel
theorem dX7_areBeside_8 : decode cX7_areBeside 8 = .ok (.iload_n 2, 1) := by decide +kernel
theorem dX7_areBeside_9 : decode cX7_areBeside 9 = .ok (.invokestatic 58, 3) := by decide +kernel
theorem dX7_areBeside_12 : decode cX7_areBeside 12 = .ok (.ifCond .eq 7, 3) := by decide +kernel
theorem dX7_areBeside_15 : decode cX7_areBeside 15 = .ok (.iconst 0, 1) := by decide +kernel
theorem dX7_areBeside_16 : decode cX7_areBeside 16 = .ok (.goto 4, 3) := by decide +kernel
theorem dX7_areBeside_19 : decode cX7_areBeside 19 = .ok (.iconst 1, 1) := by decide +kernel
theorem dX7_areBeside_20 : decode cX7_areBeside 20 = .ok (.invokevirtual 62, 3) := by decide +kernel
theorem dX7_areBeside_23 : decode cX7_areBeside 23 = .ok (.ifCond .eq 16, 3) := by decide +kernel
theorem dX7_areBeside_26 : decode cX7_areBeside 26 = .ok (.aload_n 0, 1) := by decide +kernel
theorem dX7_areBeside_27 : decode cX7_areBeside 27 = .ok (.iload_n 1, 1) := by decide +kernel
theorem dX7_areBeside_28 : decode cX7_areBeside 28 = .ok (.iload_n 2, 1) := by decide +kernel
theorem dX7_areBeside_29 : decode cX7_areBeside 29 = .ok (.invokevirtual 72, 3) := by decide +kernel
theorem dX7_areBeside_32 : decode cX7_areBeside 32 = .ok (.ifCond .eq 7, 3) := by decide +kernel
theorem dX7_areBeside_35 : decode cX7_areBeside 35 = .ok (.iconst 1, 1) := by decide +kernel
theorem dX7_areBeside_36 : decode cX7_areBeside 36 = .ok (.goto 4, 3) := by decide +kernel
theorem dX7_areBeside_39 : decode cX7_areBeside 39 = .ok (.iconst 0, 1) := by decide +kernel
theorem dX7_areBeside_40 : decode cX7_areBeside 40 = .ok (.ireturn, 1) := by decide +kernel
theorem dX7_mirrorOf_0 : decode cX7_mirrorOf 0 = .ok (.aload_n 0, 1) := by decide +kernel
theorem dX7_mirrorOf_1 : decode cX7_mirrorOf 1 = .ok (.getfield 7, 3) := by decide +kernel
theorem dX7_mirrorOf_4 : decode cX7_mirrorOf 4 = .ok (.iload_n 1, 1) := by decide +kernel
theorem dX7_mirrorOf_5 : decode cX7_mirrorOf 5 = .ok (.iaload, 1) := by decide +kernel
theorem dX7_mirrorOf_6 : decode cX7_mirrorOf 6 = .ok (.bipush 10, 2) := by decide +kernel
theorem dX7_mirrorOf_8 : decode cX7_mirrorOf 8 = .ok (.idiv, 1) := by decide +kernel
theorem dX7_mirrorOf_9 : decode cX7_mirrorOf 9 = .ok (.bipush 10, 2) := by decide +kernel
theorem dX7_mirrorOf_11 : decode cX7_mirrorOf 11 = .ok (.imul, 1) := by decide +kernel
theorem dX7_mirrorOf_12 : decode cX7_mirrorOf 12 = .ok (.bipush 10, 2) := by decide +kernel
theorem dX7_mirrorOf_14 : decode cX7_mirrorOf 14 = .ok (.iadd, 1) := by decide +kernel
theorem dX7_mirrorOf_15 : decode cX7_mirrorOf 15 = .ok (.iconst 1, 1) := by decide +kernel
theorem dX7_mirrorOf_16 : decode cX7_mirrorOf 16 = .ok (.isub, 1) := by decide +kernel
theorem dX7_mirrorOf_17 : decode cX7_mirrorOf 17 = .ok (.aload_n 0, 1) := by decide +kernel
theorem dX7_mirrorOf_18 : decode cX7_mirrorOf 18 = .ok (.getfield 7, 3) := by decide +kernel
theorem dX7_mirrorOf_21 : decode cX7_mirrorOf 21 = .ok (.iload_n 1, 1) := by decide +kernel
theorem dX7_mirrorOf_22 : decode cX7_mirrorOf 22 = .ok (.iaload, 1) := by decide +kernel
theorem dX7_mirrorOf_23 : decode cX7_mirrorOf 23 = .ok (.bipush 10, 2) := by decide +kernel
theorem dX7_mirrorOf_25 : decode cX7_mirrorOf 25 = .ok (.irem, 1) := by decide +kernel
theorem dX7_mirrorOf_26 : decode cX7_mirrorOf 26 = .ok (.isub, 1) := by decide +kernel
theorem dX7_mirrorOf_27 : decode cX7_mirrorOf 27 = .ok (.ireturn, 1) := by decide +kernel
set_option maxRecDepth 20000 in
theorem ggX7_mirror_X7_isLetter : GoodIn wsX7_mirror wsX7_isLetter := goodIn_r _ [4, 5, 6, 3, 7] (by decide +kernel) (by decide +kernel)
set_option maxRecDepth 20000 in
theorem gX7_mirror_X7_isLetter : GoodIn wsX7_mirror (va_wsS RX7 58 yX7_isLetter wsX7_isLetter) := goodIn_app (goodIn_of _ (by decide +kernel)) ggX7_mirror_X7_isLetter
set_option maxRecDepth 20000 in
theorem ggX7_mirror_X7_holds : GoodIn wsX7_mirror wsX7_holds := goodIn_r _ [11, 12, 22, 23, 24, 25, 26, 27, 28, 29, 30, 31, 32, 33, 34, 35, 36, 37, 38, 39, 40, 41] (by decide +kernel) (by decide +kernel)
set_option maxRecDepth 20000 in
theorem gX7_mirror_X7_holds : GoodIn wsX7_mirror (wsV RX7 62 RX7 yX7_holds wsX7_holds) := goodIn_app (goodIn_of _ (by decide +kernel)) ggX7_mirror_X7_holds
set_option maxRecDepth 20000 in
theorem ggX7_mirror_X7_mirrorOf : GoodIn wsX7_mirror wsX7_mirrorOf := goodIn_r _ [16, 17, 22, 23, 24, 25, 26, 27, 28, 29, 30, 31, 32, 33, 34, 35, 36, 37, 38, 39, 40, 41] (by decide +kernel) (by decide +kernel)
set_option maxRecDepth 20000 in
theorem gX7_mirror_X7_mirrorOf : GoodIn wsX7_mirror (wsV RX7 76 RX7 yX7_mirrorOf wsX7_mirrorOf) := goodIn_app (goodIn_of _ (by decide +kernel)) ggX7_mirror_X7_mirrorOf
set_option maxRecDepth 20000 in
theorem ggX7_mirror_X7_letterAt : GoodIn wsX7_mirror wsX7_letterAt := goodIn_r _ [21, 17, 22, 23, 24, 25, 26, 27, 28, 29, 30, 31, 32, 33, 34, 35, 36, 37, 38, 39, 40, 41] (by decide +kernel) (by decide +kernel)
set_option maxRecDepth 20000 in
theorem gX7_mirror_X7_letterAt : GoodIn wsX7_mirror (wsV RX7 65 RX7 yX7_letterAt wsX7_letterAt) := goodIn_app (goodIn_of _ (by decide +kernel)) ggX7_mirror_X7_letterAt
theorem dX7_mirror_0 : decode cX7_mirror 0 = .ok (.aload_n 0, 1) := by decide +kernel
theorem dX7_mirror_1 : decode cX7_mirror 1 = .ok (.iload_n 1, 1) := by decide +kernel
theorem dX7_mirror_2 : decode cX7_mirror 2 = .ok (.invokestatic 58, 3) := by decide +kernel
theorem dX7_mirror_5 : decode cX7_mirror 5 = .ok (.ifCond .eq 7, 3) := by decide +kernel
theorem dX7_mirror_8 : decode cX7_mirror 8 = .ok (.iconst 0, 1) := by decide +kernel
theorem dX7_mirror_9 : decode cX7_mirror 9 = .ok (.goto 4, 3) := by decide +kernel
theorem dX7_mirror_12 : decode cX7_mirror 12 = .ok (.iconst 1, 1) := by decide +kernel
theorem dX7_mirror_13 : decode cX7_mirror 13 = .ok (.invokevirtual 62, 3) := by decide +kernel
theorem dX7_mirror_16 : decode cX7_mirror 16 = .ok (.ifCond .eq 15, 3) := by decide +kernel
theorem dX7_mirror_19 : decode cX7_mirror 19 = .ok (.aload_n 0, 1) := by decide +kernel
theorem dX7_mirror_20 : decode cX7_mirror 20 = .ok (.aload_n 0, 1) := by decide +kernel
theorem dX7_mirror_21 : decode cX7_mirror 21 = .ok (.iload_n 1, 1) := by decide +kernel
theorem dX7_mirror_22 : decode cX7_mirror 22 = .ok (.invokevirtual 76, 3) := by decide +kernel
theorem dX7_mirror_25 : decode cX7_mirror 25 = .ok (.invokevirtual 65, 3) := by decide +kernel
theorem dX7_mirror_28 : decode cX7_mirror 28 = .ok (.goto 4, 3) := by decide +kernel
theorem dX7_mirror_31 : decode cX7_mirror 31 = .ok (.iconst 0, 1) := by decide +kernel
theorem dX7_mirror_32 : decode cX7_mirror 32 = .ok (.ireturn, 1) := by decide +kernel
theorem dX7_wants_0 : decode cX7_wants 0 = .ok (.aload_n 0, 1) := by decide +kernel
theorem dX7_wants_1 : decode cX7_wants 1 = .ok (.getfield 29, 3) := by decide +kernel
theorem dX7_wants_4 : decode cX7_wants 4 = .ok (.aload_n 0, 1) := by decide +kernel
theorem dX7_wants_5 : decode cX7_wants 5 = .ok (.getfield 79, 3) := by decide +kernel
theorem dX7_wants_8 : decode cX7_wants 8 = .ok (.iload_n 1, 1) := by decide +kernel
theorem dX7_wants_9 : decode cX7_wants 9 = .ok (.iastore, 1) := by decide +kernel
theorem dX7_wants_10 : decode cX7_wants 10 = .ok (.aload_n 0, 1) := by decide +kernel
theorem dX7_wants_11 : decode cX7_wants 11 = .ok (.dup, 1) := by decide +kernel
theorem dX7_wants_12 : decode cX7_wants 12 = .ok (.getfield 79, 3) := by decide +kernel
theorem dX7_wants_15 : decode cX7_wants 15 = .ok (.iconst 1, 1) := by decide +kernel
theorem dX7_wants_16 : decode cX7_wants 16 = .ok (.iadd, 1) := by decide +kernel
theorem dX7_wants_17 : decode cX7_wants 17 = .ok (.putfield 79, 3) := by decide +kernel
theorem dX7_wants_20 : decode cX7_wants 20 = .ok (.return_, 1) := by decide +kernel
set_option maxRecDepth 20000 in
theorem ggX7_want_X7_isLetter : GoodIn wsX7_want wsX7_isLetter := goodIn_r _ [5, 6, 7, 4, 8] (by decide +kernel) (by decide +kernel)
set_option maxRecDepth 20000 in
theorem gX7_want_X7_isLetter : GoodIn wsX7_want (va_wsS RX7 58 yX7_isLetter wsX7_isLetter) := goodIn_app (goodIn_of _ (by decide +kernel)) ggX7_want_X7_isLetter
set_option maxRecDepth 20000 in
theorem ggX7_want_X7_holds : GoodIn wsX7_want wsX7_holds := goodIn_r _ [12, 13, 19, 20, 21, 22, 23, 24, 25, 26, 27, 28, 29, 30, 31, 32, 33, 34, 35, 36, 37, 38] (by decide +kernel) (by decide +kernel)
set_option maxRecDepth 20000 in
theorem gX7_want_X7_holds : GoodIn wsX7_want (wsV RX7 62 RX7 yX7_holds wsX7_holds) := goodIn_app (goodIn_of _ (by decide +kernel)) ggX7_want_X7_holds
set_option maxRecDepth 20000 in
theorem ggX7_want_X7_wants : GoodIn wsX7_want wsX7_wants := goodIn_r _ [17, 18, 1, 19, 20, 21, 22, 23, 24, 25, 26, 27, 28, 29, 30, 31, 32, 33, 34, 35, 36, 37, 38] (by decide +kernel) (by decide +kernel)
set_option maxRecDepth 20000 in
theorem gX7_want_X7_wants : GoodIn wsX7_want (wsV RX7 82 RX7 yX7_wants wsX7_wants) := goodIn_app (goodIn_of _ (by decide +kernel)) ggX7_want_X7_wants
theorem dX7_want_0 : decode cX7_want 0 = .ok (.aload_n 0, 1) := by decide +kernel
theorem dX7_want_1 : decode cX7_want 1 = .ok (.iload_n 1, 1) := by decide +kernel
theorem dX7_want_2 : decode cX7_want 2 = .ok (.invokestatic 58, 3) := by decide +kernel
theorem dX7_want_5 : decode cX7_want 5 = .ok (.ifCond .ne 7, 3) := by decide +kernel
theorem dX7_want_8 : decode cX7_want 8 = .ok (.iconst 1, 1) := by decide +kernel
theorem dX7_want_9 : decode cX7_want 9 = .ok (.goto 17, 3) := by decide +kernel
theorem dX7_want_12 : decode cX7_want 12 = .ok (.aload_n 0, 1) := by decide +kernel
theorem dX7_want_13 : decode cX7_want 13 = .ok (.getfield 79, 3) := by decide +kernel
theorem dX7_want_16 : decode cX7_want 16 = .ok (.bipush 40, 2) := by decide +kernel
theorem dX7_want_18 : decode cX7_want 18 = .ok (.if_icmp .ne 7, 3) := by decide +kernel
theorem dX7_want_21 : decode cX7_want 21 = .ok (.iconst 2, 1) := by decide +kernel
theorem dX7_want_22 : decode cX7_want 22 = .ok (.goto 4, 3) := by decide +kernel
theorem dX7_want_25 : decode cX7_want 25 = .ok (.iconst 0, 1) := by decide +kernel
theorem dX7_want_26 : decode cX7_want 26 = .ok (.invokevirtual 62, 3) := by decide +kernel
theorem dX7_want_29 : decode cX7_want 29 = .ok (.ifCond .ne 5, 3) := by decide +kernel
theorem dX7_want_32 : decode cX7_want 32 = .ok (.iconst 0, 1) := by decide +kernel
theorem dX7_want_33 : decode cX7_want 33 = .ok (.ireturn, 1) := by decide +kernel
theorem dX7_want_34 : decode cX7_want 34 = .ok (.aload_n 0, 1) := by decide +kernel
theorem dX7_want_35 : decode cX7_want 35 = .ok (.iload_n 1, 1) := by decide +kernel
theorem dX7_want_36 : decode cX7_want 36 = .ok (.invokevirtual 82, 3) := by decide +kernel
theorem dX7_want_39 : decode cX7_want 39 = .ok (.aload_n 0, 1) := by decide +kernel
theorem dX7_want_40 : decode cX7_want 40 = .ok (.getfield 79, 3) := by decide +kernel
theorem dX7_want_43 : decode cX7_want 43 = .ok (.ireturn, 1) := by decide +kernel
theorem dX7_weakestOf_0 : decode cX7_weakestOf 0 = .ok (.iconst 0, 1) := by decide +kernel
theorem dX7_weakestOf_1 : decode cX7_weakestOf 1 = .ok (.istore_n 1, 1) := by decide +kernel
theorem dX7_weakestOf_2 : decode cX7_weakestOf 2 = .ok (.iconst 1, 1) := by decide +kernel
theorem dX7_weakestOf_3 : decode cX7_weakestOf 3 = .ok (.istore_n 2, 1) := by decide +kernel
theorem dX7_weakestOf_4 : decode cX7_weakestOf 4 = .ok (.iload_n 2, 1) := by decide +kernel
theorem dX7_weakestOf_5 : decode cX7_weakestOf 5 = .ok (.bipush 26, 2) := by decide +kernel
theorem dX7_weakestOf_7 : decode cX7_weakestOf 7 = .ok (.if_icmp .ge 79, 3) := by decide +kernel
theorem dX7_weakestOf_10 : decode cX7_weakestOf 10 = .ok (.aload_n 0, 1) := by decide +kernel
theorem dX7_weakestOf_11 : decode cX7_weakestOf 11 = .ok (.getfield 19, 3) := by decide +kernel
theorem dX7_weakestOf_14 : decode cX7_weakestOf 14 = .ok (.iload_n 2, 1) := by decide +kernel
theorem dX7_weakestOf_15 : decode cX7_weakestOf 15 = .ok (.iaload, 1) := by decide +kernel
theorem dX7_weakestOf_16 : decode cX7_weakestOf 16 = .ok (.aload_n 0, 1) := by decide +kernel
theorem dX7_weakestOf_17 : decode cX7_weakestOf 17 = .ok (.getfield 19, 3) := by decide +kernel
theorem dX7_weakestOf_20 : decode cX7_weakestOf 20 = .ok (.iload_n 1, 1) := by decide +kernel
theorem dX7_weakestOf_21 : decode cX7_weakestOf 21 = .ok (.iaload, 1) := by decide +kernel
theorem dX7_weakestOf_22 : decode cX7_weakestOf 22 = .ok (.if_icmp .gt 33, 3) := by decide +kernel
theorem dX7_weakestOf_25 : decode cX7_weakestOf 25 = .ok (.aload_n 0, 1) := by decide +kernel
theorem dX7_weakestOf_26 : decode cX7_weakestOf 26 = .ok (.getfield 19, 3) := by decide +kernel
theorem dX7_weakestOf_29 : decode cX7_weakestOf 29 = .ok (.iload_n 2, 1) := by decide +kernel
theorem dX7_weakestOf_30 : decode cX7_weakestOf 30 = .ok (.iaload, 1) := by decide +kernel
theorem dX7_weakestOf_31 : decode cX7_weakestOf 31 = .ok (.aload_n 0, 1) := by decide +kernel
theorem dX7_weakestOf_32 : decode cX7_weakestOf 32 = .ok (.getfield 19, 3) := by decide +kernel
theorem dX7_weakestOf_35 : decode cX7_weakestOf 35 = .ok (.iload_n 1, 1) := by decide +kernel
theorem dX7_weakestOf_36 : decode cX7_weakestOf 36 = .ok (.iaload, 1) := by decide +kernel
theorem dX7_weakestOf_37 : decode cX7_weakestOf 37 = .ok (.if_icmp .ne 22, 3) := by decide +kernel
theorem dX7_weakestOf_40 : decode cX7_weakestOf 40 = .ok (.aload_n 0, 1) := by decide +kernel
theorem dX7_weakestOf_41 : decode cX7_weakestOf 41 = .ok (.getfield 16, 3) := by decide +kernel
theorem dX7_weakestOf_44 : decode cX7_weakestOf 44 = .ok (.iload_n 2, 1) := by decide +kernel
theorem dX7_weakestOf_45 : decode cX7_weakestOf 45 = .ok (.iaload, 1) := by decide +kernel
theorem dX7_weakestOf_46 : decode cX7_weakestOf 46 = .ok (.aload_n 0, 1) := by decide +kernel
theorem dX7_weakestOf_47 : decode cX7_weakestOf 47 = .ok (.getfield 16, 3) := by decide +kernel
theorem dX7_weakestOf_50 : decode cX7_weakestOf 50 = .ok (.iload_n 1, 1) := by decide +kernel
theorem dX7_weakestOf_51 : decode cX7_weakestOf 51 = .ok (.iaload, 1) := by decide +kernel
theorem dX7_weakestOf_52 : decode cX7_weakestOf 52 = .ok (.if_icmp .le 7, 3) := by decide +kernel
theorem dX7_weakestOf_55 : decode cX7_weakestOf 55 = .ok (.iconst 1, 1) := by decide +kernel
theorem dX7_weakestOf_56 : decode cX7_weakestOf 56 = .ok (.goto 4, 3) := by decide +kernel
theorem dX7_weakestOf_59 : decode cX7_weakestOf 59 = .ok (.iconst 0, 1) := by decide +kernel
theorem dX7_weakestOf_60 : decode cX7_weakestOf 60 = .ok (.istore_n 3, 1) := by decide +kernel
theorem dX7_weakestOf_61 : decode cX7_weakestOf 61 = .ok (.aload_n 0, 1) := by decide +kernel
theorem dX7_weakestOf_62 : decode cX7_weakestOf 62 = .ok (.getfield 22, 3) := by decide +kernel
theorem dX7_weakestOf_65 : decode cX7_weakestOf 65 = .ok (.iload_n 2, 1) := by decide +kernel
theorem dX7_weakestOf_66 : decode cX7_weakestOf 66 = .ok (.baload, 1) := by decide +kernel
theorem dX7_weakestOf_67 : decode cX7_weakestOf 67 = .ok (.ifCond .eq 11, 3) := by decide +kernel
theorem dX7_weakestOf_70 : decode cX7_weakestOf 70 = .ok (.iload_n 3, 1) := by decide +kernel
theorem dX7_weakestOf_71 : decode cX7_weakestOf 71 = .ok (.ifCond .eq 7, 3) := by decide +kernel
theorem dX7_weakestOf_74 : decode cX7_weakestOf 74 = .ok (.iload_n 2, 1) := by decide +kernel
theorem dX7_weakestOf_75 : decode cX7_weakestOf 75 = .ok (.goto 4, 3) := by decide +kernel
theorem dX7_weakestOf_78 : decode cX7_weakestOf 78 = .ok (.iload_n 1, 1) := by decide +kernel
theorem dX7_weakestOf_79 : decode cX7_weakestOf 79 = .ok (.istore_n 1, 1) := by decide +kernel
theorem dX7_weakestOf_80 : decode cX7_weakestOf 80 = .ok (.iinc 2 1, 3) := by decide +kernel
theorem dX7_weakestOf_83 : decode cX7_weakestOf 83 = .ok (.goto (-79), 3) := by decide +kernel
theorem dX7_weakestOf_86 : decode cX7_weakestOf 86 = .ok (.iload_n 1, 1) := by decide +kernel
theorem dX7_weakestOf_87 : decode cX7_weakestOf 87 = .ok (.ireturn, 1) := by decide +kernel
theorem dX7_behind_0 : decode cX7_behind 0 = .ok (.iconst (-1), 1) := by decide +kernel
theorem dX7_behind_1 : decode cX7_behind 1 = .ok (.istore_n 2, 1) := by decide +kernel
theorem dX7_behind_2 : decode cX7_behind 2 = .ok (.iconst 0, 1) := by decide +kernel
theorem dX7_behind_3 : decode cX7_behind 3 = .ok (.istore_n 3, 1) := by decide +kernel
theorem dX7_behind_4 : decode cX7_behind 4 = .ok (.iload_n 3, 1) := by decide +kernel
theorem dX7_behind_5 : decode cX7_behind 5 = .ok (.bipush 26, 2) := by decide +kernel
theorem dX7_behind_7 : decode cX7_behind 7 = .ok (.if_icmp .ge 71, 3) := by decide +kernel
theorem dX7_behind_10 : decode cX7_behind 10 = .ok (.aload_n 0, 1) := by decide +kernel
theorem dX7_behind_11 : decode cX7_behind 11 = .ok (.getfield 22, 3) := by decide +kernel
theorem dX7_behind_14 : decode cX7_behind 14 = .ok (.iload_n 3, 1) := by decide +kernel
theorem dX7_behind_15 : decode cX7_behind 15 = .ok (.baload, 1) := by decide +kernel
theorem dX7_behind_16 : decode cX7_behind 16 = .ok (.ifCond .eq 12, 3) := by decide +kernel
theorem dX7_behind_19 : decode cX7_behind 19 = .ok (.iload_n 3, 1) := by decide +kernel
theorem dX7_behind_20 : decode cX7_behind 20 = .ok (.iload_n 1, 1) := by decide +kernel
theorem dX7_behind_21 : decode cX7_behind 21 = .ok (.if_icmp .eq 7, 3) := by decide +kernel
theorem dX7_behind_24 : decode cX7_behind 24 = .ok (.iconst 1, 1) := by decide +kernel
theorem dX7_behind_25 : decode cX7_behind 25 = .ok (.goto 4, 3) := by decide +kernel
theorem dX7_behind_28 : decode cX7_behind 28 = .ok (.iconst 0, 1) := by decide +kernel
theorem dX7_behind_29 : decode cX7_behind 29 = .ok (.istore 4, 2) := by decide +kernel
theorem dX7_behind_31 : decode cX7_behind 31 = .ok (.iload 4, 2) := by decide +kernel
theorem dX7_behind_33 : decode cX7_behind 33 = .ok (.ifCond .eq 37, 3) := by decide +kernel
theorem dX7_behind_36 : decode cX7_behind 36 = .ok (.iload_n 2, 1) := by decide +kernel
theorem dX7_behind_37 : decode cX7_behind 37 = .ok (.iconst (-1), 1) := by decide +kernel
theorem dX7_behind_38 : decode cX7_behind 38 = .ok (.if_icmp .eq 28, 3) := by decide +kernel
theorem dX7_behind_41 : decode cX7_behind 41 = .ok (.aload_n 0, 1) := by decide +kernel
theorem dX7_behind_42 : decode cX7_behind 42 = .ok (.getfield 26, 3) := by decide +kernel
theorem dX7_behind_45 : decode cX7_behind 45 = .ok (.bipush 26, 2) := by decide +kernel
theorem dX7_behind_47 : decode cX7_behind 47 = .ok (.iload_n 1, 1) := by decide +kernel
theorem dX7_behind_48 : decode cX7_behind 48 = .ok (.imul, 1) := by decide +kernel
theorem dX7_behind_49 : decode cX7_behind 49 = .ok (.iload_n 3, 1) := by decide +kernel
theorem dX7_behind_50 : decode cX7_behind 50 = .ok (.iadd, 1) := by decide +kernel
theorem dX7_behind_51 : decode cX7_behind 51 = .ok (.iaload, 1) := by decide +kernel
theorem dX7_behind_52 : decode cX7_behind 52 = .ok (.aload_n 0, 1) := by decide +kernel
theorem dX7_behind_53 : decode cX7_behind 53 = .ok (.getfield 26, 3) := by decide +kernel
theorem dX7_behind_56 : decode cX7_behind 56 = .ok (.bipush 26, 2) := by decide +kernel
theorem dX7_behind_58 : decode cX7_behind 58 = .ok (.iload_n 1, 1) := by decide +kernel
theorem dX7_behind_59 : decode cX7_behind 59 = .ok (.imul, 1) := by decide +kernel
theorem dX7_behind_60 : decode cX7_behind 60 = .ok (.iload_n 2, 1) := by decide +kernel
theorem dX7_behind_61 : decode cX7_behind 61 = .ok (.iadd, 1) := by decide +kernel
theorem dX7_behind_62 : decode cX7_behind 62 = .ok (.iaload, 1) := by decide +kernel
theorem dX7_behind_63 : decode cX7_behind 63 = .ok (.if_icmp .le 7, 3) := by decide +kernel
theorem dX7_behind_66 : decode cX7_behind 66 = .ok (.iload_n 3, 1) := by decide +kernel
theorem dX7_behind_67 : decode cX7_behind 67 = .ok (.goto 4, 3) := by decide +kernel
theorem dX7_behind_70 : decode cX7_behind 70 = .ok (.iload_n 2, 1) := by decide +kernel
theorem dX7_behind_71 : decode cX7_behind 71 = .ok (.istore_n 2, 1) := by decide +kernel
theorem dX7_behind_72 : decode cX7_behind 72 = .ok (.iinc 3 1, 3) := by decide +kernel
theorem dX7_behind_75 : decode cX7_behind 75 = .ok (.goto (-71), 3) := by decide +kernel
theorem dX7_behind_78 : decode cX7_behind 78 = .ok (.iload_n 2, 1) := by decide +kernel
theorem dX7_behind_79 : decode cX7_behind 79 = .ok (.ireturn, 1) := by decide +kernel
set_option maxRecDepth 20000 in
theorem ggX7_drill_X7_in : GoodIn wsX7_drill wsX7_in := goodIn_r _ [5] (by decide +kernel) (by decide +kernel)
set_option maxRecDepth 20000 in
theorem gX7_drill_X7_in : GoodIn wsX7_drill (va_wsS RX7 54 yX7_in wsX7_in) := goodIn_app (goodIn_of _ (by decide +kernel)) ggX7_drill_X7_in
set_option maxRecDepth 20000 in
theorem ggX7_drill_X7_holds : GoodIn wsX7_drill wsX7_holds := goodIn_r _ [9, 10, 28, 29, 30, 31, 32, 33, 34, 35, 36, 37, 38, 39, 40, 41, 42, 43, 44, 45, 46, 47] (by decide +kernel) (by decide +kernel)
set_option maxRecDepth 20000 in
theorem gX7_drill_X7_holds : GoodIn wsX7_drill (wsV RX7 62 RX7 yX7_holds wsX7_holds) := goodIn_app (goodIn_of _ (by decide +kernel)) ggX7_drill_X7_holds
set_option maxRecDepth 20000 in
theorem ggX7_drill_X7_weakestOf : GoodIn wsX7_drill wsX7_weakestOf := goodIn_r _ [14, 15, 16, 17, 28, 29, 30, 31, 32, 33, 34, 35, 36, 37, 38, 39, 40, 41, 42, 43, 44, 45, 46, 47] (by decide +kernel) (by decide +kernel)
set_option maxRecDepth 20000 in
theorem gX7_drill_X7_weakestOf : GoodIn wsX7_drill (wsV RX7 86 RX7 yX7_weakestOf wsX7_weakestOf) := goodIn_app (goodIn_of _ (by decide +kernel)) ggX7_drill_X7_weakestOf
set_option maxRecDepth 20000 in
theorem ggX7_drill_X7_wants : GoodIn wsX7_drill wsX7_wants := goodIn_r _ [21, 22, 1, 28, 29, 30, 31, 32, 33, 34, 35, 36, 37, 38, 39, 40, 41, 42, 43, 44, 45, 46, 47] (by decide +kernel) (by decide +kernel)
set_option maxRecDepth 20000 in
theorem gX7_drill_X7_wants : GoodIn wsX7_drill (wsV RX7 82 RX7 yX7_wants wsX7_wants) := goodIn_app (goodIn_of _ (by decide +kernel)) ggX7_drill_X7_wants
set_option maxRecDepth 20000 in
theorem ggX7_drill_X7_behind : GoodIn wsX7_drill wsX7_behind := goodIn_r _ [26, 17, 27, 28, 29, 30, 31, 32, 33, 34, 35, 36, 37, 38, 39, 40, 41, 42, 43, 44, 45, 46, 47] (by decide +kernel) (by decide +kernel)
set_option maxRecDepth 20000 in
theorem gX7_drill_X7_behind : GoodIn wsX7_drill (wsV RX7 90 RX7 yX7_behind wsX7_behind) := goodIn_app (goodIn_of _ (by decide +kernel)) ggX7_drill_X7_behind
theorem dX7_drill_0 : decode cX7_drill 0 = .ok (.aload_n 0, 1) := by decide +kernel
theorem dX7_drill_1 : decode cX7_drill 1 = .ok (.iload_n 1, 1) := by decide +kernel
theorem dX7_drill_2 : decode cX7_drill 2 = .ok (.iconst 1, 1) := by decide +kernel
theorem dX7_drill_3 : decode cX7_drill 3 = .ok (.bipush 40, 2) := by decide +kernel
theorem dX7_drill_5 : decode cX7_drill 5 = .ok (.invokestatic 54, 3) := by decide +kernel
theorem dX7_drill_8 : decode cX7_drill 8 = .ok (.ifCond .eq 7, 3) := by decide +kernel
theorem dX7_drill_11 : decode cX7_drill 11 = .ok (.iconst 0, 1) := by decide +kernel
theorem dX7_drill_12 : decode cX7_drill 12 = .ok (.goto 4, 3) := by decide +kernel
theorem dX7_drill_15 : decode cX7_drill 15 = .ok (.iconst 1, 1) := by decide +kernel
theorem dX7_drill_16 : decode cX7_drill 16 = .ok (.invokevirtual 62, 3) := by decide +kernel
theorem dX7_drill_19 : decode cX7_drill 19 = .ok (.ifCond .ne 5, 3) := by decide +kernel
theorem dX7_drill_22 : decode cX7_drill 22 = .ok (.iconst 0, 1) := by decide +kernel
theorem dX7_drill_23 : decode cX7_drill 23 = .ok (.ireturn, 1) := by decide +kernel
theorem dX7_drill_24 : decode cX7_drill 24 = .ok (.aload_n 0, 1) := by decide +kernel
theorem dX7_drill_25 : decode cX7_drill 25 = .ok (.invokevirtual 86, 3) := by decide +kernel
theorem dX7_drill_28 : decode cX7_drill 28 = .ok (.istore_n 2, 1) := by decide +kernel
theorem dX7_drill_29 : decode cX7_drill 29 = .ok (.iconst 0, 1) := by decide +kernel
theorem dX7_drill_30 : decode cX7_drill 30 = .ok (.istore_n 3, 1) := by decide +kernel
theorem dX7_drill_31 : decode cX7_drill 31 = .ok (.iload_n 3, 1) := by decide +kernel
theorem dX7_drill_32 : decode cX7_drill 32 = .ok (.iload_n 1, 1) := by decide +kernel
theorem dX7_drill_33 : decode cX7_drill 33 = .ok (.if_icmp .ge 29, 3) := by decide +kernel
theorem dX7_drill_36 : decode cX7_drill 36 = .ok (.aload_n 0, 1) := by decide +kernel
theorem dX7_drill_37 : decode cX7_drill 37 = .ok (.getfield 79, 3) := by decide +kernel
theorem dX7_drill_40 : decode cX7_drill 40 = .ok (.bipush 40, 2) := by decide +kernel
theorem dX7_drill_42 : decode cX7_drill 42 = .ok (.if_icmp .ge 20, 3) := by decide +kernel
theorem dX7_drill_45 : decode cX7_drill 45 = .ok (.aload_n 0, 1) := by decide +kernel
theorem dX7_drill_46 : decode cX7_drill 46 = .ok (.iload_n 2, 1) := by decide +kernel
theorem dX7_drill_47 : decode cX7_drill 47 = .ok (.invokevirtual 82, 3) := by decide +kernel
theorem dX7_drill_50 : decode cX7_drill 50 = .ok (.aload_n 0, 1) := by decide +kernel
theorem dX7_drill_51 : decode cX7_drill 51 = .ok (.iload_n 2, 1) := by decide +kernel
theorem dX7_drill_52 : decode cX7_drill 52 = .ok (.invokevirtual 90, 3) := by decide +kernel
theorem dX7_drill_55 : decode cX7_drill 55 = .ok (.istore_n 2, 1) := by decide +kernel
theorem dX7_drill_56 : decode cX7_drill 56 = .ok (.iinc 3 1, 3) := by decide +kernel
theorem dX7_drill_59 : decode cX7_drill 59 = .ok (.goto (-28), 3) := by decide +kernel
theorem dX7_drill_62 : decode cX7_drill 62 = .ok (.iload_n 3, 1) := by decide +kernel
theorem dX7_drill_63 : decode cX7_drill 63 = .ok (.ireturn, 1) := by decide +kernel
theorem dX7_wanted_0 : decode cX7_wanted 0 = .ok (.aload_n 0, 1) := by decide +kernel
theorem dX7_wanted_1 : decode cX7_wanted 1 = .ok (.iconst 0, 1) := by decide +kernel
theorem dX7_wanted_2 : decode cX7_wanted 2 = .ok (.putfield 51, 3) := by decide +kernel
theorem dX7_wanted_5 : decode cX7_wanted 5 = .ok (.aload_n 0, 1) := by decide +kernel
theorem dX7_wanted_6 : decode cX7_wanted 6 = .ok (.getfield 79, 3) := by decide +kernel
theorem dX7_wanted_9 : decode cX7_wanted 9 = .ok (.ireturn, 1) := by decide +kernel
set_option maxRecDepth 20000 in
theorem ggX7_wantedAt_X7_in : GoodIn wsX7_wantedAt wsX7_in := goodIn_r _ [6] (by decide +kernel) (by decide +kernel)
set_option maxRecDepth 20000 in
theorem gX7_wantedAt_X7_in : GoodIn wsX7_wantedAt (va_wsS RX7 54 yX7_in wsX7_in) := goodIn_app (goodIn_of _ (by decide +kernel)) ggX7_wantedAt_X7_in
set_option maxRecDepth 20000 in
theorem ggX7_wantedAt_X7_holds : GoodIn wsX7_wantedAt wsX7_holds := goodIn_r _ [10, 11, 12, 13, 14, 15, 16, 17, 18, 19, 20, 21, 22, 23, 24, 25, 26, 27, 28, 29, 30, 31] (by decide +kernel) (by decide +kernel)
set_option maxRecDepth 20000 in
theorem gX7_wantedAt_X7_holds : GoodIn wsX7_wantedAt (wsV RX7 62 RX7 yX7_holds wsX7_holds) := goodIn_app (goodIn_of _ (by decide +kernel)) ggX7_wantedAt_X7_holds
theorem dX7_wantedAt_0 : decode cX7_wantedAt 0 = .ok (.aload_n 0, 1) := by decide +kernel
theorem dX7_wantedAt_1 : decode cX7_wantedAt 1 = .ok (.iload_n 1, 1) := by decide +kernel
theorem dX7_wantedAt_2 : decode cX7_wantedAt 2 = .ok (.iconst 0, 1) := by decide +kernel
theorem dX7_wantedAt_3 : decode cX7_wantedAt 3 = .ok (.aload_n 0, 1) := by decide +kernel
theorem dX7_wantedAt_4 : decode cX7_wantedAt 4 = .ok (.getfield 79, 3) := by decide +kernel
theorem dX7_wantedAt_7 : decode cX7_wantedAt 7 = .ok (.iconst 1, 1) := by decide +kernel
theorem dX7_wantedAt_8 : decode cX7_wantedAt 8 = .ok (.isub, 1) := by decide +kernel
theorem dX7_wantedAt_9 : decode cX7_wantedAt 9 = .ok (.invokestatic 54, 3) := by decide +kernel
theorem dX7_wantedAt_12 : decode cX7_wantedAt 12 = .ok (.ifCond .eq 7, 3) := by decide +kernel
theorem dX7_wantedAt_15 : decode cX7_wantedAt 15 = .ok (.iconst 0, 1) := by decide +kernel
theorem dX7_wantedAt_16 : decode cX7_wantedAt 16 = .ok (.goto 4, 3) := by decide +kernel
theorem dX7_wantedAt_19 : decode cX7_wantedAt 19 = .ok (.iconst 1, 1) := by decide +kernel
theorem dX7_wantedAt_20 : decode cX7_wantedAt 20 = .ok (.invokevirtual 62, 3) := by decide +kernel
theorem dX7_wantedAt_23 : decode cX7_wantedAt 23 = .ok (.ifCond .eq 12, 3) := by decide +kernel
theorem dX7_wantedAt_26 : decode cX7_wantedAt 26 = .ok (.aload_n 0, 1) := by decide +kernel
theorem dX7_wantedAt_27 : decode cX7_wantedAt 27 = .ok (.getfield 29, 3) := by decide +kernel
theorem dX7_wantedAt_30 : decode cX7_wantedAt 30 = .ok (.iload_n 1, 1) := by decide +kernel
theorem dX7_wantedAt_31 : decode cX7_wantedAt 31 = .ok (.iaload, 1) := by decide +kernel
theorem dX7_wantedAt_32 : decode cX7_wantedAt 32 = .ok (.goto 4, 3) := by decide +kernel
theorem dX7_wantedAt_35 : decode cX7_wantedAt 35 = .ok (.iconst 0, 1) := by decide +kernel
theorem dX7_wantedAt_36 : decode cX7_wantedAt 36 = .ok (.ireturn, 1) := by decide +kernel
theorem dX7_position_0 : decode cX7_position 0 = .ok (.aload_n 0, 1) := by decide +kernel
theorem dX7_position_1 : decode cX7_position 1 = .ok (.iconst 0, 1) := by decide +kernel
theorem dX7_position_2 : decode cX7_position 2 = .ok (.putfield 51, 3) := by decide +kernel
theorem dX7_position_5 : decode cX7_position 5 = .ok (.aload_n 0, 1) := by decide +kernel
theorem dX7_position_6 : decode cX7_position 6 = .ok (.getfield 93, 3) := by decide +kernel
theorem dX7_position_9 : decode cX7_position 9 = .ok (.ireturn, 1) := by decide +kernel
set_option maxRecDepth 20000 in
theorem ggX7_errorOf_X7_isBeside : GoodIn wsX7_errorOf wsX7_isBeside := goodIn_r _ [10, 5, 11, 12, 9, 13, 18, 19, 20, 21, 22, 23, 24, 25, 26, 27, 28, 29, 30, 31, 32, 33, 34, 35, 36, 37] (by decide +kernel) (by decide +kernel)
set_option maxRecDepth 20000 in
theorem gX7_errorOf_X7_isBeside : GoodIn wsX7_errorOf (wsV RX7 72 RX7 yX7_isBeside wsX7_isBeside) := goodIn_app (goodIn_of _ (by decide +kernel)) ggX7_errorOf_X7_isBeside
set_option maxRecDepth 20000 in
theorem ggX7_errorOf_X7_mirrorOf : GoodIn wsX7_errorOf wsX7_mirrorOf := goodIn_r _ [17, 5, 18, 19, 20, 21, 22, 23, 24, 25, 26, 27, 28, 29, 30, 31, 32, 33, 34, 35, 36, 37] (by decide +kernel) (by decide +kernel)
set_option maxRecDepth 20000 in
theorem gX7_errorOf_X7_mirrorOf : GoodIn wsX7_errorOf (wsV RX7 76 RX7 yX7_mirrorOf wsX7_mirrorOf) := goodIn_app (goodIn_of _ (by decide +kernel)) ggX7_errorOf_X7_mirrorOf
theorem dX7_errorOf_0 : decode cX7_errorOf 0 = .ok (.aload_n 0, 1) := by decide +kernel
theorem dX7_errorOf_1 : decode cX7_errorOf 1 = .ok (.getfield 29, 3) := by decide +kernel
theorem dX7_errorOf_4 : decode cX7_errorOf 4 = .ok (.aload_n 0, 1) := by decide +kernel
theorem dX7_errorOf_5 : decode cX7_errorOf 5 = .ok (.getfield 93, 3) := by decide +kernel
theorem dX7_errorOf_8 : decode cX7_errorOf 8 = .ok (.iaload, 1) := by decide +kernel
theorem dX7_errorOf_9 : decode cX7_errorOf 9 = .ok (.istore_n 2, 1) := by decide +kernel
theorem dX7_errorOf_10 : decode cX7_errorOf 10 = .ok (.aload_n 0, 1) := by decide +kernel
theorem dX7_errorOf_11 : decode cX7_errorOf 11 = .ok (.getfield 93, 3) := by decide +kernel
theorem dX7_errorOf_14 : decode cX7_errorOf 14 = .ok (.ifCond .le 20, 3) := by decide +kernel
theorem dX7_errorOf_17 : decode cX7_errorOf 17 = .ok (.aload_n 0, 1) := by decide +kernel
theorem dX7_errorOf_18 : decode cX7_errorOf 18 = .ok (.getfield 32, 3) := by decide +kernel
theorem dX7_errorOf_21 : decode cX7_errorOf 21 = .ok (.aload_n 0, 1) := by decide +kernel
theorem dX7_errorOf_22 : decode cX7_errorOf 22 = .ok (.getfield 93, 3) := by decide +kernel
theorem dX7_errorOf_25 : decode cX7_errorOf 25 = .ok (.iconst 1, 1) := by decide +kernel
theorem dX7_errorOf_26 : decode cX7_errorOf 26 = .ok (.isub, 1) := by decide +kernel
theorem dX7_errorOf_27 : decode cX7_errorOf 27 = .ok (.iaload, 1) := by decide +kernel
theorem dX7_errorOf_28 : decode cX7_errorOf 28 = .ok (.iload_n 1, 1) := by decide +kernel
theorem dX7_errorOf_29 : decode cX7_errorOf 29 = .ok (.if_icmp .ne 5, 3) := by decide +kernel
theorem dX7_errorOf_32 : decode cX7_errorOf 32 = .ok (.iconst 0, 1) := by decide +kernel
theorem dX7_errorOf_33 : decode cX7_errorOf 33 = .ok (.ireturn, 1) := by decide +kernel
theorem dX7_errorOf_34 : decode cX7_errorOf 34 = .ok (.aload_n 0, 1) := by decide +kernel
theorem dX7_errorOf_35 : decode cX7_errorOf 35 = .ok (.getfield 93, 3) := by decide +kernel
theorem dX7_errorOf_38 : decode cX7_errorOf 38 = .ok (.iconst 1, 1) := by decide +kernel
theorem dX7_errorOf_39 : decode cX7_errorOf 39 = .ok (.iadd, 1) := by decide +kernel
theorem dX7_errorOf_40 : decode cX7_errorOf 40 = .ok (.aload_n 0, 1) := by decide +kernel
theorem dX7_errorOf_41 : decode cX7_errorOf 41 = .ok (.getfield 79, 3) := by decide +kernel
theorem dX7_errorOf_44 : decode cX7_errorOf 44 = .ok (.if_icmp .ge 20, 3) := by decide +kernel
theorem dX7_errorOf_47 : decode cX7_errorOf 47 = .ok (.aload_n 0, 1) := by decide +kernel
theorem dX7_errorOf_48 : decode cX7_errorOf 48 = .ok (.getfield 29, 3) := by decide +kernel
theorem dX7_errorOf_51 : decode cX7_errorOf 51 = .ok (.aload_n 0, 1) := by decide +kernel
theorem dX7_errorOf_52 : decode cX7_errorOf 52 = .ok (.getfield 93, 3) := by decide +kernel
theorem dX7_errorOf_55 : decode cX7_errorOf 55 = .ok (.iconst 1, 1) := by decide +kernel
theorem dX7_errorOf_56 : decode cX7_errorOf 56 = .ok (.iadd, 1) := by decide +kernel
theorem dX7_errorOf_57 : decode cX7_errorOf 57 = .ok (.iaload, 1) := by decide +kernel
theorem dX7_errorOf_58 : decode cX7_errorOf 58 = .ok (.iload_n 1, 1) := by decide +kernel
theorem dX7_errorOf_59 : decode cX7_errorOf 59 = .ok (.if_icmp .ne 5, 3) := by decide +kernel
theorem dX7_errorOf_62 : decode cX7_errorOf 62 = .ok (.iconst 1, 1) := by decide +kernel
theorem dX7_errorOf_63 : decode cX7_errorOf 63 = .ok (.ireturn, 1) := by decide +kernel
theorem dX7_errorOf_64 : decode cX7_errorOf 64 = .ok (.aload_n 0, 1) := by decide +kernel
theorem dX7_errorOf_65 : decode cX7_errorOf 65 = .ok (.iload_n 1, 1) := by decide +kernel
theorem dX7_errorOf_66 : decode cX7_errorOf 66 = .ok (.iload_n 2, 1) := by decide +kernel
theorem dX7_errorOf_67 : decode cX7_errorOf 67 = .ok (.invokevirtual 72, 3) := by decide +kernel
theorem dX7_errorOf_70 : decode cX7_errorOf 70 = .ok (.ifCond .eq 7, 3) := by decide +kernel
theorem dX7_errorOf_73 : decode cX7_errorOf 73 = .ok (.iconst 2, 1) := by decide +kernel
theorem dX7_errorOf_74 : decode cX7_errorOf 74 = .ok (.goto 22, 3) := by decide +kernel
theorem dX7_errorOf_77 : decode cX7_errorOf 77 = .ok (.aload_n 0, 1) := by decide +kernel
theorem dX7_errorOf_78 : decode cX7_errorOf 78 = .ok (.getfield 7, 3) := by decide +kernel
theorem dX7_errorOf_81 : decode cX7_errorOf 81 = .ok (.iload_n 1, 1) := by decide +kernel
theorem dX7_errorOf_82 : decode cX7_errorOf 82 = .ok (.iaload, 1) := by decide +kernel
theorem dX7_errorOf_83 : decode cX7_errorOf 83 = .ok (.aload_n 0, 1) := by decide +kernel
theorem dX7_errorOf_84 : decode cX7_errorOf 84 = .ok (.iload_n 2, 1) := by decide +kernel
theorem dX7_errorOf_85 : decode cX7_errorOf 85 = .ok (.invokevirtual 76, 3) := by decide +kernel
theorem dX7_errorOf_88 : decode cX7_errorOf 88 = .ok (.if_icmp .ne 7, 3) := by decide +kernel
theorem dX7_errorOf_91 : decode cX7_errorOf 91 = .ok (.iconst 3, 1) := by decide +kernel
theorem dX7_errorOf_92 : decode cX7_errorOf 92 = .ok (.goto 4, 3) := by decide +kernel
theorem dX7_errorOf_95 : decode cX7_errorOf 95 = .ok (.iconst 4, 1) := by decide +kernel
theorem dX7_errorOf_96 : decode cX7_errorOf 96 = .ok (.ireturn, 1) := by decide +kernel
set_option maxRecDepth 20000 in
theorem ggX7_stroke_X7_isLetter : GoodIn wsX7_stroke wsX7_isLetter := goodIn_r _ [16, 17, 18, 15, 19] (by decide +kernel) (by decide +kernel)
set_option maxRecDepth 20000 in
theorem gX7_stroke_X7_isLetter : GoodIn wsX7_stroke (va_wsS RX7 58 yX7_isLetter wsX7_isLetter) := goodIn_app (goodIn_of _ (by decide +kernel)) ggX7_stroke_X7_isLetter
set_option maxRecDepth 20000 in
theorem ggX7_stroke_X7_in : GoodIn wsX7_stroke wsX7_in := goodIn_r _ [19] (by decide +kernel) (by decide +kernel)
set_option maxRecDepth 20000 in
theorem gX7_stroke_X7_in : GoodIn wsX7_stroke (va_wsS RX7 54 yX7_in wsX7_in) := goodIn_app (goodIn_of _ (by decide +kernel)) ggX7_stroke_X7_in
set_option maxRecDepth 20000 in
theorem ggX7_stroke_X7_holds : GoodIn wsX7_stroke wsX7_holds := goodIn_r _ [23, 24, 42, 43, 44, 45, 46, 47, 48, 49, 50, 51, 52, 53, 54, 55, 56, 57, 58, 59, 60, 61] (by decide +kernel) (by decide +kernel)
set_option maxRecDepth 20000 in
theorem gX7_stroke_X7_holds : GoodIn wsX7_stroke (wsV RX7 62 RX7 yX7_holds wsX7_holds) := goodIn_app (goodIn_of _ (by decide +kernel)) ggX7_stroke_X7_holds
set_option maxRecDepth 20000 in
theorem ggX7_stroke_X7_errorOf : GoodIn wsX7_stroke wsX7_errorOf := goodIn_r _ [28, 3, 1, 10, 2, 29, 30, 31, 32, 15, 33, 17, 18, 19, 34, 35, 36, 37, 42, 43, 44, 45, 46, 47, 48, 49, 50, 51, 52, 53, 54, 55, 56, 57, 58, 59, 60, 61] (by decide +kernel) (by decide +kernel)
set_option maxRecDepth 20000 in
theorem gX7_stroke_X7_errorOf : GoodIn wsX7_stroke (wsV RX7 96 RX7 yX7_errorOf wsX7_errorOf) := goodIn_app (goodIn_of _ (by decide +kernel)) ggX7_stroke_X7_errorOf
set_option maxRecDepth 20000 in
theorem ggX7_stroke_X7_fingerOf : GoodIn wsX7_stroke wsX7_fingerOf := goodIn_r _ [41, 29, 42, 43, 44, 45, 46, 47, 48, 49, 50, 51, 52, 53, 54, 55, 56, 57, 58, 59, 60, 61] (by decide +kernel) (by decide +kernel)
set_option maxRecDepth 20000 in
theorem gX7_stroke_X7_fingerOf : GoodIn wsX7_stroke (wsV RX7 69 RX7 yX7_fingerOf wsX7_fingerOf) := goodIn_app (goodIn_of _ (by decide +kernel)) ggX7_stroke_X7_fingerOf
theorem dX7_stroke_0 : decode cX7_stroke 0 = .ok (.aload_n 0, 1) := by decide +kernel
theorem dX7_stroke_1 : decode cX7_stroke 1 = .ok (.iload_n 1, 1) := by decide +kernel
theorem dX7_stroke_2 : decode cX7_stroke 2 = .ok (.invokestatic 58, 3) := by decide +kernel
theorem dX7_stroke_5 : decode cX7_stroke 5 = .ok (.ifCond .ne 7, 3) := by decide +kernel
theorem dX7_stroke_8 : decode cX7_stroke 8 = .ok (.iconst 1, 1) := by decide +kernel
theorem dX7_stroke_9 : decode cX7_stroke 9 = .ok (.goto 34, 3) := by decide +kernel
theorem dX7_stroke_12 : decode cX7_stroke 12 = .ok (.iload_n 2, 1) := by decide +kernel
theorem dX7_stroke_13 : decode cX7_stroke 13 = .ok (.iconst 1, 1) := by decide +kernel
theorem dX7_stroke_14 : decode cX7_stroke 14 = .ok (.sipush 5000, 3) := by decide +kernel
theorem dX7_stroke_17 : decode cX7_stroke 17 = .ok (.invokestatic 54, 3) := by decide +kernel
theorem dX7_stroke_20 : decode cX7_stroke 20 = .ok (.ifCond .ne 7, 3) := by decide +kernel
theorem dX7_stroke_23 : decode cX7_stroke 23 = .ok (.iconst 2, 1) := by decide +kernel
theorem dX7_stroke_24 : decode cX7_stroke 24 = .ok (.goto 19, 3) := by decide +kernel
theorem dX7_stroke_27 : decode cX7_stroke 27 = .ok (.aload_n 0, 1) := by decide +kernel
theorem dX7_stroke_28 : decode cX7_stroke 28 = .ok (.getfield 93, 3) := by decide +kernel
theorem dX7_stroke_31 : decode cX7_stroke 31 = .ok (.aload_n 0, 1) := by decide +kernel
theorem dX7_stroke_32 : decode cX7_stroke 32 = .ok (.getfield 79, 3) := by decide +kernel
theorem dX7_stroke_35 : decode cX7_stroke 35 = .ok (.if_icmp .ne 7, 3) := by decide +kernel
theorem dX7_stroke_38 : decode cX7_stroke 38 = .ok (.iconst 3, 1) := by decide +kernel
theorem dX7_stroke_39 : decode cX7_stroke 39 = .ok (.goto 4, 3) := by decide +kernel
theorem dX7_stroke_42 : decode cX7_stroke 42 = .ok (.iconst 0, 1) := by decide +kernel
theorem dX7_stroke_43 : decode cX7_stroke 43 = .ok (.invokevirtual 62, 3) := by decide +kernel
theorem dX7_stroke_46 : decode cX7_stroke 46 = .ok (.ifCond .ne 5, 3) := by decide +kernel
theorem dX7_stroke_49 : decode cX7_stroke 49 = .ok (.iconst 0, 1) := by decide +kernel
theorem dX7_stroke_50 : decode cX7_stroke 50 = .ok (.ireturn, 1) := by decide +kernel
theorem dX7_stroke_51 : decode cX7_stroke 51 = .ok (.aload_n 0, 1) := by decide +kernel
theorem dX7_stroke_52 : decode cX7_stroke 52 = .ok (.getfield 29, 3) := by decide +kernel
theorem dX7_stroke_55 : decode cX7_stroke 55 = .ok (.aload_n 0, 1) := by decide +kernel
theorem dX7_stroke_56 : decode cX7_stroke 56 = .ok (.getfield 93, 3) := by decide +kernel
theorem dX7_stroke_59 : decode cX7_stroke 59 = .ok (.iaload, 1) := by decide +kernel
theorem dX7_stroke_60 : decode cX7_stroke 60 = .ok (.istore_n 3, 1) := by decide +kernel
theorem dX7_stroke_61 : decode cX7_stroke 61 = .ok (.iload_n 1, 1) := by decide +kernel
theorem dX7_stroke_62 : decode cX7_stroke 62 = .ok (.iload_n 3, 1) := by decide +kernel
theorem dX7_stroke_63 : decode cX7_stroke 63 = .ok (.if_icmp .ne 7, 3) := by decide +kernel
theorem dX7_stroke_66 : decode cX7_stroke 66 = .ok (.iconst 1, 1) := by decide +kernel
theorem dX7_stroke_67 : decode cX7_stroke 67 = .ok (.goto 4, 3) := by decide +kernel
theorem dX7_stroke_70 : decode cX7_stroke 70 = .ok (.iconst 0, 1) := by decide +kernel
theorem dX7_stroke_71 : decode cX7_stroke 71 = .ok (.istore 4, 2) := by decide +kernel
theorem dX7_stroke_73 : decode cX7_stroke 73 = .ok (.iload 4, 2) := by decide +kernel
theorem dX7_stroke_75 : decode cX7_stroke 75 = .ok (.ifCond .eq 7, 3) := by decide +kernel
theorem dX7_stroke_78 : decode cX7_stroke 78 = .ok (.iconst (-1), 1) := by decide +kernel
theorem dX7_stroke_79 : decode cX7_stroke 79 = .ok (.goto 8, 3) := by decide +kernel
theorem dX7_stroke_82 : decode cX7_stroke 82 = .ok (.aload_n 0, 1) := by decide +kernel
theorem dX7_stroke_83 : decode cX7_stroke 83 = .ok (.iload_n 1, 1) := by decide +kernel
theorem dX7_stroke_84 : decode cX7_stroke 84 = .ok (.invokevirtual 96, 3) := by decide +kernel
theorem dX7_stroke_87 : decode cX7_stroke 87 = .ok (.istore 5, 2) := by decide +kernel
theorem dX7_stroke_89 : decode cX7_stroke 89 = .ok (.aload_n 0, 1) := by decide +kernel
theorem dX7_stroke_90 : decode cX7_stroke 90 = .ok (.getfield 13, 3) := by decide +kernel
theorem dX7_stroke_93 : decode cX7_stroke 93 = .ok (.iload_n 3, 1) := by decide +kernel
theorem dX7_stroke_94 : decode cX7_stroke 94 = .ok (.dup2, 1) := by decide +kernel
theorem dX7_stroke_95 : decode cX7_stroke 95 = .ok (.iaload, 1) := by decide +kernel
theorem dX7_stroke_96 : decode cX7_stroke 96 = .ok (.iconst 1, 1) := by decide +kernel
theorem dX7_stroke_97 : decode cX7_stroke 97 = .ok (.iadd, 1) := by decide +kernel
theorem dX7_stroke_98 : decode cX7_stroke 98 = .ok (.iastore, 1) := by decide +kernel
theorem dX7_stroke_99 : decode cX7_stroke 99 = .ok (.aload_n 0, 1) := by decide +kernel
theorem dX7_stroke_100 : decode cX7_stroke 100 = .ok (.getfield 16, 3) := by decide +kernel
theorem dX7_stroke_103 : decode cX7_stroke 103 = .ok (.iload_n 3, 1) := by decide +kernel
theorem dX7_stroke_104 : decode cX7_stroke 104 = .ok (.iconst 3, 1) := by decide +kernel
theorem dX7_stroke_105 : decode cX7_stroke 105 = .ok (.aload_n 0, 1) := by decide +kernel
theorem dX7_stroke_106 : decode cX7_stroke 106 = .ok (.getfield 16, 3) := by decide +kernel
theorem dX7_stroke_109 : decode cX7_stroke 109 = .ok (.iload_n 3, 1) := by decide +kernel
theorem dX7_stroke_110 : decode cX7_stroke 110 = .ok (.iaload, 1) := by decide +kernel
theorem dX7_stroke_111 : decode cX7_stroke 111 = .ok (.imul, 1) := by decide +kernel
theorem dX7_stroke_112 : decode cX7_stroke 112 = .ok (.iload_n 2, 1) := by decide +kernel
theorem dX7_stroke_113 : decode cX7_stroke 113 = .ok (.iadd, 1) := by decide +kernel
theorem dX7_stroke_114 : decode cX7_stroke 114 = .ok (.iconst 4, 1) := by decide +kernel
theorem dX7_stroke_115 : decode cX7_stroke 115 = .ok (.idiv, 1) := by decide +kernel
theorem dX7_stroke_116 : decode cX7_stroke 116 = .ok (.iastore, 1) := by decide +kernel
theorem dX7_stroke_117 : decode cX7_stroke 117 = .ok (.aload_n 0, 1) := by decide +kernel
theorem dX7_stroke_118 : decode cX7_stroke 118 = .ok (.getfield 19, 3) := by decide +kernel
theorem dX7_stroke_121 : decode cX7_stroke 121 = .ok (.iload_n 3, 1) := by decide +kernel
theorem dX7_stroke_122 : decode cX7_stroke 122 = .ok (.bipush 7, 2) := by decide +kernel
theorem dX7_stroke_124 : decode cX7_stroke 124 = .ok (.aload_n 0, 1) := by decide +kernel
theorem dX7_stroke_125 : decode cX7_stroke 125 = .ok (.getfield 19, 3) := by decide +kernel
theorem dX7_stroke_128 : decode cX7_stroke 128 = .ok (.iload_n 3, 1) := by decide +kernel
theorem dX7_stroke_129 : decode cX7_stroke 129 = .ok (.iaload, 1) := by decide +kernel
theorem dX7_stroke_130 : decode cX7_stroke 130 = .ok (.imul, 1) := by decide +kernel
theorem dX7_stroke_131 : decode cX7_stroke 131 = .ok (.iload 4, 2) := by decide +kernel
theorem dX7_stroke_133 : decode cX7_stroke 133 = .ok (.ifCond .eq 7, 3) := by decide +kernel
theorem dX7_stroke_136 : decode cX7_stroke 136 = .ok (.iconst 0, 1) := by decide +kernel
theorem dX7_stroke_137 : decode cX7_stroke 137 = .ok (.goto 6, 3) := by decide +kernel
theorem dX7_stroke_140 : decode cX7_stroke 140 = .ok (.sipush 10000, 3) := by decide +kernel
theorem dX7_stroke_143 : decode cX7_stroke 143 = .ok (.iadd, 1) := by decide +kernel
theorem dX7_stroke_144 : decode cX7_stroke 144 = .ok (.bipush 8, 2) := by decide +kernel
theorem dX7_stroke_146 : decode cX7_stroke 146 = .ok (.idiv, 1) := by decide +kernel
theorem dX7_stroke_147 : decode cX7_stroke 147 = .ok (.iastore, 1) := by decide +kernel
theorem dX7_stroke_148 : decode cX7_stroke 148 = .ok (.aload_n 0, 1) := by decide +kernel
theorem dX7_stroke_149 : decode cX7_stroke 149 = .ok (.getfield 93, 3) := by decide +kernel
theorem dX7_stroke_152 : decode cX7_stroke 152 = .ok (.ifCond .le 41, 3) := by decide +kernel
theorem dX7_stroke_155 : decode cX7_stroke 155 = .ok (.bipush 26, 2) := by decide +kernel
theorem dX7_stroke_157 : decode cX7_stroke 157 = .ok (.aload_n 0, 1) := by decide +kernel
theorem dX7_stroke_158 : decode cX7_stroke 158 = .ok (.getfield 29, 3) := by decide +kernel
theorem dX7_stroke_161 : decode cX7_stroke 161 = .ok (.aload_n 0, 1) := by decide +kernel
theorem dX7_stroke_162 : decode cX7_stroke 162 = .ok (.getfield 93, 3) := by decide +kernel
theorem dX7_stroke_165 : decode cX7_stroke 165 = .ok (.iconst 1, 1) := by decide +kernel
theorem dX7_stroke_166 : decode cX7_stroke 166 = .ok (.isub, 1) := by decide +kernel
theorem dX7_stroke_167 : decode cX7_stroke 167 = .ok (.iaload, 1) := by decide +kernel
theorem dX7_stroke_168 : decode cX7_stroke 168 = .ok (.imul, 1) := by decide +kernel
theorem dX7_stroke_169 : decode cX7_stroke 169 = .ok (.iload_n 3, 1) := by decide +kernel
theorem dX7_stroke_170 : decode cX7_stroke 170 = .ok (.iadd, 1) := by decide +kernel
theorem dX7_stroke_171 : decode cX7_stroke 171 = .ok (.istore 6, 2) := by decide +kernel
theorem dX7_stroke_173 : decode cX7_stroke 173 = .ok (.aload_n 0, 1) := by decide +kernel
theorem dX7_stroke_174 : decode cX7_stroke 174 = .ok (.getfield 26, 3) := by decide +kernel
theorem dX7_stroke_177 : decode cX7_stroke 177 = .ok (.iload 6, 2) := by decide +kernel
theorem dX7_stroke_179 : decode cX7_stroke 179 = .ok (.iconst 3, 1) := by decide +kernel
theorem dX7_stroke_180 : decode cX7_stroke 180 = .ok (.aload_n 0, 1) := by decide +kernel
theorem dX7_stroke_181 : decode cX7_stroke 181 = .ok (.getfield 26, 3) := by decide +kernel
theorem dX7_stroke_184 : decode cX7_stroke 184 = .ok (.iload 6, 2) := by decide +kernel
theorem dX7_stroke_186 : decode cX7_stroke 186 = .ok (.iaload, 1) := by decide +kernel
theorem dX7_stroke_187 : decode cX7_stroke 187 = .ok (.imul, 1) := by decide +kernel
theorem dX7_stroke_188 : decode cX7_stroke 188 = .ok (.iload_n 2, 1) := by decide +kernel
theorem dX7_stroke_189 : decode cX7_stroke 189 = .ok (.iadd, 1) := by decide +kernel
theorem dX7_stroke_190 : decode cX7_stroke 190 = .ok (.iconst 4, 1) := by decide +kernel
theorem dX7_stroke_191 : decode cX7_stroke 191 = .ok (.idiv, 1) := by decide +kernel
theorem dX7_stroke_192 : decode cX7_stroke 192 = .ok (.iastore, 1) := by decide +kernel
theorem dX7_stroke_193 : decode cX7_stroke 193 = .ok (.iload 4, 2) := by decide +kernel
theorem dX7_stroke_195 : decode cX7_stroke 195 = .ok (.ifCond .ne 28, 3) := by decide +kernel
theorem dX7_stroke_198 : decode cX7_stroke 198 = .ok (.aload_n 0, 1) := by decide +kernel
theorem dX7_stroke_199 : decode cX7_stroke 199 = .ok (.getfield 35, 3) := by decide +kernel
theorem dX7_stroke_202 : decode cX7_stroke 202 = .ok (.iload 5, 2) := by decide +kernel
theorem dX7_stroke_204 : decode cX7_stroke 204 = .ok (.dup2, 1) := by decide +kernel
theorem dX7_stroke_205 : decode cX7_stroke 205 = .ok (.iaload, 1) := by decide +kernel
theorem dX7_stroke_206 : decode cX7_stroke 206 = .ok (.iconst 1, 1) := by decide +kernel
theorem dX7_stroke_207 : decode cX7_stroke 207 = .ok (.iadd, 1) := by decide +kernel
theorem dX7_stroke_208 : decode cX7_stroke 208 = .ok (.iastore, 1) := by decide +kernel
theorem dX7_stroke_209 : decode cX7_stroke 209 = .ok (.aload_n 0, 1) := by decide +kernel
theorem dX7_stroke_210 : decode cX7_stroke 210 = .ok (.getfield 38, 3) := by decide +kernel
theorem dX7_stroke_213 : decode cX7_stroke 213 = .ok (.aload_n 0, 1) := by decide +kernel
theorem dX7_stroke_214 : decode cX7_stroke 214 = .ok (.iload_n 3, 1) := by decide +kernel
theorem dX7_stroke_215 : decode cX7_stroke 215 = .ok (.invokevirtual 69, 3) := by decide +kernel
theorem dX7_stroke_218 : decode cX7_stroke 218 = .ok (.dup2, 1) := by decide +kernel
theorem dX7_stroke_219 : decode cX7_stroke 219 = .ok (.iaload, 1) := by decide +kernel
theorem dX7_stroke_220 : decode cX7_stroke 220 = .ok (.iconst 1, 1) := by decide +kernel
theorem dX7_stroke_221 : decode cX7_stroke 221 = .ok (.iadd, 1) := by decide +kernel
theorem dX7_stroke_222 : decode cX7_stroke 222 = .ok (.iastore, 1) := by decide +kernel
theorem dX7_stroke_223 : decode cX7_stroke 223 = .ok (.aload_n 0, 1) := by decide +kernel
theorem dX7_stroke_224 : decode cX7_stroke 224 = .ok (.getfield 32, 3) := by decide +kernel
theorem dX7_stroke_227 : decode cX7_stroke 227 = .ok (.aload_n 0, 1) := by decide +kernel
theorem dX7_stroke_228 : decode cX7_stroke 228 = .ok (.getfield 93, 3) := by decide +kernel
theorem dX7_stroke_231 : decode cX7_stroke 231 = .ok (.iload_n 1, 1) := by decide +kernel
theorem dX7_stroke_232 : decode cX7_stroke 232 = .ok (.iastore, 1) := by decide +kernel
theorem dX7_stroke_233 : decode cX7_stroke 233 = .ok (.aload_n 0, 1) := by decide +kernel
theorem dX7_stroke_234 : decode cX7_stroke 234 = .ok (.dup, 1) := by decide +kernel
theorem dX7_stroke_235 : decode cX7_stroke 235 = .ok (.getfield 93, 3) := by decide +kernel
theorem dX7_stroke_238 : decode cX7_stroke 238 = .ok (.iconst 1, 1) := by decide +kernel
theorem dX7_stroke_239 : decode cX7_stroke 239 = .ok (.iadd, 1) := by decide +kernel
theorem dX7_stroke_240 : decode cX7_stroke 240 = .ok (.putfield 93, 3) := by decide +kernel
theorem dX7_stroke_243 : decode cX7_stroke 243 = .ok (.aload_n 0, 1) := by decide +kernel
theorem dX7_stroke_244 : decode cX7_stroke 244 = .ok (.dup, 1) := by decide +kernel
theorem dX7_stroke_245 : decode cX7_stroke 245 = .ok (.getfield 99, 3) := by decide +kernel
theorem dX7_stroke_248 : decode cX7_stroke 248 = .ok (.iload_n 2, 1) := by decide +kernel
theorem dX7_stroke_249 : decode cX7_stroke 249 = .ok (.iadd, 1) := by decide +kernel
theorem dX7_stroke_250 : decode cX7_stroke 250 = .ok (.putfield 99, 3) := by decide +kernel
theorem dX7_stroke_253 : decode cX7_stroke 253 = .ok (.aload_n 0, 1) := by decide +kernel
theorem dX7_stroke_254 : decode cX7_stroke 254 = .ok (.dup, 1) := by decide +kernel
theorem dX7_stroke_255 : decode cX7_stroke 255 = .ok (.getfield 102, 3) := by decide +kernel
theorem dX7_stroke_258 : decode cX7_stroke 258 = .ok (.iconst 1, 1) := by decide +kernel
theorem dX7_stroke_259 : decode cX7_stroke 259 = .ok (.iadd, 1) := by decide +kernel
theorem dX7_stroke_260 : decode cX7_stroke 260 = .ok (.putfield 102, 3) := by decide +kernel
theorem dX7_stroke_263 : decode cX7_stroke 263 = .ok (.iload 5, 2) := by decide +kernel
theorem dX7_stroke_265 : decode cX7_stroke 265 = .ok (.ireturn, 1) := by decide +kernel
set_option maxRecDepth 20000 in
theorem ggX7_back_X7_in : GoodIn wsX7_back wsX7_in := goodIn_r _ [7] (by decide +kernel) (by decide +kernel)
set_option maxRecDepth 20000 in
theorem gX7_back_X7_in : GoodIn wsX7_back (va_wsS RX7 54 yX7_in wsX7_in) := goodIn_app (goodIn_of _ (by decide +kernel)) ggX7_back_X7_in
set_option maxRecDepth 20000 in
theorem ggX7_back_X7_holds : GoodIn wsX7_back wsX7_holds := goodIn_r _ [11, 12, 13, 14, 15, 16, 17, 18, 19, 20, 21, 22, 23, 24, 25, 26, 27, 28, 29, 30, 31, 32] (by decide +kernel) (by decide +kernel)
set_option maxRecDepth 20000 in
theorem gX7_back_X7_holds : GoodIn wsX7_back (wsV RX7 62 RX7 yX7_holds wsX7_holds) := goodIn_app (goodIn_of _ (by decide +kernel)) ggX7_back_X7_holds
theorem dX7_back_0 : decode cX7_back 0 = .ok (.aload_n 0, 1) := by decide +kernel
theorem dX7_back_1 : decode cX7_back 1 = .ok (.iload_n 1, 1) := by decide +kernel
theorem dX7_back_2 : decode cX7_back 2 = .ok (.iconst 1, 1) := by decide +kernel
theorem dX7_back_3 : decode cX7_back 3 = .ok (.sipush 5000, 3) := by decide +kernel
theorem dX7_back_6 : decode cX7_back 6 = .ok (.invokestatic 54, 3) := by decide +kernel
theorem dX7_back_9 : decode cX7_back 9 = .ok (.ifCond .ne 7, 3) := by decide +kernel
theorem dX7_back_12 : decode cX7_back 12 = .ok (.iconst 1, 1) := by decide +kernel
theorem dX7_back_13 : decode cX7_back 13 = .ok (.goto 15, 3) := by decide +kernel
theorem dX7_back_16 : decode cX7_back 16 = .ok (.aload_n 0, 1) := by decide +kernel
theorem dX7_back_17 : decode cX7_back 17 = .ok (.getfield 93, 3) := by decide +kernel
theorem dX7_back_20 : decode cX7_back 20 = .ok (.ifCond .ne 7, 3) := by decide +kernel
theorem dX7_back_23 : decode cX7_back 23 = .ok (.iconst 2, 1) := by decide +kernel
theorem dX7_back_24 : decode cX7_back 24 = .ok (.goto 4, 3) := by decide +kernel
theorem dX7_back_27 : decode cX7_back 27 = .ok (.iconst 0, 1) := by decide +kernel
theorem dX7_back_28 : decode cX7_back 28 = .ok (.invokevirtual 62, 3) := by decide +kernel
theorem dX7_back_31 : decode cX7_back 31 = .ok (.ifCond .ne 5, 3) := by decide +kernel
theorem dX7_back_34 : decode cX7_back 34 = .ok (.iconst 0, 1) := by decide +kernel
theorem dX7_back_35 : decode cX7_back 35 = .ok (.ireturn, 1) := by decide +kernel
theorem dX7_back_36 : decode cX7_back 36 = .ok (.aload_n 0, 1) := by decide +kernel
theorem dX7_back_37 : decode cX7_back 37 = .ok (.dup, 1) := by decide +kernel
theorem dX7_back_38 : decode cX7_back 38 = .ok (.getfield 93, 3) := by decide +kernel
theorem dX7_back_41 : decode cX7_back 41 = .ok (.iconst 1, 1) := by decide +kernel
theorem dX7_back_42 : decode cX7_back 42 = .ok (.isub, 1) := by decide +kernel
theorem dX7_back_43 : decode cX7_back 43 = .ok (.putfield 93, 3) := by decide +kernel
theorem dX7_back_46 : decode cX7_back 46 = .ok (.aload_n 0, 1) := by decide +kernel
theorem dX7_back_47 : decode cX7_back 47 = .ok (.dup, 1) := by decide +kernel
theorem dX7_back_48 : decode cX7_back 48 = .ok (.getfield 105, 3) := by decide +kernel
theorem dX7_back_51 : decode cX7_back 51 = .ok (.iconst 1, 1) := by decide +kernel
theorem dX7_back_52 : decode cX7_back 52 = .ok (.iadd, 1) := by decide +kernel
theorem dX7_back_53 : decode cX7_back 53 = .ok (.putfield 105, 3) := by decide +kernel
theorem dX7_back_56 : decode cX7_back 56 = .ok (.aload_n 0, 1) := by decide +kernel
theorem dX7_back_57 : decode cX7_back 57 = .ok (.dup, 1) := by decide +kernel
theorem dX7_back_58 : decode cX7_back 58 = .ok (.getfield 99, 3) := by decide +kernel
theorem dX7_back_61 : decode cX7_back 61 = .ok (.iload_n 1, 1) := by decide +kernel
theorem dX7_back_62 : decode cX7_back 62 = .ok (.iadd, 1) := by decide +kernel
theorem dX7_back_63 : decode cX7_back 63 = .ok (.putfield 99, 3) := by decide +kernel
theorem dX7_back_66 : decode cX7_back 66 = .ok (.aload_n 0, 1) := by decide +kernel
theorem dX7_back_67 : decode cX7_back 67 = .ok (.getfield 93, 3) := by decide +kernel
theorem dX7_back_70 : decode cX7_back 70 = .ok (.ireturn, 1) := by decide +kernel
theorem dX7_speedNow_0 : decode cX7_speedNow 0 = .ok (.iconst 0, 1) := by decide +kernel
theorem dX7_speedNow_1 : decode cX7_speedNow 1 = .ok (.istore_n 1, 1) := by decide +kernel
theorem dX7_speedNow_2 : decode cX7_speedNow 2 = .ok (.iconst 0, 1) := by decide +kernel
theorem dX7_speedNow_3 : decode cX7_speedNow 3 = .ok (.istore_n 2, 1) := by decide +kernel
theorem dX7_speedNow_4 : decode cX7_speedNow 4 = .ok (.iload_n 2, 1) := by decide +kernel
theorem dX7_speedNow_5 : decode cX7_speedNow 5 = .ok (.aload_n 0, 1) := by decide +kernel
theorem dX7_speedNow_6 : decode cX7_speedNow 6 = .ok (.getfield 93, 3) := by decide +kernel
theorem dX7_speedNow_9 : decode cX7_speedNow 9 = .ok (.if_icmp .ge 32, 3) := by decide +kernel
theorem dX7_speedNow_12 : decode cX7_speedNow 12 = .ok (.iload_n 1, 1) := by decide +kernel
theorem dX7_speedNow_13 : decode cX7_speedNow 13 = .ok (.aload_n 0, 1) := by decide +kernel
theorem dX7_speedNow_14 : decode cX7_speedNow 14 = .ok (.getfield 32, 3) := by decide +kernel
theorem dX7_speedNow_17 : decode cX7_speedNow 17 = .ok (.iload_n 2, 1) := by decide +kernel
theorem dX7_speedNow_18 : decode cX7_speedNow 18 = .ok (.iaload, 1) := by decide +kernel
theorem dX7_speedNow_19 : decode cX7_speedNow 19 = .ok (.aload_n 0, 1) := by decide +kernel
theorem dX7_speedNow_20 : decode cX7_speedNow 20 = .ok (.getfield 29, 3) := by decide +kernel
theorem dX7_speedNow_23 : decode cX7_speedNow 23 = .ok (.iload_n 2, 1) := by decide +kernel
theorem dX7_speedNow_24 : decode cX7_speedNow 24 = .ok (.iaload, 1) := by decide +kernel
theorem dX7_speedNow_25 : decode cX7_speedNow 25 = .ok (.if_icmp .ne 7, 3) := by decide +kernel
theorem dX7_speedNow_28 : decode cX7_speedNow 28 = .ok (.iconst 1, 1) := by decide +kernel
theorem dX7_speedNow_29 : decode cX7_speedNow 29 = .ok (.goto 4, 3) := by decide +kernel
theorem dX7_speedNow_32 : decode cX7_speedNow 32 = .ok (.iconst 0, 1) := by decide +kernel
theorem dX7_speedNow_33 : decode cX7_speedNow 33 = .ok (.iadd, 1) := by decide +kernel
theorem dX7_speedNow_34 : decode cX7_speedNow 34 = .ok (.istore_n 1, 1) := by decide +kernel
theorem dX7_speedNow_35 : decode cX7_speedNow 35 = .ok (.iinc 2 1, 3) := by decide +kernel
theorem dX7_speedNow_38 : decode cX7_speedNow 38 = .ok (.goto (-34), 3) := by decide +kernel
theorem dX7_speedNow_41 : decode cX7_speedNow 41 = .ok (.aload_n 0, 1) := by decide +kernel
theorem dX7_speedNow_42 : decode cX7_speedNow 42 = .ok (.getfield 99, 3) := by decide +kernel
theorem dX7_speedNow_45 : decode cX7_speedNow 45 = .ok (.ifCond .ne 7, 3) := by decide +kernel
theorem dX7_speedNow_48 : decode cX7_speedNow 48 = .ok (.iconst 0, 1) := by decide +kernel
theorem dX7_speedNow_49 : decode cX7_speedNow 49 = .ok (.goto 12, 3) := by decide +kernel
theorem dX7_speedNow_52 : decode cX7_speedNow 52 = .ok (.iload_n 1, 1) := by decide +kernel
theorem dX7_speedNow_53 : decode cX7_speedNow 53 = .ok (.ldc 108, 2) := by decide +kernel
theorem dX7_speedNow_55 : decode cX7_speedNow 55 = .ok (.imul, 1) := by decide +kernel
theorem dX7_speedNow_56 : decode cX7_speedNow 56 = .ok (.aload_n 0, 1) := by decide +kernel
theorem dX7_speedNow_57 : decode cX7_speedNow 57 = .ok (.getfield 99, 3) := by decide +kernel
theorem dX7_speedNow_60 : decode cX7_speedNow 60 = .ok (.idiv, 1) := by decide +kernel
theorem dX7_speedNow_61 : decode cX7_speedNow 61 = .ok (.ireturn, 1) := by decide +kernel
set_option maxRecDepth 20000 in
theorem ggX7_speed_X7_speedNow : GoodIn wsX7_speed wsX7_speedNow := goodIn_r _ [6, 7, 8, 9, 10, 11, 12, 13, 14, 15, 16, 17, 18, 19, 20, 21, 22, 23, 24, 25, 26, 27, 28, 29, 30, 31] (by decide +kernel) (by decide +kernel)
set_option maxRecDepth 20000 in
theorem gX7_speed_X7_speedNow : GoodIn wsX7_speed (wsV RX7 109 RX7 yX7_speedNow wsX7_speedNow) := goodIn_app (goodIn_of _ (by decide +kernel)) ggX7_speed_X7_speedNow
theorem dX7_speed_0 : decode cX7_speed 0 = .ok (.aload_n 0, 1) := by decide +kernel
theorem dX7_speed_1 : decode cX7_speed 1 = .ok (.iconst 0, 1) := by decide +kernel
theorem dX7_speed_2 : decode cX7_speed 2 = .ok (.putfield 51, 3) := by decide +kernel
theorem dX7_speed_5 : decode cX7_speed 5 = .ok (.aload_n 0, 1) := by decide +kernel
theorem dX7_speed_6 : decode cX7_speed 6 = .ok (.invokevirtual 109, 3) := by decide +kernel
theorem dX7_speed_9 : decode cX7_speed 9 = .ok (.ireturn, 1) := by decide +kernel
theorem dX7_mended_0 : decode cX7_mended 0 = .ok (.aload_n 0, 1) := by decide +kernel
theorem dX7_mended_1 : decode cX7_mended 1 = .ok (.iconst 0, 1) := by decide +kernel
theorem dX7_mended_2 : decode cX7_mended 2 = .ok (.putfield 51, 3) := by decide +kernel
theorem dX7_mended_5 : decode cX7_mended 5 = .ok (.aload_n 0, 1) := by decide +kernel
theorem dX7_mended_6 : decode cX7_mended 6 = .ok (.getfield 105, 3) := by decide +kernel
theorem dX7_mended_9 : decode cX7_mended 9 = .ok (.ireturn, 1) := by decide +kernel
theorem dX7_isGoodOne_0 : decode cX7_isGoodOne 0 = .ok (.aload_n 0, 1) := by decide +kernel
theorem dX7_isGoodOne_1 : decode cX7_isGoodOne 1 = .ok (.getfield 13, 3) := by decide +kernel
theorem dX7_isGoodOne_4 : decode cX7_isGoodOne 4 = .ok (.iload_n 1, 1) := by decide +kernel
theorem dX7_isGoodOne_5 : decode cX7_isGoodOne 5 = .ok (.iaload, 1) := by decide +kernel
theorem dX7_isGoodOne_6 : decode cX7_isGoodOne 6 = .ok (.iconst 3, 1) := by decide +kernel
theorem dX7_isGoodOne_7 : decode cX7_isGoodOne 7 = .ok (.if_icmp .lt 33, 3) := by decide +kernel
theorem dX7_isGoodOne_10 : decode cX7_isGoodOne 10 = .ok (.aload_n 0, 1) := by decide +kernel
theorem dX7_isGoodOne_11 : decode cX7_isGoodOne 11 = .ok (.getfield 16, 3) := by decide +kernel
theorem dX7_isGoodOne_14 : decode cX7_isGoodOne 14 = .ok (.iload_n 1, 1) := by decide +kernel
theorem dX7_isGoodOne_15 : decode cX7_isGoodOne 15 = .ok (.iaload, 1) := by decide +kernel
theorem dX7_isGoodOne_16 : decode cX7_isGoodOne 16 = .ok (.aload_n 0, 1) := by decide +kernel
theorem dX7_isGoodOne_17 : decode cX7_isGoodOne 17 = .ok (.getfield 41, 3) := by decide +kernel
theorem dX7_isGoodOne_20 : decode cX7_isGoodOne 20 = .ok (.if_icmp .gt 20, 3) := by decide +kernel
theorem dX7_isGoodOne_23 : decode cX7_isGoodOne 23 = .ok (.aload_n 0, 1) := by decide +kernel
theorem dX7_isGoodOne_24 : decode cX7_isGoodOne 24 = .ok (.getfield 19, 3) := by decide +kernel
theorem dX7_isGoodOne_27 : decode cX7_isGoodOne 27 = .ok (.iload_n 1, 1) := by decide +kernel
theorem dX7_isGoodOne_28 : decode cX7_isGoodOne 28 = .ok (.iaload, 1) := by decide +kernel
theorem dX7_isGoodOne_29 : decode cX7_isGoodOne 29 = .ok (.aload_n 0, 1) := by decide +kernel
theorem dX7_isGoodOne_30 : decode cX7_isGoodOne 30 = .ok (.getfield 45, 3) := by decide +kernel
theorem dX7_isGoodOne_33 : decode cX7_isGoodOne 33 = .ok (.if_icmp .gt 7, 3) := by decide +kernel
theorem dX7_isGoodOne_36 : decode cX7_isGoodOne 36 = .ok (.iconst 1, 1) := by decide +kernel
theorem dX7_isGoodOne_37 : decode cX7_isGoodOne 37 = .ok (.goto 4, 3) := by decide +kernel
theorem dX7_isGoodOne_40 : decode cX7_isGoodOne 40 = .ok (.iconst 0, 1) := by decide +kernel
theorem dX7_isGoodOne_41 : decode cX7_isGoodOne 41 = .ok (.ireturn, 1) := by decide +kernel
theorem dX7_takesOut_0 : decode cX7_takesOut 0 = .ok (.iconst 0, 1) := by decide +kernel
theorem dX7_takesOut_1 : decode cX7_takesOut 1 = .ok (.istore_n 1, 1) := by decide +kernel
theorem dX7_takesOut_2 : decode cX7_takesOut 2 = .ok (.iconst 4, 1) := by decide +kernel
theorem dX7_takesOut_3 : decode cX7_takesOut 3 = .ok (.istore_n 2, 1) := by decide +kernel
theorem dX7_takesOut_4 : decode cX7_takesOut 4 = .ok (.iload_n 2, 1) := by decide +kernel
theorem dX7_takesOut_5 : decode cX7_takesOut 5 = .ok (.bipush 26, 2) := by decide +kernel
theorem dX7_takesOut_7 : decode cX7_takesOut 7 = .ok (.if_icmp .ge 72, 3) := by decide +kernel
theorem dX7_takesOut_10 : decode cX7_takesOut 10 = .ok (.aload_n 0, 1) := by decide +kernel
theorem dX7_takesOut_11 : decode cX7_takesOut 11 = .ok (.getfield 22, 3) := by decide +kernel
theorem dX7_takesOut_14 : decode cX7_takesOut 14 = .ok (.iload_n 2, 1) := by decide +kernel
theorem dX7_takesOut_15 : decode cX7_takesOut 15 = .ok (.baload, 1) := by decide +kernel
theorem dX7_takesOut_16 : decode cX7_takesOut 16 = .ok (.ifCond .eq 57, 3) := by decide +kernel
theorem dX7_takesOut_19 : decode cX7_takesOut 19 = .ok (.aload_n 0, 1) := by decide +kernel
theorem dX7_takesOut_20 : decode cX7_takesOut 20 = .ok (.getfield 13, 3) := by decide +kernel
theorem dX7_takesOut_23 : decode cX7_takesOut 23 = .ok (.iload_n 2, 1) := by decide +kernel
theorem dX7_takesOut_24 : decode cX7_takesOut 24 = .ok (.iaload, 1) := by decide +kernel
theorem dX7_takesOut_25 : decode cX7_takesOut 25 = .ok (.iconst 3, 1) := by decide +kernel
theorem dX7_takesOut_26 : decode cX7_takesOut 26 = .ok (.if_icmp .lt 47, 3) := by decide +kernel
theorem dX7_takesOut_29 : decode cX7_takesOut 29 = .ok (.aload_n 0, 1) := by decide +kernel
theorem dX7_takesOut_30 : decode cX7_takesOut 30 = .ok (.getfield 19, 3) := by decide +kernel
theorem dX7_takesOut_33 : decode cX7_takesOut 33 = .ok (.iload_n 2, 1) := by decide +kernel
theorem dX7_takesOut_34 : decode cX7_takesOut 34 = .ok (.iaload, 1) := by decide +kernel
theorem dX7_takesOut_35 : decode cX7_takesOut 35 = .ok (.sipush 5000, 3) := by decide +kernel
theorem dX7_takesOut_38 : decode cX7_takesOut 38 = .ok (.if_icmp .le 35, 3) := by decide +kernel
theorem dX7_takesOut_41 : decode cX7_takesOut 41 = .ok (.aload_n 0, 1) := by decide +kernel
theorem dX7_takesOut_42 : decode cX7_takesOut 42 = .ok (.getfield 22, 3) := by decide +kernel
theorem dX7_takesOut_45 : decode cX7_takesOut 45 = .ok (.iload_n 2, 1) := by decide +kernel
theorem dX7_takesOut_46 : decode cX7_takesOut 46 = .ok (.iconst 0, 1) := by decide +kernel
theorem dX7_takesOut_47 : decode cX7_takesOut 47 = .ok (.bastore, 1) := by decide +kernel
theorem dX7_takesOut_48 : decode cX7_takesOut 48 = .ok (.aload_n 0, 1) := by decide +kernel
theorem dX7_takesOut_49 : decode cX7_takesOut 49 = .ok (.getfield 13, 3) := by decide +kernel
theorem dX7_takesOut_52 : decode cX7_takesOut 52 = .ok (.iload_n 2, 1) := by decide +kernel
theorem dX7_takesOut_53 : decode cX7_takesOut 53 = .ok (.iconst 0, 1) := by decide +kernel
theorem dX7_takesOut_54 : decode cX7_takesOut 54 = .ok (.iastore, 1) := by decide +kernel
theorem dX7_takesOut_55 : decode cX7_takesOut 55 = .ok (.aload_n 0, 1) := by decide +kernel
theorem dX7_takesOut_56 : decode cX7_takesOut 56 = .ok (.getfield 19, 3) := by decide +kernel
theorem dX7_takesOut_59 : decode cX7_takesOut 59 = .ok (.iload_n 2, 1) := by decide +kernel
theorem dX7_takesOut_60 : decode cX7_takesOut 60 = .ok (.iconst 0, 1) := by decide +kernel
theorem dX7_takesOut_61 : decode cX7_takesOut 61 = .ok (.iastore, 1) := by decide +kernel
theorem dX7_takesOut_62 : decode cX7_takesOut 62 = .ok (.aload_n 0, 1) := by decide +kernel
theorem dX7_takesOut_63 : decode cX7_takesOut 63 = .ok (.getfield 16, 3) := by decide +kernel
theorem dX7_takesOut_66 : decode cX7_takesOut 66 = .ok (.iload_n 2, 1) := by decide +kernel
theorem dX7_takesOut_67 : decode cX7_takesOut 67 = .ok (.sipush 400, 3) := by decide +kernel
theorem dX7_takesOut_70 : decode cX7_takesOut 70 = .ok (.iastore, 1) := by decide +kernel
theorem dX7_takesOut_71 : decode cX7_takesOut 71 = .ok (.iconst 1, 1) := by decide +kernel
theorem dX7_takesOut_72 : decode cX7_takesOut 72 = .ok (.istore_n 1, 1) := by decide +kernel
theorem dX7_takesOut_73 : decode cX7_takesOut 73 = .ok (.iinc 2 1, 3) := by decide +kernel
theorem dX7_takesOut_76 : decode cX7_takesOut 76 = .ok (.goto (-72), 3) := by decide +kernel
theorem dX7_takesOut_79 : decode cX7_takesOut 79 = .ok (.iload_n 1, 1) := by decide +kernel
theorem dX7_takesOut_80 : decode cX7_takesOut 80 = .ok (.ireturn, 1) := by decide +kernel
set_option maxRecDepth 20000 in
theorem ggX7_letsIn_X7_isGoodOne : GoodIn wsX7_letsIn wsX7_isGoodOne := goodIn_r _ [6, 7, 8, 9, 10, 11, 12, 13, 14, 15, 16, 17, 18, 19, 20, 21, 22, 23, 24, 25, 26, 27, 28, 29, 30, 31] (by decide +kernel) (by decide +kernel)
set_option maxRecDepth 20000 in
theorem gX7_letsIn_X7_isGoodOne : GoodIn wsX7_letsIn (wsV RX7 112 RX7 yX7_isGoodOne wsX7_isGoodOne) := goodIn_app (goodIn_of _ (by decide +kernel)) ggX7_letsIn_X7_isGoodOne
theorem dX7_letsIn_0 : decode cX7_letsIn 0 = .ok (.iconst (-1), 1) := by decide +kernel
theorem dX7_letsIn_1 : decode cX7_letsIn 1 = .ok (.istore_n 1, 1) := by decide +kernel
theorem dX7_letsIn_2 : decode cX7_letsIn 2 = .ok (.bipush 25, 2) := by decide +kernel
theorem dX7_letsIn_4 : decode cX7_letsIn 4 = .ok (.istore_n 2, 1) := by decide +kernel
theorem dX7_letsIn_5 : decode cX7_letsIn 5 = .ok (.iload_n 2, 1) := by decide +kernel
theorem dX7_letsIn_6 : decode cX7_letsIn 6 = .ok (.ifCond .lt 43, 3) := by decide +kernel
theorem dX7_letsIn_9 : decode cX7_letsIn 9 = .ok (.aload_n 0, 1) := by decide +kernel
theorem dX7_letsIn_10 : decode cX7_letsIn 10 = .ok (.getfield 22, 3) := by decide +kernel
theorem dX7_letsIn_13 : decode cX7_letsIn 13 = .ok (.iload_n 2, 1) := by decide +kernel
theorem dX7_letsIn_14 : decode cX7_letsIn 14 = .ok (.baload, 1) := by decide +kernel
theorem dX7_letsIn_15 : decode cX7_letsIn 15 = .ok (.ifCond .eq 13, 3) := by decide +kernel
theorem dX7_letsIn_18 : decode cX7_letsIn 18 = .ok (.aload_n 0, 1) := by decide +kernel
theorem dX7_letsIn_19 : decode cX7_letsIn 19 = .ok (.iload_n 2, 1) := by decide +kernel
theorem dX7_letsIn_20 : decode cX7_letsIn 20 = .ok (.invokevirtual 112, 3) := by decide +kernel
theorem dX7_letsIn_23 : decode cX7_letsIn 23 = .ok (.ifCond .ne 5, 3) := by decide +kernel
theorem dX7_letsIn_26 : decode cX7_letsIn 26 = .ok (.iconst (-1), 1) := by decide +kernel
theorem dX7_letsIn_27 : decode cX7_letsIn 27 = .ok (.ireturn, 1) := by decide +kernel
theorem dX7_letsIn_28 : decode cX7_letsIn 28 = .ok (.aload_n 0, 1) := by decide +kernel
theorem dX7_letsIn_29 : decode cX7_letsIn 29 = .ok (.getfield 22, 3) := by decide +kernel
theorem dX7_letsIn_32 : decode cX7_letsIn 32 = .ok (.iload_n 2, 1) := by decide +kernel
theorem dX7_letsIn_33 : decode cX7_letsIn 33 = .ok (.baload, 1) := by decide +kernel
theorem dX7_letsIn_34 : decode cX7_letsIn 34 = .ok (.ifCond .eq 7, 3) := by decide +kernel
theorem dX7_letsIn_37 : decode cX7_letsIn 37 = .ok (.iload_n 1, 1) := by decide +kernel
theorem dX7_letsIn_38 : decode cX7_letsIn 38 = .ok (.goto 4, 3) := by decide +kernel
theorem dX7_letsIn_41 : decode cX7_letsIn 41 = .ok (.iload_n 2, 1) := by decide +kernel
theorem dX7_letsIn_42 : decode cX7_letsIn 42 = .ok (.istore_n 1, 1) := by decide +kernel
theorem dX7_letsIn_43 : decode cX7_letsIn 43 = .ok (.iinc 2 (-1), 3) := by decide +kernel
theorem dX7_letsIn_46 : decode cX7_letsIn 46 = .ok (.goto (-41), 3) := by decide +kernel
theorem dX7_letsIn_49 : decode cX7_letsIn 49 = .ok (.iload_n 1, 1) := by decide +kernel
theorem dX7_letsIn_50 : decode cX7_letsIn 50 = .ok (.iconst (-1), 1) := by decide +kernel
theorem dX7_letsIn_51 : decode cX7_letsIn 51 = .ok (.if_icmp .eq 10, 3) := by decide +kernel
theorem dX7_letsIn_54 : decode cX7_letsIn 54 = .ok (.aload_n 0, 1) := by decide +kernel
theorem dX7_letsIn_55 : decode cX7_letsIn 55 = .ok (.getfield 22, 3) := by decide +kernel
theorem dX7_letsIn_58 : decode cX7_letsIn 58 = .ok (.iload_n 1, 1) := by decide +kernel
theorem dX7_letsIn_59 : decode cX7_letsIn 59 = .ok (.iconst 1, 1) := by decide +kernel
theorem dX7_letsIn_60 : decode cX7_letsIn 60 = .ok (.bastore, 1) := by decide +kernel
theorem dX7_letsIn_61 : decode cX7_letsIn 61 = .ok (.iload_n 1, 1) := by decide +kernel
theorem dX7_letsIn_62 : decode cX7_letsIn 62 = .ok (.ireturn, 1) := by decide +kernel
set_option maxRecDepth 20000 in
theorem ggX7_end_X7_holds : GoodIn wsX7_end wsX7_holds := goodIn_r _ [11, 12, 38, 39, 40, 41, 42, 43, 44, 45, 46, 47, 48, 49, 50, 51, 52, 53, 54, 55, 56, 57] (by decide +kernel) (by decide +kernel)
set_option maxRecDepth 20000 in
theorem gX7_end_X7_holds : GoodIn wsX7_end (wsV RX7 62 RX7 yX7_holds wsX7_holds) := goodIn_app (goodIn_of _ (by decide +kernel)) ggX7_end_X7_holds
set_option maxRecDepth 20000 in
theorem ggX7_end_X7_takesOut : GoodIn wsX7_end wsX7_takesOut := goodIn_r _ [16, 17, 18, 19, 20, 38, 39, 40, 41, 42, 43, 44, 45, 46, 47, 48, 49, 50, 51, 52, 53, 54, 55, 56, 57] (by decide +kernel) (by decide +kernel)
set_option maxRecDepth 20000 in
theorem gX7_end_X7_takesOut : GoodIn wsX7_end (wsV RX7 118 RX7 yX7_takesOut wsX7_takesOut) := goodIn_app (goodIn_of _ (by decide +kernel)) ggX7_end_X7_takesOut
set_option maxRecDepth 20000 in
theorem ggX7_end_X7_letsIn : GoodIn wsX7_end wsX7_letsIn := goodIn_r _ [24, 17, 25, 26, 27, 10, 28, 18, 20, 29, 19, 30, 38, 39, 40, 41, 42, 43, 44, 45, 46, 47, 48, 49, 50, 51, 52, 53, 54, 55, 56, 57] (by decide +kernel) (by decide +kernel)
set_option maxRecDepth 20000 in
theorem gX7_end_X7_letsIn : GoodIn wsX7_end (wsV RX7 122 RX7 yX7_letsIn wsX7_letsIn) := goodIn_app (goodIn_of _ (by decide +kernel)) ggX7_end_X7_letsIn
set_option maxRecDepth 20000 in
theorem ggX7_end_X7_speedNow : GoodIn wsX7_end wsX7_speedNow := goodIn_r _ [34, 4, 35, 36, 5, 37, 38, 39, 40, 41, 42, 43, 44, 45, 46, 47, 48, 49, 50, 51, 52, 53, 54, 55, 56, 57] (by decide +kernel) (by decide +kernel)
set_option maxRecDepth 20000 in
theorem gX7_end_X7_speedNow : GoodIn wsX7_end (wsV RX7 109 RX7 yX7_speedNow wsX7_speedNow) := goodIn_app (goodIn_of _ (by decide +kernel)) ggX7_end_X7_speedNow
theorem dX7_end_0 : decode cX7_end 0 = .ok (.aload_n 0, 1) := by decide +kernel
theorem dX7_end_1 : decode cX7_end 1 = .ok (.aload_n 0, 1) := by decide +kernel
theorem dX7_end_2 : decode cX7_end 2 = .ok (.getfield 115, 3) := by decide +kernel
theorem dX7_end_5 : decode cX7_end 5 = .ok (.bipush 100, 2) := by decide +kernel
theorem dX7_end_7 : decode cX7_end 7 = .ok (.if_icmp .ne 7, 3) := by decide +kernel
theorem dX7_end_10 : decode cX7_end 10 = .ok (.iconst 1, 1) := by decide +kernel
theorem dX7_end_11 : decode cX7_end 11 = .ok (.goto 4, 3) := by decide +kernel
theorem dX7_end_14 : decode cX7_end 14 = .ok (.iconst 0, 1) := by decide +kernel
theorem dX7_end_15 : decode cX7_end 15 = .ok (.invokevirtual 62, 3) := by decide +kernel
theorem dX7_end_18 : decode cX7_end 18 = .ok (.ifCond .ne 5, 3) := by decide +kernel
theorem dX7_end_21 : decode cX7_end 21 = .ok (.iconst 0, 1) := by decide +kernel
theorem dX7_end_22 : decode cX7_end 22 = .ok (.ireturn, 1) := by decide +kernel
theorem dX7_end_23 : decode cX7_end 23 = .ok (.aload_n 0, 1) := by decide +kernel
theorem dX7_end_24 : decode cX7_end 24 = .ok (.invokevirtual 118, 3) := by decide +kernel
theorem dX7_end_27 : decode cX7_end 27 = .ok (.ifCond .eq 7, 3) := by decide +kernel
theorem dX7_end_30 : decode cX7_end 30 = .ok (.iconst (-1), 1) := by decide +kernel
theorem dX7_end_31 : decode cX7_end 31 = .ok (.goto 7, 3) := by decide +kernel
theorem dX7_end_34 : decode cX7_end 34 = .ok (.aload_n 0, 1) := by decide +kernel
theorem dX7_end_35 : decode cX7_end 35 = .ok (.invokevirtual 122, 3) := by decide +kernel
theorem dX7_end_38 : decode cX7_end 38 = .ok (.istore_n 1, 1) := by decide +kernel
theorem dX7_end_39 : decode cX7_end 39 = .ok (.aload_n 0, 1) := by decide +kernel
theorem dX7_end_40 : decode cX7_end 40 = .ok (.getfield 48, 3) := by decide +kernel
theorem dX7_end_43 : decode cX7_end 43 = .ok (.aload_n 0, 1) := by decide +kernel
theorem dX7_end_44 : decode cX7_end 44 = .ok (.getfield 115, 3) := by decide +kernel
theorem dX7_end_47 : decode cX7_end 47 = .ok (.aload_n 0, 1) := by decide +kernel
theorem dX7_end_48 : decode cX7_end 48 = .ok (.invokevirtual 109, 3) := by decide +kernel
theorem dX7_end_51 : decode cX7_end 51 = .ok (.iastore, 1) := by decide +kernel
theorem dX7_end_52 : decode cX7_end 52 = .ok (.aload_n 0, 1) := by decide +kernel
theorem dX7_end_53 : decode cX7_end 53 = .ok (.dup, 1) := by decide +kernel
theorem dX7_end_54 : decode cX7_end 54 = .ok (.getfield 115, 3) := by decide +kernel
theorem dX7_end_57 : decode cX7_end 57 = .ok (.iconst 1, 1) := by decide +kernel
theorem dX7_end_58 : decode cX7_end 58 = .ok (.iadd, 1) := by decide +kernel
theorem dX7_end_59 : decode cX7_end 59 = .ok (.putfield 115, 3) := by decide +kernel
theorem dX7_end_62 : decode cX7_end 62 = .ok (.aload_n 0, 1) := by decide +kernel
theorem dX7_end_63 : decode cX7_end 63 = .ok (.iconst 0, 1) := by decide +kernel
theorem dX7_end_64 : decode cX7_end 64 = .ok (.putfield 79, 3) := by decide +kernel
theorem dX7_end_67 : decode cX7_end 67 = .ok (.aload_n 0, 1) := by decide +kernel
theorem dX7_end_68 : decode cX7_end 68 = .ok (.iconst 0, 1) := by decide +kernel
theorem dX7_end_69 : decode cX7_end 69 = .ok (.putfield 93, 3) := by decide +kernel
theorem dX7_end_72 : decode cX7_end 72 = .ok (.aload_n 0, 1) := by decide +kernel
theorem dX7_end_73 : decode cX7_end 73 = .ok (.iconst 0, 1) := by decide +kernel
theorem dX7_end_74 : decode cX7_end 74 = .ok (.putfield 99, 3) := by decide +kernel
theorem dX7_end_77 : decode cX7_end 77 = .ok (.aload_n 0, 1) := by decide +kernel
theorem dX7_end_78 : decode cX7_end 78 = .ok (.iconst 0, 1) := by decide +kernel
theorem dX7_end_79 : decode cX7_end 79 = .ok (.putfield 105, 3) := by decide +kernel
theorem dX7_end_82 : decode cX7_end 82 = .ok (.iload_n 1, 1) := by decide +kernel
theorem dX7_end_83 : decode cX7_end 83 = .ok (.ireturn, 1) := by decide +kernel
set_option maxRecDepth 20000 in
theorem ggX7_count_X7_isLetter : GoodIn wsX7_count wsX7_isLetter := goodIn_r _ [5, 6, 7, 4, 8] (by decide +kernel) (by decide +kernel)
set_option maxRecDepth 20000 in
theorem gX7_count_X7_isLetter : GoodIn wsX7_count (va_wsS RX7 58 yX7_isLetter wsX7_isLetter) := goodIn_app (goodIn_of _ (by decide +kernel)) ggX7_count_X7_isLetter
set_option maxRecDepth 20000 in
theorem ggX7_count_X7_holds : GoodIn wsX7_count wsX7_holds := goodIn_r _ [12, 13, 14, 15, 16, 17, 18, 19, 20, 21, 22, 23, 24, 25, 26, 27, 28, 29, 30, 31, 32, 33] (by decide +kernel) (by decide +kernel)
set_option maxRecDepth 20000 in
theorem gX7_count_X7_holds : GoodIn wsX7_count (wsV RX7 62 RX7 yX7_holds wsX7_holds) := goodIn_app (goodIn_of _ (by decide +kernel)) ggX7_count_X7_holds
theorem dX7_count_0 : decode cX7_count 0 = .ok (.aload_n 0, 1) := by decide +kernel
theorem dX7_count_1 : decode cX7_count 1 = .ok (.iload_n 1, 1) := by decide +kernel
theorem dX7_count_2 : decode cX7_count 2 = .ok (.invokestatic 58, 3) := by decide +kernel
theorem dX7_count_5 : decode cX7_count 5 = .ok (.ifCond .eq 7, 3) := by decide +kernel
theorem dX7_count_8 : decode cX7_count 8 = .ok (.iconst 0, 1) := by decide +kernel
theorem dX7_count_9 : decode cX7_count 9 = .ok (.goto 4, 3) := by decide +kernel
theorem dX7_count_12 : decode cX7_count 12 = .ok (.iconst 1, 1) := by decide +kernel
theorem dX7_count_13 : decode cX7_count 13 = .ok (.invokevirtual 62, 3) := by decide +kernel
theorem dX7_count_16 : decode cX7_count 16 = .ok (.ifCond .eq 12, 3) := by decide +kernel
theorem dX7_count_19 : decode cX7_count 19 = .ok (.aload_n 0, 1) := by decide +kernel
theorem dX7_count_20 : decode cX7_count 20 = .ok (.getfield 13, 3) := by decide +kernel
theorem dX7_count_23 : decode cX7_count 23 = .ok (.iload_n 1, 1) := by decide +kernel
theorem dX7_count_24 : decode cX7_count 24 = .ok (.iaload, 1) := by decide +kernel
theorem dX7_count_25 : decode cX7_count 25 = .ok (.goto 4, 3) := by decide +kernel
theorem dX7_count_28 : decode cX7_count 28 = .ok (.iconst 0, 1) := by decide +kernel
theorem dX7_count_29 : decode cX7_count 29 = .ok (.ireturn, 1) := by decide +kernel
set_option maxRecDepth 20000 in
theorem ggX7_time_X7_isLetter : GoodIn wsX7_time wsX7_isLetter := goodIn_r _ [5, 6, 7, 4, 8] (by decide +kernel) (by decide +kernel)
set_option maxRecDepth 20000 in
theorem gX7_time_X7_isLetter : GoodIn wsX7_time (va_wsS RX7 58 yX7_isLetter wsX7_isLetter) := goodIn_app (goodIn_of _ (by decide +kernel)) ggX7_time_X7_isLetter
set_option maxRecDepth 20000 in
theorem ggX7_time_X7_holds : GoodIn wsX7_time wsX7_holds := goodIn_r _ [12, 13, 14, 15, 16, 17, 18, 19, 20, 21, 22, 23, 24, 25, 26, 27, 28, 29, 30, 31, 32, 33] (by decide +kernel) (by decide +kernel)
set_option maxRecDepth 20000 in
theorem gX7_time_X7_holds : GoodIn wsX7_time (wsV RX7 62 RX7 yX7_holds wsX7_holds) := goodIn_app (goodIn_of _ (by decide +kernel)) ggX7_time_X7_holds
theorem dX7_time_0 : decode cX7_time 0 = .ok (.aload_n 0, 1) := by decide +kernel
theorem dX7_time_1 : decode cX7_time 1 = .ok (.iload_n 1, 1) := by decide +kernel
theorem dX7_time_2 : decode cX7_time 2 = .ok (.invokestatic 58, 3) := by decide +kernel
theorem dX7_time_5 : decode cX7_time 5 = .ok (.ifCond .eq 7, 3) := by decide +kernel
theorem dX7_time_8 : decode cX7_time 8 = .ok (.iconst 0, 1) := by decide +kernel
theorem dX7_time_9 : decode cX7_time 9 = .ok (.goto 4, 3) := by decide +kernel
theorem dX7_time_12 : decode cX7_time 12 = .ok (.iconst 1, 1) := by decide +kernel
theorem dX7_time_13 : decode cX7_time 13 = .ok (.invokevirtual 62, 3) := by decide +kernel
theorem dX7_time_16 : decode cX7_time 16 = .ok (.ifCond .eq 12, 3) := by decide +kernel
theorem dX7_time_19 : decode cX7_time 19 = .ok (.aload_n 0, 1) := by decide +kernel
theorem dX7_time_20 : decode cX7_time 20 = .ok (.getfield 16, 3) := by decide +kernel
theorem dX7_time_23 : decode cX7_time 23 = .ok (.iload_n 1, 1) := by decide +kernel
theorem dX7_time_24 : decode cX7_time 24 = .ok (.iaload, 1) := by decide +kernel
theorem dX7_time_25 : decode cX7_time 25 = .ok (.goto 4, 3) := by decide +kernel
theorem dX7_time_28 : decode cX7_time 28 = .ok (.iconst 0, 1) := by decide +kernel
theorem dX7_time_29 : decode cX7_time 29 = .ok (.ireturn, 1) := by decide +kernel
set_option maxRecDepth 20000 in
theorem ggX7_share_X7_isLetter : GoodIn wsX7_share wsX7_isLetter := goodIn_r _ [5, 6, 7, 4, 8] (by decide +kernel) (by decide +kernel)
set_option maxRecDepth 20000 in
theorem gX7_share_X7_isLetter : GoodIn wsX7_share (va_wsS RX7 58 yX7_isLetter wsX7_isLetter) := goodIn_app (goodIn_of _ (by decide +kernel)) ggX7_share_X7_isLetter
set_option maxRecDepth 20000 in
theorem ggX7_share_X7_holds : GoodIn wsX7_share wsX7_holds := goodIn_r _ [12, 13, 14, 15, 16, 17, 18, 19, 20, 21, 22, 23, 24, 25, 26, 27, 28, 29, 30, 31, 32, 33] (by decide +kernel) (by decide +kernel)
set_option maxRecDepth 20000 in
theorem gX7_share_X7_holds : GoodIn wsX7_share (wsV RX7 62 RX7 yX7_holds wsX7_holds) := goodIn_app (goodIn_of _ (by decide +kernel)) ggX7_share_X7_holds
theorem dX7_share_0 : decode cX7_share 0 = .ok (.aload_n 0, 1) := by decide +kernel
theorem dX7_share_1 : decode cX7_share 1 = .ok (.iload_n 1, 1) := by decide +kernel
theorem dX7_share_2 : decode cX7_share 2 = .ok (.invokestatic 58, 3) := by decide +kernel
theorem dX7_share_5 : decode cX7_share 5 = .ok (.ifCond .eq 7, 3) := by decide +kernel
theorem dX7_share_8 : decode cX7_share 8 = .ok (.iconst 0, 1) := by decide +kernel
theorem dX7_share_9 : decode cX7_share 9 = .ok (.goto 4, 3) := by decide +kernel
theorem dX7_share_12 : decode cX7_share 12 = .ok (.iconst 1, 1) := by decide +kernel
theorem dX7_share_13 : decode cX7_share 13 = .ok (.invokevirtual 62, 3) := by decide +kernel
theorem dX7_share_16 : decode cX7_share 16 = .ok (.ifCond .eq 12, 3) := by decide +kernel
theorem dX7_share_19 : decode cX7_share 19 = .ok (.aload_n 0, 1) := by decide +kernel
theorem dX7_share_20 : decode cX7_share 20 = .ok (.getfield 19, 3) := by decide +kernel
theorem dX7_share_23 : decode cX7_share 23 = .ok (.iload_n 1, 1) := by decide +kernel
theorem dX7_share_24 : decode cX7_share 24 = .ok (.iaload, 1) := by decide +kernel
theorem dX7_share_25 : decode cX7_share 25 = .ok (.goto 4, 3) := by decide +kernel
theorem dX7_share_28 : decode cX7_share 28 = .ok (.iconst 0, 1) := by decide +kernel
theorem dX7_share_29 : decode cX7_share 29 = .ok (.ireturn, 1) := by decide +kernel
set_option maxRecDepth 20000 in
theorem ggX7_pairTime_X7_isLetter : GoodIn wsX7_pairTime wsX7_isLetter := goodIn_r _ [5, 6, 7, 4, 8] (by decide +kernel) (by decide +kernel)
set_option maxRecDepth 20000 in
theorem gX7_pairTime_X7_isLetter : GoodIn wsX7_pairTime (va_wsS RX7 58 yX7_isLetter wsX7_isLetter) := goodIn_app (goodIn_of _ (by decide +kernel)) ggX7_pairTime_X7_isLetter
set_option maxRecDepth 20000 in
theorem ggX7_pairTime_X7_holds : GoodIn wsX7_pairTime wsX7_holds := goodIn_r _ [12, 13, 14, 15, 16, 17, 18, 19, 20, 21, 22, 23, 24, 25, 26, 27, 28, 29, 30, 31, 32, 33] (by decide +kernel) (by decide +kernel)
set_option maxRecDepth 20000 in
theorem gX7_pairTime_X7_holds : GoodIn wsX7_pairTime (wsV RX7 62 RX7 yX7_holds wsX7_holds) := goodIn_app (goodIn_of _ (by decide +kernel)) ggX7_pairTime_X7_holds
theorem dX7_pairTime_0 : decode cX7_pairTime 0 = .ok (.aload_n 0, 1) := by decide +kernel
theorem dX7_pairTime_1 : decode cX7_pairTime 1 = .ok (.iload_n 1, 1) := by decide +kernel
theorem dX7_pairTime_2 : decode cX7_pairTime 2 = .ok (.invokestatic 58, 3) := by decide +kernel
theorem dX7_pairTime_5 : decode cX7_pairTime 5 = .ok (.ifCond .eq 14, 3) := by decide +kernel
theorem dX7_pairTime_8 : decode cX7_pairTime 8 = .ok (.iload_n 2, 1) := by decide +kernel
theorem dX7_pairTime_9 : decode cX7_pairTime 9 = .ok (.invokestatic 58, 3) := by decide +kernel
theorem dX7_pairTime_12 : decode cX7_pairTime 12 = .ok (.ifCond .eq 7, 3) := by decide +kernel
theorem dX7_pairTime_15 : decode cX7_pairTime 15 = .ok (.iconst 0, 1) := by decide +kernel
theorem dX7_pairTime_16 : decode cX7_pairTime 16 = .ok (.goto 4, 3) := by decide +kernel
theorem dX7_pairTime_19 : decode cX7_pairTime 19 = .ok (.iconst 1, 1) := by decide +kernel
theorem dX7_pairTime_20 : decode cX7_pairTime 20 = .ok (.invokevirtual 62, 3) := by decide +kernel
theorem dX7_pairTime_23 : decode cX7_pairTime 23 = .ok (.ifCond .eq 17, 3) := by decide +kernel
theorem dX7_pairTime_26 : decode cX7_pairTime 26 = .ok (.aload_n 0, 1) := by decide +kernel
theorem dX7_pairTime_27 : decode cX7_pairTime 27 = .ok (.getfield 26, 3) := by decide +kernel
theorem dX7_pairTime_30 : decode cX7_pairTime 30 = .ok (.bipush 26, 2) := by decide +kernel
theorem dX7_pairTime_32 : decode cX7_pairTime 32 = .ok (.iload_n 1, 1) := by decide +kernel
theorem dX7_pairTime_33 : decode cX7_pairTime 33 = .ok (.imul, 1) := by decide +kernel
theorem dX7_pairTime_34 : decode cX7_pairTime 34 = .ok (.iload_n 2, 1) := by decide +kernel
theorem dX7_pairTime_35 : decode cX7_pairTime 35 = .ok (.iadd, 1) := by decide +kernel
theorem dX7_pairTime_36 : decode cX7_pairTime 36 = .ok (.iaload, 1) := by decide +kernel
theorem dX7_pairTime_37 : decode cX7_pairTime 37 = .ok (.goto 4, 3) := by decide +kernel
theorem dX7_pairTime_40 : decode cX7_pairTime 40 = .ok (.iconst 0, 1) := by decide +kernel
theorem dX7_pairTime_41 : decode cX7_pairTime 41 = .ok (.ireturn, 1) := by decide +kernel
set_option maxRecDepth 20000 in
theorem ggX7_errors_X7_in : GoodIn wsX7_errors wsX7_in := goodIn_r _ [5] (by decide +kernel) (by decide +kernel)
set_option maxRecDepth 20000 in
theorem gX7_errors_X7_in : GoodIn wsX7_errors (va_wsS RX7 54 yX7_in wsX7_in) := goodIn_app (goodIn_of _ (by decide +kernel)) ggX7_errors_X7_in
set_option maxRecDepth 20000 in
theorem ggX7_errors_X7_holds : GoodIn wsX7_errors wsX7_holds := goodIn_r _ [9, 10, 11, 12, 13, 14, 15, 16, 17, 18, 19, 20, 21, 22, 23, 24, 25, 26, 27, 28, 29, 30] (by decide +kernel) (by decide +kernel)
set_option maxRecDepth 20000 in
theorem gX7_errors_X7_holds : GoodIn wsX7_errors (wsV RX7 62 RX7 yX7_holds wsX7_holds) := goodIn_app (goodIn_of _ (by decide +kernel)) ggX7_errors_X7_holds
theorem dX7_errors_0 : decode cX7_errors 0 = .ok (.aload_n 0, 1) := by decide +kernel
theorem dX7_errors_1 : decode cX7_errors 1 = .ok (.iload_n 1, 1) := by decide +kernel
theorem dX7_errors_2 : decode cX7_errors 2 = .ok (.iconst 0, 1) := by decide +kernel
theorem dX7_errors_3 : decode cX7_errors 3 = .ok (.iconst 4, 1) := by decide +kernel
theorem dX7_errors_4 : decode cX7_errors 4 = .ok (.invokestatic 54, 3) := by decide +kernel
theorem dX7_errors_7 : decode cX7_errors 7 = .ok (.ifCond .eq 7, 3) := by decide +kernel
theorem dX7_errors_10 : decode cX7_errors 10 = .ok (.iconst 0, 1) := by decide +kernel
theorem dX7_errors_11 : decode cX7_errors 11 = .ok (.goto 4, 3) := by decide +kernel
theorem dX7_errors_14 : decode cX7_errors 14 = .ok (.iconst 1, 1) := by decide +kernel
theorem dX7_errors_15 : decode cX7_errors 15 = .ok (.invokevirtual 62, 3) := by decide +kernel
theorem dX7_errors_18 : decode cX7_errors 18 = .ok (.ifCond .eq 12, 3) := by decide +kernel
theorem dX7_errors_21 : decode cX7_errors 21 = .ok (.aload_n 0, 1) := by decide +kernel
theorem dX7_errors_22 : decode cX7_errors 22 = .ok (.getfield 35, 3) := by decide +kernel
theorem dX7_errors_25 : decode cX7_errors 25 = .ok (.iload_n 1, 1) := by decide +kernel
theorem dX7_errors_26 : decode cX7_errors 26 = .ok (.iaload, 1) := by decide +kernel
theorem dX7_errors_27 : decode cX7_errors 27 = .ok (.goto 4, 3) := by decide +kernel
theorem dX7_errors_30 : decode cX7_errors 30 = .ok (.iconst 0, 1) := by decide +kernel
theorem dX7_errors_31 : decode cX7_errors 31 = .ok (.ireturn, 1) := by decide +kernel
set_option maxRecDepth 20000 in
theorem ggX7_errorsOf_X7_in : GoodIn wsX7_errorsOf wsX7_in := goodIn_r _ [5] (by decide +kernel) (by decide +kernel)
set_option maxRecDepth 20000 in
theorem gX7_errorsOf_X7_in : GoodIn wsX7_errorsOf (va_wsS RX7 54 yX7_in wsX7_in) := goodIn_app (goodIn_of _ (by decide +kernel)) ggX7_errorsOf_X7_in
set_option maxRecDepth 20000 in
theorem ggX7_errorsOf_X7_holds : GoodIn wsX7_errorsOf wsX7_holds := goodIn_r _ [9, 10, 11, 12, 13, 14, 15, 16, 17, 18, 19, 20, 21, 22, 23, 24, 25, 26, 27, 28, 29, 30] (by decide +kernel) (by decide +kernel)
set_option maxRecDepth 20000 in
theorem gX7_errorsOf_X7_holds : GoodIn wsX7_errorsOf (wsV RX7 62 RX7 yX7_holds wsX7_holds) := goodIn_app (goodIn_of _ (by decide +kernel)) ggX7_errorsOf_X7_holds
theorem dX7_errorsOf_0 : decode cX7_errorsOf 0 = .ok (.aload_n 0, 1) := by decide +kernel
theorem dX7_errorsOf_1 : decode cX7_errorsOf 1 = .ok (.iload_n 1, 1) := by decide +kernel
theorem dX7_errorsOf_2 : decode cX7_errorsOf 2 = .ok (.iconst 0, 1) := by decide +kernel
theorem dX7_errorsOf_3 : decode cX7_errorsOf 3 = .ok (.bipush 7, 2) := by decide +kernel
theorem dX7_errorsOf_5 : decode cX7_errorsOf 5 = .ok (.invokestatic 54, 3) := by decide +kernel
theorem dX7_errorsOf_8 : decode cX7_errorsOf 8 = .ok (.ifCond .eq 7, 3) := by decide +kernel
theorem dX7_errorsOf_11 : decode cX7_errorsOf 11 = .ok (.iconst 0, 1) := by decide +kernel
theorem dX7_errorsOf_12 : decode cX7_errorsOf 12 = .ok (.goto 4, 3) := by decide +kernel
theorem dX7_errorsOf_15 : decode cX7_errorsOf 15 = .ok (.iconst 1, 1) := by decide +kernel
theorem dX7_errorsOf_16 : decode cX7_errorsOf 16 = .ok (.invokevirtual 62, 3) := by decide +kernel
theorem dX7_errorsOf_19 : decode cX7_errorsOf 19 = .ok (.ifCond .eq 12, 3) := by decide +kernel
theorem dX7_errorsOf_22 : decode cX7_errorsOf 22 = .ok (.aload_n 0, 1) := by decide +kernel
theorem dX7_errorsOf_23 : decode cX7_errorsOf 23 = .ok (.getfield 38, 3) := by decide +kernel
theorem dX7_errorsOf_26 : decode cX7_errorsOf 26 = .ok (.iload_n 1, 1) := by decide +kernel
theorem dX7_errorsOf_27 : decode cX7_errorsOf 27 = .ok (.iaload, 1) := by decide +kernel
theorem dX7_errorsOf_28 : decode cX7_errorsOf 28 = .ok (.goto 4, 3) := by decide +kernel
theorem dX7_errorsOf_31 : decode cX7_errorsOf 31 = .ok (.iconst 0, 1) := by decide +kernel
theorem dX7_errorsOf_32 : decode cX7_errorsOf 32 = .ok (.ireturn, 1) := by decide +kernel
set_option maxRecDepth 20000 in
theorem ggX7_wish_X7_in : GoodIn wsX7_wish wsX7_in := goodIn_r _ [6] (by decide +kernel) (by decide +kernel)
set_option maxRecDepth 20000 in
theorem gX7_wish_X7_in : GoodIn wsX7_wish (va_wsS RX7 54 yX7_in wsX7_in) := goodIn_app (goodIn_of _ (by decide +kernel)) ggX7_wish_X7_in
set_option maxRecDepth 20000 in
theorem ggX7_wish_X7_holds : GoodIn wsX7_wish wsX7_holds := goodIn_r _ [10, 11, 12, 13, 14, 15, 16, 17, 18, 19, 20, 21, 22, 23, 24, 25, 26, 27, 28, 29, 30, 31] (by decide +kernel) (by decide +kernel)
set_option maxRecDepth 20000 in
theorem gX7_wish_X7_holds : GoodIn wsX7_wish (wsV RX7 62 RX7 yX7_holds wsX7_holds) := goodIn_app (goodIn_of _ (by decide +kernel)) ggX7_wish_X7_holds
theorem dX7_wish_0 : decode cX7_wish 0 = .ok (.aload_n 0, 1) := by decide +kernel
theorem dX7_wish_1 : decode cX7_wish 1 = .ok (.iload_n 1, 1) := by decide +kernel
theorem dX7_wish_2 : decode cX7_wish 2 = .ok (.iconst 1, 1) := by decide +kernel
theorem dX7_wish_3 : decode cX7_wish 3 = .ok (.sipush 5000, 3) := by decide +kernel
theorem dX7_wish_6 : decode cX7_wish 6 = .ok (.invokestatic 54, 3) := by decide +kernel
theorem dX7_wish_9 : decode cX7_wish 9 = .ok (.ifCond .eq 18, 3) := by decide +kernel
theorem dX7_wish_12 : decode cX7_wish 12 = .ok (.iload_n 2, 1) := by decide +kernel
theorem dX7_wish_13 : decode cX7_wish 13 = .ok (.iconst 0, 1) := by decide +kernel
theorem dX7_wish_14 : decode cX7_wish 14 = .ok (.sipush 10000, 3) := by decide +kernel
theorem dX7_wish_17 : decode cX7_wish 17 = .ok (.invokestatic 54, 3) := by decide +kernel
theorem dX7_wish_20 : decode cX7_wish 20 = .ok (.ifCond .eq 7, 3) := by decide +kernel
theorem dX7_wish_23 : decode cX7_wish 23 = .ok (.iconst 0, 1) := by decide +kernel
theorem dX7_wish_24 : decode cX7_wish 24 = .ok (.goto 4, 3) := by decide +kernel
theorem dX7_wish_27 : decode cX7_wish 27 = .ok (.iconst 1, 1) := by decide +kernel
theorem dX7_wish_28 : decode cX7_wish 28 = .ok (.invokevirtual 62, 3) := by decide +kernel
theorem dX7_wish_31 : decode cX7_wish 31 = .ok (.ifCond .eq 13, 3) := by decide +kernel
theorem dX7_wish_34 : decode cX7_wish 34 = .ok (.aload_n 0, 1) := by decide +kernel
theorem dX7_wish_35 : decode cX7_wish 35 = .ok (.iload_n 1, 1) := by decide +kernel
theorem dX7_wish_36 : decode cX7_wish 36 = .ok (.putfield 41, 3) := by decide +kernel
theorem dX7_wish_39 : decode cX7_wish 39 = .ok (.aload_n 0, 1) := by decide +kernel
theorem dX7_wish_40 : decode cX7_wish 40 = .ok (.iload_n 2, 1) := by decide +kernel
theorem dX7_wish_41 : decode cX7_wish 41 = .ok (.putfield 45, 3) := by decide +kernel
theorem dX7_wish_44 : decode cX7_wish 44 = .ok (.return_, 1) := by decide +kernel
set_option maxRecDepth 20000 in
theorem ggX7_isIn_X7_isLetter : GoodIn wsX7_isIn wsX7_isLetter := goodIn_r _ [5, 6, 7, 4, 8] (by decide +kernel) (by decide +kernel)
set_option maxRecDepth 20000 in
theorem gX7_isIn_X7_isLetter : GoodIn wsX7_isIn (va_wsS RX7 58 yX7_isLetter wsX7_isLetter) := goodIn_app (goodIn_of _ (by decide +kernel)) ggX7_isIn_X7_isLetter
set_option maxRecDepth 20000 in
theorem ggX7_isIn_X7_holds : GoodIn wsX7_isIn wsX7_holds := goodIn_r _ [12, 13, 14, 15, 16, 17, 18, 19, 20, 21, 22, 23, 24, 25, 26, 27, 28, 29, 30, 31, 32, 33] (by decide +kernel) (by decide +kernel)
set_option maxRecDepth 20000 in
theorem gX7_isIn_X7_holds : GoodIn wsX7_isIn (wsV RX7 62 RX7 yX7_holds wsX7_holds) := goodIn_app (goodIn_of _ (by decide +kernel)) ggX7_isIn_X7_holds
theorem dX7_isIn_0 : decode cX7_isIn 0 = .ok (.aload_n 0, 1) := by decide +kernel
theorem dX7_isIn_1 : decode cX7_isIn 1 = .ok (.iload_n 1, 1) := by decide +kernel
theorem dX7_isIn_2 : decode cX7_isIn 2 = .ok (.invokestatic 58, 3) := by decide +kernel
theorem dX7_isIn_5 : decode cX7_isIn 5 = .ok (.ifCond .eq 7, 3) := by decide +kernel
theorem dX7_isIn_8 : decode cX7_isIn 8 = .ok (.iconst 0, 1) := by decide +kernel
theorem dX7_isIn_9 : decode cX7_isIn 9 = .ok (.goto 4, 3) := by decide +kernel
theorem dX7_isIn_12 : decode cX7_isIn 12 = .ok (.iconst 1, 1) := by decide +kernel
theorem dX7_isIn_13 : decode cX7_isIn 13 = .ok (.invokevirtual 62, 3) := by decide +kernel
theorem dX7_isIn_16 : decode cX7_isIn 16 = .ok (.ifCond .eq 16, 3) := by decide +kernel
theorem dX7_isIn_19 : decode cX7_isIn 19 = .ok (.aload_n 0, 1) := by decide +kernel
theorem dX7_isIn_20 : decode cX7_isIn 20 = .ok (.getfield 22, 3) := by decide +kernel
theorem dX7_isIn_23 : decode cX7_isIn 23 = .ok (.iload_n 1, 1) := by decide +kernel
theorem dX7_isIn_24 : decode cX7_isIn 24 = .ok (.baload, 1) := by decide +kernel
theorem dX7_isIn_25 : decode cX7_isIn 25 = .ok (.ifCond .eq 7, 3) := by decide +kernel
theorem dX7_isIn_28 : decode cX7_isIn 28 = .ok (.iconst 1, 1) := by decide +kernel
theorem dX7_isIn_29 : decode cX7_isIn 29 = .ok (.goto 4, 3) := by decide +kernel
theorem dX7_isIn_32 : decode cX7_isIn 32 = .ok (.iconst 0, 1) := by decide +kernel
theorem dX7_isIn_33 : decode cX7_isIn 33 = .ok (.ireturn, 1) := by decide +kernel
set_option maxRecDepth 20000 in
theorem ggX7_isGood_X7_isLetter : GoodIn wsX7_isGood wsX7_isLetter := goodIn_r _ [4, 5, 6, 3, 7] (by decide +kernel) (by decide +kernel)
set_option maxRecDepth 20000 in
theorem gX7_isGood_X7_isLetter : GoodIn wsX7_isGood (va_wsS RX7 58 yX7_isLetter wsX7_isLetter) := goodIn_app (goodIn_of _ (by decide +kernel)) ggX7_isGood_X7_isLetter
set_option maxRecDepth 20000 in
theorem ggX7_isGood_X7_holds : GoodIn wsX7_isGood wsX7_holds := goodIn_r _ [11, 12, 22, 23, 24, 25, 26, 27, 28, 29, 30, 31, 32, 33, 34, 35, 36, 37, 38, 39, 40, 41] (by decide +kernel) (by decide +kernel)
set_option maxRecDepth 20000 in
theorem gX7_isGood_X7_holds : GoodIn wsX7_isGood (wsV RX7 62 RX7 yX7_holds wsX7_holds) := goodIn_app (goodIn_of _ (by decide +kernel)) ggX7_isGood_X7_holds
set_option maxRecDepth 20000 in
theorem ggX7_isGood_X7_isGoodOne : GoodIn wsX7_isGood wsX7_isGoodOne := goodIn_r _ [16, 17, 18, 19, 20, 21, 22, 23, 24, 25, 26, 27, 28, 29, 30, 31, 32, 33, 34, 35, 36, 37, 38, 39, 40, 41] (by decide +kernel) (by decide +kernel)
set_option maxRecDepth 20000 in
theorem gX7_isGood_X7_isGoodOne : GoodIn wsX7_isGood (wsV RX7 112 RX7 yX7_isGoodOne wsX7_isGoodOne) := goodIn_app (goodIn_of _ (by decide +kernel)) ggX7_isGood_X7_isGoodOne
theorem dX7_isGood_0 : decode cX7_isGood 0 = .ok (.aload_n 0, 1) := by decide +kernel
theorem dX7_isGood_1 : decode cX7_isGood 1 = .ok (.iload_n 1, 1) := by decide +kernel
theorem dX7_isGood_2 : decode cX7_isGood 2 = .ok (.invokestatic 58, 3) := by decide +kernel
theorem dX7_isGood_5 : decode cX7_isGood 5 = .ok (.ifCond .eq 7, 3) := by decide +kernel
theorem dX7_isGood_8 : decode cX7_isGood 8 = .ok (.iconst 0, 1) := by decide +kernel
theorem dX7_isGood_9 : decode cX7_isGood 9 = .ok (.goto 4, 3) := by decide +kernel
theorem dX7_isGood_12 : decode cX7_isGood 12 = .ok (.iconst 1, 1) := by decide +kernel
theorem dX7_isGood_13 : decode cX7_isGood 13 = .ok (.invokevirtual 62, 3) := by decide +kernel
theorem dX7_isGood_16 : decode cX7_isGood 16 = .ok (.ifCond .eq 15, 3) := by decide +kernel
theorem dX7_isGood_19 : decode cX7_isGood 19 = .ok (.aload_n 0, 1) := by decide +kernel
theorem dX7_isGood_20 : decode cX7_isGood 20 = .ok (.iload_n 1, 1) := by decide +kernel
theorem dX7_isGood_21 : decode cX7_isGood 21 = .ok (.invokevirtual 112, 3) := by decide +kernel
theorem dX7_isGood_24 : decode cX7_isGood 24 = .ok (.ifCond .eq 7, 3) := by decide +kernel
theorem dX7_isGood_27 : decode cX7_isGood 27 = .ok (.iconst 1, 1) := by decide +kernel
theorem dX7_isGood_28 : decode cX7_isGood 28 = .ok (.goto 4, 3) := by decide +kernel
theorem dX7_isGood_31 : decode cX7_isGood 31 = .ok (.iconst 0, 1) := by decide +kernel
theorem dX7_isGood_32 : decode cX7_isGood 32 = .ok (.ireturn, 1) := by decide +kernel
set_option maxRecDepth 20000 in
theorem ggX7_weakest_X7_weakestOf : GoodIn wsX7_weakest wsX7_weakestOf := goodIn_r _ [6, 7, 8, 9, 10, 11, 12, 13, 14, 15, 16, 17, 18, 19, 20, 21, 22, 23, 24, 25, 26, 27, 28, 29] (by decide +kernel) (by decide +kernel)
set_option maxRecDepth 20000 in
theorem gX7_weakest_X7_weakestOf : GoodIn wsX7_weakest (wsV RX7 86 RX7 yX7_weakestOf wsX7_weakestOf) := goodIn_app (goodIn_of _ (by decide +kernel)) ggX7_weakest_X7_weakestOf
theorem dX7_weakest_0 : decode cX7_weakest 0 = .ok (.aload_n 0, 1) := by decide +kernel
theorem dX7_weakest_1 : decode cX7_weakest 1 = .ok (.iconst 0, 1) := by decide +kernel
theorem dX7_weakest_2 : decode cX7_weakest 2 = .ok (.putfield 51, 3) := by decide +kernel
theorem dX7_weakest_5 : decode cX7_weakest 5 = .ok (.aload_n 0, 1) := by decide +kernel
theorem dX7_weakest_6 : decode cX7_weakest 6 = .ok (.invokevirtual 86, 3) := by decide +kernel
theorem dX7_weakest_9 : decode cX7_weakest 9 = .ok (.ireturn, 1) := by decide +kernel
theorem dX7_lessons_0 : decode cX7_lessons 0 = .ok (.aload_n 0, 1) := by decide +kernel
theorem dX7_lessons_1 : decode cX7_lessons 1 = .ok (.iconst 0, 1) := by decide +kernel
theorem dX7_lessons_2 : decode cX7_lessons 2 = .ok (.putfield 51, 3) := by decide +kernel
theorem dX7_lessons_5 : decode cX7_lessons 5 = .ok (.aload_n 0, 1) := by decide +kernel
theorem dX7_lessons_6 : decode cX7_lessons 6 = .ok (.getfield 115, 3) := by decide +kernel
theorem dX7_lessons_9 : decode cX7_lessons 9 = .ok (.ireturn, 1) := by decide +kernel
set_option maxRecDepth 20000 in
theorem ggX7_speedOf_X7_in : GoodIn wsX7_speedOf wsX7_in := goodIn_r _ [6] (by decide +kernel) (by decide +kernel)
set_option maxRecDepth 20000 in
theorem gX7_speedOf_X7_in : GoodIn wsX7_speedOf (va_wsS RX7 54 yX7_in wsX7_in) := goodIn_app (goodIn_of _ (by decide +kernel)) ggX7_speedOf_X7_in
set_option maxRecDepth 20000 in
theorem ggX7_speedOf_X7_holds : GoodIn wsX7_speedOf wsX7_holds := goodIn_r _ [10, 11, 12, 13, 14, 15, 16, 17, 18, 19, 20, 21, 22, 23, 24, 25, 26, 27, 28, 29, 30, 31] (by decide +kernel) (by decide +kernel)
set_option maxRecDepth 20000 in
theorem gX7_speedOf_X7_holds : GoodIn wsX7_speedOf (wsV RX7 62 RX7 yX7_holds wsX7_holds) := goodIn_app (goodIn_of _ (by decide +kernel)) ggX7_speedOf_X7_holds
theorem dX7_speedOf_0 : decode cX7_speedOf 0 = .ok (.aload_n 0, 1) := by decide +kernel
theorem dX7_speedOf_1 : decode cX7_speedOf 1 = .ok (.iload_n 1, 1) := by decide +kernel
theorem dX7_speedOf_2 : decode cX7_speedOf 2 = .ok (.iconst 0, 1) := by decide +kernel
theorem dX7_speedOf_3 : decode cX7_speedOf 3 = .ok (.aload_n 0, 1) := by decide +kernel
theorem dX7_speedOf_4 : decode cX7_speedOf 4 = .ok (.getfield 115, 3) := by decide +kernel
theorem dX7_speedOf_7 : decode cX7_speedOf 7 = .ok (.iconst 1, 1) := by decide +kernel
theorem dX7_speedOf_8 : decode cX7_speedOf 8 = .ok (.isub, 1) := by decide +kernel
theorem dX7_speedOf_9 : decode cX7_speedOf 9 = .ok (.invokestatic 54, 3) := by decide +kernel
theorem dX7_speedOf_12 : decode cX7_speedOf 12 = .ok (.ifCond .eq 7, 3) := by decide +kernel
theorem dX7_speedOf_15 : decode cX7_speedOf 15 = .ok (.iconst 0, 1) := by decide +kernel
theorem dX7_speedOf_16 : decode cX7_speedOf 16 = .ok (.goto 4, 3) := by decide +kernel
theorem dX7_speedOf_19 : decode cX7_speedOf 19 = .ok (.iconst 1, 1) := by decide +kernel
theorem dX7_speedOf_20 : decode cX7_speedOf 20 = .ok (.invokevirtual 62, 3) := by decide +kernel
theorem dX7_speedOf_23 : decode cX7_speedOf 23 = .ok (.ifCond .eq 12, 3) := by decide +kernel
theorem dX7_speedOf_26 : decode cX7_speedOf 26 = .ok (.aload_n 0, 1) := by decide +kernel
theorem dX7_speedOf_27 : decode cX7_speedOf 27 = .ok (.getfield 48, 3) := by decide +kernel
theorem dX7_speedOf_30 : decode cX7_speedOf 30 = .ok (.iload_n 1, 1) := by decide +kernel
theorem dX7_speedOf_31 : decode cX7_speedOf 31 = .ok (.iaload, 1) := by decide +kernel
theorem dX7_speedOf_32 : decode cX7_speedOf 32 = .ok (.goto 4, 3) := by decide +kernel
theorem dX7_speedOf_35 : decode cX7_speedOf 35 = .ok (.iconst 0, 1) := by decide +kernel
theorem dX7_speedOf_36 : decode cX7_speedOf 36 = .ok (.ireturn, 1) := by decide +kernel
theorem dX7_falls_0 : decode cX7_falls 0 = .ok (.aload_n 0, 1) := by decide +kernel
theorem dX7_falls_1 : decode cX7_falls 1 = .ok (.iconst 0, 1) := by decide +kernel
theorem dX7_falls_2 : decode cX7_falls 2 = .ok (.putfield 51, 3) := by decide +kernel
theorem dX7_falls_5 : decode cX7_falls 5 = .ok (.iconst 0, 1) := by decide +kernel
theorem dX7_falls_6 : decode cX7_falls 6 = .ok (.istore_n 1, 1) := by decide +kernel
theorem dX7_falls_7 : decode cX7_falls 7 = .ok (.iload_n 1, 1) := by decide +kernel
theorem dX7_falls_8 : decode cX7_falls 8 = .ok (.iconst 1, 1) := by decide +kernel
theorem dX7_falls_9 : decode cX7_falls 9 = .ok (.iadd, 1) := by decide +kernel
theorem dX7_falls_10 : decode cX7_falls 10 = .ok (.aload_n 0, 1) := by decide +kernel
theorem dX7_falls_11 : decode cX7_falls 11 = .ok (.getfield 115, 3) := by decide +kernel
theorem dX7_falls_14 : decode cX7_falls 14 = .ok (.if_icmp .ge 38, 3) := by decide +kernel
theorem dX7_falls_17 : decode cX7_falls 17 = .ok (.aload_n 0, 1) := by decide +kernel
theorem dX7_falls_18 : decode cX7_falls 18 = .ok (.getfield 48, 3) := by decide +kernel
theorem dX7_falls_21 : decode cX7_falls 21 = .ok (.aload_n 0, 1) := by decide +kernel
theorem dX7_falls_22 : decode cX7_falls 22 = .ok (.getfield 115, 3) := by decide +kernel
theorem dX7_falls_25 : decode cX7_falls 25 = .ok (.iconst 1, 1) := by decide +kernel
theorem dX7_falls_26 : decode cX7_falls 26 = .ok (.isub, 1) := by decide +kernel
theorem dX7_falls_27 : decode cX7_falls 27 = .ok (.iload_n 1, 1) := by decide +kernel
theorem dX7_falls_28 : decode cX7_falls 28 = .ok (.isub, 1) := by decide +kernel
theorem dX7_falls_29 : decode cX7_falls 29 = .ok (.iaload, 1) := by decide +kernel
theorem dX7_falls_30 : decode cX7_falls 30 = .ok (.aload_n 0, 1) := by decide +kernel
theorem dX7_falls_31 : decode cX7_falls 31 = .ok (.getfield 48, 3) := by decide +kernel
theorem dX7_falls_34 : decode cX7_falls 34 = .ok (.aload_n 0, 1) := by decide +kernel
theorem dX7_falls_35 : decode cX7_falls 35 = .ok (.getfield 115, 3) := by decide +kernel
theorem dX7_falls_38 : decode cX7_falls 38 = .ok (.iconst 2, 1) := by decide +kernel
theorem dX7_falls_39 : decode cX7_falls 39 = .ok (.isub, 1) := by decide +kernel
theorem dX7_falls_40 : decode cX7_falls 40 = .ok (.iload_n 1, 1) := by decide +kernel
theorem dX7_falls_41 : decode cX7_falls 41 = .ok (.isub, 1) := by decide +kernel
theorem dX7_falls_42 : decode cX7_falls 42 = .ok (.iaload, 1) := by decide +kernel
theorem dX7_falls_43 : decode cX7_falls 43 = .ok (.if_icmp .ge 9, 3) := by decide +kernel
theorem dX7_falls_46 : decode cX7_falls 46 = .ok (.iinc 1 1, 3) := by decide +kernel
theorem dX7_falls_49 : decode cX7_falls 49 = .ok (.goto (-42), 3) := by decide +kernel
theorem dX7_falls_52 : decode cX7_falls 52 = .ok (.iload_n 1, 1) := by decide +kernel
theorem dX7_falls_53 : decode cX7_falls 53 = .ok (.ireturn, 1) := by decide +kernel
theorem dX7_endDay_0 : decode cX7_endDay 0 = .ok (.aload_n 0, 1) := by decide +kernel
theorem dX7_endDay_1 : decode cX7_endDay 1 = .ok (.iconst 0, 1) := by decide +kernel
theorem dX7_endDay_2 : decode cX7_endDay 2 = .ok (.putfield 51, 3) := by decide +kernel
theorem dX7_endDay_5 : decode cX7_endDay 5 = .ok (.aload_n 0, 1) := by decide +kernel
theorem dX7_endDay_6 : decode cX7_endDay 6 = .ok (.getfield 102, 3) := by decide +kernel
theorem dX7_endDay_9 : decode cX7_endDay 9 = .ok (.istore_n 1, 1) := by decide +kernel
theorem dX7_endDay_10 : decode cX7_endDay 10 = .ok (.aload_n 0, 1) := by decide +kernel
theorem dX7_endDay_11 : decode cX7_endDay 11 = .ok (.iconst 0, 1) := by decide +kernel
theorem dX7_endDay_12 : decode cX7_endDay 12 = .ok (.putfield 102, 3) := by decide +kernel
theorem dX7_endDay_15 : decode cX7_endDay 15 = .ok (.iconst 0, 1) := by decide +kernel
theorem dX7_endDay_16 : decode cX7_endDay 16 = .ok (.istore_n 2, 1) := by decide +kernel
theorem dX7_endDay_17 : decode cX7_endDay 17 = .ok (.iload_n 2, 1) := by decide +kernel
theorem dX7_endDay_18 : decode cX7_endDay 18 = .ok (.bipush 26, 2) := by decide +kernel
theorem dX7_endDay_20 : decode cX7_endDay 20 = .ok (.if_icmp .ge 19, 3) := by decide +kernel
theorem dX7_endDay_23 : decode cX7_endDay 23 = .ok (.aload_n 0, 1) := by decide +kernel
theorem dX7_endDay_24 : decode cX7_endDay 24 = .ok (.getfield 13, 3) := by decide +kernel
theorem dX7_endDay_27 : decode cX7_endDay 27 = .ok (.iload_n 2, 1) := by decide +kernel
theorem dX7_endDay_28 : decode cX7_endDay 28 = .ok (.dup2, 1) := by decide +kernel
theorem dX7_endDay_29 : decode cX7_endDay 29 = .ok (.iaload, 1) := by decide +kernel
theorem dX7_endDay_30 : decode cX7_endDay 30 = .ok (.iconst 2, 1) := by decide +kernel
theorem dX7_endDay_31 : decode cX7_endDay 31 = .ok (.idiv, 1) := by decide +kernel
theorem dX7_endDay_32 : decode cX7_endDay 32 = .ok (.iastore, 1) := by decide +kernel
theorem dX7_endDay_33 : decode cX7_endDay 33 = .ok (.iinc 2 1, 3) := by decide +kernel
theorem dX7_endDay_36 : decode cX7_endDay 36 = .ok (.goto (-19), 3) := by decide +kernel
theorem dX7_endDay_39 : decode cX7_endDay 39 = .ok (.iload_n 1, 1) := by decide +kernel
theorem dX7_endDay_40 : decode cX7_endDay 40 = .ok (.ireturn, 1) := by decide +kernel
theorem dX7_strokes_0 : decode cX7_strokes 0 = .ok (.aload_n 0, 1) := by decide +kernel
theorem dX7_strokes_1 : decode cX7_strokes 1 = .ok (.iconst 0, 1) := by decide +kernel
theorem dX7_strokes_2 : decode cX7_strokes 2 = .ok (.putfield 51, 3) := by decide +kernel
theorem dX7_strokes_5 : decode cX7_strokes 5 = .ok (.aload_n 0, 1) := by decide +kernel
theorem dX7_strokes_6 : decode cX7_strokes 6 = .ok (.getfield 102, 3) := by decide +kernel
theorem dX7_strokes_9 : decode cX7_strokes 9 = .ok (.ireturn, 1) := by decide +kernel
