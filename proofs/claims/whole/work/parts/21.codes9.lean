theorem dX9_init_0 : decode cX9_init 0 = .ok (.aload_n 0, 1) := by decide +kernel
theorem dX9_init_1 : decode cX9_init 1 = .ok (.invokespecial 1, 3) := by decide +kernel
theorem dX9_init_4 : decode cX9_init 4 = .ok (.aload_n 0, 1) := by decide +kernel
theorem dX9_init_5 : decode cX9_init 5 = .ok (.sipush 165, 3) := by decide +kernel
theorem dX9_init_8 : decode cX9_init 8 = .ok (.newarray .int, 2) := by decide +kernel
theorem dX9_init_10 : decode cX9_init 10 = .ok (.putfield 7, 3) := by decide +kernel
theorem dX9_init_13 : decode cX9_init 13 = .ok (.aload_n 0, 1) := by decide +kernel
theorem dX9_init_14 : decode cX9_init 14 = .ok (.sipush 308, 3) := by decide +kernel
theorem dX9_init_17 : decode cX9_init 17 = .ok (.newarray .int, 2) := by decide +kernel
theorem dX9_init_19 : decode cX9_init 19 = .ok (.putfield 13, 3) := by decide +kernel
theorem dX9_init_22 : decode cX9_init 22 = .ok (.aload_n 0, 1) := by decide +kernel
theorem dX9_init_23 : decode cX9_init 23 = .ok (.iconst 2, 1) := by decide +kernel
theorem dX9_init_24 : decode cX9_init 24 = .ok (.newarray .boolean, 2) := by decide +kernel
theorem dX9_init_26 : decode cX9_init 26 = .ok (.putfield 16, 3) := by decide +kernel
theorem dX9_init_29 : decode cX9_init 29 = .ok (.aload_n 0, 1) := by decide +kernel
theorem dX9_init_30 : decode cX9_init 30 = .ok (.bipush 6, 2) := by decide +kernel
theorem dX9_init_32 : decode cX9_init 32 = .ok (.newarray .int, 2) := by decide +kernel
theorem dX9_init_34 : decode cX9_init 34 = .ok (.putfield 20, 3) := by decide +kernel
theorem dX9_init_37 : decode cX9_init 37 = .ok (.aload_n 0, 1) := by decide +kernel
theorem dX9_init_38 : decode cX9_init 38 = .ok (.bipush 40, 2) := by decide +kernel
theorem dX9_init_40 : decode cX9_init 40 = .ok (.newarray .int, 2) := by decide +kernel
theorem dX9_init_42 : decode cX9_init 42 = .ok (.putfield 23, 3) := by decide +kernel
theorem dX9_init_45 : decode cX9_init 45 = .ok (.aload_n 0, 1) := by decide +kernel
theorem dX9_init_46 : decode cX9_init 46 = .ok (.bipush 20, 2) := by decide +kernel
theorem dX9_init_48 : decode cX9_init 48 = .ok (.newarray .int, 2) := by decide +kernel
theorem dX9_init_50 : decode cX9_init 50 = .ok (.putfield 26, 3) := by decide +kernel
theorem dX9_init_53 : decode cX9_init 53 = .ok (.aload_n 0, 1) := by decide +kernel
theorem dX9_init_54 : decode cX9_init 54 = .ok (.sipush 220, 3) := by decide +kernel
theorem dX9_init_57 : decode cX9_init 57 = .ok (.newarray .int, 2) := by decide +kernel
theorem dX9_init_59 : decode cX9_init 59 = .ok (.putfield 29, 3) := by decide +kernel
theorem dX9_init_62 : decode cX9_init 62 = .ok (.aload_n 0, 1) := by decide +kernel
theorem dX9_init_63 : decode cX9_init 63 = .ok (.sipush 220, 3) := by decide +kernel
theorem dX9_init_66 : decode cX9_init 66 = .ok (.newarray .int, 2) := by decide +kernel
theorem dX9_init_68 : decode cX9_init 68 = .ok (.putfield 32, 3) := by decide +kernel
theorem dX9_init_71 : decode cX9_init 71 = .ok (.aload_n 0, 1) := by decide +kernel
theorem dX9_init_72 : decode cX9_init 72 = .ok (.sipush 814, 3) := by decide +kernel
theorem dX9_init_75 : decode cX9_init 75 = .ok (.newarray .long, 2) := by decide +kernel
theorem dX9_init_77 : decode cX9_init 77 = .ok (.putfield 35, 3) := by decide +kernel
theorem dX9_init_80 : decode cX9_init 80 = .ok (.aload_n 0, 1) := by decide +kernel
theorem dX9_init_81 : decode cX9_init 81 = .ok (.bipush 37, 2) := by decide +kernel
theorem dX9_init_83 : decode cX9_init 83 = .ok (.newarray .int, 2) := by decide +kernel
theorem dX9_init_85 : decode cX9_init 85 = .ok (.putfield 39, 3) := by decide +kernel
theorem dX9_init_88 : decode cX9_init 88 = .ok (.aload_n 0, 1) := by decide +kernel
theorem dX9_init_89 : decode cX9_init 89 = .ok (.bipush 22, 2) := by decide +kernel
theorem dX9_init_91 : decode cX9_init 91 = .ok (.newarray .int, 2) := by decide +kernel
theorem dX9_init_93 : decode cX9_init 93 = .ok (.putfield 42, 3) := by decide +kernel
theorem dX9_init_96 : decode cX9_init 96 = .ok (.aload_n 0, 1) := by decide +kernel
theorem dX9_init_97 : decode cX9_init 97 = .ok (.bipush 42, 2) := by decide +kernel
theorem dX9_init_99 : decode cX9_init 99 = .ok (.newarray .boolean, 2) := by decide +kernel
theorem dX9_init_101 : decode cX9_init 101 = .ok (.putfield 45, 3) := by decide +kernel
theorem dX9_init_104 : decode cX9_init 104 = .ok (.aload_n 0, 1) := by decide +kernel
theorem dX9_init_105 : decode cX9_init 105 = .ok (.iconst 4, 1) := by decide +kernel
theorem dX9_init_106 : decode cX9_init 106 = .ok (.newarray .long, 2) := by decide +kernel
theorem dX9_init_108 : decode cX9_init 108 = .ok (.putfield 48, 3) := by decide +kernel
theorem dX9_init_111 : decode cX9_init 111 = .ok (.aload_n 0, 1) := by decide +kernel
theorem dX9_init_112 : decode cX9_init 112 = .ok (.iconst 4, 1) := by decide +kernel
theorem dX9_init_113 : decode cX9_init 113 = .ok (.newarray .long, 2) := by decide +kernel
theorem dX9_init_115 : decode cX9_init 115 = .ok (.putfield 51, 3) := by decide +kernel
theorem dX9_init_118 : decode cX9_init 118 = .ok (.aload_n 0, 1) := by decide +kernel
theorem dX9_init_119 : decode cX9_init 119 = .ok (.bipush 11, 2) := by decide +kernel
theorem dX9_init_121 : decode cX9_init 121 = .ok (.newarray .int, 2) := by decide +kernel
theorem dX9_init_123 : decode cX9_init 123 = .ok (.putfield 54, 3) := by decide +kernel
theorem dX9_init_126 : decode cX9_init 126 = .ok (.aload_n 0, 1) := by decide +kernel
theorem dX9_init_127 : decode cX9_init 127 = .ok (.bipush 6, 2) := by decide +kernel
theorem dX9_init_129 : decode cX9_init 129 = .ok (.newarray .int, 2) := by decide +kernel
theorem dX9_init_131 : decode cX9_init 131 = .ok (.putfield 57, 3) := by decide +kernel
theorem dX9_init_134 : decode cX9_init 134 = .ok (.aload_n 0, 1) := by decide +kernel
theorem dX9_init_135 : decode cX9_init 135 = .ok (.bipush 40, 2) := by decide +kernel
theorem dX9_init_137 : decode cX9_init 137 = .ok (.newarray .int, 2) := by decide +kernel
theorem dX9_init_139 : decode cX9_init 139 = .ok (.putfield 60, 3) := by decide +kernel
theorem dX9_init_142 : decode cX9_init 142 = .ok (.aload_n 0, 1) := by decide +kernel
theorem dX9_init_143 : decode cX9_init 143 = .ok (.bipush 6, 2) := by decide +kernel
theorem dX9_init_145 : decode cX9_init 145 = .ok (.newarray .int, 2) := by decide +kernel
theorem dX9_init_147 : decode cX9_init 147 = .ok (.putfield 63, 3) := by decide +kernel
theorem dX9_init_150 : decode cX9_init 150 = .ok (.aload_n 0, 1) := by decide +kernel
theorem dX9_init_151 : decode cX9_init 151 = .ok (.iconst 4, 1) := by decide +kernel
theorem dX9_init_152 : decode cX9_init 152 = .ok (.newarray .long, 2) := by decide +kernel
theorem dX9_init_154 : decode cX9_init 154 = .ok (.putfield 66, 3) := by decide +kernel
theorem dX9_init_157 : decode cX9_init 157 = .ok (.aload_n 0, 1) := by decide +kernel
theorem dX9_init_158 : decode cX9_init 158 = .ok (.iconst 4, 1) := by decide +kernel
theorem dX9_init_159 : decode cX9_init 159 = .ok (.newarray .long, 2) := by decide +kernel
theorem dX9_init_161 : decode cX9_init 161 = .ok (.putfield 69, 3) := by decide +kernel
theorem dX9_init_164 : decode cX9_init 164 = .ok (.aload_n 0, 1) := by decide +kernel
theorem dX9_init_165 : decode cX9_init 165 = .ok (.iconst 0, 1) := by decide +kernel
theorem dX9_init_166 : decode cX9_init 166 = .ok (.putfield 72, 3) := by decide +kernel
theorem dX9_init_169 : decode cX9_init 169 = .ok (.return_, 1) := by decide +kernel
theorem dX9_in_0 : decode cX9_in 0 = .ok (.iload_n 0, 1) := by decide +kernel
theorem dX9_in_1 : decode cX9_in 1 = .ok (.iload_n 1, 1) := by decide +kernel
theorem dX9_in_2 : decode cX9_in 2 = .ok (.if_icmp .lt 12, 3) := by decide +kernel
theorem dX9_in_5 : decode cX9_in 5 = .ok (.iload_n 0, 1) := by decide +kernel
theorem dX9_in_6 : decode cX9_in 6 = .ok (.iload_n 2, 1) := by decide +kernel
theorem dX9_in_7 : decode cX9_in 7 = .ok (.if_icmp .gt 7, 3) := by decide +kernel
theorem dX9_in_10 : decode cX9_in 10 = .ok (.iconst 1, 1) := by decide +kernel
theorem dX9_in_11 : decode cX9_in 11 = .ok (.goto 4, 3) := by decide +kernel
theorem dX9_in_14 : decode cX9_in 14 = .ok (.iconst 0, 1) := by decide +kernel
theorem dX9_in_15 : decode cX9_in 15 = .ok (.ireturn, 1) := by decide +kernel
theorem dX9_of_0 : decode cX9_of 0 = .ok (.aload_n 0, 1) := by decide +kernel
theorem dX9_of_1 : decode cX9_of 1 = .ok (.getfield 7, 3) := by decide +kernel
theorem dX9_of_4 : decode cX9_of 4 = .ok (.bipush 11, 2) := by decide +kernel
theorem dX9_of_6 : decode cX9_of 6 = .ok (.iload_n 1, 1) := by decide +kernel
theorem dX9_of_7 : decode cX9_of 7 = .ok (.imul, 1) := by decide +kernel
theorem dX9_of_8 : decode cX9_of 8 = .ok (.iload_n 2, 1) := by decide +kernel
theorem dX9_of_9 : decode cX9_of 9 = .ok (.iadd, 1) := by decide +kernel
theorem dX9_of_10 : decode cX9_of 10 = .ok (.iaload, 1) := by decide +kernel
theorem dX9_of_11 : decode cX9_of 11 = .ok (.ireturn, 1) := by decide +kernel
set_option maxRecDepth 20000 in
theorem ggX9_isThere_X9_in : GoodIn wsX9_isThere wsX9_in := goodIn_r _ [4] (by decide +kernel) (by decide +kernel)
set_option maxRecDepth 20000 in
theorem gX9_isThere_X9_in : GoodIn wsX9_isThere (va_wsS RX9 76 yX9_in wsX9_in) := goodIn_app (goodIn_of _ (by decide +kernel)) ggX9_isThere_X9_in
set_option maxRecDepth 20000 in
theorem ggX9_isThere_X9_of : GoodIn wsX9_isThere wsX9_of := goodIn_r _ [8, 9, 10, 11, 12, 13, 14, 15, 16, 17, 18, 19, 20, 21, 22, 23, 24, 25, 26, 27, 28, 29, 30, 31, 32, 33, 34, 35, 36, 37, 38, 39, 40, 41, 42, 43, 44, 45] (by decide +kernel) (by decide +kernel)
set_option maxRecDepth 20000 in
theorem gX9_isThere_X9_of : GoodIn wsX9_isThere (wsV RX9 80 RX9 yX9_of wsX9_of) := goodIn_app (goodIn_of _ (by decide +kernel)) ggX9_isThere_X9_of
theorem dX9_isThere_0 : decode cX9_isThere 0 = .ok (.iload_n 1, 1) := by decide +kernel
theorem dX9_isThere_1 : decode cX9_isThere 1 = .ok (.iconst 0, 1) := by decide +kernel
theorem dX9_isThere_2 : decode cX9_isThere 2 = .ok (.bipush 14, 2) := by decide +kernel
theorem dX9_isThere_4 : decode cX9_isThere 4 = .ok (.invokestatic 76, 3) := by decide +kernel
theorem dX9_isThere_7 : decode cX9_isThere 7 = .ok (.ifCond .eq 18, 3) := by decide +kernel
theorem dX9_isThere_10 : decode cX9_isThere 10 = .ok (.aload_n 0, 1) := by decide +kernel
theorem dX9_isThere_11 : decode cX9_isThere 11 = .ok (.iload_n 1, 1) := by decide +kernel
theorem dX9_isThere_12 : decode cX9_isThere 12 = .ok (.bipush 10, 2) := by decide +kernel
theorem dX9_isThere_14 : decode cX9_isThere 14 = .ok (.invokevirtual 80, 3) := by decide +kernel
theorem dX9_isThere_17 : decode cX9_isThere 17 = .ok (.iconst 1, 1) := by decide +kernel
theorem dX9_isThere_18 : decode cX9_isThere 18 = .ok (.if_icmp .ne 7, 3) := by decide +kernel
theorem dX9_isThere_21 : decode cX9_isThere 21 = .ok (.iconst 1, 1) := by decide +kernel
theorem dX9_isThere_22 : decode cX9_isThere 22 = .ok (.goto 4, 3) := by decide +kernel
theorem dX9_isThere_25 : decode cX9_isThere 25 = .ok (.iconst 0, 1) := by decide +kernel
theorem dX9_isThere_26 : decode cX9_isThere 26 = .ok (.ireturn, 1) := by decide +kernel
set_option maxRecDepth 20000 in
theorem ggX9_isOne_X9_in : GoodIn wsX9_isOne wsX9_in := goodIn_r _ [4] (by decide +kernel) (by decide +kernel)
set_option maxRecDepth 20000 in
theorem gX9_isOne_X9_in : GoodIn wsX9_isOne (va_wsS RX9 76 yX9_in wsX9_in) := goodIn_app (goodIn_of _ (by decide +kernel)) ggX9_isOne_X9_in
set_option maxRecDepth 20000 in
theorem ggX9_isOne_X9_of : GoodIn wsX9_isOne wsX9_of := goodIn_r _ [8, 9, 10, 11, 12, 13, 14, 15, 16, 17, 18, 19, 20, 21, 22, 23, 24, 25, 26, 27, 28, 29, 30, 31, 32, 33, 34, 35, 36, 37, 38, 39, 40, 41, 42, 43, 44, 45] (by decide +kernel) (by decide +kernel)
set_option maxRecDepth 20000 in
theorem gX9_isOne_X9_of : GoodIn wsX9_isOne (wsV RX9 80 RX9 yX9_of wsX9_of) := goodIn_app (goodIn_of _ (by decide +kernel)) ggX9_isOne_X9_of
theorem dX9_isOne_0 : decode cX9_isOne 0 = .ok (.iload_n 1, 1) := by decide +kernel
theorem dX9_isOne_1 : decode cX9_isOne 1 = .ok (.iconst 0, 1) := by decide +kernel
theorem dX9_isOne_2 : decode cX9_isOne 2 = .ok (.bipush 13, 2) := by decide +kernel
theorem dX9_isOne_4 : decode cX9_isOne 4 = .ok (.invokestatic 76, 3) := by decide +kernel
theorem dX9_isOne_7 : decode cX9_isOne 7 = .ok (.ifCond .eq 18, 3) := by decide +kernel
theorem dX9_isOne_10 : decode cX9_isOne 10 = .ok (.aload_n 0, 1) := by decide +kernel
theorem dX9_isOne_11 : decode cX9_isOne 11 = .ok (.iload_n 1, 1) := by decide +kernel
theorem dX9_isOne_12 : decode cX9_isOne 12 = .ok (.bipush 10, 2) := by decide +kernel
theorem dX9_isOne_14 : decode cX9_isOne 14 = .ok (.invokevirtual 80, 3) := by decide +kernel
theorem dX9_isOne_17 : decode cX9_isOne 17 = .ok (.iconst 1, 1) := by decide +kernel
theorem dX9_isOne_18 : decode cX9_isOne 18 = .ok (.if_icmp .ne 7, 3) := by decide +kernel
theorem dX9_isOne_21 : decode cX9_isOne 21 = .ok (.iconst 1, 1) := by decide +kernel
theorem dX9_isOne_22 : decode cX9_isOne 22 = .ok (.goto 4, 3) := by decide +kernel
theorem dX9_isOne_25 : decode cX9_isOne 25 = .ok (.iconst 0, 1) := by decide +kernel
theorem dX9_isOne_26 : decode cX9_isOne 26 = .ok (.ireturn, 1) := by decide +kernel
set_option maxRecDepth 20000 in
theorem ggX9_isVariable_X9_in : GoodIn wsX9_isVariable wsX9_in := goodIn_r _ [4] (by decide +kernel) (by decide +kernel)
set_option maxRecDepth 20000 in
theorem gX9_isVariable_X9_in : GoodIn wsX9_isVariable (va_wsS RX9 76 yX9_in wsX9_in) := goodIn_app (goodIn_of _ (by decide +kernel)) ggX9_isVariable_X9_in
theorem dX9_isVariable_0 : decode cX9_isVariable 0 = .ok (.iload_n 0, 1) := by decide +kernel
theorem dX9_isVariable_1 : decode cX9_isVariable 1 = .ok (.iconst 0, 1) := by decide +kernel
theorem dX9_isVariable_2 : decode cX9_isVariable 2 = .ok (.iconst 5, 1) := by decide +kernel
theorem dX9_isVariable_3 : decode cX9_isVariable 3 = .ok (.invokestatic 76, 3) := by decide +kernel
theorem dX9_isVariable_6 : decode cX9_isVariable 6 = .ok (.ireturn, 1) := by decide +kernel
set_option maxRecDepth 20000 in
theorem ggX9_isPart_X9_in : GoodIn wsX9_isPart wsX9_in := goodIn_r _ [4] (by decide +kernel) (by decide +kernel)
set_option maxRecDepth 20000 in
theorem gX9_isPart_X9_in : GoodIn wsX9_isPart (va_wsS RX9 76 yX9_in wsX9_in) := goodIn_app (goodIn_of _ (by decide +kernel)) ggX9_isPart_X9_in
theorem dX9_isPart_0 : decode cX9_isPart 0 = .ok (.iload_n 0, 1) := by decide +kernel
theorem dX9_isPart_1 : decode cX9_isPart 1 = .ok (.iconst 0, 1) := by decide +kernel
theorem dX9_isPart_2 : decode cX9_isPart 2 = .ok (.iconst 1, 1) := by decide +kernel
theorem dX9_isPart_3 : decode cX9_isPart 3 = .ok (.invokestatic 76, 3) := by decide +kernel
theorem dX9_isPart_6 : decode cX9_isPart 6 = .ok (.ireturn, 1) := by decide +kernel
set_option maxRecDepth 20000 in
theorem ggX9_constraintsThere_X9_of : GoodIn wsX9_constraintsThere wsX9_of := goodIn_r _ [5, 6, 7, 8, 9, 10, 11, 12, 13, 14, 15, 16, 17, 18, 19, 20, 21, 22, 23, 24, 25, 26, 27, 28, 29, 30, 31, 32, 33, 34, 35, 36, 37, 38, 39, 40, 41, 42] (by decide +kernel) (by decide +kernel)
set_option maxRecDepth 20000 in
theorem gX9_constraintsThere_X9_of : GoodIn wsX9_constraintsThere (wsV RX9 80 RX9 yX9_of wsX9_of) := goodIn_app (goodIn_of _ (by decide +kernel)) ggX9_constraintsThere_X9_of
theorem dX9_constraintsThere_0 : decode cX9_constraintsThere 0 = .ok (.iconst 0, 1) := by decide +kernel
theorem dX9_constraintsThere_1 : decode cX9_constraintsThere 1 = .ok (.istore_n 1, 1) := by decide +kernel
theorem dX9_constraintsThere_2 : decode cX9_constraintsThere 2 = .ok (.iconst 0, 1) := by decide +kernel
theorem dX9_constraintsThere_3 : decode cX9_constraintsThere 3 = .ok (.istore_n 2, 1) := by decide +kernel
theorem dX9_constraintsThere_4 : decode cX9_constraintsThere 4 = .ok (.iload_n 2, 1) := by decide +kernel
theorem dX9_constraintsThere_5 : decode cX9_constraintsThere 5 = .ok (.bipush 14, 2) := by decide +kernel
theorem dX9_constraintsThere_7 : decode cX9_constraintsThere 7 = .ok (.if_icmp .ge 19, 3) := by decide +kernel
theorem dX9_constraintsThere_10 : decode cX9_constraintsThere 10 = .ok (.iload_n 1, 1) := by decide +kernel
theorem dX9_constraintsThere_11 : decode cX9_constraintsThere 11 = .ok (.aload_n 0, 1) := by decide +kernel
theorem dX9_constraintsThere_12 : decode cX9_constraintsThere 12 = .ok (.iload_n 2, 1) := by decide +kernel
theorem dX9_constraintsThere_13 : decode cX9_constraintsThere 13 = .ok (.bipush 10, 2) := by decide +kernel
theorem dX9_constraintsThere_15 : decode cX9_constraintsThere 15 = .ok (.invokevirtual 80, 3) := by decide +kernel
theorem dX9_constraintsThere_18 : decode cX9_constraintsThere 18 = .ok (.iadd, 1) := by decide +kernel
theorem dX9_constraintsThere_19 : decode cX9_constraintsThere 19 = .ok (.istore_n 1, 1) := by decide +kernel
theorem dX9_constraintsThere_20 : decode cX9_constraintsThere 20 = .ok (.iinc 2 1, 3) := by decide +kernel
theorem dX9_constraintsThere_23 : decode cX9_constraintsThere 23 = .ok (.goto (-19), 3) := by decide +kernel
theorem dX9_constraintsThere_26 : decode cX9_constraintsThere 26 = .ok (.iload_n 1, 1) := by decide +kernel
theorem dX9_constraintsThere_27 : decode cX9_constraintsThere 27 = .ok (.ireturn, 1) := by decide +kernel
theorem dX9_ahead_0 : decode cX9_ahead 0 = .ok (.bipush 12, 2) := by decide +kernel
theorem dX9_ahead_2 : decode cX9_ahead 2 = .ok (.iconst 2, 1) := by decide +kernel
theorem dX9_ahead_3 : decode cX9_ahead 3 = .ok (.iload_n 0, 1) := by decide +kernel
theorem dX9_ahead_4 : decode cX9_ahead 4 = .ok (.imul, 1) := by decide +kernel
theorem dX9_ahead_5 : decode cX9_ahead 5 = .ok (.iadd, 1) := by decide +kernel
theorem dX9_ahead_6 : decode cX9_ahead 6 = .ok (.ireturn, 1) := by decide +kernel
theorem dX9_lack_0 : decode cX9_lack 0 = .ok (.bipush 13, 2) := by decide +kernel
theorem dX9_lack_2 : decode cX9_lack 2 = .ok (.iconst 2, 1) := by decide +kernel
theorem dX9_lack_3 : decode cX9_lack 3 = .ok (.iload_n 0, 1) := by decide +kernel
theorem dX9_lack_4 : decode cX9_lack 4 = .ok (.imul, 1) := by decide +kernel
theorem dX9_lack_5 : decode cX9_lack 5 = .ok (.iadd, 1) := by decide +kernel
theorem dX9_lack_6 : decode cX9_lack 6 = .ok (.ireturn, 1) := by decide +kernel
theorem dX9_beginRows_0 : decode cX9_beginRows 0 = .ok (.iconst 0, 1) := by decide +kernel
theorem dX9_beginRows_1 : decode cX9_beginRows 1 = .ok (.istore_n 1, 1) := by decide +kernel
theorem dX9_beginRows_2 : decode cX9_beginRows 2 = .ok (.iload_n 1, 1) := by decide +kernel
theorem dX9_beginRows_3 : decode cX9_beginRows 3 = .ok (.sipush 814, 3) := by decide +kernel
theorem dX9_beginRows_6 : decode cX9_beginRows 6 = .ok (.if_icmp .ge 16, 3) := by decide +kernel
theorem dX9_beginRows_9 : decode cX9_beginRows 9 = .ok (.aload_n 0, 1) := by decide +kernel
theorem dX9_beginRows_10 : decode cX9_beginRows 10 = .ok (.getfield 35, 3) := by decide +kernel
theorem dX9_beginRows_13 : decode cX9_beginRows 13 = .ok (.iload_n 1, 1) := by decide +kernel
theorem dX9_beginRows_14 : decode cX9_beginRows 14 = .ok (.lconst 0, 1) := by decide +kernel
theorem dX9_beginRows_15 : decode cX9_beginRows 15 = .ok (.lastore, 1) := by decide +kernel
theorem dX9_beginRows_16 : decode cX9_beginRows 16 = .ok (.iinc 1 1, 3) := by decide +kernel
theorem dX9_beginRows_19 : decode cX9_beginRows 19 = .ok (.goto (-17), 3) := by decide +kernel
theorem dX9_beginRows_22 : decode cX9_beginRows 22 = .ok (.iconst 0, 1) := by decide +kernel
theorem dX9_beginRows_23 : decode cX9_beginRows 23 = .ok (.istore_n 1, 1) := by decide +kernel
theorem dX9_beginRows_24 : decode cX9_beginRows 24 = .ok (.iload_n 1, 1) := by decide +kernel
theorem dX9_beginRows_25 : decode cX9_beginRows 25 = .ok (.bipush 42, 2) := by decide +kernel
theorem dX9_beginRows_27 : decode cX9_beginRows 27 = .ok (.if_icmp .ge 16, 3) := by decide +kernel
theorem dX9_beginRows_30 : decode cX9_beginRows 30 = .ok (.aload_n 0, 1) := by decide +kernel
theorem dX9_beginRows_31 : decode cX9_beginRows 31 = .ok (.getfield 45, 3) := by decide +kernel
theorem dX9_beginRows_34 : decode cX9_beginRows 34 = .ok (.iload_n 1, 1) := by decide +kernel
theorem dX9_beginRows_35 : decode cX9_beginRows 35 = .ok (.iconst 0, 1) := by decide +kernel
theorem dX9_beginRows_36 : decode cX9_beginRows 36 = .ok (.bastore, 1) := by decide +kernel
theorem dX9_beginRows_37 : decode cX9_beginRows 37 = .ok (.iinc 1 1, 3) := by decide +kernel
theorem dX9_beginRows_40 : decode cX9_beginRows 40 = .ok (.goto (-16), 3) := by decide +kernel
theorem dX9_beginRows_43 : decode cX9_beginRows 43 = .ok (.aload_n 0, 1) := by decide +kernel
theorem dX9_beginRows_44 : decode cX9_beginRows 44 = .ok (.iconst 0, 1) := by decide +kernel
theorem dX9_beginRows_45 : decode cX9_beginRows 45 = .ok (.putfield 84, 3) := by decide +kernel
theorem dX9_beginRows_48 : decode cX9_beginRows 48 = .ok (.aload_n 0, 1) := by decide +kernel
theorem dX9_beginRows_49 : decode cX9_beginRows 49 = .ok (.bipush 6, 2) := by decide +kernel
theorem dX9_beginRows_51 : decode cX9_beginRows 51 = .ok (.putfield 88, 3) := by decide +kernel
theorem dX9_beginRows_54 : decode cX9_beginRows 54 = .ok (.aload_n 0, 1) := by decide +kernel
theorem dX9_beginRows_55 : decode cX9_beginRows 55 = .ok (.lconst 1, 1) := by decide +kernel
theorem dX9_beginRows_56 : decode cX9_beginRows 56 = .ok (.putfield 91, 3) := by decide +kernel
theorem dX9_beginRows_59 : decode cX9_beginRows 59 = .ok (.iconst 0, 1) := by decide +kernel
theorem dX9_beginRows_60 : decode cX9_beginRows 60 = .ok (.istore_n 1, 1) := by decide +kernel
theorem dX9_beginRows_61 : decode cX9_beginRows 61 = .ok (.iload_n 1, 1) := by decide +kernel
theorem dX9_beginRows_62 : decode cX9_beginRows 62 = .ok (.bipush 6, 2) := by decide +kernel
theorem dX9_beginRows_64 : decode cX9_beginRows 64 = .ok (.if_icmp .ge 75, 3) := by decide +kernel
theorem dX9_beginRows_67 : decode cX9_beginRows 67 = .ok (.aload_n 0, 1) := by decide +kernel
theorem dX9_beginRows_68 : decode cX9_beginRows 68 = .ok (.getfield 42, 3) := by decide +kernel
theorem dX9_beginRows_71 : decode cX9_beginRows 71 = .ok (.iload_n 1, 1) := by decide +kernel
theorem dX9_beginRows_72 : decode cX9_beginRows 72 = .ok (.iconst 1, 1) := by decide +kernel
theorem dX9_beginRows_73 : decode cX9_beginRows 73 = .ok (.iadd, 1) := by decide +kernel
theorem dX9_beginRows_74 : decode cX9_beginRows 74 = .ok (.iload_n 1, 1) := by decide +kernel
theorem dX9_beginRows_75 : decode cX9_beginRows 75 = .ok (.iastore, 1) := by decide +kernel
theorem dX9_beginRows_76 : decode cX9_beginRows 76 = .ok (.aload_n 0, 1) := by decide +kernel
theorem dX9_beginRows_77 : decode cX9_beginRows 77 = .ok (.getfield 39, 3) := by decide +kernel
theorem dX9_beginRows_80 : decode cX9_beginRows 80 = .ok (.aload_n 0, 1) := by decide +kernel
theorem dX9_beginRows_81 : decode cX9_beginRows 81 = .ok (.getfield 84, 3) := by decide +kernel
theorem dX9_beginRows_84 : decode cX9_beginRows 84 = .ok (.bipush 6, 2) := by decide +kernel
theorem dX9_beginRows_86 : decode cX9_beginRows 86 = .ok (.iload_n 1, 1) := by decide +kernel
theorem dX9_beginRows_87 : decode cX9_beginRows 87 = .ok (.iadd, 1) := by decide +kernel
theorem dX9_beginRows_88 : decode cX9_beginRows 88 = .ok (.iastore, 1) := by decide +kernel
theorem dX9_beginRows_89 : decode cX9_beginRows 89 = .ok (.aload_n 0, 1) := by decide +kernel
theorem dX9_beginRows_90 : decode cX9_beginRows 90 = .ok (.getfield 35, 3) := by decide +kernel
theorem dX9_beginRows_93 : decode cX9_beginRows 93 = .ok (.bipush 22, 2) := by decide +kernel
theorem dX9_beginRows_95 : decode cX9_beginRows 95 = .ok (.aload_n 0, 1) := by decide +kernel
theorem dX9_beginRows_96 : decode cX9_beginRows 96 = .ok (.getfield 84, 3) := by decide +kernel
theorem dX9_beginRows_99 : decode cX9_beginRows 99 = .ok (.imul, 1) := by decide +kernel
theorem dX9_beginRows_100 : decode cX9_beginRows 100 = .ok (.ldc2_w 95, 3) := by decide +kernel
theorem dX9_beginRows_103 : decode cX9_beginRows 103 = .ok (.lastore, 1) := by decide +kernel
theorem dX9_beginRows_104 : decode cX9_beginRows 104 = .ok (.aload_n 0, 1) := by decide +kernel
theorem dX9_beginRows_105 : decode cX9_beginRows 105 = .ok (.getfield 35, 3) := by decide +kernel
theorem dX9_beginRows_108 : decode cX9_beginRows 108 = .ok (.bipush 22, 2) := by decide +kernel
theorem dX9_beginRows_110 : decode cX9_beginRows 110 = .ok (.aload_n 0, 1) := by decide +kernel
theorem dX9_beginRows_111 : decode cX9_beginRows 111 = .ok (.getfield 84, 3) := by decide +kernel
theorem dX9_beginRows_114 : decode cX9_beginRows 114 = .ok (.imul, 1) := by decide +kernel
theorem dX9_beginRows_115 : decode cX9_beginRows 115 = .ok (.iload_n 1, 1) := by decide +kernel
theorem dX9_beginRows_116 : decode cX9_beginRows 116 = .ok (.iadd, 1) := by decide +kernel
theorem dX9_beginRows_117 : decode cX9_beginRows 117 = .ok (.iconst 1, 1) := by decide +kernel
theorem dX9_beginRows_118 : decode cX9_beginRows 118 = .ok (.iadd, 1) := by decide +kernel
theorem dX9_beginRows_119 : decode cX9_beginRows 119 = .ok (.ldc2_w 97, 3) := by decide +kernel
theorem dX9_beginRows_122 : decode cX9_beginRows 122 = .ok (.lastore, 1) := by decide +kernel
theorem dX9_beginRows_123 : decode cX9_beginRows 123 = .ok (.aload_n 0, 1) := by decide +kernel
theorem dX9_beginRows_124 : decode cX9_beginRows 124 = .ok (.dup, 1) := by decide +kernel
theorem dX9_beginRows_125 : decode cX9_beginRows 125 = .ok (.getfield 84, 3) := by decide +kernel
theorem dX9_beginRows_128 : decode cX9_beginRows 128 = .ok (.iconst 1, 1) := by decide +kernel
theorem dX9_beginRows_129 : decode cX9_beginRows 129 = .ok (.iadd, 1) := by decide +kernel
theorem dX9_beginRows_130 : decode cX9_beginRows 130 = .ok (.putfield 84, 3) := by decide +kernel
theorem dX9_beginRows_133 : decode cX9_beginRows 133 = .ok (.iinc 1 1, 3) := by decide +kernel
theorem dX9_beginRows_136 : decode cX9_beginRows 136 = .ok (.goto (-75), 3) := by decide +kernel
theorem dX9_beginRows_139 : decode cX9_beginRows 139 = .ok (.return_, 1) := by decide +kernel
set_option maxRecDepth 20000 in
theorem ggX9_addRow_X9_of : GoodIn wsX9_addRow wsX9_of := goodIn_r _ [8, 9, 10, 11, 12, 13, 14, 15, 16, 17, 18, 19, 20, 21, 22, 23, 24, 25, 26, 27, 28, 29, 30, 31, 32, 33, 34, 35, 36, 37, 38, 39, 40, 41, 42, 43, 44, 45] (by decide +kernel) (by decide +kernel)
set_option maxRecDepth 20000 in
theorem gX9_addRow_X9_of : GoodIn wsX9_addRow (wsV RX9 80 RX9 yX9_of wsX9_of) := goodIn_app (goodIn_of _ (by decide +kernel)) ggX9_addRow_X9_of
theorem dX9_addRow_0 : decode cX9_addRow 0 = .ok (.iconst 0, 1) := by decide +kernel
theorem dX9_addRow_1 : decode cX9_addRow 1 = .ok (.istore 4, 2) := by decide +kernel
theorem dX9_addRow_3 : decode cX9_addRow 3 = .ok (.iconst 0, 1) := by decide +kernel
theorem dX9_addRow_4 : decode cX9_addRow 4 = .ok (.istore 5, 2) := by decide +kernel
theorem dX9_addRow_6 : decode cX9_addRow 6 = .ok (.iload 5, 2) := by decide +kernel
theorem dX9_addRow_8 : decode cX9_addRow 8 = .ok (.bipush 6, 2) := by decide +kernel
theorem dX9_addRow_10 : decode cX9_addRow 10 = .ok (.if_icmp .ge 48, 3) := by decide +kernel
theorem dX9_addRow_13 : decode cX9_addRow 13 = .ok (.iload 4, 2) := by decide +kernel
theorem dX9_addRow_15 : decode cX9_addRow 15 = .ok (.aload_n 0, 1) := by decide +kernel
theorem dX9_addRow_16 : decode cX9_addRow 16 = .ok (.iload_n 1, 1) := by decide +kernel
theorem dX9_addRow_17 : decode cX9_addRow 17 = .ok (.iload 5, 2) := by decide +kernel
theorem dX9_addRow_19 : decode cX9_addRow 19 = .ok (.invokevirtual 80, 3) := by decide +kernel
theorem dX9_addRow_22 : decode cX9_addRow 22 = .ok (.iadd, 1) := by decide +kernel
theorem dX9_addRow_23 : decode cX9_addRow 23 = .ok (.istore 4, 2) := by decide +kernel
theorem dX9_addRow_25 : decode cX9_addRow 25 = .ok (.aload_n 0, 1) := by decide +kernel
theorem dX9_addRow_26 : decode cX9_addRow 26 = .ok (.getfield 35, 3) := by decide +kernel
theorem dX9_addRow_29 : decode cX9_addRow 29 = .ok (.bipush 22, 2) := by decide +kernel
theorem dX9_addRow_31 : decode cX9_addRow 31 = .ok (.aload_n 0, 1) := by decide +kernel
theorem dX9_addRow_32 : decode cX9_addRow 32 = .ok (.getfield 84, 3) := by decide +kernel
theorem dX9_addRow_35 : decode cX9_addRow 35 = .ok (.imul, 1) := by decide +kernel
theorem dX9_addRow_36 : decode cX9_addRow 36 = .ok (.iload 5, 2) := by decide +kernel
theorem dX9_addRow_38 : decode cX9_addRow 38 = .ok (.iadd, 1) := by decide +kernel
theorem dX9_addRow_39 : decode cX9_addRow 39 = .ok (.iconst 1, 1) := by decide +kernel
theorem dX9_addRow_40 : decode cX9_addRow 40 = .ok (.iadd, 1) := by decide +kernel
theorem dX9_addRow_41 : decode cX9_addRow 41 = .ok (.iload_n 3, 1) := by decide +kernel
theorem dX9_addRow_42 : decode cX9_addRow 42 = .ok (.aload_n 0, 1) := by decide +kernel
theorem dX9_addRow_43 : decode cX9_addRow 43 = .ok (.iload_n 1, 1) := by decide +kernel
theorem dX9_addRow_44 : decode cX9_addRow 44 = .ok (.iload 5, 2) := by decide +kernel
theorem dX9_addRow_46 : decode cX9_addRow 46 = .ok (.invokevirtual 80, 3) := by decide +kernel
theorem dX9_addRow_49 : decode cX9_addRow 49 = .ok (.imul, 1) := by decide +kernel
theorem dX9_addRow_50 : decode cX9_addRow 50 = .ok (.i2l, 1) := by decide +kernel
theorem dX9_addRow_51 : decode cX9_addRow 51 = .ok (.lastore, 1) := by decide +kernel
theorem dX9_addRow_52 : decode cX9_addRow 52 = .ok (.iinc 5 1, 3) := by decide +kernel
theorem dX9_addRow_55 : decode cX9_addRow 55 = .ok (.goto (-49), 3) := by decide +kernel
theorem dX9_addRow_58 : decode cX9_addRow 58 = .ok (.aload_n 0, 1) := by decide +kernel
theorem dX9_addRow_59 : decode cX9_addRow 59 = .ok (.getfield 35, 3) := by decide +kernel
theorem dX9_addRow_62 : decode cX9_addRow 62 = .ok (.bipush 22, 2) := by decide +kernel
theorem dX9_addRow_64 : decode cX9_addRow 64 = .ok (.aload_n 0, 1) := by decide +kernel
theorem dX9_addRow_65 : decode cX9_addRow 65 = .ok (.getfield 84, 3) := by decide +kernel
theorem dX9_addRow_68 : decode cX9_addRow 68 = .ok (.imul, 1) := by decide +kernel
theorem dX9_addRow_69 : decode cX9_addRow 69 = .ok (.iload_n 3, 1) := by decide +kernel
theorem dX9_addRow_70 : decode cX9_addRow 70 = .ok (.sipush (-1000), 3) := by decide +kernel
theorem dX9_addRow_73 : decode cX9_addRow 73 = .ok (.iload 4, 2) := by decide +kernel
theorem dX9_addRow_75 : decode cX9_addRow 75 = .ok (.imul, 1) := by decide +kernel
theorem dX9_addRow_76 : decode cX9_addRow 76 = .ok (.aload_n 0, 1) := by decide +kernel
theorem dX9_addRow_77 : decode cX9_addRow 77 = .ok (.iload_n 1, 1) := by decide +kernel
theorem dX9_addRow_78 : decode cX9_addRow 78 = .ok (.bipush 7, 2) := by decide +kernel
theorem dX9_addRow_80 : decode cX9_addRow 80 = .ok (.invokevirtual 80, 3) := by decide +kernel
theorem dX9_addRow_83 : decode cX9_addRow 83 = .ok (.isub, 1) := by decide +kernel
theorem dX9_addRow_84 : decode cX9_addRow 84 = .ok (.imul, 1) := by decide +kernel
theorem dX9_addRow_85 : decode cX9_addRow 85 = .ok (.i2l, 1) := by decide +kernel
theorem dX9_addRow_86 : decode cX9_addRow 86 = .ok (.lastore, 1) := by decide +kernel
theorem dX9_addRow_87 : decode cX9_addRow 87 = .ok (.aload_n 0, 1) := by decide +kernel
theorem dX9_addRow_88 : decode cX9_addRow 88 = .ok (.getfield 39, 3) := by decide +kernel
theorem dX9_addRow_91 : decode cX9_addRow 91 = .ok (.aload_n 0, 1) := by decide +kernel
theorem dX9_addRow_92 : decode cX9_addRow 92 = .ok (.getfield 84, 3) := by decide +kernel
theorem dX9_addRow_95 : decode cX9_addRow 95 = .ok (.iload_n 2, 1) := by decide +kernel
theorem dX9_addRow_96 : decode cX9_addRow 96 = .ok (.iastore, 1) := by decide +kernel
theorem dX9_addRow_97 : decode cX9_addRow 97 = .ok (.aload_n 0, 1) := by decide +kernel
theorem dX9_addRow_98 : decode cX9_addRow 98 = .ok (.dup, 1) := by decide +kernel
theorem dX9_addRow_99 : decode cX9_addRow 99 = .ok (.getfield 84, 3) := by decide +kernel
theorem dX9_addRow_102 : decode cX9_addRow 102 = .ok (.iconst 1, 1) := by decide +kernel
theorem dX9_addRow_103 : decode cX9_addRow 103 = .ok (.iadd, 1) := by decide +kernel
theorem dX9_addRow_104 : decode cX9_addRow 104 = .ok (.putfield 84, 3) := by decide +kernel
theorem dX9_addRow_107 : decode cX9_addRow 107 = .ok (.return_, 1) := by decide +kernel
set_option maxRecDepth 20000 in
theorem ggX9_addConstraint_X9_of : GoodIn wsX9_addConstraint wsX9_of := goodIn_r _ [9, 10, 22, 23, 24, 25, 26, 27, 28, 29, 30, 31, 32, 33, 34, 35, 36, 37, 38, 39, 40, 41, 42, 43, 44, 45, 46, 47, 48, 49, 50, 51, 52, 53, 54, 55, 56, 57] (by decide +kernel) (by decide +kernel)
set_option maxRecDepth 20000 in
theorem gX9_addConstraint_X9_of : GoodIn wsX9_addConstraint (wsV RX9 80 RX9 yX9_of wsX9_of) := goodIn_app (goodIn_of _ (by decide +kernel)) ggX9_addConstraint_X9_of
set_option maxRecDepth 20000 in
theorem ggX9_addConstraint_X9_ahead : GoodIn wsX9_addConstraint wsX9_ahead := goodIn_r _ [13] (by decide +kernel) (by decide +kernel)
set_option maxRecDepth 20000 in
theorem gX9_addConstraint_X9_ahead : GoodIn wsX9_addConstraint (va_wsS RX9 99 yX9_ahead wsX9_ahead) := goodIn_app (goodIn_of _ (by decide +kernel)) ggX9_addConstraint_X9_ahead
set_option maxRecDepth 20000 in
theorem ggX9_addConstraint_X9_addRow : GoodIn wsX9_addConstraint wsX9_addRow := goodIn_r _ [17, 3, 4, 18, 5, 6, 7, 8, 9, 10, 22, 23, 24, 25, 26, 27, 28, 29, 30, 31, 32, 33, 34, 35, 36, 37, 38, 39, 40, 41, 42, 43, 44, 45, 46, 47, 48, 49, 50, 51, 52, 53, 54, 55, 56, 57] (by decide +kernel) (by decide +kernel)
set_option maxRecDepth 20000 in
theorem gX9_addConstraint_X9_addRow : GoodIn wsX9_addConstraint (wsV RX9 103 RX9 yX9_addRow wsX9_addRow) := goodIn_app (goodIn_of _ (by decide +kernel)) ggX9_addConstraint_X9_addRow
set_option maxRecDepth 20000 in
theorem ggX9_addConstraint_X9_lack : GoodIn wsX9_addConstraint wsX9_lack := goodIn_r _ [21] (by decide +kernel) (by decide +kernel)
set_option maxRecDepth 20000 in
theorem gX9_addConstraint_X9_lack : GoodIn wsX9_addConstraint (va_wsS RX9 107 yX9_lack wsX9_lack) := goodIn_app (goodIn_of _ (by decide +kernel)) ggX9_addConstraint_X9_lack
theorem dX9_addConstraint_0 : decode cX9_addConstraint 0 = .ok (.aload_n 0, 1) := by decide +kernel
theorem dX9_addConstraint_1 : decode cX9_addConstraint 1 = .ok (.iload_n 1, 1) := by decide +kernel
theorem dX9_addConstraint_2 : decode cX9_addConstraint 2 = .ok (.bipush 6, 2) := by decide +kernel
theorem dX9_addConstraint_4 : decode cX9_addConstraint 4 = .ok (.invokevirtual 80, 3) := by decide +kernel
theorem dX9_addConstraint_7 : decode cX9_addConstraint 7 = .ok (.ifCond .ne 7, 3) := by decide +kernel
theorem dX9_addConstraint_10 : decode cX9_addConstraint 10 = .ok (.iconst (-1), 1) := by decide +kernel
theorem dX9_addConstraint_11 : decode cX9_addConstraint 11 = .ok (.goto 4, 3) := by decide +kernel
theorem dX9_addConstraint_14 : decode cX9_addConstraint 14 = .ok (.iconst 1, 1) := by decide +kernel
theorem dX9_addConstraint_15 : decode cX9_addConstraint 15 = .ok (.istore_n 2, 1) := by decide +kernel
theorem dX9_addConstraint_16 : decode cX9_addConstraint 16 = .ok (.aload_n 0, 1) := by decide +kernel
theorem dX9_addConstraint_17 : decode cX9_addConstraint 17 = .ok (.iload_n 1, 1) := by decide +kernel
theorem dX9_addConstraint_18 : decode cX9_addConstraint 18 = .ok (.iload_n 1, 1) := by decide +kernel
theorem dX9_addConstraint_19 : decode cX9_addConstraint 19 = .ok (.invokestatic 99, 3) := by decide +kernel
theorem dX9_addConstraint_22 : decode cX9_addConstraint 22 = .ok (.iload_n 2, 1) := by decide +kernel
theorem dX9_addConstraint_23 : decode cX9_addConstraint 23 = .ok (.invokevirtual 103, 3) := by decide +kernel
theorem dX9_addConstraint_26 : decode cX9_addConstraint 26 = .ok (.aload_n 0, 1) := by decide +kernel
theorem dX9_addConstraint_27 : decode cX9_addConstraint 27 = .ok (.iload_n 1, 1) := by decide +kernel
theorem dX9_addConstraint_28 : decode cX9_addConstraint 28 = .ok (.bipush 8, 2) := by decide +kernel
theorem dX9_addConstraint_30 : decode cX9_addConstraint 30 = .ok (.invokevirtual 80, 3) := by decide +kernel
theorem dX9_addConstraint_33 : decode cX9_addConstraint 33 = .ok (.ifCond .eq 49, 3) := by decide +kernel
theorem dX9_addConstraint_36 : decode cX9_addConstraint 36 = .ok (.aload_n 0, 1) := by decide +kernel
theorem dX9_addConstraint_37 : decode cX9_addConstraint 37 = .ok (.dup, 1) := by decide +kernel
theorem dX9_addConstraint_38 : decode cX9_addConstraint 38 = .ok (.getfield 88, 3) := by decide +kernel
theorem dX9_addConstraint_41 : decode cX9_addConstraint 41 = .ok (.iconst 1, 1) := by decide +kernel
theorem dX9_addConstraint_42 : decode cX9_addConstraint 42 = .ok (.iadd, 1) := by decide +kernel
theorem dX9_addConstraint_43 : decode cX9_addConstraint 43 = .ok (.putfield 88, 3) := by decide +kernel
theorem dX9_addConstraint_46 : decode cX9_addConstraint 46 = .ok (.aload_n 0, 1) := by decide +kernel
theorem dX9_addConstraint_47 : decode cX9_addConstraint 47 = .ok (.getfield 42, 3) := by decide +kernel
theorem dX9_addConstraint_50 : decode cX9_addConstraint 50 = .ok (.aload_n 0, 1) := by decide +kernel
theorem dX9_addConstraint_51 : decode cX9_addConstraint 51 = .ok (.getfield 88, 3) := by decide +kernel
theorem dX9_addConstraint_54 : decode cX9_addConstraint 54 = .ok (.iload_n 1, 1) := by decide +kernel
theorem dX9_addConstraint_55 : decode cX9_addConstraint 55 = .ok (.invokestatic 107, 3) := by decide +kernel
theorem dX9_addConstraint_58 : decode cX9_addConstraint 58 = .ok (.iastore, 1) := by decide +kernel
theorem dX9_addConstraint_59 : decode cX9_addConstraint 59 = .ok (.aload_n 0, 1) := by decide +kernel
theorem dX9_addConstraint_60 : decode cX9_addConstraint 60 = .ok (.getfield 35, 3) := by decide +kernel
theorem dX9_addConstraint_63 : decode cX9_addConstraint 63 = .ok (.bipush 22, 2) := by decide +kernel
theorem dX9_addConstraint_65 : decode cX9_addConstraint 65 = .ok (.aload_n 0, 1) := by decide +kernel
theorem dX9_addConstraint_66 : decode cX9_addConstraint 66 = .ok (.getfield 84, 3) := by decide +kernel
theorem dX9_addConstraint_69 : decode cX9_addConstraint 69 = .ok (.iconst 1, 1) := by decide +kernel
theorem dX9_addConstraint_70 : decode cX9_addConstraint 70 = .ok (.isub, 1) := by decide +kernel
theorem dX9_addConstraint_71 : decode cX9_addConstraint 71 = .ok (.imul, 1) := by decide +kernel
theorem dX9_addConstraint_72 : decode cX9_addConstraint 72 = .ok (.aload_n 0, 1) := by decide +kernel
theorem dX9_addConstraint_73 : decode cX9_addConstraint 73 = .ok (.getfield 88, 3) := by decide +kernel
theorem dX9_addConstraint_76 : decode cX9_addConstraint 76 = .ok (.iadd, 1) := by decide +kernel
theorem dX9_addConstraint_77 : decode cX9_addConstraint 77 = .ok (.lconst 1, 1) := by decide +kernel
theorem dX9_addConstraint_78 : decode cX9_addConstraint 78 = .ok (.lastore, 1) := by decide +kernel
theorem dX9_addConstraint_79 : decode cX9_addConstraint 79 = .ok (.goto 25, 3) := by decide +kernel
theorem dX9_addConstraint_82 : decode cX9_addConstraint 82 = .ok (.aload_n 0, 1) := by decide +kernel
theorem dX9_addConstraint_83 : decode cX9_addConstraint 83 = .ok (.iload_n 1, 1) := by decide +kernel
theorem dX9_addConstraint_84 : decode cX9_addConstraint 84 = .ok (.bipush 6, 2) := by decide +kernel
theorem dX9_addConstraint_86 : decode cX9_addConstraint 86 = .ok (.invokevirtual 80, 3) := by decide +kernel
theorem dX9_addConstraint_89 : decode cX9_addConstraint 89 = .ok (.iconst 1, 1) := by decide +kernel
theorem dX9_addConstraint_90 : decode cX9_addConstraint 90 = .ok (.if_icmp .ne 14, 3) := by decide +kernel
theorem dX9_addConstraint_93 : decode cX9_addConstraint 93 = .ok (.aload_n 0, 1) := by decide +kernel
theorem dX9_addConstraint_94 : decode cX9_addConstraint 94 = .ok (.iload_n 1, 1) := by decide +kernel
theorem dX9_addConstraint_95 : decode cX9_addConstraint 95 = .ok (.iload_n 1, 1) := by decide +kernel
theorem dX9_addConstraint_96 : decode cX9_addConstraint 96 = .ok (.invokestatic 107, 3) := by decide +kernel
theorem dX9_addConstraint_99 : decode cX9_addConstraint 99 = .ok (.iload_n 2, 1) := by decide +kernel
theorem dX9_addConstraint_100 : decode cX9_addConstraint 100 = .ok (.ineg, 1) := by decide +kernel
theorem dX9_addConstraint_101 : decode cX9_addConstraint 101 = .ok (.invokevirtual 103, 3) := by decide +kernel
theorem dX9_addConstraint_104 : decode cX9_addConstraint 104 = .ok (.return_, 1) := by decide +kernel
set_option maxRecDepth 20000 in
theorem ggX9_layRows_X9_beginRows : GoodIn wsX9_layRows wsX9_beginRows := goodIn_r _ [5, 6, 7, 8, 9, 10, 11, 12, 13, 14, 41, 42, 43, 44, 45, 46, 47, 48, 49, 50, 51, 52, 53, 54, 55, 56, 57, 58, 59, 60, 61, 62, 63, 64, 65, 66, 67, 68, 69, 70, 71, 72, 73, 74, 75, 76] (by decide +kernel) (by decide +kernel)
set_option maxRecDepth 20000 in
theorem gX9_layRows_X9_beginRows : GoodIn wsX9_layRows (wsV RX9 110 RX9 yX9_beginRows wsX9_beginRows) := goodIn_app (goodIn_of _ (by decide +kernel)) ggX9_layRows_X9_beginRows
set_option maxRecDepth 20000 in
theorem ggX9_layRows_X9_isThere : GoodIn wsX9_layRows wsX9_isThere := goodIn_r _ [18, 19, 20, 4, 21, 22, 23, 24, 25, 26, 41, 42, 43, 44, 45, 46, 47, 48, 49, 50, 51, 52, 53, 54, 55, 56, 57, 58, 59, 60, 61, 62, 63, 64, 65, 66, 67, 68, 69, 70, 71, 72, 73, 74, 75, 76] (by decide +kernel) (by decide +kernel)
set_option maxRecDepth 20000 in
theorem gX9_layRows_X9_isThere : GoodIn wsX9_layRows (wsV RX9 113 RX9 yX9_isThere wsX9_isThere) := goodIn_app (goodIn_of _ (by decide +kernel)) ggX9_layRows_X9_isThere
set_option maxRecDepth 20000 in
theorem ggX9_layRows_X9_of : GoodIn wsX9_layRows wsX9_of := goodIn_r _ [25, 26, 41, 42, 43, 44, 45, 46, 47, 48, 49, 50, 51, 52, 53, 54, 55, 56, 57, 58, 59, 60, 61, 62, 63, 64, 65, 66, 67, 68, 69, 70, 71, 72, 73, 74, 75, 76] (by decide +kernel) (by decide +kernel)
set_option maxRecDepth 20000 in
theorem gX9_layRows_X9_of : GoodIn wsX9_layRows (wsV RX9 80 RX9 yX9_of wsX9_of) := goodIn_app (goodIn_of _ (by decide +kernel)) ggX9_layRows_X9_of
set_option maxRecDepth 20000 in
theorem ggX9_layRows_X9_addConstraint : GoodIn wsX9_layRows wsX9_addConstraint := goodIn_r _ [30, 9, 11, 6, 8, 22, 23, 24, 4, 25, 26, 31, 32, 33, 34, 35, 36, 37, 12, 38, 39, 40, 41, 42, 43, 44, 45, 46, 47, 48, 49, 50, 51, 52, 53, 54, 55, 56, 57, 58, 59, 60, 61, 62, 63, 64, 65, 66, 67, 68, 69, 70, 71, 72, 73, 74, 75, 76] (by decide +kernel) (by decide +kernel)
set_option maxRecDepth 20000 in
theorem gX9_layRows_X9_addConstraint : GoodIn wsX9_layRows (wsV RX9 117 RX9 yX9_addConstraint wsX9_addConstraint) := goodIn_app (goodIn_of _ (by decide +kernel)) ggX9_layRows_X9_addConstraint
theorem dX9_layRows_0 : decode cX9_layRows 0 = .ok (.aload_n 0, 1) := by decide +kernel
theorem dX9_layRows_1 : decode cX9_layRows 1 = .ok (.invokevirtual 110, 3) := by decide +kernel
theorem dX9_layRows_4 : decode cX9_layRows 4 = .ok (.iconst 0, 1) := by decide +kernel
theorem dX9_layRows_5 : decode cX9_layRows 5 = .ok (.istore_n 3, 1) := by decide +kernel
theorem dX9_layRows_6 : decode cX9_layRows 6 = .ok (.iload_n 3, 1) := by decide +kernel
theorem dX9_layRows_7 : decode cX9_layRows 7 = .ok (.bipush 14, 2) := by decide +kernel
theorem dX9_layRows_9 : decode cX9_layRows 9 = .ok (.if_icmp .gt 45, 3) := by decide +kernel
theorem dX9_layRows_12 : decode cX9_layRows 12 = .ok (.aload_n 0, 1) := by decide +kernel
theorem dX9_layRows_13 : decode cX9_layRows 13 = .ok (.iload_n 3, 1) := by decide +kernel
theorem dX9_layRows_14 : decode cX9_layRows 14 = .ok (.invokevirtual 113, 3) := by decide +kernel
theorem dX9_layRows_17 : decode cX9_layRows 17 = .ok (.ifCond .eq 31, 3) := by decide +kernel
theorem dX9_layRows_20 : decode cX9_layRows 20 = .ok (.iload_n 1, 1) := by decide +kernel
theorem dX9_layRows_21 : decode cX9_layRows 21 = .ok (.iload_n 3, 1) := by decide +kernel
theorem dX9_layRows_22 : decode cX9_layRows 22 = .ok (.ishr, 1) := by decide +kernel
theorem dX9_layRows_23 : decode cX9_layRows 23 = .ok (.iconst 1, 1) := by decide +kernel
theorem dX9_layRows_24 : decode cX9_layRows 24 = .ok (.iand, 1) := by decide +kernel
theorem dX9_layRows_25 : decode cX9_layRows 25 = .ok (.iconst 1, 1) := by decide +kernel
theorem dX9_layRows_26 : decode cX9_layRows 26 = .ok (.if_icmp .ne 22, 3) := by decide +kernel
theorem dX9_layRows_29 : decode cX9_layRows 29 = .ok (.iload_n 2, 1) := by decide +kernel
theorem dX9_layRows_30 : decode cX9_layRows 30 = .ok (.ifCond .eq 13, 3) := by decide +kernel
theorem dX9_layRows_33 : decode cX9_layRows 33 = .ok (.aload_n 0, 1) := by decide +kernel
theorem dX9_layRows_34 : decode cX9_layRows 34 = .ok (.iload_n 3, 1) := by decide +kernel
theorem dX9_layRows_35 : decode cX9_layRows 35 = .ok (.bipush 8, 2) := by decide +kernel
theorem dX9_layRows_37 : decode cX9_layRows 37 = .ok (.invokevirtual 80, 3) := by decide +kernel
theorem dX9_layRows_40 : decode cX9_layRows 40 = .ok (.ifCond .ne 8, 3) := by decide +kernel
theorem dX9_layRows_43 : decode cX9_layRows 43 = .ok (.aload_n 0, 1) := by decide +kernel
theorem dX9_layRows_44 : decode cX9_layRows 44 = .ok (.iload_n 3, 1) := by decide +kernel
theorem dX9_layRows_45 : decode cX9_layRows 45 = .ok (.invokevirtual 117, 3) := by decide +kernel
theorem dX9_layRows_48 : decode cX9_layRows 48 = .ok (.iinc 3 1, 3) := by decide +kernel
theorem dX9_layRows_51 : decode cX9_layRows 51 = .ok (.goto (-45), 3) := by decide +kernel
theorem dX9_layRows_54 : decode cX9_layRows 54 = .ok (.return_, 1) := by decide +kernel
set_option maxRecDepth 20000 in
theorem ggX9_swap_X9_turnAll : GoodIn wsX9_swap wsX9_turnAll := goodIn_r _ [11, 4, 2, 3, 1, 12, 13, 14, 15, 16, 17, 18, 19, 20, 21, 22, 23, 24, 25, 26, 27, 28, 29, 30, 31, 32, 33, 34, 35, 36, 37, 38, 39, 40, 41, 42, 43, 44, 45, 46, 47] (by decide +kernel) (by decide +kernel)
set_option maxRecDepth 20000 in
theorem gX9_swap_X9_turnAll : GoodIn wsX9_swap (wsV RX9 121 RX9 yX9_turnAll wsX9_turnAll) := goodIn_app (goodIn_of _ (by decide +kernel)) ggX9_swap_X9_turnAll
theorem dX9_swap_0 : decode cX9_swap 0 = .ok (.aload_n 0, 1) := by decide +kernel
theorem dX9_swap_1 : decode cX9_swap 1 = .ok (.getfield 35, 3) := by decide +kernel
theorem dX9_swap_4 : decode cX9_swap 4 = .ok (.bipush 22, 2) := by decide +kernel
theorem dX9_swap_6 : decode cX9_swap 6 = .ok (.iload_n 1, 1) := by decide +kernel
theorem dX9_swap_7 : decode cX9_swap 7 = .ok (.imul, 1) := by decide +kernel
theorem dX9_swap_8 : decode cX9_swap 8 = .ok (.iload_n 2, 1) := by decide +kernel
theorem dX9_swap_9 : decode cX9_swap 9 = .ok (.iadd, 1) := by decide +kernel
theorem dX9_swap_10 : decode cX9_swap 10 = .ok (.laload, 1) := by decide +kernel
theorem dX9_swap_11 : decode cX9_swap 11 = .ok (.lstore_n 3, 1) := by decide +kernel
theorem dX9_swap_12 : decode cX9_swap 12 = .ok (.iconst 0, 1) := by decide +kernel
theorem dX9_swap_13 : decode cX9_swap 13 = .ok (.istore 5, 2) := by decide +kernel
theorem dX9_swap_15 : decode cX9_swap 15 = .ok (.iload 5, 2) := by decide +kernel
theorem dX9_swap_17 : decode cX9_swap 17 = .ok (.aload_n 0, 1) := by decide +kernel
theorem dX9_swap_18 : decode cX9_swap 18 = .ok (.getfield 84, 3) := by decide +kernel
theorem dX9_swap_21 : decode cX9_swap 21 = .ok (.if_icmp .gt 102, 3) := by decide +kernel
theorem dX9_swap_24 : decode cX9_swap 24 = .ok (.aload_n 0, 1) := by decide +kernel
theorem dX9_swap_25 : decode cX9_swap 25 = .ok (.getfield 35, 3) := by decide +kernel
theorem dX9_swap_28 : decode cX9_swap 28 = .ok (.bipush 22, 2) := by decide +kernel
theorem dX9_swap_30 : decode cX9_swap 30 = .ok (.iload 5, 2) := by decide +kernel
theorem dX9_swap_32 : decode cX9_swap 32 = .ok (.imul, 1) := by decide +kernel
theorem dX9_swap_33 : decode cX9_swap 33 = .ok (.iload_n 2, 1) := by decide +kernel
theorem dX9_swap_34 : decode cX9_swap 34 = .ok (.iadd, 1) := by decide +kernel
theorem dX9_swap_35 : decode cX9_swap 35 = .ok (.laload, 1) := by decide +kernel
theorem dX9_swap_36 : decode cX9_swap 36 = .ok (.lstore 6, 2) := by decide +kernel
theorem dX9_swap_38 : decode cX9_swap 38 = .ok (.iconst 0, 1) := by decide +kernel
theorem dX9_swap_39 : decode cX9_swap 39 = .ok (.istore 8, 2) := by decide +kernel
theorem dX9_swap_41 : decode cX9_swap 41 = .ok (.iload 8, 2) := by decide +kernel
theorem dX9_swap_43 : decode cX9_swap 43 = .ok (.aload_n 0, 1) := by decide +kernel
theorem dX9_swap_44 : decode cX9_swap 44 = .ok (.getfield 88, 3) := by decide +kernel
theorem dX9_swap_47 : decode cX9_swap 47 = .ok (.if_icmp .gt 70, 3) := by decide +kernel
theorem dX9_swap_50 : decode cX9_swap 50 = .ok (.iload 5, 2) := by decide +kernel
theorem dX9_swap_52 : decode cX9_swap 52 = .ok (.iload_n 1, 1) := by decide +kernel
theorem dX9_swap_53 : decode cX9_swap 53 = .ok (.if_icmp .eq 64, 3) := by decide +kernel
theorem dX9_swap_56 : decode cX9_swap 56 = .ok (.iload 8, 2) := by decide +kernel
theorem dX9_swap_58 : decode cX9_swap 58 = .ok (.iload_n 2, 1) := by decide +kernel
theorem dX9_swap_59 : decode cX9_swap 59 = .ok (.if_icmp .eq 52, 3) := by decide +kernel
theorem dX9_swap_62 : decode cX9_swap 62 = .ok (.aload_n 0, 1) := by decide +kernel
theorem dX9_swap_63 : decode cX9_swap 63 = .ok (.getfield 35, 3) := by decide +kernel
theorem dX9_swap_66 : decode cX9_swap 66 = .ok (.bipush 22, 2) := by decide +kernel
theorem dX9_swap_68 : decode cX9_swap 68 = .ok (.iload 5, 2) := by decide +kernel
theorem dX9_swap_70 : decode cX9_swap 70 = .ok (.imul, 1) := by decide +kernel
theorem dX9_swap_71 : decode cX9_swap 71 = .ok (.iload 8, 2) := by decide +kernel
theorem dX9_swap_73 : decode cX9_swap 73 = .ok (.iadd, 1) := by decide +kernel
theorem dX9_swap_74 : decode cX9_swap 74 = .ok (.aload_n 0, 1) := by decide +kernel
theorem dX9_swap_75 : decode cX9_swap 75 = .ok (.getfield 35, 3) := by decide +kernel
theorem dX9_swap_78 : decode cX9_swap 78 = .ok (.bipush 22, 2) := by decide +kernel
theorem dX9_swap_80 : decode cX9_swap 80 = .ok (.iload 5, 2) := by decide +kernel
theorem dX9_swap_82 : decode cX9_swap 82 = .ok (.imul, 1) := by decide +kernel
theorem dX9_swap_83 : decode cX9_swap 83 = .ok (.iload 8, 2) := by decide +kernel
theorem dX9_swap_85 : decode cX9_swap 85 = .ok (.iadd, 1) := by decide +kernel
theorem dX9_swap_86 : decode cX9_swap 86 = .ok (.laload, 1) := by decide +kernel
theorem dX9_swap_87 : decode cX9_swap 87 = .ok (.lload_n 3, 1) := by decide +kernel
theorem dX9_swap_88 : decode cX9_swap 88 = .ok (.lmul, 1) := by decide +kernel
theorem dX9_swap_89 : decode cX9_swap 89 = .ok (.lload 6, 2) := by decide +kernel
theorem dX9_swap_91 : decode cX9_swap 91 = .ok (.aload_n 0, 1) := by decide +kernel
theorem dX9_swap_92 : decode cX9_swap 92 = .ok (.getfield 35, 3) := by decide +kernel
theorem dX9_swap_95 : decode cX9_swap 95 = .ok (.bipush 22, 2) := by decide +kernel
theorem dX9_swap_97 : decode cX9_swap 97 = .ok (.iload_n 1, 1) := by decide +kernel
theorem dX9_swap_98 : decode cX9_swap 98 = .ok (.imul, 1) := by decide +kernel
theorem dX9_swap_99 : decode cX9_swap 99 = .ok (.iload 8, 2) := by decide +kernel
theorem dX9_swap_101 : decode cX9_swap 101 = .ok (.iadd, 1) := by decide +kernel
theorem dX9_swap_102 : decode cX9_swap 102 = .ok (.laload, 1) := by decide +kernel
theorem dX9_swap_103 : decode cX9_swap 103 = .ok (.lmul, 1) := by decide +kernel
theorem dX9_swap_104 : decode cX9_swap 104 = .ok (.lsub, 1) := by decide +kernel
theorem dX9_swap_105 : decode cX9_swap 105 = .ok (.aload_n 0, 1) := by decide +kernel
theorem dX9_swap_106 : decode cX9_swap 106 = .ok (.getfield 91, 3) := by decide +kernel
theorem dX9_swap_109 : decode cX9_swap 109 = .ok (.ldiv, 1) := by decide +kernel
theorem dX9_swap_110 : decode cX9_swap 110 = .ok (.lastore, 1) := by decide +kernel
theorem dX9_swap_111 : decode cX9_swap 111 = .ok (.iinc 8 1, 3) := by decide +kernel
theorem dX9_swap_114 : decode cX9_swap 114 = .ok (.goto (-73), 3) := by decide +kernel
theorem dX9_swap_117 : decode cX9_swap 117 = .ok (.iinc 5 1, 3) := by decide +kernel
theorem dX9_swap_120 : decode cX9_swap 120 = .ok (.goto (-105), 3) := by decide +kernel
theorem dX9_swap_123 : decode cX9_swap 123 = .ok (.iconst 0, 1) := by decide +kernel
theorem dX9_swap_124 : decode cX9_swap 124 = .ok (.istore 5, 2) := by decide +kernel
theorem dX9_swap_126 : decode cX9_swap 126 = .ok (.iload 5, 2) := by decide +kernel
theorem dX9_swap_128 : decode cX9_swap 128 = .ok (.aload_n 0, 1) := by decide +kernel
theorem dX9_swap_129 : decode cX9_swap 129 = .ok (.getfield 88, 3) := by decide +kernel
theorem dX9_swap_132 : decode cX9_swap 132 = .ok (.if_icmp .gt 47, 3) := by decide +kernel
theorem dX9_swap_135 : decode cX9_swap 135 = .ok (.aload_n 0, 1) := by decide +kernel
theorem dX9_swap_136 : decode cX9_swap 136 = .ok (.getfield 35, 3) := by decide +kernel
theorem dX9_swap_139 : decode cX9_swap 139 = .ok (.bipush 22, 2) := by decide +kernel
theorem dX9_swap_141 : decode cX9_swap 141 = .ok (.iload_n 1, 1) := by decide +kernel
theorem dX9_swap_142 : decode cX9_swap 142 = .ok (.imul, 1) := by decide +kernel
theorem dX9_swap_143 : decode cX9_swap 143 = .ok (.iload 5, 2) := by decide +kernel
theorem dX9_swap_145 : decode cX9_swap 145 = .ok (.iadd, 1) := by decide +kernel
theorem dX9_swap_146 : decode cX9_swap 146 = .ok (.iload 5, 2) := by decide +kernel
theorem dX9_swap_148 : decode cX9_swap 148 = .ok (.iload_n 2, 1) := by decide +kernel
theorem dX9_swap_149 : decode cX9_swap 149 = .ok (.if_icmp .ne 10, 3) := by decide +kernel
theorem dX9_swap_152 : decode cX9_swap 152 = .ok (.aload_n 0, 1) := by decide +kernel
theorem dX9_swap_153 : decode cX9_swap 153 = .ok (.getfield 91, 3) := by decide +kernel
theorem dX9_swap_156 : decode cX9_swap 156 = .ok (.goto 16, 3) := by decide +kernel
theorem dX9_swap_159 : decode cX9_swap 159 = .ok (.aload_n 0, 1) := by decide +kernel
theorem dX9_swap_160 : decode cX9_swap 160 = .ok (.getfield 35, 3) := by decide +kernel
theorem dX9_swap_163 : decode cX9_swap 163 = .ok (.bipush 22, 2) := by decide +kernel
theorem dX9_swap_165 : decode cX9_swap 165 = .ok (.iload_n 1, 1) := by decide +kernel
theorem dX9_swap_166 : decode cX9_swap 166 = .ok (.imul, 1) := by decide +kernel
theorem dX9_swap_167 : decode cX9_swap 167 = .ok (.iload 5, 2) := by decide +kernel
theorem dX9_swap_169 : decode cX9_swap 169 = .ok (.iadd, 1) := by decide +kernel
theorem dX9_swap_170 : decode cX9_swap 170 = .ok (.laload, 1) := by decide +kernel
theorem dX9_swap_171 : decode cX9_swap 171 = .ok (.lneg, 1) := by decide +kernel
theorem dX9_swap_172 : decode cX9_swap 172 = .ok (.lastore, 1) := by decide +kernel
theorem dX9_swap_173 : decode cX9_swap 173 = .ok (.iinc 5 1, 3) := by decide +kernel
theorem dX9_swap_176 : decode cX9_swap 176 = .ok (.goto (-50), 3) := by decide +kernel
theorem dX9_swap_179 : decode cX9_swap 179 = .ok (.aload_n 0, 1) := by decide +kernel
theorem dX9_swap_180 : decode cX9_swap 180 = .ok (.lload_n 3, 1) := by decide +kernel
theorem dX9_swap_181 : decode cX9_swap 181 = .ok (.putfield 91, 3) := by decide +kernel
theorem dX9_swap_184 : decode cX9_swap 184 = .ok (.aload_n 0, 1) := by decide +kernel
theorem dX9_swap_185 : decode cX9_swap 185 = .ok (.getfield 91, 3) := by decide +kernel
theorem dX9_swap_188 : decode cX9_swap 188 = .ok (.lconst 0, 1) := by decide +kernel
theorem dX9_swap_189 : decode cX9_swap 189 = .ok (.lcmp, 1) := by decide +kernel
theorem dX9_swap_190 : decode cX9_swap 190 = .ok (.ifCond .ge 7, 3) := by decide +kernel
theorem dX9_swap_193 : decode cX9_swap 193 = .ok (.aload_n 0, 1) := by decide +kernel
theorem dX9_swap_194 : decode cX9_swap 194 = .ok (.invokevirtual 121, 3) := by decide +kernel
theorem dX9_swap_197 : decode cX9_swap 197 = .ok (.aload_n 0, 1) := by decide +kernel
theorem dX9_swap_198 : decode cX9_swap 198 = .ok (.getfield 39, 3) := by decide +kernel
theorem dX9_swap_201 : decode cX9_swap 201 = .ok (.iload_n 1, 1) := by decide +kernel
theorem dX9_swap_202 : decode cX9_swap 202 = .ok (.iaload, 1) := by decide +kernel
theorem dX9_swap_203 : decode cX9_swap 203 = .ok (.istore 5, 2) := by decide +kernel
theorem dX9_swap_205 : decode cX9_swap 205 = .ok (.aload_n 0, 1) := by decide +kernel
theorem dX9_swap_206 : decode cX9_swap 206 = .ok (.getfield 39, 3) := by decide +kernel
theorem dX9_swap_209 : decode cX9_swap 209 = .ok (.iload_n 1, 1) := by decide +kernel
theorem dX9_swap_210 : decode cX9_swap 210 = .ok (.aload_n 0, 1) := by decide +kernel
theorem dX9_swap_211 : decode cX9_swap 211 = .ok (.getfield 42, 3) := by decide +kernel
theorem dX9_swap_214 : decode cX9_swap 214 = .ok (.iload_n 2, 1) := by decide +kernel
theorem dX9_swap_215 : decode cX9_swap 215 = .ok (.iaload, 1) := by decide +kernel
theorem dX9_swap_216 : decode cX9_swap 216 = .ok (.iastore, 1) := by decide +kernel
theorem dX9_swap_217 : decode cX9_swap 217 = .ok (.aload_n 0, 1) := by decide +kernel
theorem dX9_swap_218 : decode cX9_swap 218 = .ok (.getfield 42, 3) := by decide +kernel
theorem dX9_swap_221 : decode cX9_swap 221 = .ok (.iload_n 2, 1) := by decide +kernel
theorem dX9_swap_222 : decode cX9_swap 222 = .ok (.iload 5, 2) := by decide +kernel
theorem dX9_swap_224 : decode cX9_swap 224 = .ok (.iastore, 1) := by decide +kernel
theorem dX9_swap_225 : decode cX9_swap 225 = .ok (.return_, 1) := by decide +kernel
theorem dX9_turnAll_0 : decode cX9_turnAll 0 = .ok (.aload_n 0, 1) := by decide +kernel
theorem dX9_turnAll_1 : decode cX9_turnAll 1 = .ok (.aload_n 0, 1) := by decide +kernel
theorem dX9_turnAll_2 : decode cX9_turnAll 2 = .ok (.getfield 91, 3) := by decide +kernel
theorem dX9_turnAll_5 : decode cX9_turnAll 5 = .ok (.lneg, 1) := by decide +kernel
theorem dX9_turnAll_6 : decode cX9_turnAll 6 = .ok (.putfield 91, 3) := by decide +kernel
theorem dX9_turnAll_9 : decode cX9_turnAll 9 = .ok (.iconst 0, 1) := by decide +kernel
theorem dX9_turnAll_10 : decode cX9_turnAll 10 = .ok (.istore_n 1, 1) := by decide +kernel
theorem dX9_turnAll_11 : decode cX9_turnAll 11 = .ok (.iload_n 1, 1) := by decide +kernel
theorem dX9_turnAll_12 : decode cX9_turnAll 12 = .ok (.aload_n 0, 1) := by decide +kernel
theorem dX9_turnAll_13 : decode cX9_turnAll 13 = .ok (.getfield 84, 3) := by decide +kernel
theorem dX9_turnAll_16 : decode cX9_turnAll 16 = .ok (.if_icmp .gt 48, 3) := by decide +kernel
theorem dX9_turnAll_19 : decode cX9_turnAll 19 = .ok (.iconst 0, 1) := by decide +kernel
theorem dX9_turnAll_20 : decode cX9_turnAll 20 = .ok (.istore_n 2, 1) := by decide +kernel
theorem dX9_turnAll_21 : decode cX9_turnAll 21 = .ok (.iload_n 2, 1) := by decide +kernel
theorem dX9_turnAll_22 : decode cX9_turnAll 22 = .ok (.aload_n 0, 1) := by decide +kernel
theorem dX9_turnAll_23 : decode cX9_turnAll 23 = .ok (.getfield 88, 3) := by decide +kernel
theorem dX9_turnAll_26 : decode cX9_turnAll 26 = .ok (.if_icmp .gt 32, 3) := by decide +kernel
theorem dX9_turnAll_29 : decode cX9_turnAll 29 = .ok (.aload_n 0, 1) := by decide +kernel
theorem dX9_turnAll_30 : decode cX9_turnAll 30 = .ok (.getfield 35, 3) := by decide +kernel
theorem dX9_turnAll_33 : decode cX9_turnAll 33 = .ok (.bipush 22, 2) := by decide +kernel
theorem dX9_turnAll_35 : decode cX9_turnAll 35 = .ok (.iload_n 1, 1) := by decide +kernel
theorem dX9_turnAll_36 : decode cX9_turnAll 36 = .ok (.imul, 1) := by decide +kernel
theorem dX9_turnAll_37 : decode cX9_turnAll 37 = .ok (.iload_n 2, 1) := by decide +kernel
theorem dX9_turnAll_38 : decode cX9_turnAll 38 = .ok (.iadd, 1) := by decide +kernel
theorem dX9_turnAll_39 : decode cX9_turnAll 39 = .ok (.aload_n 0, 1) := by decide +kernel
theorem dX9_turnAll_40 : decode cX9_turnAll 40 = .ok (.getfield 35, 3) := by decide +kernel
theorem dX9_turnAll_43 : decode cX9_turnAll 43 = .ok (.bipush 22, 2) := by decide +kernel
theorem dX9_turnAll_45 : decode cX9_turnAll 45 = .ok (.iload_n 1, 1) := by decide +kernel
theorem dX9_turnAll_46 : decode cX9_turnAll 46 = .ok (.imul, 1) := by decide +kernel
theorem dX9_turnAll_47 : decode cX9_turnAll 47 = .ok (.iload_n 2, 1) := by decide +kernel
theorem dX9_turnAll_48 : decode cX9_turnAll 48 = .ok (.iadd, 1) := by decide +kernel
theorem dX9_turnAll_49 : decode cX9_turnAll 49 = .ok (.laload, 1) := by decide +kernel
theorem dX9_turnAll_50 : decode cX9_turnAll 50 = .ok (.lneg, 1) := by decide +kernel
theorem dX9_turnAll_51 : decode cX9_turnAll 51 = .ok (.lastore, 1) := by decide +kernel
theorem dX9_turnAll_52 : decode cX9_turnAll 52 = .ok (.iinc 2 1, 3) := by decide +kernel
theorem dX9_turnAll_55 : decode cX9_turnAll 55 = .ok (.goto (-34), 3) := by decide +kernel
theorem dX9_turnAll_58 : decode cX9_turnAll 58 = .ok (.iinc 1 1, 3) := by decide +kernel
theorem dX9_turnAll_61 : decode cX9_turnAll 61 = .ok (.goto (-50), 3) := by decide +kernel
theorem dX9_turnAll_64 : decode cX9_turnAll 64 = .ok (.return_, 1) := by decide +kernel
theorem dX9_clearCost_0 : decode cX9_clearCost 0 = .ok (.iconst 0, 1) := by decide +kernel
theorem dX9_clearCost_1 : decode cX9_clearCost 1 = .ok (.istore_n 1, 1) := by decide +kernel
theorem dX9_clearCost_2 : decode cX9_clearCost 2 = .ok (.iload_n 1, 1) := by decide +kernel
theorem dX9_clearCost_3 : decode cX9_clearCost 3 = .ok (.aload_n 0, 1) := by decide +kernel
theorem dX9_clearCost_4 : decode cX9_clearCost 4 = .ok (.getfield 88, 3) := by decide +kernel
theorem dX9_clearCost_7 : decode cX9_clearCost 7 = .ok (.if_icmp .gt 24, 3) := by decide +kernel
theorem dX9_clearCost_10 : decode cX9_clearCost 10 = .ok (.aload_n 0, 1) := by decide +kernel
theorem dX9_clearCost_11 : decode cX9_clearCost 11 = .ok (.getfield 35, 3) := by decide +kernel
theorem dX9_clearCost_14 : decode cX9_clearCost 14 = .ok (.bipush 22, 2) := by decide +kernel
theorem dX9_clearCost_16 : decode cX9_clearCost 16 = .ok (.aload_n 0, 1) := by decide +kernel
theorem dX9_clearCost_17 : decode cX9_clearCost 17 = .ok (.getfield 84, 3) := by decide +kernel
theorem dX9_clearCost_20 : decode cX9_clearCost 20 = .ok (.imul, 1) := by decide +kernel
theorem dX9_clearCost_21 : decode cX9_clearCost 21 = .ok (.iload_n 1, 1) := by decide +kernel
theorem dX9_clearCost_22 : decode cX9_clearCost 22 = .ok (.iadd, 1) := by decide +kernel
theorem dX9_clearCost_23 : decode cX9_clearCost 23 = .ok (.lconst 0, 1) := by decide +kernel
theorem dX9_clearCost_24 : decode cX9_clearCost 24 = .ok (.lastore, 1) := by decide +kernel
theorem dX9_clearCost_25 : decode cX9_clearCost 25 = .ok (.iinc 1 1, 3) := by decide +kernel
theorem dX9_clearCost_28 : decode cX9_clearCost 28 = .ok (.goto (-26), 3) := by decide +kernel
theorem dX9_clearCost_31 : decode cX9_clearCost 31 = .ok (.return_, 1) := by decide +kernel
theorem dX9_worstRow_0 : decode cX9_worstRow 0 = .ok (.bipush (-6), 2) := by decide +kernel
theorem dX9_worstRow_2 : decode cX9_worstRow 2 = .ok (.istore_n 1, 1) := by decide +kernel
theorem dX9_worstRow_3 : decode cX9_worstRow 3 = .ok (.iconst 0, 1) := by decide +kernel
theorem dX9_worstRow_4 : decode cX9_worstRow 4 = .ok (.istore_n 2, 1) := by decide +kernel
theorem dX9_worstRow_5 : decode cX9_worstRow 5 = .ok (.iload_n 2, 1) := by decide +kernel
theorem dX9_worstRow_6 : decode cX9_worstRow 6 = .ok (.aload_n 0, 1) := by decide +kernel
theorem dX9_worstRow_7 : decode cX9_worstRow 7 = .ok (.getfield 84, 3) := by decide +kernel
theorem dX9_worstRow_10 : decode cX9_worstRow 10 = .ok (.if_icmp .ge 58, 3) := by decide +kernel
theorem dX9_worstRow_13 : decode cX9_worstRow 13 = .ok (.aload_n 0, 1) := by decide +kernel
theorem dX9_worstRow_14 : decode cX9_worstRow 14 = .ok (.getfield 35, 3) := by decide +kernel
theorem dX9_worstRow_17 : decode cX9_worstRow 17 = .ok (.bipush 22, 2) := by decide +kernel
theorem dX9_worstRow_19 : decode cX9_worstRow 19 = .ok (.iload_n 2, 1) := by decide +kernel
theorem dX9_worstRow_20 : decode cX9_worstRow 20 = .ok (.imul, 1) := by decide +kernel
theorem dX9_worstRow_21 : decode cX9_worstRow 21 = .ok (.laload, 1) := by decide +kernel
theorem dX9_worstRow_22 : decode cX9_worstRow 22 = .ok (.lconst 0, 1) := by decide +kernel
theorem dX9_worstRow_23 : decode cX9_worstRow 23 = .ok (.lcmp, 1) := by decide +kernel
theorem dX9_worstRow_24 : decode cX9_worstRow 24 = .ok (.ifCond .ge 26, 3) := by decide +kernel
theorem dX9_worstRow_27 : decode cX9_worstRow 27 = .ok (.iload_n 1, 1) := by decide +kernel
theorem dX9_worstRow_28 : decode cX9_worstRow 28 = .ok (.ifCond .lt 18, 3) := by decide +kernel
theorem dX9_worstRow_31 : decode cX9_worstRow 31 = .ok (.aload_n 0, 1) := by decide +kernel
theorem dX9_worstRow_32 : decode cX9_worstRow 32 = .ok (.getfield 39, 3) := by decide +kernel
theorem dX9_worstRow_35 : decode cX9_worstRow 35 = .ok (.iload_n 2, 1) := by decide +kernel
theorem dX9_worstRow_36 : decode cX9_worstRow 36 = .ok (.iaload, 1) := by decide +kernel
theorem dX9_worstRow_37 : decode cX9_worstRow 37 = .ok (.aload_n 0, 1) := by decide +kernel
theorem dX9_worstRow_38 : decode cX9_worstRow 38 = .ok (.getfield 39, 3) := by decide +kernel
theorem dX9_worstRow_41 : decode cX9_worstRow 41 = .ok (.iload_n 1, 1) := by decide +kernel
theorem dX9_worstRow_42 : decode cX9_worstRow 42 = .ok (.iaload, 1) := by decide +kernel
theorem dX9_worstRow_43 : decode cX9_worstRow 43 = .ok (.if_icmp .ge 7, 3) := by decide +kernel
theorem dX9_worstRow_46 : decode cX9_worstRow 46 = .ok (.iconst 1, 1) := by decide +kernel
theorem dX9_worstRow_47 : decode cX9_worstRow 47 = .ok (.goto 4, 3) := by decide +kernel
theorem dX9_worstRow_50 : decode cX9_worstRow 50 = .ok (.iconst 0, 1) := by decide +kernel
theorem dX9_worstRow_51 : decode cX9_worstRow 51 = .ok (.istore_n 3, 1) := by decide +kernel
theorem dX9_worstRow_52 : decode cX9_worstRow 52 = .ok (.iload_n 3, 1) := by decide +kernel
theorem dX9_worstRow_53 : decode cX9_worstRow 53 = .ok (.ifCond .eq 7, 3) := by decide +kernel
theorem dX9_worstRow_56 : decode cX9_worstRow 56 = .ok (.iload_n 2, 1) := by decide +kernel
theorem dX9_worstRow_57 : decode cX9_worstRow 57 = .ok (.goto 4, 3) := by decide +kernel
theorem dX9_worstRow_60 : decode cX9_worstRow 60 = .ok (.iload_n 1, 1) := by decide +kernel
theorem dX9_worstRow_61 : decode cX9_worstRow 61 = .ok (.istore_n 1, 1) := by decide +kernel
theorem dX9_worstRow_62 : decode cX9_worstRow 62 = .ok (.iinc 2 1, 3) := by decide +kernel
theorem dX9_worstRow_65 : decode cX9_worstRow 65 = .ok (.goto (-60), 3) := by decide +kernel
theorem dX9_worstRow_68 : decode cX9_worstRow 68 = .ok (.iload_n 1, 1) := by decide +kernel
theorem dX9_worstRow_69 : decode cX9_worstRow 69 = .ok (.ireturn, 1) := by decide +kernel
theorem dX9_helper_0 : decode cX9_helper 0 = .ok (.bipush (-6), 2) := by decide +kernel
theorem dX9_helper_2 : decode cX9_helper 2 = .ok (.istore_n 2, 1) := by decide +kernel
theorem dX9_helper_3 : decode cX9_helper 3 = .ok (.iconst 1, 1) := by decide +kernel
theorem dX9_helper_4 : decode cX9_helper 4 = .ok (.istore_n 3, 1) := by decide +kernel
theorem dX9_helper_5 : decode cX9_helper 5 = .ok (.iload_n 3, 1) := by decide +kernel
theorem dX9_helper_6 : decode cX9_helper 6 = .ok (.aload_n 0, 1) := by decide +kernel
theorem dX9_helper_7 : decode cX9_helper 7 = .ok (.getfield 88, 3) := by decide +kernel
theorem dX9_helper_10 : decode cX9_helper 10 = .ok (.if_icmp .gt 62, 3) := by decide +kernel
theorem dX9_helper_13 : decode cX9_helper 13 = .ok (.aload_n 0, 1) := by decide +kernel
theorem dX9_helper_14 : decode cX9_helper 14 = .ok (.getfield 35, 3) := by decide +kernel
theorem dX9_helper_17 : decode cX9_helper 17 = .ok (.bipush 22, 2) := by decide +kernel
theorem dX9_helper_19 : decode cX9_helper 19 = .ok (.iload_n 1, 1) := by decide +kernel
theorem dX9_helper_20 : decode cX9_helper 20 = .ok (.imul, 1) := by decide +kernel
theorem dX9_helper_21 : decode cX9_helper 21 = .ok (.iload_n 3, 1) := by decide +kernel
theorem dX9_helper_22 : decode cX9_helper 22 = .ok (.iadd, 1) := by decide +kernel
theorem dX9_helper_23 : decode cX9_helper 23 = .ok (.laload, 1) := by decide +kernel
theorem dX9_helper_24 : decode cX9_helper 24 = .ok (.lconst 0, 1) := by decide +kernel
theorem dX9_helper_25 : decode cX9_helper 25 = .ok (.lcmp, 1) := by decide +kernel
theorem dX9_helper_26 : decode cX9_helper 26 = .ok (.ifCond .le 26, 3) := by decide +kernel
theorem dX9_helper_29 : decode cX9_helper 29 = .ok (.iload_n 2, 1) := by decide +kernel
theorem dX9_helper_30 : decode cX9_helper 30 = .ok (.ifCond .lt 18, 3) := by decide +kernel
theorem dX9_helper_33 : decode cX9_helper 33 = .ok (.aload_n 0, 1) := by decide +kernel
theorem dX9_helper_34 : decode cX9_helper 34 = .ok (.getfield 42, 3) := by decide +kernel
theorem dX9_helper_37 : decode cX9_helper 37 = .ok (.iload_n 3, 1) := by decide +kernel
theorem dX9_helper_38 : decode cX9_helper 38 = .ok (.iaload, 1) := by decide +kernel
theorem dX9_helper_39 : decode cX9_helper 39 = .ok (.aload_n 0, 1) := by decide +kernel
theorem dX9_helper_40 : decode cX9_helper 40 = .ok (.getfield 42, 3) := by decide +kernel
theorem dX9_helper_43 : decode cX9_helper 43 = .ok (.iload_n 2, 1) := by decide +kernel
theorem dX9_helper_44 : decode cX9_helper 44 = .ok (.iaload, 1) := by decide +kernel
theorem dX9_helper_45 : decode cX9_helper 45 = .ok (.if_icmp .ge 7, 3) := by decide +kernel
theorem dX9_helper_48 : decode cX9_helper 48 = .ok (.iconst 1, 1) := by decide +kernel
theorem dX9_helper_49 : decode cX9_helper 49 = .ok (.goto 4, 3) := by decide +kernel
theorem dX9_helper_52 : decode cX9_helper 52 = .ok (.iconst 0, 1) := by decide +kernel
theorem dX9_helper_53 : decode cX9_helper 53 = .ok (.istore 4, 2) := by decide +kernel
theorem dX9_helper_55 : decode cX9_helper 55 = .ok (.iload 4, 2) := by decide +kernel
theorem dX9_helper_57 : decode cX9_helper 57 = .ok (.ifCond .eq 7, 3) := by decide +kernel
theorem dX9_helper_60 : decode cX9_helper 60 = .ok (.iload_n 3, 1) := by decide +kernel
theorem dX9_helper_61 : decode cX9_helper 61 = .ok (.goto 4, 3) := by decide +kernel
theorem dX9_helper_64 : decode cX9_helper 64 = .ok (.iload_n 2, 1) := by decide +kernel
theorem dX9_helper_65 : decode cX9_helper 65 = .ok (.istore_n 2, 1) := by decide +kernel
theorem dX9_helper_66 : decode cX9_helper 66 = .ok (.iinc 3 1, 3) := by decide +kernel
theorem dX9_helper_69 : decode cX9_helper 69 = .ok (.goto (-64), 3) := by decide +kernel
theorem dX9_helper_72 : decode cX9_helper 72 = .ok (.iload_n 2, 1) := by decide +kernel
theorem dX9_helper_73 : decode cX9_helper 73 = .ok (.ireturn, 1) := by decide +kernel
set_option maxRecDepth 20000 in
theorem ggX9_canHold_X9_clearCost : GoodIn wsX9_canHold wsX9_clearCost := goodIn_r _ [5, 6, 7, 8, 28, 29, 30, 31, 32, 33, 34, 35, 36, 37, 38, 39, 40, 41, 42, 43, 44, 45, 46, 47, 48, 49, 50, 51, 52, 53, 54, 55, 56, 57, 58, 59, 60, 61, 62, 63] (by decide +kernel) (by decide +kernel)
set_option maxRecDepth 20000 in
theorem gX9_canHold_X9_clearCost : GoodIn wsX9_canHold (wsV RX9 124 RX9 yX9_clearCost wsX9_clearCost) := goodIn_app (goodIn_of _ (by decide +kernel)) ggX9_canHold_X9_clearCost
set_option maxRecDepth 20000 in
theorem ggX9_canHold_X9_worstRow : GoodIn wsX9_canHold wsX9_worstRow := goodIn_r _ [12, 8, 7, 13, 28, 29, 30, 31, 32, 33, 34, 35, 36, 37, 38, 39, 40, 41, 42, 43, 44, 45, 46, 47, 48, 49, 50, 51, 52, 53, 54, 55, 56, 57, 58, 59, 60, 61, 62, 63] (by decide +kernel) (by decide +kernel)
set_option maxRecDepth 20000 in
theorem gX9_canHold_X9_worstRow : GoodIn wsX9_canHold (wsV RX9 127 RX9 yX9_worstRow wsX9_worstRow) := goodIn_app (goodIn_of _ (by decide +kernel)) ggX9_canHold_X9_worstRow
set_option maxRecDepth 20000 in
theorem ggX9_canHold_X9_helper : GoodIn wsX9_canHold wsX9_helper := goodIn_r _ [17, 6, 7, 18, 28, 29, 30, 31, 32, 33, 34, 35, 36, 37, 38, 39, 40, 41, 42, 43, 44, 45, 46, 47, 48, 49, 50, 51, 52, 53, 54, 55, 56, 57, 58, 59, 60, 61, 62, 63] (by decide +kernel) (by decide +kernel)
set_option maxRecDepth 20000 in
theorem gX9_canHold_X9_helper : GoodIn wsX9_canHold (wsV RX9 131 RX9 yX9_helper wsX9_helper) := goodIn_app (goodIn_of _ (by decide +kernel)) ggX9_canHold_X9_helper
set_option maxRecDepth 20000 in
theorem ggX9_canHold_X9_swap : GoodIn wsX9_canHold wsX9_swap := goodIn_r _ [22, 7, 8, 6, 23, 13, 18, 24, 25, 26, 4, 27, 28, 29, 30, 31, 32, 33, 34, 35, 36, 37, 38, 39, 40, 41, 42, 43, 44, 45, 46, 47, 48, 49, 50, 51, 52, 53, 54, 55, 56, 57, 58, 59, 60, 61, 62, 63] (by decide +kernel) (by decide +kernel)
set_option maxRecDepth 20000 in
theorem gX9_canHold_X9_swap : GoodIn wsX9_canHold (wsV RX9 134 RX9 yX9_swap wsX9_swap) := goodIn_app (goodIn_of _ (by decide +kernel)) ggX9_canHold_X9_swap
theorem dX9_canHold_0 : decode cX9_canHold 0 = .ok (.aload_n 0, 1) := by decide +kernel
theorem dX9_canHold_1 : decode cX9_canHold 1 = .ok (.invokevirtual 124, 3) := by decide +kernel
theorem dX9_canHold_4 : decode cX9_canHold 4 = .ok (.aload_n 0, 1) := by decide +kernel
theorem dX9_canHold_5 : decode cX9_canHold 5 = .ok (.invokevirtual 127, 3) := by decide +kernel
theorem dX9_canHold_8 : decode cX9_canHold 8 = .ok (.istore_n 1, 1) := by decide +kernel
theorem dX9_canHold_9 : decode cX9_canHold 9 = .ok (.iload_n 1, 1) := by decide +kernel
theorem dX9_canHold_10 : decode cX9_canHold 10 = .ok (.ifCond .lt 29, 3) := by decide +kernel
theorem dX9_canHold_13 : decode cX9_canHold 13 = .ok (.aload_n 0, 1) := by decide +kernel
theorem dX9_canHold_14 : decode cX9_canHold 14 = .ok (.iload_n 1, 1) := by decide +kernel
theorem dX9_canHold_15 : decode cX9_canHold 15 = .ok (.invokevirtual 131, 3) := by decide +kernel
theorem dX9_canHold_18 : decode cX9_canHold 18 = .ok (.istore_n 2, 1) := by decide +kernel
theorem dX9_canHold_19 : decode cX9_canHold 19 = .ok (.iload_n 2, 1) := by decide +kernel
theorem dX9_canHold_20 : decode cX9_canHold 20 = .ok (.ifCond .ge 5, 3) := by decide +kernel
theorem dX9_canHold_23 : decode cX9_canHold 23 = .ok (.iconst 0, 1) := by decide +kernel
theorem dX9_canHold_24 : decode cX9_canHold 24 = .ok (.ireturn, 1) := by decide +kernel
theorem dX9_canHold_25 : decode cX9_canHold 25 = .ok (.aload_n 0, 1) := by decide +kernel
theorem dX9_canHold_26 : decode cX9_canHold 26 = .ok (.iload_n 1, 1) := by decide +kernel
theorem dX9_canHold_27 : decode cX9_canHold 27 = .ok (.iload_n 2, 1) := by decide +kernel
theorem dX9_canHold_28 : decode cX9_canHold 28 = .ok (.invokevirtual 134, 3) := by decide +kernel
theorem dX9_canHold_31 : decode cX9_canHold 31 = .ok (.aload_n 0, 1) := by decide +kernel
theorem dX9_canHold_32 : decode cX9_canHold 32 = .ok (.invokevirtual 127, 3) := by decide +kernel
theorem dX9_canHold_35 : decode cX9_canHold 35 = .ok (.istore_n 1, 1) := by decide +kernel
theorem dX9_canHold_36 : decode cX9_canHold 36 = .ok (.goto (-27), 3) := by decide +kernel
theorem dX9_canHold_39 : decode cX9_canHold 39 = .ok (.iconst 1, 1) := by decide +kernel
theorem dX9_canHold_40 : decode cX9_canHold 40 = .ok (.ireturn, 1) := by decide +kernel
theorem dX9_addCost_0 : decode cX9_addCost 0 = .ok (.iconst 0, 1) := by decide +kernel
theorem dX9_addCost_1 : decode cX9_addCost 1 = .ok (.istore 4, 2) := by decide +kernel
theorem dX9_addCost_3 : decode cX9_addCost 3 = .ok (.iload 4, 2) := by decide +kernel
theorem dX9_addCost_5 : decode cX9_addCost 5 = .ok (.aload_n 0, 1) := by decide +kernel
theorem dX9_addCost_6 : decode cX9_addCost 6 = .ok (.getfield 84, 3) := by decide +kernel
theorem dX9_addCost_9 : decode cX9_addCost 9 = .ok (.if_icmp .ge 71, 3) := by decide +kernel
theorem dX9_addCost_12 : decode cX9_addCost 12 = .ok (.iconst 0, 1) := by decide +kernel
theorem dX9_addCost_13 : decode cX9_addCost 13 = .ok (.istore 5, 2) := by decide +kernel
theorem dX9_addCost_15 : decode cX9_addCost 15 = .ok (.iload 5, 2) := by decide +kernel
theorem dX9_addCost_17 : decode cX9_addCost 17 = .ok (.aload_n 0, 1) := by decide +kernel
theorem dX9_addCost_18 : decode cX9_addCost 18 = .ok (.getfield 88, 3) := by decide +kernel
theorem dX9_addCost_21 : decode cX9_addCost 21 = .ok (.if_icmp .gt 53, 3) := by decide +kernel
theorem dX9_addCost_24 : decode cX9_addCost 24 = .ok (.aload_n 0, 1) := by decide +kernel
theorem dX9_addCost_25 : decode cX9_addCost 25 = .ok (.getfield 39, 3) := by decide +kernel
theorem dX9_addCost_28 : decode cX9_addCost 28 = .ok (.iload 4, 2) := by decide +kernel
theorem dX9_addCost_30 : decode cX9_addCost 30 = .ok (.iaload, 1) := by decide +kernel
theorem dX9_addCost_31 : decode cX9_addCost 31 = .ok (.iload_n 1, 1) := by decide +kernel
theorem dX9_addCost_32 : decode cX9_addCost 32 = .ok (.if_icmp .ne 42, 3) := by decide +kernel
theorem dX9_addCost_35 : decode cX9_addCost 35 = .ok (.aload_n 0, 1) := by decide +kernel
theorem dX9_addCost_36 : decode cX9_addCost 36 = .ok (.getfield 35, 3) := by decide +kernel
theorem dX9_addCost_39 : decode cX9_addCost 39 = .ok (.bipush 22, 2) := by decide +kernel
theorem dX9_addCost_41 : decode cX9_addCost 41 = .ok (.aload_n 0, 1) := by decide +kernel
theorem dX9_addCost_42 : decode cX9_addCost 42 = .ok (.getfield 84, 3) := by decide +kernel
theorem dX9_addCost_45 : decode cX9_addCost 45 = .ok (.imul, 1) := by decide +kernel
theorem dX9_addCost_46 : decode cX9_addCost 46 = .ok (.iload 5, 2) := by decide +kernel
theorem dX9_addCost_48 : decode cX9_addCost 48 = .ok (.iadd, 1) := by decide +kernel
theorem dX9_addCost_49 : decode cX9_addCost 49 = .ok (.dup2, 1) := by decide +kernel
theorem dX9_addCost_50 : decode cX9_addCost 50 = .ok (.laload, 1) := by decide +kernel
theorem dX9_addCost_51 : decode cX9_addCost 51 = .ok (.lload_n 2, 1) := by decide +kernel
theorem dX9_addCost_52 : decode cX9_addCost 52 = .ok (.aload_n 0, 1) := by decide +kernel
theorem dX9_addCost_53 : decode cX9_addCost 53 = .ok (.getfield 35, 3) := by decide +kernel
theorem dX9_addCost_56 : decode cX9_addCost 56 = .ok (.bipush 22, 2) := by decide +kernel
theorem dX9_addCost_58 : decode cX9_addCost 58 = .ok (.iload 4, 2) := by decide +kernel
theorem dX9_addCost_60 : decode cX9_addCost 60 = .ok (.imul, 1) := by decide +kernel
theorem dX9_addCost_61 : decode cX9_addCost 61 = .ok (.iload 5, 2) := by decide +kernel
theorem dX9_addCost_63 : decode cX9_addCost 63 = .ok (.iadd, 1) := by decide +kernel
theorem dX9_addCost_64 : decode cX9_addCost 64 = .ok (.laload, 1) := by decide +kernel
theorem dX9_addCost_65 : decode cX9_addCost 65 = .ok (.lmul, 1) := by decide +kernel
theorem dX9_addCost_66 : decode cX9_addCost 66 = .ok (.ladd, 1) := by decide +kernel
theorem dX9_addCost_67 : decode cX9_addCost 67 = .ok (.lastore, 1) := by decide +kernel
theorem dX9_addCost_68 : decode cX9_addCost 68 = .ok (.iinc 5 1, 3) := by decide +kernel
theorem dX9_addCost_71 : decode cX9_addCost 71 = .ok (.goto (-56), 3) := by decide +kernel
theorem dX9_addCost_74 : decode cX9_addCost 74 = .ok (.iinc 4 1, 3) := by decide +kernel
theorem dX9_addCost_77 : decode cX9_addCost 77 = .ok (.goto (-74), 3) := by decide +kernel
theorem dX9_addCost_80 : decode cX9_addCost 80 = .ok (.iconst 1, 1) := by decide +kernel
theorem dX9_addCost_81 : decode cX9_addCost 81 = .ok (.istore 4, 2) := by decide +kernel
theorem dX9_addCost_83 : decode cX9_addCost 83 = .ok (.iload 4, 2) := by decide +kernel
theorem dX9_addCost_85 : decode cX9_addCost 85 = .ok (.aload_n 0, 1) := by decide +kernel
theorem dX9_addCost_86 : decode cX9_addCost 86 = .ok (.getfield 88, 3) := by decide +kernel
theorem dX9_addCost_89 : decode cX9_addCost 89 = .ok (.if_icmp .gt 48, 3) := by decide +kernel
theorem dX9_addCost_92 : decode cX9_addCost 92 = .ok (.aload_n 0, 1) := by decide +kernel
theorem dX9_addCost_93 : decode cX9_addCost 93 = .ok (.getfield 35, 3) := by decide +kernel
theorem dX9_addCost_96 : decode cX9_addCost 96 = .ok (.bipush 22, 2) := by decide +kernel
theorem dX9_addCost_98 : decode cX9_addCost 98 = .ok (.aload_n 0, 1) := by decide +kernel
theorem dX9_addCost_99 : decode cX9_addCost 99 = .ok (.getfield 84, 3) := by decide +kernel
theorem dX9_addCost_102 : decode cX9_addCost 102 = .ok (.imul, 1) := by decide +kernel
theorem dX9_addCost_103 : decode cX9_addCost 103 = .ok (.iload 4, 2) := by decide +kernel
theorem dX9_addCost_105 : decode cX9_addCost 105 = .ok (.iadd, 1) := by decide +kernel
theorem dX9_addCost_106 : decode cX9_addCost 106 = .ok (.dup2, 1) := by decide +kernel
theorem dX9_addCost_107 : decode cX9_addCost 107 = .ok (.laload, 1) := by decide +kernel
theorem dX9_addCost_108 : decode cX9_addCost 108 = .ok (.aload_n 0, 1) := by decide +kernel
theorem dX9_addCost_109 : decode cX9_addCost 109 = .ok (.getfield 42, 3) := by decide +kernel
theorem dX9_addCost_112 : decode cX9_addCost 112 = .ok (.iload 4, 2) := by decide +kernel
theorem dX9_addCost_114 : decode cX9_addCost 114 = .ok (.iaload, 1) := by decide +kernel
theorem dX9_addCost_115 : decode cX9_addCost 115 = .ok (.iload_n 1, 1) := by decide +kernel
theorem dX9_addCost_116 : decode cX9_addCost 116 = .ok (.if_icmp .ne 12, 3) := by decide +kernel
theorem dX9_addCost_119 : decode cX9_addCost 119 = .ok (.lload_n 2, 1) := by decide +kernel
theorem dX9_addCost_120 : decode cX9_addCost 120 = .ok (.aload_n 0, 1) := by decide +kernel
theorem dX9_addCost_121 : decode cX9_addCost 121 = .ok (.getfield 91, 3) := by decide +kernel
theorem dX9_addCost_124 : decode cX9_addCost 124 = .ok (.lmul, 1) := by decide +kernel
theorem dX9_addCost_125 : decode cX9_addCost 125 = .ok (.goto 4, 3) := by decide +kernel
theorem dX9_addCost_128 : decode cX9_addCost 128 = .ok (.lconst 0, 1) := by decide +kernel
theorem dX9_addCost_129 : decode cX9_addCost 129 = .ok (.ladd, 1) := by decide +kernel
theorem dX9_addCost_130 : decode cX9_addCost 130 = .ok (.lastore, 1) := by decide +kernel
theorem dX9_addCost_131 : decode cX9_addCost 131 = .ok (.iinc 4 1, 3) := by decide +kernel
theorem dX9_addCost_134 : decode cX9_addCost 134 = .ok (.goto (-51), 3) := by decide +kernel
theorem dX9_addCost_137 : decode cX9_addCost 137 = .ok (.return_, 1) := by decide +kernel
theorem dX9_cheaper_0 : decode cX9_cheaper 0 = .ok (.bipush (-6), 2) := by decide +kernel
theorem dX9_cheaper_2 : decode cX9_cheaper 2 = .ok (.istore_n 1, 1) := by decide +kernel
theorem dX9_cheaper_3 : decode cX9_cheaper 3 = .ok (.iconst 1, 1) := by decide +kernel
theorem dX9_cheaper_4 : decode cX9_cheaper 4 = .ok (.istore_n 2, 1) := by decide +kernel
theorem dX9_cheaper_5 : decode cX9_cheaper 5 = .ok (.iload_n 2, 1) := by decide +kernel
theorem dX9_cheaper_6 : decode cX9_cheaper 6 = .ok (.aload_n 0, 1) := by decide +kernel
theorem dX9_cheaper_7 : decode cX9_cheaper 7 = .ok (.getfield 88, 3) := by decide +kernel
theorem dX9_cheaper_10 : decode cX9_cheaper 10 = .ok (.if_icmp .gt 77, 3) := by decide +kernel
theorem dX9_cheaper_13 : decode cX9_cheaper 13 = .ok (.aload_n 0, 1) := by decide +kernel
theorem dX9_cheaper_14 : decode cX9_cheaper 14 = .ok (.getfield 45, 3) := by decide +kernel
theorem dX9_cheaper_17 : decode cX9_cheaper 17 = .ok (.aload_n 0, 1) := by decide +kernel
theorem dX9_cheaper_18 : decode cX9_cheaper 18 = .ok (.getfield 42, 3) := by decide +kernel
theorem dX9_cheaper_21 : decode cX9_cheaper 21 = .ok (.iload_n 2, 1) := by decide +kernel
theorem dX9_cheaper_22 : decode cX9_cheaper 22 = .ok (.iaload, 1) := by decide +kernel
theorem dX9_cheaper_23 : decode cX9_cheaper 23 = .ok (.baload, 1) := by decide +kernel
theorem dX9_cheaper_24 : decode cX9_cheaper 24 = .ok (.ifCond .ne 26, 3) := by decide +kernel
theorem dX9_cheaper_27 : decode cX9_cheaper 27 = .ok (.aload_n 0, 1) := by decide +kernel
theorem dX9_cheaper_28 : decode cX9_cheaper 28 = .ok (.getfield 35, 3) := by decide +kernel
theorem dX9_cheaper_31 : decode cX9_cheaper 31 = .ok (.bipush 22, 2) := by decide +kernel
theorem dX9_cheaper_33 : decode cX9_cheaper 33 = .ok (.aload_n 0, 1) := by decide +kernel
theorem dX9_cheaper_34 : decode cX9_cheaper 34 = .ok (.getfield 84, 3) := by decide +kernel
theorem dX9_cheaper_37 : decode cX9_cheaper 37 = .ok (.imul, 1) := by decide +kernel
theorem dX9_cheaper_38 : decode cX9_cheaper 38 = .ok (.iload_n 2, 1) := by decide +kernel
theorem dX9_cheaper_39 : decode cX9_cheaper 39 = .ok (.iadd, 1) := by decide +kernel
theorem dX9_cheaper_40 : decode cX9_cheaper 40 = .ok (.laload, 1) := by decide +kernel
theorem dX9_cheaper_41 : decode cX9_cheaper 41 = .ok (.lconst 0, 1) := by decide +kernel
theorem dX9_cheaper_42 : decode cX9_cheaper 42 = .ok (.lcmp, 1) := by decide +kernel
theorem dX9_cheaper_43 : decode cX9_cheaper 43 = .ok (.ifCond .ge 7, 3) := by decide +kernel
theorem dX9_cheaper_46 : decode cX9_cheaper 46 = .ok (.iconst 1, 1) := by decide +kernel
theorem dX9_cheaper_47 : decode cX9_cheaper 47 = .ok (.goto 4, 3) := by decide +kernel
theorem dX9_cheaper_50 : decode cX9_cheaper 50 = .ok (.iconst 0, 1) := by decide +kernel
theorem dX9_cheaper_51 : decode cX9_cheaper 51 = .ok (.istore_n 3, 1) := by decide +kernel
theorem dX9_cheaper_52 : decode cX9_cheaper 52 = .ok (.iload_n 3, 1) := by decide +kernel
theorem dX9_cheaper_53 : decode cX9_cheaper 53 = .ok (.ifCond .eq 26, 3) := by decide +kernel
theorem dX9_cheaper_56 : decode cX9_cheaper 56 = .ok (.iload_n 1, 1) := by decide +kernel
theorem dX9_cheaper_57 : decode cX9_cheaper 57 = .ok (.ifCond .lt 18, 3) := by decide +kernel
theorem dX9_cheaper_60 : decode cX9_cheaper 60 = .ok (.aload_n 0, 1) := by decide +kernel
theorem dX9_cheaper_61 : decode cX9_cheaper 61 = .ok (.getfield 42, 3) := by decide +kernel
theorem dX9_cheaper_64 : decode cX9_cheaper 64 = .ok (.iload_n 2, 1) := by decide +kernel
theorem dX9_cheaper_65 : decode cX9_cheaper 65 = .ok (.iaload, 1) := by decide +kernel
theorem dX9_cheaper_66 : decode cX9_cheaper 66 = .ok (.aload_n 0, 1) := by decide +kernel
theorem dX9_cheaper_67 : decode cX9_cheaper 67 = .ok (.getfield 42, 3) := by decide +kernel
theorem dX9_cheaper_70 : decode cX9_cheaper 70 = .ok (.iload_n 1, 1) := by decide +kernel
theorem dX9_cheaper_71 : decode cX9_cheaper 71 = .ok (.iaload, 1) := by decide +kernel
theorem dX9_cheaper_72 : decode cX9_cheaper 72 = .ok (.if_icmp .ge 7, 3) := by decide +kernel
theorem dX9_cheaper_75 : decode cX9_cheaper 75 = .ok (.iload_n 2, 1) := by decide +kernel
theorem dX9_cheaper_76 : decode cX9_cheaper 76 = .ok (.goto 4, 3) := by decide +kernel
theorem dX9_cheaper_79 : decode cX9_cheaper 79 = .ok (.iload_n 1, 1) := by decide +kernel
theorem dX9_cheaper_80 : decode cX9_cheaper 80 = .ok (.istore_n 1, 1) := by decide +kernel
theorem dX9_cheaper_81 : decode cX9_cheaper 81 = .ok (.iinc 2 1, 3) := by decide +kernel
theorem dX9_cheaper_84 : decode cX9_cheaper 84 = .ok (.goto (-79), 3) := by decide +kernel
theorem dX9_cheaper_87 : decode cX9_cheaper 87 = .ok (.iload_n 1, 1) := by decide +kernel
theorem dX9_cheaper_88 : decode cX9_cheaper 88 = .ok (.ireturn, 1) := by decide +kernel
theorem dX9_firstToEnd_0 : decode cX9_firstToEnd 0 = .ok (.bipush (-6), 2) := by decide +kernel
theorem dX9_firstToEnd_2 : decode cX9_firstToEnd 2 = .ok (.istore_n 2, 1) := by decide +kernel
theorem dX9_firstToEnd_3 : decode cX9_firstToEnd 3 = .ok (.iconst 0, 1) := by decide +kernel
theorem dX9_firstToEnd_4 : decode cX9_firstToEnd 4 = .ok (.istore_n 3, 1) := by decide +kernel
theorem dX9_firstToEnd_5 : decode cX9_firstToEnd 5 = .ok (.iload_n 3, 1) := by decide +kernel
theorem dX9_firstToEnd_6 : decode cX9_firstToEnd 6 = .ok (.aload_n 0, 1) := by decide +kernel
theorem dX9_firstToEnd_7 : decode cX9_firstToEnd 7 = .ok (.getfield 84, 3) := by decide +kernel
theorem dX9_firstToEnd_10 : decode cX9_firstToEnd 10 = .ok (.if_icmp .ge 144, 3) := by decide +kernel
theorem dX9_firstToEnd_13 : decode cX9_firstToEnd 13 = .ok (.aload_n 0, 1) := by decide +kernel
theorem dX9_firstToEnd_14 : decode cX9_firstToEnd 14 = .ok (.getfield 35, 3) := by decide +kernel
theorem dX9_firstToEnd_17 : decode cX9_firstToEnd 17 = .ok (.bipush 22, 2) := by decide +kernel
theorem dX9_firstToEnd_19 : decode cX9_firstToEnd 19 = .ok (.iload_n 3, 1) := by decide +kernel
theorem dX9_firstToEnd_20 : decode cX9_firstToEnd 20 = .ok (.imul, 1) := by decide +kernel
theorem dX9_firstToEnd_21 : decode cX9_firstToEnd 21 = .ok (.iload_n 1, 1) := by decide +kernel
theorem dX9_firstToEnd_22 : decode cX9_firstToEnd 22 = .ok (.iadd, 1) := by decide +kernel
theorem dX9_firstToEnd_23 : decode cX9_firstToEnd 23 = .ok (.laload, 1) := by decide +kernel
theorem dX9_firstToEnd_24 : decode cX9_firstToEnd 24 = .ok (.lconst 0, 1) := by decide +kernel
theorem dX9_firstToEnd_25 : decode cX9_firstToEnd 25 = .ok (.lcmp, 1) := by decide +kernel
theorem dX9_firstToEnd_26 : decode cX9_firstToEnd 26 = .ok (.ifCond .ge 122, 3) := by decide +kernel
theorem dX9_firstToEnd_29 : decode cX9_firstToEnd 29 = .ok (.iload_n 2, 1) := by decide +kernel
theorem dX9_firstToEnd_30 : decode cX9_firstToEnd 30 = .ok (.ifCond .ge 9, 3) := by decide +kernel
theorem dX9_firstToEnd_33 : decode cX9_firstToEnd 33 = .ok (.ldc2_w 97, 3) := by decide +kernel
theorem dX9_firstToEnd_36 : decode cX9_firstToEnd 36 = .ok (.goto 25, 3) := by decide +kernel
theorem dX9_firstToEnd_39 : decode cX9_firstToEnd 39 = .ok (.aload_n 0, 1) := by decide +kernel
theorem dX9_firstToEnd_40 : decode cX9_firstToEnd 40 = .ok (.getfield 35, 3) := by decide +kernel
theorem dX9_firstToEnd_43 : decode cX9_firstToEnd 43 = .ok (.bipush 22, 2) := by decide +kernel
theorem dX9_firstToEnd_45 : decode cX9_firstToEnd 45 = .ok (.iload_n 3, 1) := by decide +kernel
theorem dX9_firstToEnd_46 : decode cX9_firstToEnd 46 = .ok (.imul, 1) := by decide +kernel
theorem dX9_firstToEnd_47 : decode cX9_firstToEnd 47 = .ok (.laload, 1) := by decide +kernel
theorem dX9_firstToEnd_48 : decode cX9_firstToEnd 48 = .ok (.aload_n 0, 1) := by decide +kernel
theorem dX9_firstToEnd_49 : decode cX9_firstToEnd 49 = .ok (.getfield 35, 3) := by decide +kernel
theorem dX9_firstToEnd_52 : decode cX9_firstToEnd 52 = .ok (.bipush 22, 2) := by decide +kernel
theorem dX9_firstToEnd_54 : decode cX9_firstToEnd 54 = .ok (.iload_n 2, 1) := by decide +kernel
theorem dX9_firstToEnd_55 : decode cX9_firstToEnd 55 = .ok (.imul, 1) := by decide +kernel
theorem dX9_firstToEnd_56 : decode cX9_firstToEnd 56 = .ok (.iload_n 1, 1) := by decide +kernel
theorem dX9_firstToEnd_57 : decode cX9_firstToEnd 57 = .ok (.iadd, 1) := by decide +kernel
theorem dX9_firstToEnd_58 : decode cX9_firstToEnd 58 = .ok (.laload, 1) := by decide +kernel
theorem dX9_firstToEnd_59 : decode cX9_firstToEnd 59 = .ok (.lneg, 1) := by decide +kernel
theorem dX9_firstToEnd_60 : decode cX9_firstToEnd 60 = .ok (.lmul, 1) := by decide +kernel
theorem dX9_firstToEnd_61 : decode cX9_firstToEnd 61 = .ok (.lstore 4, 2) := by decide +kernel
theorem dX9_firstToEnd_63 : decode cX9_firstToEnd 63 = .ok (.iload_n 2, 1) := by decide +kernel
theorem dX9_firstToEnd_64 : decode cX9_firstToEnd 64 = .ok (.ifCond .ge 7, 3) := by decide +kernel
theorem dX9_firstToEnd_67 : decode cX9_firstToEnd 67 = .ok (.lconst 0, 1) := by decide +kernel
theorem dX9_firstToEnd_68 : decode cX9_firstToEnd 68 = .ok (.goto 25, 3) := by decide +kernel
theorem dX9_firstToEnd_71 : decode cX9_firstToEnd 71 = .ok (.aload_n 0, 1) := by decide +kernel
theorem dX9_firstToEnd_72 : decode cX9_firstToEnd 72 = .ok (.getfield 35, 3) := by decide +kernel
theorem dX9_firstToEnd_75 : decode cX9_firstToEnd 75 = .ok (.bipush 22, 2) := by decide +kernel
theorem dX9_firstToEnd_77 : decode cX9_firstToEnd 77 = .ok (.iload_n 2, 1) := by decide +kernel
theorem dX9_firstToEnd_78 : decode cX9_firstToEnd 78 = .ok (.imul, 1) := by decide +kernel
theorem dX9_firstToEnd_79 : decode cX9_firstToEnd 79 = .ok (.laload, 1) := by decide +kernel
theorem dX9_firstToEnd_80 : decode cX9_firstToEnd 80 = .ok (.aload_n 0, 1) := by decide +kernel
theorem dX9_firstToEnd_81 : decode cX9_firstToEnd 81 = .ok (.getfield 35, 3) := by decide +kernel
theorem dX9_firstToEnd_84 : decode cX9_firstToEnd 84 = .ok (.bipush 22, 2) := by decide +kernel
theorem dX9_firstToEnd_86 : decode cX9_firstToEnd 86 = .ok (.iload_n 3, 1) := by decide +kernel
theorem dX9_firstToEnd_87 : decode cX9_firstToEnd 87 = .ok (.imul, 1) := by decide +kernel
theorem dX9_firstToEnd_88 : decode cX9_firstToEnd 88 = .ok (.iload_n 1, 1) := by decide +kernel
theorem dX9_firstToEnd_89 : decode cX9_firstToEnd 89 = .ok (.iadd, 1) := by decide +kernel
theorem dX9_firstToEnd_90 : decode cX9_firstToEnd 90 = .ok (.laload, 1) := by decide +kernel
theorem dX9_firstToEnd_91 : decode cX9_firstToEnd 91 = .ok (.lneg, 1) := by decide +kernel
theorem dX9_firstToEnd_92 : decode cX9_firstToEnd 92 = .ok (.lmul, 1) := by decide +kernel
theorem dX9_firstToEnd_93 : decode cX9_firstToEnd 93 = .ok (.lstore 6, 2) := by decide +kernel
theorem dX9_firstToEnd_95 : decode cX9_firstToEnd 95 = .ok (.iload_n 2, 1) := by decide +kernel
theorem dX9_firstToEnd_96 : decode cX9_firstToEnd 96 = .ok (.ifCond .lt 34, 3) := by decide +kernel
theorem dX9_firstToEnd_99 : decode cX9_firstToEnd 99 = .ok (.lload 4, 2) := by decide +kernel
theorem dX9_firstToEnd_101 : decode cX9_firstToEnd 101 = .ok (.lload 6, 2) := by decide +kernel
theorem dX9_firstToEnd_103 : decode cX9_firstToEnd 103 = .ok (.lcmp, 1) := by decide +kernel
theorem dX9_firstToEnd_104 : decode cX9_firstToEnd 104 = .ok (.ifCond .lt 26, 3) := by decide +kernel
theorem dX9_firstToEnd_107 : decode cX9_firstToEnd 107 = .ok (.lload 4, 2) := by decide +kernel
theorem dX9_firstToEnd_109 : decode cX9_firstToEnd 109 = .ok (.lload 6, 2) := by decide +kernel
theorem dX9_firstToEnd_111 : decode cX9_firstToEnd 111 = .ok (.lcmp, 1) := by decide +kernel
theorem dX9_firstToEnd_112 : decode cX9_firstToEnd 112 = .ok (.ifCond .ne 22, 3) := by decide +kernel
theorem dX9_firstToEnd_115 : decode cX9_firstToEnd 115 = .ok (.aload_n 0, 1) := by decide +kernel
theorem dX9_firstToEnd_116 : decode cX9_firstToEnd 116 = .ok (.getfield 39, 3) := by decide +kernel
theorem dX9_firstToEnd_119 : decode cX9_firstToEnd 119 = .ok (.iload_n 3, 1) := by decide +kernel
theorem dX9_firstToEnd_120 : decode cX9_firstToEnd 120 = .ok (.iaload, 1) := by decide +kernel
theorem dX9_firstToEnd_121 : decode cX9_firstToEnd 121 = .ok (.aload_n 0, 1) := by decide +kernel
theorem dX9_firstToEnd_122 : decode cX9_firstToEnd 122 = .ok (.getfield 39, 3) := by decide +kernel
theorem dX9_firstToEnd_125 : decode cX9_firstToEnd 125 = .ok (.iload_n 2, 1) := by decide +kernel
theorem dX9_firstToEnd_126 : decode cX9_firstToEnd 126 = .ok (.iaload, 1) := by decide +kernel
theorem dX9_firstToEnd_127 : decode cX9_firstToEnd 127 = .ok (.if_icmp .ge 7, 3) := by decide +kernel
theorem dX9_firstToEnd_130 : decode cX9_firstToEnd 130 = .ok (.iconst 1, 1) := by decide +kernel
theorem dX9_firstToEnd_131 : decode cX9_firstToEnd 131 = .ok (.goto 4, 3) := by decide +kernel
theorem dX9_firstToEnd_134 : decode cX9_firstToEnd 134 = .ok (.iconst 0, 1) := by decide +kernel
theorem dX9_firstToEnd_135 : decode cX9_firstToEnd 135 = .ok (.istore 8, 2) := by decide +kernel
theorem dX9_firstToEnd_137 : decode cX9_firstToEnd 137 = .ok (.iload 8, 2) := by decide +kernel
theorem dX9_firstToEnd_139 : decode cX9_firstToEnd 139 = .ok (.ifCond .eq 7, 3) := by decide +kernel
theorem dX9_firstToEnd_142 : decode cX9_firstToEnd 142 = .ok (.iload_n 3, 1) := by decide +kernel
theorem dX9_firstToEnd_143 : decode cX9_firstToEnd 143 = .ok (.goto 4, 3) := by decide +kernel
theorem dX9_firstToEnd_146 : decode cX9_firstToEnd 146 = .ok (.iload_n 2, 1) := by decide +kernel
theorem dX9_firstToEnd_147 : decode cX9_firstToEnd 147 = .ok (.istore_n 2, 1) := by decide +kernel
theorem dX9_firstToEnd_148 : decode cX9_firstToEnd 148 = .ok (.iinc 3 1, 3) := by decide +kernel
theorem dX9_firstToEnd_151 : decode cX9_firstToEnd 151 = .ok (.goto (-146), 3) := by decide +kernel
theorem dX9_firstToEnd_154 : decode cX9_firstToEnd 154 = .ok (.iload_n 2, 1) := by decide +kernel
theorem dX9_firstToEnd_155 : decode cX9_firstToEnd 155 = .ok (.ireturn, 1) := by decide +kernel
set_option maxRecDepth 20000 in
theorem ggX9_lessen_X9_cheaper : GoodIn wsX9_lessen wsX9_cheaper := goodIn_r _ [5, 6, 7, 8, 9, 10, 26, 27, 28, 29, 30, 31, 32, 33, 34, 35, 36, 37, 38, 39, 40, 41, 42, 43, 44, 45, 46, 47, 48, 49, 50, 51, 52, 53, 54, 55, 56, 57, 58, 59, 60, 61] (by decide +kernel) (by decide +kernel)
set_option maxRecDepth 20000 in
theorem gX9_lessen_X9_cheaper : GoodIn wsX9_lessen (wsV RX9 138 RX9 yX9_cheaper wsX9_cheaper) := goodIn_app (goodIn_of _ (by decide +kernel)) ggX9_lessen_X9_cheaper
set_option maxRecDepth 20000 in
theorem ggX9_lessen_X9_firstToEnd : GoodIn wsX9_lessen wsX9_firstToEnd := goodIn_r _ [14, 10, 9, 15, 16, 26, 27, 28, 29, 30, 31, 32, 33, 34, 35, 36, 37, 38, 39, 40, 41, 42, 43, 44, 45, 46, 47, 48, 49, 50, 51, 52, 53, 54, 55, 56, 57, 58, 59, 60, 61] (by decide +kernel) (by decide +kernel)
set_option maxRecDepth 20000 in
theorem gX9_lessen_X9_firstToEnd : GoodIn wsX9_lessen (wsV RX9 141 RX9 yX9_firstToEnd wsX9_firstToEnd) := goodIn_app (goodIn_of _ (by decide +kernel)) ggX9_lessen_X9_firstToEnd
set_option maxRecDepth 20000 in
theorem ggX9_lessen_X9_swap : GoodIn wsX9_lessen wsX9_swap := goodIn_r _ [20, 9, 10, 6, 21, 16, 8, 22, 23, 24, 4, 25, 26, 27, 28, 29, 30, 31, 32, 33, 34, 35, 36, 37, 38, 39, 40, 41, 42, 43, 44, 45, 46, 47, 48, 49, 50, 51, 52, 53, 54, 55, 56, 57, 58, 59, 60, 61] (by decide +kernel) (by decide +kernel)
set_option maxRecDepth 20000 in
theorem gX9_lessen_X9_swap : GoodIn wsX9_lessen (wsV RX9 134 RX9 yX9_swap wsX9_swap) := goodIn_app (goodIn_of _ (by decide +kernel)) ggX9_lessen_X9_swap
theorem dX9_lessen_0 : decode cX9_lessen 0 = .ok (.aload_n 0, 1) := by decide +kernel
theorem dX9_lessen_1 : decode cX9_lessen 1 = .ok (.invokevirtual 138, 3) := by decide +kernel
theorem dX9_lessen_4 : decode cX9_lessen 4 = .ok (.istore_n 1, 1) := by decide +kernel
theorem dX9_lessen_5 : decode cX9_lessen 5 = .ok (.iload_n 1, 1) := by decide +kernel
theorem dX9_lessen_6 : decode cX9_lessen 6 = .ok (.ifCond .lt 21, 3) := by decide +kernel
theorem dX9_lessen_9 : decode cX9_lessen 9 = .ok (.aload_n 0, 1) := by decide +kernel
theorem dX9_lessen_10 : decode cX9_lessen 10 = .ok (.aload_n 0, 1) := by decide +kernel
theorem dX9_lessen_11 : decode cX9_lessen 11 = .ok (.iload_n 1, 1) := by decide +kernel
theorem dX9_lessen_12 : decode cX9_lessen 12 = .ok (.invokevirtual 141, 3) := by decide +kernel
theorem dX9_lessen_15 : decode cX9_lessen 15 = .ok (.iload_n 1, 1) := by decide +kernel
theorem dX9_lessen_16 : decode cX9_lessen 16 = .ok (.invokevirtual 134, 3) := by decide +kernel
theorem dX9_lessen_19 : decode cX9_lessen 19 = .ok (.aload_n 0, 1) := by decide +kernel
theorem dX9_lessen_20 : decode cX9_lessen 20 = .ok (.invokevirtual 138, 3) := by decide +kernel
theorem dX9_lessen_23 : decode cX9_lessen 23 = .ok (.istore_n 1, 1) := by decide +kernel
theorem dX9_lessen_24 : decode cX9_lessen 24 = .ok (.goto (-19), 3) := by decide +kernel
theorem dX9_lessen_27 : decode cX9_lessen 27 = .ok (.return_, 1) := by decide +kernel
theorem dX9_bar_0 : decode cX9_bar 0 = .ok (.iconst 1, 1) := by decide +kernel
theorem dX9_bar_1 : decode cX9_bar 1 = .ok (.istore_n 1, 1) := by decide +kernel
theorem dX9_bar_2 : decode cX9_bar 2 = .ok (.iload_n 1, 1) := by decide +kernel
theorem dX9_bar_3 : decode cX9_bar 3 = .ok (.aload_n 0, 1) := by decide +kernel
theorem dX9_bar_4 : decode cX9_bar 4 = .ok (.getfield 88, 3) := by decide +kernel
theorem dX9_bar_7 : decode cX9_bar 7 = .ok (.if_icmp .gt 58, 3) := by decide +kernel
theorem dX9_bar_10 : decode cX9_bar 10 = .ok (.aload_n 0, 1) := by decide +kernel
theorem dX9_bar_11 : decode cX9_bar 11 = .ok (.getfield 45, 3) := by decide +kernel
theorem dX9_bar_14 : decode cX9_bar 14 = .ok (.aload_n 0, 1) := by decide +kernel
theorem dX9_bar_15 : decode cX9_bar 15 = .ok (.getfield 42, 3) := by decide +kernel
theorem dX9_bar_18 : decode cX9_bar 18 = .ok (.iload_n 1, 1) := by decide +kernel
theorem dX9_bar_19 : decode cX9_bar 19 = .ok (.iaload, 1) := by decide +kernel
theorem dX9_bar_20 : decode cX9_bar 20 = .ok (.aload_n 0, 1) := by decide +kernel
theorem dX9_bar_21 : decode cX9_bar 21 = .ok (.getfield 45, 3) := by decide +kernel
theorem dX9_bar_24 : decode cX9_bar 24 = .ok (.aload_n 0, 1) := by decide +kernel
theorem dX9_bar_25 : decode cX9_bar 25 = .ok (.getfield 42, 3) := by decide +kernel
theorem dX9_bar_28 : decode cX9_bar 28 = .ok (.iload_n 1, 1) := by decide +kernel
theorem dX9_bar_29 : decode cX9_bar 29 = .ok (.iaload, 1) := by decide +kernel
theorem dX9_bar_30 : decode cX9_bar 30 = .ok (.baload, 1) := by decide +kernel
theorem dX9_bar_31 : decode cX9_bar 31 = .ok (.ifCond .ne 22, 3) := by decide +kernel
theorem dX9_bar_34 : decode cX9_bar 34 = .ok (.aload_n 0, 1) := by decide +kernel
theorem dX9_bar_35 : decode cX9_bar 35 = .ok (.getfield 35, 3) := by decide +kernel
theorem dX9_bar_38 : decode cX9_bar 38 = .ok (.bipush 22, 2) := by decide +kernel
theorem dX9_bar_40 : decode cX9_bar 40 = .ok (.aload_n 0, 1) := by decide +kernel
theorem dX9_bar_41 : decode cX9_bar 41 = .ok (.getfield 84, 3) := by decide +kernel
theorem dX9_bar_44 : decode cX9_bar 44 = .ok (.imul, 1) := by decide +kernel
theorem dX9_bar_45 : decode cX9_bar 45 = .ok (.iload_n 1, 1) := by decide +kernel
theorem dX9_bar_46 : decode cX9_bar 46 = .ok (.iadd, 1) := by decide +kernel
theorem dX9_bar_47 : decode cX9_bar 47 = .ok (.laload, 1) := by decide +kernel
theorem dX9_bar_48 : decode cX9_bar 48 = .ok (.lconst 0, 1) := by decide +kernel
theorem dX9_bar_49 : decode cX9_bar 49 = .ok (.lcmp, 1) := by decide +kernel
theorem dX9_bar_50 : decode cX9_bar 50 = .ok (.ifCond .le 7, 3) := by decide +kernel
theorem dX9_bar_53 : decode cX9_bar 53 = .ok (.iconst 1, 1) := by decide +kernel
theorem dX9_bar_54 : decode cX9_bar 54 = .ok (.goto 4, 3) := by decide +kernel
theorem dX9_bar_57 : decode cX9_bar 57 = .ok (.iconst 0, 1) := by decide +kernel
theorem dX9_bar_58 : decode cX9_bar 58 = .ok (.bastore, 1) := by decide +kernel
theorem dX9_bar_59 : decode cX9_bar 59 = .ok (.iinc 1 1, 3) := by decide +kernel
theorem dX9_bar_62 : decode cX9_bar 62 = .ok (.goto (-60), 3) := by decide +kernel
theorem dX9_bar_65 : decode cX9_bar 65 = .ok (.return_, 1) := by decide +kernel
set_option maxRecDepth 20000 in
theorem ggX9_solveAll_X9_layRows : GoodIn wsX9_solveAll wsX9_layRows := goodIn_r _ [10, 11, 12, 13, 9, 14, 2, 15, 3, 16, 4, 17, 18, 19, 20, 21, 22, 23, 24, 25, 26, 27, 28, 29, 30, 31, 32, 33, 34, 35, 36, 37, 38, 39, 40, 41, 42, 43, 44, 45, 46, 94, 95, 96, 97, 98, 99, 100, 101, 102, 103, 104, 105, 106, 107, 108, 109, 110, 111, 112, 113, 114, 115, 116, 117, 118, 119, 120, 121, 122, 123, 124, 125, 126, 127, 128, 129] (by decide +kernel) (by decide +kernel)
set_option maxRecDepth 20000 in
theorem gX9_solveAll_X9_layRows : GoodIn wsX9_solveAll (wsV RX9 144 RX9 yX9_layRows wsX9_layRows) := goodIn_app (goodIn_of _ (by decide +kernel)) ggX9_solveAll_X9_layRows
set_option maxRecDepth 20000 in
theorem ggX9_solveAll_X9_canHold : GoodIn wsX9_solveAll wsX9_canHold := goodIn_r _ [50, 51, 52, 53, 9, 54, 16, 2, 3, 55, 56, 57, 58, 18, 59, 60, 61, 62, 17, 63, 64, 65, 66, 4, 67, 68, 69, 70, 94, 95, 96, 97, 98, 99, 100, 101, 102, 103, 104, 105, 106, 107, 108, 109, 110, 111, 112, 113, 114, 115, 116, 117, 118, 119, 120, 121, 122, 123, 124, 125, 126, 127, 128, 129] (by decide +kernel) (by decide +kernel)
set_option maxRecDepth 20000 in
theorem gX9_solveAll_X9_canHold : GoodIn wsX9_solveAll (wsV RX9 148 RX9 yX9_canHold wsX9_canHold) := goodIn_app (goodIn_of _ (by decide +kernel)) ggX9_solveAll_X9_canHold
set_option maxRecDepth 20000 in
theorem ggX9_solveAll_X9_clearCost : GoodIn wsX9_solveAll wsX9_clearCost := goodIn_r _ [54, 16, 2, 3, 94, 95, 96, 97, 98, 99, 100, 101, 102, 103, 104, 105, 106, 107, 108, 109, 110, 111, 112, 113, 114, 115, 116, 117, 118, 119, 120, 121, 122, 123, 124, 125, 126, 127, 128, 129] (by decide +kernel) (by decide +kernel)
set_option maxRecDepth 20000 in
theorem gX9_solveAll_X9_clearCost : GoodIn wsX9_solveAll (wsV RX9 124 RX9 yX9_clearCost wsX9_clearCost) := goodIn_app (goodIn_of _ (by decide +kernel)) ggX9_solveAll_X9_clearCost
set_option maxRecDepth 20000 in
theorem ggX9_solveAll_X9_isThere : GoodIn wsX9_solveAll wsX9_isThere := goodIn_r _ [24, 25, 26, 9, 27, 28, 29, 30, 31, 32, 94, 95, 96, 97, 98, 99, 100, 101, 102, 103, 104, 105, 106, 107, 108, 109, 110, 111, 112, 113, 114, 115, 116, 117, 118, 119, 120, 121, 122, 123, 124, 125, 126, 127, 128, 129] (by decide +kernel) (by decide +kernel)
set_option maxRecDepth 20000 in
theorem gX9_solveAll_X9_isThere : GoodIn wsX9_solveAll (wsV RX9 113 RX9 yX9_isThere wsX9_isThere) := goodIn_app (goodIn_of _ (by decide +kernel)) ggX9_solveAll_X9_isThere
set_option maxRecDepth 20000 in
theorem ggX9_solveAll_X9_of : GoodIn wsX9_solveAll wsX9_of := goodIn_r _ [31, 32, 94, 95, 96, 97, 98, 99, 100, 101, 102, 103, 104, 105, 106, 107, 108, 109, 110, 111, 112, 113, 114, 115, 116, 117, 118, 119, 120, 121, 122, 123, 124, 125, 126, 127, 128, 129] (by decide +kernel) (by decide +kernel)
set_option maxRecDepth 20000 in
theorem gX9_solveAll_X9_of : GoodIn wsX9_solveAll (wsV RX9 80 RX9 yX9_of wsX9_of) := goodIn_app (goodIn_of _ (by decide +kernel)) ggX9_solveAll_X9_of
set_option maxRecDepth 20000 in
theorem ggX9_solveAll_X9_lack : GoodIn wsX9_solveAll wsX9_lack := goodIn_r _ [46] (by decide +kernel) (by decide +kernel)
set_option maxRecDepth 20000 in
theorem gX9_solveAll_X9_lack : GoodIn wsX9_solveAll (va_wsS RX9 107 yX9_lack wsX9_lack) := goodIn_app (goodIn_of _ (by decide +kernel)) ggX9_solveAll_X9_lack
set_option maxRecDepth 20000 in
theorem ggX9_solveAll_X9_addCost : GoodIn wsX9_solveAll wsX9_addCost := goodIn_r _ [74, 3, 16, 18, 2, 17, 4, 94, 95, 96, 97, 98, 99, 100, 101, 102, 103, 104, 105, 106, 107, 108, 109, 110, 111, 112, 113, 114, 115, 116, 117, 118, 119, 120, 121, 122, 123, 124, 125, 126, 127, 128, 129] (by decide +kernel) (by decide +kernel)
set_option maxRecDepth 20000 in
theorem gX9_solveAll_X9_addCost : GoodIn wsX9_solveAll (wsV RX9 152 RX9 yX9_addCost wsX9_addCost) := goodIn_app (goodIn_of _ (by decide +kernel)) ggX9_solveAll_X9_addCost
set_option maxRecDepth 20000 in
theorem ggX9_solveAll_X9_ahead : GoodIn wsX9_solveAll wsX9_ahead := goodIn_r _ [39] (by decide +kernel) (by decide +kernel)
set_option maxRecDepth 20000 in
theorem gX9_solveAll_X9_ahead : GoodIn wsX9_solveAll (va_wsS RX9 99 yX9_ahead wsX9_ahead) := goodIn_app (goodIn_of _ (by decide +kernel)) ggX9_solveAll_X9_ahead
set_option maxRecDepth 20000 in
theorem ggX9_solveAll_X9_lessen : GoodIn wsX9_solveAll wsX9_lessen := goodIn_r _ [78, 79, 80, 81, 9, 82, 16, 15, 17, 2, 3, 83, 84, 85, 86, 20, 18, 63, 64, 65, 66, 4, 67, 68, 69, 70, 94, 95, 96, 97, 98, 99, 100, 101, 102, 103, 104, 105, 106, 107, 108, 109, 110, 111, 112, 113, 114, 115, 116, 117, 118, 119, 120, 121, 122, 123, 124, 125, 126, 127, 128, 129] (by decide +kernel) (by decide +kernel)
set_option maxRecDepth 20000 in
theorem gX9_solveAll_X9_lessen : GoodIn wsX9_solveAll (wsV RX9 156 RX9 yX9_lessen wsX9_lessen) := goodIn_app (goodIn_of _ (by decide +kernel)) ggX9_solveAll_X9_lessen
set_option maxRecDepth 20000 in
theorem ggX9_solveAll_X9_bar : GoodIn wsX9_solveAll wsX9_bar := goodIn_r _ [90, 16, 15, 17, 2, 3, 94, 95, 96, 97, 98, 99, 100, 101, 102, 103, 104, 105, 106, 107, 108, 109, 110, 111, 112, 113, 114, 115, 116, 117, 118, 119, 120, 121, 122, 123, 124, 125, 126, 127, 128, 129] (by decide +kernel) (by decide +kernel)
set_option maxRecDepth 20000 in
theorem gX9_solveAll_X9_bar : GoodIn wsX9_solveAll (wsV RX9 159 RX9 yX9_bar wsX9_bar) := goodIn_app (goodIn_of _ (by decide +kernel)) ggX9_solveAll_X9_bar
set_option maxRecDepth 20000 in
theorem ggX9_solveAll_X9_part : GoodIn wsX9_solveAll wsX9_part := goodIn_r _ [93] (by decide +kernel) (by decide +kernel)
set_option maxRecDepth 20000 in
theorem gX9_solveAll_X9_part : GoodIn wsX9_solveAll (va_wsS RX9 162 yX9_part wsX9_part) := goodIn_app (goodIn_of _ (by decide +kernel)) ggX9_solveAll_X9_part
theorem dX9_solveAll_0 : decode cX9_solveAll 0 = .ok (.aload_n 0, 1) := by decide +kernel
theorem dX9_solveAll_1 : decode cX9_solveAll 1 = .ok (.iload_n 1, 1) := by decide +kernel
theorem dX9_solveAll_2 : decode cX9_solveAll 2 = .ok (.iconst 0, 1) := by decide +kernel
theorem dX9_solveAll_3 : decode cX9_solveAll 3 = .ok (.invokevirtual 144, 3) := by decide +kernel
theorem dX9_solveAll_6 : decode cX9_solveAll 6 = .ok (.aload_n 0, 1) := by decide +kernel
theorem dX9_solveAll_7 : decode cX9_solveAll 7 = .ok (.invokevirtual 148, 3) := by decide +kernel
theorem dX9_solveAll_10 : decode cX9_solveAll 10 = .ok (.ifCond .ne 5, 3) := by decide +kernel
theorem dX9_solveAll_13 : decode cX9_solveAll 13 = .ok (.iconst 0, 1) := by decide +kernel
theorem dX9_solveAll_14 : decode cX9_solveAll 14 = .ok (.ireturn, 1) := by decide +kernel
theorem dX9_solveAll_15 : decode cX9_solveAll 15 = .ok (.iconst 1, 1) := by decide +kernel
theorem dX9_solveAll_16 : decode cX9_solveAll 16 = .ok (.istore_n 2, 1) := by decide +kernel
theorem dX9_solveAll_17 : decode cX9_solveAll 17 = .ok (.iload_n 2, 1) := by decide +kernel
theorem dX9_solveAll_18 : decode cX9_solveAll 18 = .ok (.iconst 3, 1) := by decide +kernel
theorem dX9_solveAll_19 : decode cX9_solveAll 19 = .ok (.if_icmp .gt 162, 3) := by decide +kernel
theorem dX9_solveAll_22 : decode cX9_solveAll 22 = .ok (.aload_n 0, 1) := by decide +kernel
theorem dX9_solveAll_23 : decode cX9_solveAll 23 = .ok (.invokevirtual 124, 3) := by decide +kernel
theorem dX9_solveAll_26 : decode cX9_solveAll 26 = .ok (.iconst 0, 1) := by decide +kernel
theorem dX9_solveAll_27 : decode cX9_solveAll 27 = .ok (.istore_n 3, 1) := by decide +kernel
theorem dX9_solveAll_28 : decode cX9_solveAll 28 = .ok (.iload_n 3, 1) := by decide +kernel
theorem dX9_solveAll_29 : decode cX9_solveAll 29 = .ok (.bipush 14, 2) := by decide +kernel
theorem dX9_solveAll_31 : decode cX9_solveAll 31 = .ok (.if_icmp .ge 84, 3) := by decide +kernel
theorem dX9_solveAll_34 : decode cX9_solveAll 34 = .ok (.aload_n 0, 1) := by decide +kernel
theorem dX9_solveAll_35 : decode cX9_solveAll 35 = .ok (.iload_n 3, 1) := by decide +kernel
theorem dX9_solveAll_36 : decode cX9_solveAll 36 = .ok (.invokevirtual 113, 3) := by decide +kernel
theorem dX9_solveAll_39 : decode cX9_solveAll 39 = .ok (.ifCond .eq 70, 3) := by decide +kernel
theorem dX9_solveAll_42 : decode cX9_solveAll 42 = .ok (.iload_n 1, 1) := by decide +kernel
theorem dX9_solveAll_43 : decode cX9_solveAll 43 = .ok (.iload_n 3, 1) := by decide +kernel
theorem dX9_solveAll_44 : decode cX9_solveAll 44 = .ok (.ishr, 1) := by decide +kernel
theorem dX9_solveAll_45 : decode cX9_solveAll 45 = .ok (.iconst 1, 1) := by decide +kernel
theorem dX9_solveAll_46 : decode cX9_solveAll 46 = .ok (.iand, 1) := by decide +kernel
theorem dX9_solveAll_47 : decode cX9_solveAll 47 = .ok (.iconst 1, 1) := by decide +kernel
theorem dX9_solveAll_48 : decode cX9_solveAll 48 = .ok (.if_icmp .ne 61, 3) := by decide +kernel
theorem dX9_solveAll_51 : decode cX9_solveAll 51 = .ok (.aload_n 0, 1) := by decide +kernel
theorem dX9_solveAll_52 : decode cX9_solveAll 52 = .ok (.iload_n 3, 1) := by decide +kernel
theorem dX9_solveAll_53 : decode cX9_solveAll 53 = .ok (.bipush 8, 2) := by decide +kernel
theorem dX9_solveAll_55 : decode cX9_solveAll 55 = .ok (.invokevirtual 80, 3) := by decide +kernel
theorem dX9_solveAll_58 : decode cX9_solveAll 58 = .ok (.iload_n 2, 1) := by decide +kernel
theorem dX9_solveAll_59 : decode cX9_solveAll 59 = .ok (.if_icmp .ne 50, 3) := by decide +kernel
theorem dX9_solveAll_62 : decode cX9_solveAll 62 = .ok (.aload_n 0, 1) := by decide +kernel
theorem dX9_solveAll_63 : decode cX9_solveAll 63 = .ok (.iload_n 3, 1) := by decide +kernel
theorem dX9_solveAll_64 : decode cX9_solveAll 64 = .ok (.invokestatic 107, 3) := by decide +kernel
theorem dX9_solveAll_67 : decode cX9_solveAll 67 = .ok (.aload_n 0, 1) := by decide +kernel
theorem dX9_solveAll_68 : decode cX9_solveAll 68 = .ok (.iload_n 3, 1) := by decide +kernel
theorem dX9_solveAll_69 : decode cX9_solveAll 69 = .ok (.bipush 9, 2) := by decide +kernel
theorem dX9_solveAll_71 : decode cX9_solveAll 71 = .ok (.invokevirtual 80, 3) := by decide +kernel
theorem dX9_solveAll_74 : decode cX9_solveAll 74 = .ok (.i2l, 1) := by decide +kernel
theorem dX9_solveAll_75 : decode cX9_solveAll 75 = .ok (.invokevirtual 152, 3) := by decide +kernel
theorem dX9_solveAll_78 : decode cX9_solveAll 78 = .ok (.aload_n 0, 1) := by decide +kernel
theorem dX9_solveAll_79 : decode cX9_solveAll 79 = .ok (.iload_n 3, 1) := by decide +kernel
theorem dX9_solveAll_80 : decode cX9_solveAll 80 = .ok (.invokestatic 99, 3) := by decide +kernel
theorem dX9_solveAll_83 : decode cX9_solveAll 83 = .ok (.aload_n 0, 1) := by decide +kernel
theorem dX9_solveAll_84 : decode cX9_solveAll 84 = .ok (.iload_n 3, 1) := by decide +kernel
theorem dX9_solveAll_85 : decode cX9_solveAll 85 = .ok (.bipush 6, 2) := by decide +kernel
theorem dX9_solveAll_87 : decode cX9_solveAll 87 = .ok (.invokevirtual 80, 3) := by decide +kernel
theorem dX9_solveAll_90 : decode cX9_solveAll 90 = .ok (.iconst 1, 1) := by decide +kernel
theorem dX9_solveAll_91 : decode cX9_solveAll 91 = .ok (.if_icmp .ne 14, 3) := by decide +kernel
theorem dX9_solveAll_94 : decode cX9_solveAll 94 = .ok (.aload_n 0, 1) := by decide +kernel
theorem dX9_solveAll_95 : decode cX9_solveAll 95 = .ok (.iload_n 3, 1) := by decide +kernel
theorem dX9_solveAll_96 : decode cX9_solveAll 96 = .ok (.bipush 9, 2) := by decide +kernel
theorem dX9_solveAll_98 : decode cX9_solveAll 98 = .ok (.invokevirtual 80, 3) := by decide +kernel
theorem dX9_solveAll_101 : decode cX9_solveAll 101 = .ok (.i2l, 1) := by decide +kernel
theorem dX9_solveAll_102 : decode cX9_solveAll 102 = .ok (.goto 4, 3) := by decide +kernel
theorem dX9_solveAll_105 : decode cX9_solveAll 105 = .ok (.lconst 0, 1) := by decide +kernel
theorem dX9_solveAll_106 : decode cX9_solveAll 106 = .ok (.invokevirtual 152, 3) := by decide +kernel
theorem dX9_solveAll_109 : decode cX9_solveAll 109 = .ok (.iinc 3 1, 3) := by decide +kernel
theorem dX9_solveAll_112 : decode cX9_solveAll 112 = .ok (.goto (-84), 3) := by decide +kernel
theorem dX9_solveAll_115 : decode cX9_solveAll 115 = .ok (.aload_n 0, 1) := by decide +kernel
theorem dX9_solveAll_116 : decode cX9_solveAll 116 = .ok (.invokevirtual 156, 3) := by decide +kernel
theorem dX9_solveAll_119 : decode cX9_solveAll 119 = .ok (.aload_n 0, 1) := by decide +kernel
theorem dX9_solveAll_120 : decode cX9_solveAll 120 = .ok (.invokevirtual 159, 3) := by decide +kernel
theorem dX9_solveAll_123 : decode cX9_solveAll 123 = .ok (.aload_n 0, 1) := by decide +kernel
theorem dX9_solveAll_124 : decode cX9_solveAll 124 = .ok (.getfield 48, 3) := by decide +kernel
theorem dX9_solveAll_127 : decode cX9_solveAll 127 = .ok (.iload_n 2, 1) := by decide +kernel
theorem dX9_solveAll_128 : decode cX9_solveAll 128 = .ok (.aload_n 0, 1) := by decide +kernel
theorem dX9_solveAll_129 : decode cX9_solveAll 129 = .ok (.getfield 35, 3) := by decide +kernel
theorem dX9_solveAll_132 : decode cX9_solveAll 132 = .ok (.bipush 22, 2) := by decide +kernel
theorem dX9_solveAll_134 : decode cX9_solveAll 134 = .ok (.aload_n 0, 1) := by decide +kernel
theorem dX9_solveAll_135 : decode cX9_solveAll 135 = .ok (.getfield 84, 3) := by decide +kernel
theorem dX9_solveAll_138 : decode cX9_solveAll 138 = .ok (.imul, 1) := by decide +kernel
theorem dX9_solveAll_139 : decode cX9_solveAll 139 = .ok (.laload, 1) := by decide +kernel
theorem dX9_solveAll_140 : decode cX9_solveAll 140 = .ok (.aload_n 0, 1) := by decide +kernel
theorem dX9_solveAll_141 : decode cX9_solveAll 141 = .ok (.getfield 91, 3) := by decide +kernel
theorem dX9_solveAll_144 : decode cX9_solveAll 144 = .ok (.iconst 0, 1) := by decide +kernel
theorem dX9_solveAll_145 : decode cX9_solveAll 145 = .ok (.invokestatic 162, 3) := by decide +kernel
theorem dX9_solveAll_148 : decode cX9_solveAll 148 = .ok (.lastore, 1) := by decide +kernel
theorem dX9_solveAll_149 : decode cX9_solveAll 149 = .ok (.aload_n 0, 1) := by decide +kernel
theorem dX9_solveAll_150 : decode cX9_solveAll 150 = .ok (.getfield 51, 3) := by decide +kernel
theorem dX9_solveAll_153 : decode cX9_solveAll 153 = .ok (.iload_n 2, 1) := by decide +kernel
theorem dX9_solveAll_154 : decode cX9_solveAll 154 = .ok (.aload_n 0, 1) := by decide +kernel
theorem dX9_solveAll_155 : decode cX9_solveAll 155 = .ok (.getfield 35, 3) := by decide +kernel
theorem dX9_solveAll_158 : decode cX9_solveAll 158 = .ok (.bipush 22, 2) := by decide +kernel
theorem dX9_solveAll_160 : decode cX9_solveAll 160 = .ok (.aload_n 0, 1) := by decide +kernel
theorem dX9_solveAll_161 : decode cX9_solveAll 161 = .ok (.getfield 84, 3) := by decide +kernel
theorem dX9_solveAll_164 : decode cX9_solveAll 164 = .ok (.imul, 1) := by decide +kernel
theorem dX9_solveAll_165 : decode cX9_solveAll 165 = .ok (.laload, 1) := by decide +kernel
theorem dX9_solveAll_166 : decode cX9_solveAll 166 = .ok (.aload_n 0, 1) := by decide +kernel
theorem dX9_solveAll_167 : decode cX9_solveAll 167 = .ok (.getfield 91, 3) := by decide +kernel
theorem dX9_solveAll_170 : decode cX9_solveAll 170 = .ok (.iconst 1, 1) := by decide +kernel
theorem dX9_solveAll_171 : decode cX9_solveAll 171 = .ok (.invokestatic 162, 3) := by decide +kernel
theorem dX9_solveAll_174 : decode cX9_solveAll 174 = .ok (.lastore, 1) := by decide +kernel
theorem dX9_solveAll_175 : decode cX9_solveAll 175 = .ok (.iinc 2 1, 3) := by decide +kernel
theorem dX9_solveAll_178 : decode cX9_solveAll 178 = .ok (.goto (-161), 3) := by decide +kernel
theorem dX9_solveAll_181 : decode cX9_solveAll 181 = .ok (.iconst 1, 1) := by decide +kernel
theorem dX9_solveAll_182 : decode cX9_solveAll 182 = .ok (.ireturn, 1) := by decide +kernel
set_option maxRecDepth 20000 in
theorem ggX9_solve_X9_solveAll : GoodIn wsX9_solve wsX9_solveAll := goodIn_r _ [6, 7, 8, 9, 10, 11, 12, 13, 14, 5, 15, 16, 17, 18, 19, 20, 21, 22, 23, 24, 25, 26, 27, 28, 29, 30, 31, 32, 33, 34, 35, 36, 37, 38, 39, 40, 41, 42, 43, 44, 45, 46, 47, 48, 49, 50, 51, 52, 53, 54, 55, 56, 57, 58, 59, 60, 61, 62, 63, 64, 65, 66, 67, 68, 69, 70, 71, 72, 73, 74, 75, 76, 77, 78, 79, 80, 81, 82, 83, 84, 85, 86, 87, 88, 89, 90, 91, 92, 93, 94, 95, 96, 97, 98, 99, 100, 101, 102, 103, 104, 105, 106, 107, 108, 109, 110, 111, 112, 113, 114, 115, 116, 117, 118, 119, 120, 121, 122, 123, 124, 125, 126, 127, 128, 129, 130, 131, 132, 133, 134] (by decide +kernel) (by decide +kernel)
set_option maxRecDepth 20000 in
theorem gX9_solve_X9_solveAll : GoodIn wsX9_solve (wsV RX9 166 RX9 yX9_solveAll wsX9_solveAll) := goodIn_app (goodIn_of _ (by decide +kernel)) ggX9_solve_X9_solveAll
theorem dX9_solve_0 : decode cX9_solve 0 = .ok (.aload_n 0, 1) := by decide +kernel
theorem dX9_solve_1 : decode cX9_solve 1 = .ok (.getfield 72, 3) := by decide +kernel
theorem dX9_solve_4 : decode cX9_solve 4 = .ok (.ifCond .ne 16, 3) := by decide +kernel
theorem dX9_solve_7 : decode cX9_solve 7 = .ok (.aload_n 0, 1) := by decide +kernel
theorem dX9_solve_8 : decode cX9_solve 8 = .ok (.sipush 32767, 3) := by decide +kernel
theorem dX9_solve_11 : decode cX9_solve 11 = .ok (.invokevirtual 166, 3) := by decide +kernel
theorem dX9_solve_14 : decode cX9_solve 14 = .ok (.pop, 1) := by decide +kernel
theorem dX9_solve_15 : decode cX9_solve 15 = .ok (.aload_n 0, 1) := by decide +kernel
theorem dX9_solve_16 : decode cX9_solve 16 = .ok (.iconst 1, 1) := by decide +kernel
theorem dX9_solve_17 : decode cX9_solve 17 = .ok (.putfield 72, 3) := by decide +kernel
theorem dX9_solve_20 : decode cX9_solve 20 = .ok (.return_, 1) := by decide +kernel
theorem dX9_part_0 : decode cX9_part 0 = .ok (.lload_n 0, 1) := by decide +kernel
theorem dX9_part_1 : decode cX9_part 1 = .ok (.lconst 0, 1) := by decide +kernel
theorem dX9_part_2 : decode cX9_part 2 = .ok (.lcmp, 1) := by decide +kernel
theorem dX9_part_3 : decode cX9_part 3 = .ok (.ifCond .ge 8, 3) := by decide +kernel
theorem dX9_part_6 : decode cX9_part 6 = .ok (.lload_n 0, 1) := by decide +kernel
theorem dX9_part_7 : decode cX9_part 7 = .ok (.lneg, 1) := by decide +kernel
theorem dX9_part_8 : decode cX9_part 8 = .ok (.goto 4, 3) := by decide +kernel
theorem dX9_part_11 : decode cX9_part 11 = .ok (.lload_n 0, 1) := by decide +kernel
theorem dX9_part_12 : decode cX9_part 12 = .ok (.lstore 5, 2) := by decide +kernel
theorem dX9_part_14 : decode cX9_part 14 = .ok (.lload_n 2, 1) := by decide +kernel
theorem dX9_part_15 : decode cX9_part 15 = .ok (.lstore 7, 2) := by decide +kernel
theorem dX9_part_17 : decode cX9_part 17 = .ok (.lload 7, 2) := by decide +kernel
theorem dX9_part_19 : decode cX9_part 19 = .ok (.lconst 0, 1) := by decide +kernel
theorem dX9_part_20 : decode cX9_part 20 = .ok (.lcmp, 1) := by decide +kernel
theorem dX9_part_21 : decode cX9_part 21 = .ok (.ifCond .eq 21, 3) := by decide +kernel
theorem dX9_part_24 : decode cX9_part 24 = .ok (.lload 5, 2) := by decide +kernel
theorem dX9_part_26 : decode cX9_part 26 = .ok (.lload 7, 2) := by decide +kernel
theorem dX9_part_28 : decode cX9_part 28 = .ok (.lrem, 1) := by decide +kernel
theorem dX9_part_29 : decode cX9_part 29 = .ok (.lstore 9, 2) := by decide +kernel
theorem dX9_part_31 : decode cX9_part 31 = .ok (.lload 7, 2) := by decide +kernel
theorem dX9_part_33 : decode cX9_part 33 = .ok (.lstore 5, 2) := by decide +kernel
theorem dX9_part_35 : decode cX9_part 35 = .ok (.lload 9, 2) := by decide +kernel
theorem dX9_part_37 : decode cX9_part 37 = .ok (.lstore 7, 2) := by decide +kernel
theorem dX9_part_39 : decode cX9_part 39 = .ok (.goto (-22), 3) := by decide +kernel
theorem dX9_part_42 : decode cX9_part 42 = .ok (.iload 4, 2) := by decide +kernel
theorem dX9_part_44 : decode cX9_part 44 = .ok (.ifCond .ne 10, 3) := by decide +kernel
theorem dX9_part_47 : decode cX9_part 47 = .ok (.lload_n 0, 1) := by decide +kernel
theorem dX9_part_48 : decode cX9_part 48 = .ok (.lload 5, 2) := by decide +kernel
theorem dX9_part_50 : decode cX9_part 50 = .ok (.ldiv, 1) := by decide +kernel
theorem dX9_part_51 : decode cX9_part 51 = .ok (.goto 7, 3) := by decide +kernel
theorem dX9_part_54 : decode cX9_part 54 = .ok (.lload_n 2, 1) := by decide +kernel
theorem dX9_part_55 : decode cX9_part 55 = .ok (.lload 5, 2) := by decide +kernel
theorem dX9_part_57 : decode cX9_part 57 = .ok (.ldiv, 1) := by decide +kernel
theorem dX9_part_58 : decode cX9_part 58 = .ok (.lreturn, 1) := by decide +kernel
set_option maxRecDepth 20000 in
theorem ggX9_isPossible_X9_layRows : GoodIn wsX9_isPossible wsX9_layRows := goodIn_r _ [6, 7, 8, 9, 5, 10, 11, 12, 13, 14, 15, 16, 17, 18, 19, 20, 21, 22, 23, 24, 25, 26, 27, 28, 29, 30, 31, 32, 33, 34, 35, 36, 37, 38, 39, 40, 41, 42, 43, 44, 45, 70, 71, 72, 73, 74, 75, 76, 77, 78, 79, 80, 81, 82, 83, 84, 85, 86, 87, 88, 89, 90, 91, 92, 93, 94, 95, 96, 97, 98, 99, 100, 101, 102, 103, 104, 105] (by decide +kernel) (by decide +kernel)
set_option maxRecDepth 20000 in
theorem gX9_isPossible_X9_layRows : GoodIn wsX9_isPossible (wsV RX9 144 RX9 yX9_layRows wsX9_layRows) := goodIn_app (goodIn_of _ (by decide +kernel)) ggX9_isPossible_X9_layRows
set_option maxRecDepth 20000 in
theorem ggX9_isPossible_X9_canHold : GoodIn wsX9_isPossible wsX9_canHold := goodIn_r _ [49, 50, 51, 52, 5, 53, 14, 11, 13, 54, 55, 56, 57, 17, 58, 59, 60, 61, 16, 62, 63, 64, 65, 15, 66, 67, 68, 69, 70, 71, 72, 73, 74, 75, 76, 77, 78, 79, 80, 81, 82, 83, 84, 85, 86, 87, 88, 89, 90, 91, 92, 93, 94, 95, 96, 97, 98, 99, 100, 101, 102, 103, 104, 105] (by decide +kernel) (by decide +kernel)
set_option maxRecDepth 20000 in
theorem gX9_isPossible_X9_canHold : GoodIn wsX9_isPossible (wsV RX9 148 RX9 yX9_canHold wsX9_canHold) := goodIn_app (goodIn_of _ (by decide +kernel)) ggX9_isPossible_X9_canHold
theorem dX9_isPossible_0 : decode cX9_isPossible 0 = .ok (.aload_n 0, 1) := by decide +kernel
theorem dX9_isPossible_1 : decode cX9_isPossible 1 = .ok (.iconst 0, 1) := by decide +kernel
theorem dX9_isPossible_2 : decode cX9_isPossible 2 = .ok (.putfield 72, 3) := by decide +kernel
theorem dX9_isPossible_5 : decode cX9_isPossible 5 = .ok (.aload_n 0, 1) := by decide +kernel
theorem dX9_isPossible_6 : decode cX9_isPossible 6 = .ok (.iload_n 1, 1) := by decide +kernel
theorem dX9_isPossible_7 : decode cX9_isPossible 7 = .ok (.iconst 1, 1) := by decide +kernel
theorem dX9_isPossible_8 : decode cX9_isPossible 8 = .ok (.invokevirtual 144, 3) := by decide +kernel
theorem dX9_isPossible_11 : decode cX9_isPossible 11 = .ok (.aload_n 0, 1) := by decide +kernel
theorem dX9_isPossible_12 : decode cX9_isPossible 12 = .ok (.invokevirtual 148, 3) := by decide +kernel
theorem dX9_isPossible_15 : decode cX9_isPossible 15 = .ok (.ireturn, 1) := by decide +kernel
set_option maxRecDepth 20000 in
theorem ggX9_findLeast_X9_clearCost : GoodIn wsX9_findLeast wsX9_clearCost := goodIn_r _ [11, 12, 1, 2, 49, 50, 51, 52, 53, 54, 55, 56, 57, 58, 59, 60, 61, 62, 63, 64, 65, 66, 67, 68, 69, 70, 71, 72, 73, 74, 75, 76, 77, 78, 79, 80, 81, 82, 83, 84] (by decide +kernel) (by decide +kernel)
set_option maxRecDepth 20000 in
theorem gX9_findLeast_X9_clearCost : GoodIn wsX9_findLeast (wsV RX9 124 RX9 yX9_clearCost wsX9_clearCost) := goodIn_app (goodIn_of _ (by decide +kernel)) ggX9_findLeast_X9_clearCost
set_option maxRecDepth 20000 in
theorem ggX9_findLeast_X9_of : GoodIn wsX9_findLeast wsX9_of := goodIn_r _ [16, 17, 49, 50, 51, 52, 53, 54, 55, 56, 57, 58, 59, 60, 61, 62, 63, 64, 65, 66, 67, 68, 69, 70, 71, 72, 73, 74, 75, 76, 77, 78, 79, 80, 81, 82, 83, 84] (by decide +kernel) (by decide +kernel)
set_option maxRecDepth 20000 in
theorem gX9_findLeast_X9_of : GoodIn wsX9_findLeast (wsV RX9 80 RX9 yX9_of wsX9_of) := goodIn_app (goodIn_of _ (by decide +kernel)) ggX9_findLeast_X9_of
set_option maxRecDepth 20000 in
theorem ggX9_findLeast_X9_addCost : GoodIn wsX9_findLeast wsX9_addCost := goodIn_r _ [21, 2, 12, 22, 1, 23, 4, 49, 50, 51, 52, 53, 54, 55, 56, 57, 58, 59, 60, 61, 62, 63, 64, 65, 66, 67, 68, 69, 70, 71, 72, 73, 74, 75, 76, 77, 78, 79, 80, 81, 82, 83, 84] (by decide +kernel) (by decide +kernel)
set_option maxRecDepth 20000 in
theorem gX9_findLeast_X9_addCost : GoodIn wsX9_findLeast (wsV RX9 152 RX9 yX9_addCost wsX9_addCost) := goodIn_app (goodIn_of _ (by decide +kernel)) ggX9_findLeast_X9_addCost
set_option maxRecDepth 20000 in
theorem ggX9_findLeast_X9_lessen : GoodIn wsX9_findLeast wsX9_lessen := goodIn_r _ [27, 28, 29, 30, 10, 31, 12, 32, 23, 1, 2, 33, 34, 35, 36, 37, 22, 38, 39, 40, 41, 4, 42, 43, 44, 45, 49, 50, 51, 52, 53, 54, 55, 56, 57, 58, 59, 60, 61, 62, 63, 64, 65, 66, 67, 68, 69, 70, 71, 72, 73, 74, 75, 76, 77, 78, 79, 80, 81, 82, 83, 84] (by decide +kernel) (by decide +kernel)
set_option maxRecDepth 20000 in
theorem gX9_findLeast_X9_lessen : GoodIn wsX9_findLeast (wsV RX9 156 RX9 yX9_lessen wsX9_lessen) := goodIn_app (goodIn_of _ (by decide +kernel)) ggX9_findLeast_X9_lessen
set_option maxRecDepth 20000 in
theorem ggX9_findLeast_X9_part : GoodIn wsX9_findLeast wsX9_part := goodIn_r _ [48] (by decide +kernel) (by decide +kernel)
set_option maxRecDepth 20000 in
theorem gX9_findLeast_X9_part : GoodIn wsX9_findLeast (va_wsS RX9 162 yX9_part wsX9_part) := goodIn_app (goodIn_of _ (by decide +kernel)) ggX9_findLeast_X9_part
theorem dX9_findLeast_0 : decode cX9_findLeast 0 = .ok (.aload_n 0, 1) := by decide +kernel
theorem dX9_findLeast_1 : decode cX9_findLeast 1 = .ok (.invokevirtual 124, 3) := by decide +kernel
theorem dX9_findLeast_4 : decode cX9_findLeast 4 = .ok (.iconst 0, 1) := by decide +kernel
theorem dX9_findLeast_5 : decode cX9_findLeast 5 = .ok (.istore 4, 2) := by decide +kernel
theorem dX9_findLeast_7 : decode cX9_findLeast 7 = .ok (.iconst 0, 1) := by decide +kernel
theorem dX9_findLeast_8 : decode cX9_findLeast 8 = .ok (.istore 5, 2) := by decide +kernel
theorem dX9_findLeast_10 : decode cX9_findLeast 10 = .ok (.iload 5, 2) := by decide +kernel
theorem dX9_findLeast_12 : decode cX9_findLeast 12 = .ok (.bipush 6, 2) := by decide +kernel
theorem dX9_findLeast_14 : decode cX9_findLeast 14 = .ok (.if_icmp .ge 55, 3) := by decide +kernel
theorem dX9_findLeast_17 : decode cX9_findLeast 17 = .ok (.iload_n 2, 1) := by decide +kernel
theorem dX9_findLeast_18 : decode cX9_findLeast 18 = .ok (.ifCond .lt 17, 3) := by decide +kernel
theorem dX9_findLeast_21 : decode cX9_findLeast 21 = .ok (.iload 5, 2) := by decide +kernel
theorem dX9_findLeast_23 : decode cX9_findLeast 23 = .ok (.iload_n 2, 1) := by decide +kernel
theorem dX9_findLeast_24 : decode cX9_findLeast 24 = .ok (.if_icmp .ne 7, 3) := by decide +kernel
theorem dX9_findLeast_27 : decode cX9_findLeast 27 = .ok (.iconst 1, 1) := by decide +kernel
theorem dX9_findLeast_28 : decode cX9_findLeast 28 = .ok (.goto 14, 3) := by decide +kernel
theorem dX9_findLeast_31 : decode cX9_findLeast 31 = .ok (.iconst 0, 1) := by decide +kernel
theorem dX9_findLeast_32 : decode cX9_findLeast 32 = .ok (.goto 10, 3) := by decide +kernel
theorem dX9_findLeast_35 : decode cX9_findLeast 35 = .ok (.aload_n 0, 1) := by decide +kernel
theorem dX9_findLeast_36 : decode cX9_findLeast 36 = .ok (.iload_n 1, 1) := by decide +kernel
theorem dX9_findLeast_37 : decode cX9_findLeast 37 = .ok (.iload 5, 2) := by decide +kernel
theorem dX9_findLeast_39 : decode cX9_findLeast 39 = .ok (.invokevirtual 80, 3) := by decide +kernel
theorem dX9_findLeast_42 : decode cX9_findLeast 42 = .ok (.istore 6, 2) := by decide +kernel
theorem dX9_findLeast_44 : decode cX9_findLeast 44 = .ok (.iload 4, 2) := by decide +kernel
theorem dX9_findLeast_46 : decode cX9_findLeast 46 = .ok (.iload 6, 2) := by decide +kernel
theorem dX9_findLeast_48 : decode cX9_findLeast 48 = .ok (.iadd, 1) := by decide +kernel
theorem dX9_findLeast_49 : decode cX9_findLeast 49 = .ok (.istore 4, 2) := by decide +kernel
theorem dX9_findLeast_51 : decode cX9_findLeast 51 = .ok (.aload_n 0, 1) := by decide +kernel
theorem dX9_findLeast_52 : decode cX9_findLeast 52 = .ok (.iload 5, 2) := by decide +kernel
theorem dX9_findLeast_54 : decode cX9_findLeast 54 = .ok (.iload_n 3, 1) := by decide +kernel
theorem dX9_findLeast_55 : decode cX9_findLeast 55 = .ok (.i2l, 1) := by decide +kernel
theorem dX9_findLeast_56 : decode cX9_findLeast 56 = .ok (.iload 6, 2) := by decide +kernel
theorem dX9_findLeast_58 : decode cX9_findLeast 58 = .ok (.i2l, 1) := by decide +kernel
theorem dX9_findLeast_59 : decode cX9_findLeast 59 = .ok (.lmul, 1) := by decide +kernel
theorem dX9_findLeast_60 : decode cX9_findLeast 60 = .ok (.invokevirtual 152, 3) := by decide +kernel
theorem dX9_findLeast_63 : decode cX9_findLeast 63 = .ok (.iinc 5 1, 3) := by decide +kernel
theorem dX9_findLeast_66 : decode cX9_findLeast 66 = .ok (.goto (-56), 3) := by decide +kernel
theorem dX9_findLeast_69 : decode cX9_findLeast 69 = .ok (.aload_n 0, 1) := by decide +kernel
theorem dX9_findLeast_70 : decode cX9_findLeast 70 = .ok (.invokevirtual 156, 3) := by decide +kernel
theorem dX9_findLeast_73 : decode cX9_findLeast 73 = .ok (.iload_n 3, 1) := by decide +kernel
theorem dX9_findLeast_74 : decode cX9_findLeast 74 = .ok (.i2l, 1) := by decide +kernel
theorem dX9_findLeast_75 : decode cX9_findLeast 75 = .ok (.aload_n 0, 1) := by decide +kernel
theorem dX9_findLeast_76 : decode cX9_findLeast 76 = .ok (.getfield 35, 3) := by decide +kernel
theorem dX9_findLeast_79 : decode cX9_findLeast 79 = .ok (.bipush 22, 2) := by decide +kernel
theorem dX9_findLeast_81 : decode cX9_findLeast 81 = .ok (.aload_n 0, 1) := by decide +kernel
theorem dX9_findLeast_82 : decode cX9_findLeast 82 = .ok (.getfield 84, 3) := by decide +kernel
theorem dX9_findLeast_85 : decode cX9_findLeast 85 = .ok (.imul, 1) := by decide +kernel
theorem dX9_findLeast_86 : decode cX9_findLeast 86 = .ok (.laload, 1) := by decide +kernel
theorem dX9_findLeast_87 : decode cX9_findLeast 87 = .ok (.lmul, 1) := by decide +kernel
theorem dX9_findLeast_88 : decode cX9_findLeast 88 = .ok (.ldc2_w 169, 3) := by decide +kernel
theorem dX9_findLeast_91 : decode cX9_findLeast 91 = .ok (.iload 4, 2) := by decide +kernel
theorem dX9_findLeast_93 : decode cX9_findLeast 93 = .ok (.i2l, 1) := by decide +kernel
theorem dX9_findLeast_94 : decode cX9_findLeast 94 = .ok (.lmul, 1) := by decide +kernel
theorem dX9_findLeast_95 : decode cX9_findLeast 95 = .ok (.aload_n 0, 1) := by decide +kernel
theorem dX9_findLeast_96 : decode cX9_findLeast 96 = .ok (.getfield 91, 3) := by decide +kernel
theorem dX9_findLeast_99 : decode cX9_findLeast 99 = .ok (.lmul, 1) := by decide +kernel
theorem dX9_findLeast_100 : decode cX9_findLeast 100 = .ok (.lsub, 1) := by decide +kernel
theorem dX9_findLeast_101 : decode cX9_findLeast 101 = .ok (.lstore 5, 2) := by decide +kernel
theorem dX9_findLeast_103 : decode cX9_findLeast 103 = .ok (.aload_n 0, 1) := by decide +kernel
theorem dX9_findLeast_104 : decode cX9_findLeast 104 = .ok (.lload 5, 2) := by decide +kernel
theorem dX9_findLeast_106 : decode cX9_findLeast 106 = .ok (.aload_n 0, 1) := by decide +kernel
theorem dX9_findLeast_107 : decode cX9_findLeast 107 = .ok (.getfield 91, 3) := by decide +kernel
theorem dX9_findLeast_110 : decode cX9_findLeast 110 = .ok (.iconst 0, 1) := by decide +kernel
theorem dX9_findLeast_111 : decode cX9_findLeast 111 = .ok (.invokestatic 162, 3) := by decide +kernel
theorem dX9_findLeast_114 : decode cX9_findLeast 114 = .ok (.putfield 171, 3) := by decide +kernel
theorem dX9_findLeast_117 : decode cX9_findLeast 117 = .ok (.aload_n 0, 1) := by decide +kernel
theorem dX9_findLeast_118 : decode cX9_findLeast 118 = .ok (.lload 5, 2) := by decide +kernel
theorem dX9_findLeast_120 : decode cX9_findLeast 120 = .ok (.aload_n 0, 1) := by decide +kernel
theorem dX9_findLeast_121 : decode cX9_findLeast 121 = .ok (.getfield 91, 3) := by decide +kernel
theorem dX9_findLeast_124 : decode cX9_findLeast 124 = .ok (.iconst 1, 1) := by decide +kernel
theorem dX9_findLeast_125 : decode cX9_findLeast 125 = .ok (.invokestatic 162, 3) := by decide +kernel
theorem dX9_findLeast_128 : decode cX9_findLeast 128 = .ok (.putfield 174, 3) := by decide +kernel
theorem dX9_findLeast_131 : decode cX9_findLeast 131 = .ok (.return_, 1) := by decide +kernel
theorem dX9_found_0 : decode cX9_found 0 = .ok (.iload_n 1, 1) := by decide +kernel
theorem dX9_found_1 : decode cX9_found 1 = .ok (.ifCond .ne 10, 3) := by decide +kernel
theorem dX9_found_4 : decode cX9_found 4 = .ok (.aload_n 0, 1) := by decide +kernel
theorem dX9_found_5 : decode cX9_found 5 = .ok (.getfield 171, 3) := by decide +kernel
theorem dX9_found_8 : decode cX9_found 8 = .ok (.goto 7, 3) := by decide +kernel
theorem dX9_found_11 : decode cX9_found 11 = .ok (.aload_n 0, 1) := by decide +kernel
theorem dX9_found_12 : decode cX9_found 12 = .ok (.getfield 174, 3) := by decide +kernel
theorem dX9_found_15 : decode cX9_found 15 = .ok (.lreturn, 1) := by decide +kernel
theorem dX9_copyOut_0 : decode cX9_copyOut 0 = .ok (.iconst 0, 1) := by decide +kernel
theorem dX9_copyOut_1 : decode cX9_copyOut 1 = .ok (.istore 4, 2) := by decide +kernel
theorem dX9_copyOut_3 : decode cX9_copyOut 3 = .ok (.iload 4, 2) := by decide +kernel
theorem dX9_copyOut_5 : decode cX9_copyOut 5 = .ok (.bipush 11, 2) := by decide +kernel
theorem dX9_copyOut_7 : decode cX9_copyOut 7 = .ok (.if_icmp .ge 27, 3) := by decide +kernel
theorem dX9_copyOut_10 : decode cX9_copyOut 10 = .ok (.aload_n 2, 1) := by decide +kernel
theorem dX9_copyOut_11 : decode cX9_copyOut 11 = .ok (.iload_n 3, 1) := by decide +kernel
theorem dX9_copyOut_12 : decode cX9_copyOut 12 = .ok (.iload 4, 2) := by decide +kernel
theorem dX9_copyOut_14 : decode cX9_copyOut 14 = .ok (.iadd, 1) := by decide +kernel
theorem dX9_copyOut_15 : decode cX9_copyOut 15 = .ok (.aload_n 0, 1) := by decide +kernel
theorem dX9_copyOut_16 : decode cX9_copyOut 16 = .ok (.getfield 7, 3) := by decide +kernel
theorem dX9_copyOut_19 : decode cX9_copyOut 19 = .ok (.bipush 11, 2) := by decide +kernel
theorem dX9_copyOut_21 : decode cX9_copyOut 21 = .ok (.iload_n 1, 1) := by decide +kernel
theorem dX9_copyOut_22 : decode cX9_copyOut 22 = .ok (.imul, 1) := by decide +kernel
theorem dX9_copyOut_23 : decode cX9_copyOut 23 = .ok (.iload 4, 2) := by decide +kernel
theorem dX9_copyOut_25 : decode cX9_copyOut 25 = .ok (.iadd, 1) := by decide +kernel
theorem dX9_copyOut_26 : decode cX9_copyOut 26 = .ok (.iaload, 1) := by decide +kernel
theorem dX9_copyOut_27 : decode cX9_copyOut 27 = .ok (.iastore, 1) := by decide +kernel
theorem dX9_copyOut_28 : decode cX9_copyOut 28 = .ok (.iinc 4 1, 3) := by decide +kernel
theorem dX9_copyOut_31 : decode cX9_copyOut 31 = .ok (.goto (-28), 3) := by decide +kernel
theorem dX9_copyOut_34 : decode cX9_copyOut 34 = .ok (.return_, 1) := by decide +kernel
theorem dX9_copyIn_0 : decode cX9_copyIn 0 = .ok (.iconst 0, 1) := by decide +kernel
theorem dX9_copyIn_1 : decode cX9_copyIn 1 = .ok (.istore 4, 2) := by decide +kernel
theorem dX9_copyIn_3 : decode cX9_copyIn 3 = .ok (.iload 4, 2) := by decide +kernel
theorem dX9_copyIn_5 : decode cX9_copyIn 5 = .ok (.bipush 11, 2) := by decide +kernel
theorem dX9_copyIn_7 : decode cX9_copyIn 7 = .ok (.if_icmp .ge 27, 3) := by decide +kernel
theorem dX9_copyIn_10 : decode cX9_copyIn 10 = .ok (.aload_n 0, 1) := by decide +kernel
theorem dX9_copyIn_11 : decode cX9_copyIn 11 = .ok (.getfield 7, 3) := by decide +kernel
theorem dX9_copyIn_14 : decode cX9_copyIn 14 = .ok (.bipush 11, 2) := by decide +kernel
theorem dX9_copyIn_16 : decode cX9_copyIn 16 = .ok (.iload_n 1, 1) := by decide +kernel
theorem dX9_copyIn_17 : decode cX9_copyIn 17 = .ok (.imul, 1) := by decide +kernel
theorem dX9_copyIn_18 : decode cX9_copyIn 18 = .ok (.iload 4, 2) := by decide +kernel
theorem dX9_copyIn_20 : decode cX9_copyIn 20 = .ok (.iadd, 1) := by decide +kernel
theorem dX9_copyIn_21 : decode cX9_copyIn 21 = .ok (.aload_n 2, 1) := by decide +kernel
theorem dX9_copyIn_22 : decode cX9_copyIn 22 = .ok (.iload_n 3, 1) := by decide +kernel
theorem dX9_copyIn_23 : decode cX9_copyIn 23 = .ok (.iload 4, 2) := by decide +kernel
theorem dX9_copyIn_25 : decode cX9_copyIn 25 = .ok (.iadd, 1) := by decide +kernel
theorem dX9_copyIn_26 : decode cX9_copyIn 26 = .ok (.iaload, 1) := by decide +kernel
theorem dX9_copyIn_27 : decode cX9_copyIn 27 = .ok (.iastore, 1) := by decide +kernel
theorem dX9_copyIn_28 : decode cX9_copyIn 28 = .ok (.iinc 4 1, 3) := by decide +kernel
theorem dX9_copyIn_31 : decode cX9_copyIn 31 = .ok (.goto (-28), 3) := by decide +kernel
theorem dX9_copyIn_34 : decode cX9_copyIn 34 = .ok (.aload_n 0, 1) := by decide +kernel
theorem dX9_copyIn_35 : decode cX9_copyIn 35 = .ok (.iconst 0, 1) := by decide +kernel
theorem dX9_copyIn_36 : decode cX9_copyIn 36 = .ok (.putfield 72, 3) := by decide +kernel
theorem dX9_copyIn_39 : decode cX9_copyIn 39 = .ok (.return_, 1) := by decide +kernel
set_option maxRecDepth 20000 in
theorem ggX9_keep_X9_copyOut : GoodIn wsX9_keep wsX9_copyOut := goodIn_r _ [6, 7, 8, 9, 10, 11, 12, 13, 14, 15, 16, 17, 18, 19, 20, 21, 22, 23, 24, 25, 26, 27, 28, 29, 30, 31, 32, 33, 34, 35, 36, 37, 38, 39, 40, 41, 42, 43] (by decide +kernel) (by decide +kernel)
set_option maxRecDepth 20000 in
theorem gX9_keep_X9_copyOut : GoodIn wsX9_keep (wsV RX9 177 RX9 yX9_copyOut wsX9_copyOut) := goodIn_app (goodIn_of _ (by decide +kernel)) ggX9_keep_X9_copyOut
theorem dX9_keep_0 : decode cX9_keep 0 = .ok (.aload_n 0, 1) := by decide +kernel
theorem dX9_keep_1 : decode cX9_keep 1 = .ok (.iload_n 1, 1) := by decide +kernel
theorem dX9_keep_2 : decode cX9_keep 2 = .ok (.aload_n 0, 1) := by decide +kernel
theorem dX9_keep_3 : decode cX9_keep 3 = .ok (.getfield 54, 3) := by decide +kernel
theorem dX9_keep_6 : decode cX9_keep 6 = .ok (.iconst 0, 1) := by decide +kernel
theorem dX9_keep_7 : decode cX9_keep 7 = .ok (.invokevirtual 177, 3) := by decide +kernel
theorem dX9_keep_10 : decode cX9_keep 10 = .ok (.return_, 1) := by decide +kernel
set_option maxRecDepth 20000 in
theorem ggX9_note_X9_copyOut : GoodIn wsX9_note wsX9_copyOut := goodIn_r _ [12, 13, 14, 15, 16, 17, 18, 19, 20, 21, 22, 23, 24, 25, 26, 27, 28, 29, 30, 31, 32, 33, 34, 35, 36, 37, 38, 39, 40, 41, 42, 43, 44, 45, 46, 47, 48, 49] (by decide +kernel) (by decide +kernel)
set_option maxRecDepth 20000 in
theorem gX9_note_X9_copyOut : GoodIn wsX9_note (wsV RX9 177 RX9 yX9_copyOut wsX9_copyOut) := goodIn_app (goodIn_of _ (by decide +kernel)) ggX9_note_X9_copyOut
theorem dX9_note_0 : decode cX9_note 0 = .ok (.aload_n 0, 1) := by decide +kernel
theorem dX9_note_1 : decode cX9_note 1 = .ok (.getfield 181, 3) := by decide +kernel
theorem dX9_note_4 : decode cX9_note 4 = .ok (.bipush 20, 2) := by decide +kernel
theorem dX9_note_6 : decode cX9_note 6 = .ok (.if_icmp .ne 87, 3) := by decide +kernel
theorem dX9_note_9 : decode cX9_note 9 = .ok (.iconst 1, 1) := by decide +kernel
theorem dX9_note_10 : decode cX9_note 10 = .ok (.istore_n 2, 1) := by decide +kernel
theorem dX9_note_11 : decode cX9_note 11 = .ok (.iload_n 2, 1) := by decide +kernel
theorem dX9_note_12 : decode cX9_note 12 = .ok (.bipush 20, 2) := by decide +kernel
theorem dX9_note_14 : decode cX9_note 14 = .ok (.if_icmp .ge 23, 3) := by decide +kernel
theorem dX9_note_17 : decode cX9_note 17 = .ok (.aload_n 0, 1) := by decide +kernel
theorem dX9_note_18 : decode cX9_note 18 = .ok (.getfield 26, 3) := by decide +kernel
theorem dX9_note_21 : decode cX9_note 21 = .ok (.iload_n 2, 1) := by decide +kernel
theorem dX9_note_22 : decode cX9_note 22 = .ok (.iconst 1, 1) := by decide +kernel
theorem dX9_note_23 : decode cX9_note 23 = .ok (.isub, 1) := by decide +kernel
theorem dX9_note_24 : decode cX9_note 24 = .ok (.aload_n 0, 1) := by decide +kernel
theorem dX9_note_25 : decode cX9_note 25 = .ok (.getfield 26, 3) := by decide +kernel
theorem dX9_note_28 : decode cX9_note 28 = .ok (.iload_n 2, 1) := by decide +kernel
theorem dX9_note_29 : decode cX9_note 29 = .ok (.iaload, 1) := by decide +kernel
theorem dX9_note_30 : decode cX9_note 30 = .ok (.iastore, 1) := by decide +kernel
theorem dX9_note_31 : decode cX9_note 31 = .ok (.iinc 2 1, 3) := by decide +kernel
theorem dX9_note_34 : decode cX9_note 34 = .ok (.goto (-23), 3) := by decide +kernel
theorem dX9_note_37 : decode cX9_note 37 = .ok (.bipush 11, 2) := by decide +kernel
theorem dX9_note_39 : decode cX9_note 39 = .ok (.istore_n 2, 1) := by decide +kernel
theorem dX9_note_40 : decode cX9_note 40 = .ok (.iload_n 2, 1) := by decide +kernel
theorem dX9_note_41 : decode cX9_note 41 = .ok (.sipush 220, 3) := by decide +kernel
theorem dX9_note_44 : decode cX9_note 44 = .ok (.if_icmp .ge 39, 3) := by decide +kernel
theorem dX9_note_47 : decode cX9_note 47 = .ok (.aload_n 0, 1) := by decide +kernel
theorem dX9_note_48 : decode cX9_note 48 = .ok (.getfield 29, 3) := by decide +kernel
theorem dX9_note_51 : decode cX9_note 51 = .ok (.iload_n 2, 1) := by decide +kernel
theorem dX9_note_52 : decode cX9_note 52 = .ok (.bipush 11, 2) := by decide +kernel
theorem dX9_note_54 : decode cX9_note 54 = .ok (.isub, 1) := by decide +kernel
theorem dX9_note_55 : decode cX9_note 55 = .ok (.aload_n 0, 1) := by decide +kernel
theorem dX9_note_56 : decode cX9_note 56 = .ok (.getfield 29, 3) := by decide +kernel
theorem dX9_note_59 : decode cX9_note 59 = .ok (.iload_n 2, 1) := by decide +kernel
theorem dX9_note_60 : decode cX9_note 60 = .ok (.iaload, 1) := by decide +kernel
theorem dX9_note_61 : decode cX9_note 61 = .ok (.iastore, 1) := by decide +kernel
theorem dX9_note_62 : decode cX9_note 62 = .ok (.aload_n 0, 1) := by decide +kernel
theorem dX9_note_63 : decode cX9_note 63 = .ok (.getfield 32, 3) := by decide +kernel
theorem dX9_note_66 : decode cX9_note 66 = .ok (.iload_n 2, 1) := by decide +kernel
theorem dX9_note_67 : decode cX9_note 67 = .ok (.bipush 11, 2) := by decide +kernel
theorem dX9_note_69 : decode cX9_note 69 = .ok (.isub, 1) := by decide +kernel
theorem dX9_note_70 : decode cX9_note 70 = .ok (.aload_n 0, 1) := by decide +kernel
theorem dX9_note_71 : decode cX9_note 71 = .ok (.getfield 32, 3) := by decide +kernel
theorem dX9_note_74 : decode cX9_note 74 = .ok (.iload_n 2, 1) := by decide +kernel
theorem dX9_note_75 : decode cX9_note 75 = .ok (.iaload, 1) := by decide +kernel
theorem dX9_note_76 : decode cX9_note 76 = .ok (.iastore, 1) := by decide +kernel
theorem dX9_note_77 : decode cX9_note 77 = .ok (.iinc 2 1, 3) := by decide +kernel
theorem dX9_note_80 : decode cX9_note 80 = .ok (.goto (-40), 3) := by decide +kernel
theorem dX9_note_83 : decode cX9_note 83 = .ok (.aload_n 0, 1) := by decide +kernel
theorem dX9_note_84 : decode cX9_note 84 = .ok (.dup, 1) := by decide +kernel
theorem dX9_note_85 : decode cX9_note 85 = .ok (.getfield 181, 3) := by decide +kernel
theorem dX9_note_88 : decode cX9_note 88 = .ok (.iconst 1, 1) := by decide +kernel
theorem dX9_note_89 : decode cX9_note 89 = .ok (.isub, 1) := by decide +kernel
theorem dX9_note_90 : decode cX9_note 90 = .ok (.putfield 181, 3) := by decide +kernel
theorem dX9_note_93 : decode cX9_note 93 = .ok (.aload_n 0, 1) := by decide +kernel
theorem dX9_note_94 : decode cX9_note 94 = .ok (.getfield 26, 3) := by decide +kernel
theorem dX9_note_97 : decode cX9_note 97 = .ok (.aload_n 0, 1) := by decide +kernel
theorem dX9_note_98 : decode cX9_note 98 = .ok (.getfield 181, 3) := by decide +kernel
theorem dX9_note_101 : decode cX9_note 101 = .ok (.iload_n 1, 1) := by decide +kernel
theorem dX9_note_102 : decode cX9_note 102 = .ok (.iastore, 1) := by decide +kernel
theorem dX9_note_103 : decode cX9_note 103 = .ok (.iconst 0, 1) := by decide +kernel
theorem dX9_note_104 : decode cX9_note 104 = .ok (.istore_n 2, 1) := by decide +kernel
theorem dX9_note_105 : decode cX9_note 105 = .ok (.iload_n 2, 1) := by decide +kernel
theorem dX9_note_106 : decode cX9_note 106 = .ok (.bipush 11, 2) := by decide +kernel
theorem dX9_note_108 : decode cX9_note 108 = .ok (.if_icmp .ge 29, 3) := by decide +kernel
theorem dX9_note_111 : decode cX9_note 111 = .ok (.aload_n 0, 1) := by decide +kernel
theorem dX9_note_112 : decode cX9_note 112 = .ok (.getfield 29, 3) := by decide +kernel
theorem dX9_note_115 : decode cX9_note 115 = .ok (.bipush 11, 2) := by decide +kernel
theorem dX9_note_117 : decode cX9_note 117 = .ok (.aload_n 0, 1) := by decide +kernel
theorem dX9_note_118 : decode cX9_note 118 = .ok (.getfield 181, 3) := by decide +kernel
theorem dX9_note_121 : decode cX9_note 121 = .ok (.imul, 1) := by decide +kernel
theorem dX9_note_122 : decode cX9_note 122 = .ok (.iload_n 2, 1) := by decide +kernel
theorem dX9_note_123 : decode cX9_note 123 = .ok (.iadd, 1) := by decide +kernel
theorem dX9_note_124 : decode cX9_note 124 = .ok (.aload_n 0, 1) := by decide +kernel
theorem dX9_note_125 : decode cX9_note 125 = .ok (.getfield 54, 3) := by decide +kernel
theorem dX9_note_128 : decode cX9_note 128 = .ok (.iload_n 2, 1) := by decide +kernel
theorem dX9_note_129 : decode cX9_note 129 = .ok (.iaload, 1) := by decide +kernel
theorem dX9_note_130 : decode cX9_note 130 = .ok (.iastore, 1) := by decide +kernel
theorem dX9_note_131 : decode cX9_note 131 = .ok (.iinc 2 1, 3) := by decide +kernel
theorem dX9_note_134 : decode cX9_note 134 = .ok (.goto (-29), 3) := by decide +kernel
theorem dX9_note_137 : decode cX9_note 137 = .ok (.aload_n 0, 1) := by decide +kernel
theorem dX9_note_138 : decode cX9_note 138 = .ok (.iload_n 1, 1) := by decide +kernel
theorem dX9_note_139 : decode cX9_note 139 = .ok (.aload_n 0, 1) := by decide +kernel
theorem dX9_note_140 : decode cX9_note 140 = .ok (.getfield 32, 3) := by decide +kernel
theorem dX9_note_143 : decode cX9_note 143 = .ok (.bipush 11, 2) := by decide +kernel
theorem dX9_note_145 : decode cX9_note 145 = .ok (.aload_n 0, 1) := by decide +kernel
theorem dX9_note_146 : decode cX9_note 146 = .ok (.getfield 181, 3) := by decide +kernel
theorem dX9_note_149 : decode cX9_note 149 = .ok (.imul, 1) := by decide +kernel
theorem dX9_note_150 : decode cX9_note 150 = .ok (.invokevirtual 177, 3) := by decide +kernel
theorem dX9_note_153 : decode cX9_note 153 = .ok (.aload_n 0, 1) := by decide +kernel
theorem dX9_note_154 : decode cX9_note 154 = .ok (.dup, 1) := by decide +kernel
theorem dX9_note_155 : decode cX9_note 155 = .ok (.getfield 181, 3) := by decide +kernel
theorem dX9_note_158 : decode cX9_note 158 = .ok (.iconst 1, 1) := by decide +kernel
theorem dX9_note_159 : decode cX9_note 159 = .ok (.iadd, 1) := by decide +kernel
theorem dX9_note_160 : decode cX9_note 160 = .ok (.putfield 181, 3) := by decide +kernel
theorem dX9_note_163 : decode cX9_note 163 = .ok (.aload_n 0, 1) := by decide +kernel
theorem dX9_note_164 : decode cX9_note 164 = .ok (.iconst 0, 1) := by decide +kernel
theorem dX9_note_165 : decode cX9_note 165 = .ok (.putfield 184, 3) := by decide +kernel
theorem dX9_note_168 : decode cX9_note 168 = .ok (.aload_n 0, 1) := by decide +kernel
theorem dX9_note_169 : decode cX9_note 169 = .ok (.iconst 0, 1) := by decide +kernel
theorem dX9_note_170 : decode cX9_note 170 = .ok (.putfield 72, 3) := by decide +kernel
theorem dX9_note_173 : decode cX9_note 173 = .ok (.return_, 1) := by decide +kernel
set_option maxRecDepth 20000 in
theorem ggX9_isTaken_X9_of : GoodIn wsX9_isTaken wsX9_of := goodIn_r _ [6, 7, 92, 93, 94, 95, 96, 97, 98, 99, 100, 101, 102, 103, 104, 105, 106, 107, 108, 109, 110, 111, 112, 113, 114, 115, 116, 117, 118, 119, 120, 121, 122, 123, 124, 125, 126, 127] (by decide +kernel) (by decide +kernel)
set_option maxRecDepth 20000 in
theorem gX9_isTaken_X9_of : GoodIn wsX9_isTaken (wsV RX9 80 RX9 yX9_of wsX9_of) := goodIn_app (goodIn_of _ (by decide +kernel)) ggX9_isTaken_X9_of
set_option maxRecDepth 20000 in
theorem ggX9_isTaken_X9_isPossible : GoodIn wsX9_isTaken wsX9_isPossible := goodIn_r _ [11, 12, 13, 14, 15, 5, 16, 17, 18, 19, 20, 21, 22, 23, 24, 25, 26, 27, 28, 29, 30, 31, 32, 33, 34, 35, 36, 2, 3, 4, 6, 7, 37, 38, 39, 40, 41, 42, 43, 44, 45, 46, 47, 48, 49, 50, 51, 52, 53, 54, 55, 56, 57, 58, 59, 60, 61, 62, 63, 64, 65, 66, 67, 68, 69, 70, 71, 72, 73, 74, 92, 93, 94, 95, 96, 97, 98, 99, 100, 101, 102, 103, 104, 105, 106, 107, 108, 109, 110, 111, 112, 113, 114, 115, 116, 117, 118, 119, 120, 121, 122, 123, 124, 125, 126, 127] (by decide +kernel) (by decide +kernel)
set_option maxRecDepth 20000 in
theorem gX9_isTaken_X9_isPossible : GoodIn wsX9_isTaken (wsV RX9 187 RX9 yX9_isPossible wsX9_isPossible) := goodIn_app (goodIn_of _ (by decide +kernel)) ggX9_isTaken_X9_isPossible
set_option maxRecDepth 20000 in
theorem ggX9_isTaken_X9_note : GoodIn wsX9_isTaken wsX9_note := goodIn_r _ [78, 79, 80, 81, 82, 1, 83, 12, 84, 85, 86, 5, 87, 7, 92, 93, 94, 95, 96, 97, 98, 99, 100, 101, 102, 103, 104, 105, 106, 107, 108, 109, 110, 111, 112, 113, 114, 115, 116, 117, 118, 119, 120, 121, 122, 123, 124, 125, 126, 127] (by decide +kernel) (by decide +kernel)
set_option maxRecDepth 20000 in
theorem gX9_isTaken_X9_note : GoodIn wsX9_isTaken (wsV RX9 190 RX9 yX9_note wsX9_note) := goodIn_app (goodIn_of _ (by decide +kernel)) ggX9_isTaken_X9_note
set_option maxRecDepth 20000 in
theorem ggX9_isTaken_X9_copyIn : GoodIn wsX9_isTaken wsX9_copyIn := goodIn_r _ [91, 7, 12, 92, 93, 94, 95, 96, 97, 98, 99, 100, 101, 102, 103, 104, 105, 106, 107, 108, 109, 110, 111, 112, 113, 114, 115, 116, 117, 118, 119, 120, 121, 122, 123, 124, 125, 126, 127] (by decide +kernel) (by decide +kernel)
set_option maxRecDepth 20000 in
theorem gX9_isTaken_X9_copyIn : GoodIn wsX9_isTaken (wsV RX9 193 RX9 yX9_copyIn wsX9_copyIn) := goodIn_app (goodIn_of _ (by decide +kernel)) ggX9_isTaken_X9_copyIn
theorem dX9_isTaken_0 : decode cX9_isTaken 0 = .ok (.aload_n 0, 1) := by decide +kernel
theorem dX9_isTaken_1 : decode cX9_isTaken 1 = .ok (.iload_n 1, 1) := by decide +kernel
theorem dX9_isTaken_2 : decode cX9_isTaken 2 = .ok (.bipush 10, 2) := by decide +kernel
theorem dX9_isTaken_4 : decode cX9_isTaken 4 = .ok (.invokevirtual 80, 3) := by decide +kernel
theorem dX9_isTaken_7 : decode cX9_isTaken 7 = .ok (.ifCond .eq 23, 3) := by decide +kernel
theorem dX9_isTaken_10 : decode cX9_isTaken 10 = .ok (.aload_n 0, 1) := by decide +kernel
theorem dX9_isTaken_11 : decode cX9_isTaken 11 = .ok (.iload_n 1, 1) := by decide +kernel
theorem dX9_isTaken_12 : decode cX9_isTaken 12 = .ok (.bipush 8, 2) := by decide +kernel
theorem dX9_isTaken_14 : decode cX9_isTaken 14 = .ok (.invokevirtual 80, 3) := by decide +kernel
theorem dX9_isTaken_17 : decode cX9_isTaken 17 = .ok (.ifCond .ne 13, 3) := by decide +kernel
theorem dX9_isTaken_20 : decode cX9_isTaken 20 = .ok (.aload_n 0, 1) := by decide +kernel
theorem dX9_isTaken_21 : decode cX9_isTaken 21 = .ok (.sipush 32767, 3) := by decide +kernel
theorem dX9_isTaken_24 : decode cX9_isTaken 24 = .ok (.invokevirtual 187, 3) := by decide +kernel
theorem dX9_isTaken_27 : decode cX9_isTaken 27 = .ok (.ifCond .eq 7, 3) := by decide +kernel
theorem dX9_isTaken_30 : decode cX9_isTaken 30 = .ok (.iconst 1, 1) := by decide +kernel
theorem dX9_isTaken_31 : decode cX9_isTaken 31 = .ok (.goto 4, 3) := by decide +kernel
theorem dX9_isTaken_34 : decode cX9_isTaken 34 = .ok (.iconst 0, 1) := by decide +kernel
theorem dX9_isTaken_35 : decode cX9_isTaken 35 = .ok (.istore_n 2, 1) := by decide +kernel
theorem dX9_isTaken_36 : decode cX9_isTaken 36 = .ok (.iload_n 2, 1) := by decide +kernel
theorem dX9_isTaken_37 : decode cX9_isTaken 37 = .ok (.ifCond .eq 11, 3) := by decide +kernel
theorem dX9_isTaken_40 : decode cX9_isTaken 40 = .ok (.aload_n 0, 1) := by decide +kernel
theorem dX9_isTaken_41 : decode cX9_isTaken 41 = .ok (.iload_n 1, 1) := by decide +kernel
theorem dX9_isTaken_42 : decode cX9_isTaken 42 = .ok (.invokevirtual 190, 3) := by decide +kernel
theorem dX9_isTaken_45 : decode cX9_isTaken 45 = .ok (.goto 13, 3) := by decide +kernel
theorem dX9_isTaken_48 : decode cX9_isTaken 48 = .ok (.aload_n 0, 1) := by decide +kernel
theorem dX9_isTaken_49 : decode cX9_isTaken 49 = .ok (.iload_n 1, 1) := by decide +kernel
theorem dX9_isTaken_50 : decode cX9_isTaken 50 = .ok (.aload_n 0, 1) := by decide +kernel
theorem dX9_isTaken_51 : decode cX9_isTaken 51 = .ok (.getfield 54, 3) := by decide +kernel
theorem dX9_isTaken_54 : decode cX9_isTaken 54 = .ok (.iconst 0, 1) := by decide +kernel
theorem dX9_isTaken_55 : decode cX9_isTaken 55 = .ok (.invokevirtual 193, 3) := by decide +kernel
theorem dX9_isTaken_58 : decode cX9_isTaken 58 = .ok (.iload_n 2, 1) := by decide +kernel
theorem dX9_isTaken_59 : decode cX9_isTaken 59 = .ok (.ireturn, 1) := by decide +kernel
set_option maxRecDepth 20000 in
theorem ggX9_undo_X9_copyIn : GoodIn wsX9_undo wsX9_copyIn := goodIn_r _ [9, 10, 11, 12, 13, 14, 15, 16, 17, 18, 19, 20, 21, 22, 23, 24, 25, 26, 27, 28, 29, 30, 31, 32, 33, 34, 35, 36, 37, 38, 39, 40, 41, 42, 43, 44, 45, 46, 47] (by decide +kernel) (by decide +kernel)
set_option maxRecDepth 20000 in
theorem gX9_undo_X9_copyIn : GoodIn wsX9_undo (wsV RX9 193 RX9 yX9_copyIn wsX9_copyIn) := goodIn_app (goodIn_of _ (by decide +kernel)) ggX9_undo_X9_copyIn
theorem dX9_undo_0 : decode cX9_undo 0 = .ok (.aload_n 0, 1) := by decide +kernel
theorem dX9_undo_1 : decode cX9_undo 1 = .ok (.getfield 181, 3) := by decide +kernel
theorem dX9_undo_4 : decode cX9_undo 4 = .ok (.ifCond .ne 6, 3) := by decide +kernel
theorem dX9_undo_7 : decode cX9_undo 7 = .ok (.bipush (-5), 2) := by decide +kernel
theorem dX9_undo_9 : decode cX9_undo 9 = .ok (.ireturn, 1) := by decide +kernel
theorem dX9_undo_10 : decode cX9_undo 10 = .ok (.aload_n 0, 1) := by decide +kernel
theorem dX9_undo_11 : decode cX9_undo 11 = .ok (.dup, 1) := by decide +kernel
theorem dX9_undo_12 : decode cX9_undo 12 = .ok (.getfield 181, 3) := by decide +kernel
theorem dX9_undo_15 : decode cX9_undo 15 = .ok (.iconst 1, 1) := by decide +kernel
theorem dX9_undo_16 : decode cX9_undo 16 = .ok (.isub, 1) := by decide +kernel
theorem dX9_undo_17 : decode cX9_undo 17 = .ok (.putfield 181, 3) := by decide +kernel
theorem dX9_undo_20 : decode cX9_undo 20 = .ok (.aload_n 0, 1) := by decide +kernel
theorem dX9_undo_21 : decode cX9_undo 21 = .ok (.dup, 1) := by decide +kernel
theorem dX9_undo_22 : decode cX9_undo 22 = .ok (.getfield 184, 3) := by decide +kernel
theorem dX9_undo_25 : decode cX9_undo 25 = .ok (.iconst 1, 1) := by decide +kernel
theorem dX9_undo_26 : decode cX9_undo 26 = .ok (.iadd, 1) := by decide +kernel
theorem dX9_undo_27 : decode cX9_undo 27 = .ok (.putfield 184, 3) := by decide +kernel
theorem dX9_undo_30 : decode cX9_undo 30 = .ok (.aload_n 0, 1) := by decide +kernel
theorem dX9_undo_31 : decode cX9_undo 31 = .ok (.aload_n 0, 1) := by decide +kernel
theorem dX9_undo_32 : decode cX9_undo 32 = .ok (.getfield 26, 3) := by decide +kernel
theorem dX9_undo_35 : decode cX9_undo 35 = .ok (.aload_n 0, 1) := by decide +kernel
theorem dX9_undo_36 : decode cX9_undo 36 = .ok (.getfield 181, 3) := by decide +kernel
theorem dX9_undo_39 : decode cX9_undo 39 = .ok (.iaload, 1) := by decide +kernel
theorem dX9_undo_40 : decode cX9_undo 40 = .ok (.aload_n 0, 1) := by decide +kernel
theorem dX9_undo_41 : decode cX9_undo 41 = .ok (.getfield 29, 3) := by decide +kernel
theorem dX9_undo_44 : decode cX9_undo 44 = .ok (.bipush 11, 2) := by decide +kernel
theorem dX9_undo_46 : decode cX9_undo 46 = .ok (.aload_n 0, 1) := by decide +kernel
theorem dX9_undo_47 : decode cX9_undo 47 = .ok (.getfield 181, 3) := by decide +kernel
theorem dX9_undo_50 : decode cX9_undo 50 = .ok (.imul, 1) := by decide +kernel
theorem dX9_undo_51 : decode cX9_undo 51 = .ok (.invokevirtual 193, 3) := by decide +kernel
theorem dX9_undo_54 : decode cX9_undo 54 = .ok (.iconst 1, 1) := by decide +kernel
theorem dX9_undo_55 : decode cX9_undo 55 = .ok (.ireturn, 1) := by decide +kernel
set_option maxRecDepth 20000 in
theorem ggX9_redo_X9_copyIn : GoodIn wsX9_redo wsX9_copyIn := goodIn_r _ [9, 10, 11, 12, 13, 14, 15, 16, 17, 18, 19, 20, 21, 22, 23, 24, 25, 26, 27, 28, 29, 30, 31, 32, 33, 34, 35, 36, 37, 38, 39, 40, 41, 42, 43, 44, 45, 46, 47] (by decide +kernel) (by decide +kernel)
set_option maxRecDepth 20000 in
theorem gX9_redo_X9_copyIn : GoodIn wsX9_redo (wsV RX9 193 RX9 yX9_copyIn wsX9_copyIn) := goodIn_app (goodIn_of _ (by decide +kernel)) ggX9_redo_X9_copyIn
theorem dX9_redo_0 : decode cX9_redo 0 = .ok (.aload_n 0, 1) := by decide +kernel
theorem dX9_redo_1 : decode cX9_redo 1 = .ok (.getfield 184, 3) := by decide +kernel
theorem dX9_redo_4 : decode cX9_redo 4 = .ok (.ifCond .ne 6, 3) := by decide +kernel
theorem dX9_redo_7 : decode cX9_redo 7 = .ok (.bipush (-5), 2) := by decide +kernel
theorem dX9_redo_9 : decode cX9_redo 9 = .ok (.ireturn, 1) := by decide +kernel
theorem dX9_redo_10 : decode cX9_redo 10 = .ok (.aload_n 0, 1) := by decide +kernel
theorem dX9_redo_11 : decode cX9_redo 11 = .ok (.aload_n 0, 1) := by decide +kernel
theorem dX9_redo_12 : decode cX9_redo 12 = .ok (.getfield 26, 3) := by decide +kernel
theorem dX9_redo_15 : decode cX9_redo 15 = .ok (.aload_n 0, 1) := by decide +kernel
theorem dX9_redo_16 : decode cX9_redo 16 = .ok (.getfield 181, 3) := by decide +kernel
theorem dX9_redo_19 : decode cX9_redo 19 = .ok (.iaload, 1) := by decide +kernel
theorem dX9_redo_20 : decode cX9_redo 20 = .ok (.aload_n 0, 1) := by decide +kernel
theorem dX9_redo_21 : decode cX9_redo 21 = .ok (.getfield 32, 3) := by decide +kernel
theorem dX9_redo_24 : decode cX9_redo 24 = .ok (.bipush 11, 2) := by decide +kernel
theorem dX9_redo_26 : decode cX9_redo 26 = .ok (.aload_n 0, 1) := by decide +kernel
theorem dX9_redo_27 : decode cX9_redo 27 = .ok (.getfield 181, 3) := by decide +kernel
theorem dX9_redo_30 : decode cX9_redo 30 = .ok (.imul, 1) := by decide +kernel
theorem dX9_redo_31 : decode cX9_redo 31 = .ok (.invokevirtual 193, 3) := by decide +kernel
theorem dX9_redo_34 : decode cX9_redo 34 = .ok (.aload_n 0, 1) := by decide +kernel
theorem dX9_redo_35 : decode cX9_redo 35 = .ok (.dup, 1) := by decide +kernel
theorem dX9_redo_36 : decode cX9_redo 36 = .ok (.getfield 181, 3) := by decide +kernel
theorem dX9_redo_39 : decode cX9_redo 39 = .ok (.iconst 1, 1) := by decide +kernel
theorem dX9_redo_40 : decode cX9_redo 40 = .ok (.iadd, 1) := by decide +kernel
theorem dX9_redo_41 : decode cX9_redo 41 = .ok (.putfield 181, 3) := by decide +kernel
theorem dX9_redo_44 : decode cX9_redo 44 = .ok (.aload_n 0, 1) := by decide +kernel
theorem dX9_redo_45 : decode cX9_redo 45 = .ok (.dup, 1) := by decide +kernel
theorem dX9_redo_46 : decode cX9_redo 46 = .ok (.getfield 184, 3) := by decide +kernel
theorem dX9_redo_49 : decode cX9_redo 49 = .ok (.iconst 1, 1) := by decide +kernel
theorem dX9_redo_50 : decode cX9_redo 50 = .ok (.isub, 1) := by decide +kernel
theorem dX9_redo_51 : decode cX9_redo 51 = .ok (.putfield 184, 3) := by decide +kernel
theorem dX9_redo_54 : decode cX9_redo 54 = .ok (.iconst 1, 1) := by decide +kernel
theorem dX9_redo_55 : decode cX9_redo 55 = .ok (.ireturn, 1) := by decide +kernel
set_option maxRecDepth 20000 in
theorem ggX9_term_X9_isVariable : GoodIn wsX9_term wsX9_isVariable := goodIn_r _ [5, 6, 7, 4, 8] (by decide +kernel) (by decide +kernel)
set_option maxRecDepth 20000 in
theorem gX9_term_X9_isVariable : GoodIn wsX9_term (va_wsS RX9 196 yX9_isVariable wsX9_isVariable) := goodIn_app (goodIn_of _ (by decide +kernel)) ggX9_term_X9_isVariable
set_option maxRecDepth 20000 in
theorem ggX9_term_X9_in : GoodIn wsX9_term wsX9_in := goodIn_r _ [8] (by decide +kernel) (by decide +kernel)
set_option maxRecDepth 20000 in
theorem gX9_term_X9_in : GoodIn wsX9_term (va_wsS RX9 76 yX9_in wsX9_in) := goodIn_app (goodIn_of _ (by decide +kernel)) ggX9_term_X9_in
theorem dX9_term_0 : decode cX9_term 0 = .ok (.iload_n 1, 1) := by decide +kernel
theorem dX9_term_1 : decode cX9_term 1 = .ok (.invokestatic 196, 3) := by decide +kernel
theorem dX9_term_4 : decode cX9_term 4 = .ok (.ifCond .ne 5, 3) := by decide +kernel
theorem dX9_term_7 : decode cX9_term 7 = .ok (.iconst (-1), 1) := by decide +kernel
theorem dX9_term_8 : decode cX9_term 8 = .ok (.ireturn, 1) := by decide +kernel
theorem dX9_term_9 : decode cX9_term 9 = .ok (.iload_n 2, 1) := by decide +kernel
theorem dX9_term_10 : decode cX9_term 10 = .ok (.bipush (-3), 2) := by decide +kernel
theorem dX9_term_12 : decode cX9_term 12 = .ok (.iconst 3, 1) := by decide +kernel
theorem dX9_term_13 : decode cX9_term 13 = .ok (.invokestatic 76, 3) := by decide +kernel
theorem dX9_term_16 : decode cX9_term 16 = .ok (.ifCond .ne 6, 3) := by decide +kernel
theorem dX9_term_19 : decode cX9_term 19 = .ok (.bipush (-2), 2) := by decide +kernel
theorem dX9_term_21 : decode cX9_term 21 = .ok (.ireturn, 1) := by decide +kernel
theorem dX9_term_22 : decode cX9_term 22 = .ok (.aload_n 0, 1) := by decide +kernel
theorem dX9_term_23 : decode cX9_term 23 = .ok (.getfield 20, 3) := by decide +kernel
theorem dX9_term_26 : decode cX9_term 26 = .ok (.iload_n 1, 1) := by decide +kernel
theorem dX9_term_27 : decode cX9_term 27 = .ok (.iaload, 1) := by decide +kernel
theorem dX9_term_28 : decode cX9_term 28 = .ok (.istore_n 3, 1) := by decide +kernel
theorem dX9_term_29 : decode cX9_term 29 = .ok (.aload_n 0, 1) := by decide +kernel
theorem dX9_term_30 : decode cX9_term 30 = .ok (.getfield 20, 3) := by decide +kernel
theorem dX9_term_33 : decode cX9_term 33 = .ok (.iload_n 1, 1) := by decide +kernel
theorem dX9_term_34 : decode cX9_term 34 = .ok (.iload_n 2, 1) := by decide +kernel
theorem dX9_term_35 : decode cX9_term 35 = .ok (.iastore, 1) := by decide +kernel
theorem dX9_term_36 : decode cX9_term 36 = .ok (.iload_n 3, 1) := by decide +kernel
theorem dX9_term_37 : decode cX9_term 37 = .ok (.bipush 10, 2) := by decide +kernel
theorem dX9_term_39 : decode cX9_term 39 = .ok (.iadd, 1) := by decide +kernel
theorem dX9_term_40 : decode cX9_term 40 = .ok (.ireturn, 1) := by decide +kernel
theorem dX9_isAnything_0 : decode cX9_isAnything 0 = .ok (.iconst 0, 1) := by decide +kernel
theorem dX9_isAnything_1 : decode cX9_isAnything 1 = .ok (.istore_n 1, 1) := by decide +kernel
theorem dX9_isAnything_2 : decode cX9_isAnything 2 = .ok (.iconst 0, 1) := by decide +kernel
theorem dX9_isAnything_3 : decode cX9_isAnything 3 = .ok (.istore_n 2, 1) := by decide +kernel
theorem dX9_isAnything_4 : decode cX9_isAnything 4 = .ok (.iload_n 2, 1) := by decide +kernel
theorem dX9_isAnything_5 : decode cX9_isAnything 5 = .ok (.bipush 6, 2) := by decide +kernel
theorem dX9_isAnything_7 : decode cX9_isAnything 7 = .ok (.if_icmp .ge 25, 3) := by decide +kernel
theorem dX9_isAnything_10 : decode cX9_isAnything 10 = .ok (.iload_n 1, 1) := by decide +kernel
theorem dX9_isAnything_11 : decode cX9_isAnything 11 = .ok (.ifCond .ne 9, 3) := by decide +kernel
theorem dX9_isAnything_14 : decode cX9_isAnything 14 = .ok (.aload_n 0, 1) := by decide +kernel
theorem dX9_isAnything_15 : decode cX9_isAnything 15 = .ok (.iload_n 2, 1) := by decide +kernel
theorem dX9_isAnything_16 : decode cX9_isAnything 16 = .ok (.iaload, 1) := by decide +kernel
theorem dX9_isAnything_17 : decode cX9_isAnything 17 = .ok (.ifCond .eq 7, 3) := by decide +kernel
theorem dX9_isAnything_20 : decode cX9_isAnything 20 = .ok (.iconst 1, 1) := by decide +kernel
theorem dX9_isAnything_21 : decode cX9_isAnything 21 = .ok (.goto 4, 3) := by decide +kernel
theorem dX9_isAnything_24 : decode cX9_isAnything 24 = .ok (.iconst 0, 1) := by decide +kernel
theorem dX9_isAnything_25 : decode cX9_isAnything 25 = .ok (.istore_n 1, 1) := by decide +kernel
theorem dX9_isAnything_26 : decode cX9_isAnything 26 = .ok (.iinc 2 1, 3) := by decide +kernel
theorem dX9_isAnything_29 : decode cX9_isAnything 29 = .ok (.goto (-25), 3) := by decide +kernel
theorem dX9_isAnything_32 : decode cX9_isAnything 32 = .ok (.iload_n 1, 1) := by decide +kernel
theorem dX9_isAnything_33 : decode cX9_isAnything 33 = .ok (.ireturn, 1) := by decide +kernel
set_option maxRecDepth 20000 in
theorem ggX9_come_X9_constraintsThere : GoodIn wsX9_come wsX9_constraintsThere := goodIn_r _ [5, 6, 7, 8, 4, 9, 10, 108, 109, 110, 111, 112, 113, 114, 115, 116, 117, 118, 119, 120, 121, 122, 123, 124, 125, 126, 127, 128, 129, 130, 131, 132, 133, 134, 135, 136, 137, 138, 139, 140, 141, 142, 143] (by decide +kernel) (by decide +kernel)
set_option maxRecDepth 20000 in
theorem gX9_come_X9_constraintsThere : GoodIn wsX9_come (wsV RX9 199 RX9 yX9_constraintsThere wsX9_constraintsThere) := goodIn_app (goodIn_of _ (by decide +kernel)) ggX9_come_X9_constraintsThere
set_option maxRecDepth 20000 in
theorem ggX9_come_X9_of : GoodIn wsX9_come wsX9_of := goodIn_r _ [9, 10, 108, 109, 110, 111, 112, 113, 114, 115, 116, 117, 118, 119, 120, 121, 122, 123, 124, 125, 126, 127, 128, 129, 130, 131, 132, 133, 134, 135, 136, 137, 138, 139, 140, 141, 142, 143] (by decide +kernel) (by decide +kernel)
set_option maxRecDepth 20000 in
theorem gX9_come_X9_of : GoodIn wsX9_come (wsV RX9 80 RX9 yX9_of wsX9_of) := goodIn_app (goodIn_of _ (by decide +kernel)) ggX9_come_X9_of
set_option maxRecDepth 20000 in
theorem ggX9_come_X9_keep : GoodIn wsX9_come wsX9_keep := goodIn_r _ [14, 15, 16, 17, 18, 4, 19, 10, 108, 109, 110, 111, 112, 113, 114, 115, 116, 117, 118, 119, 120, 121, 122, 123, 124, 125, 126, 127, 128, 129, 130, 131, 132, 133, 134, 135, 136, 137, 138, 139, 140, 141, 142, 143] (by decide +kernel) (by decide +kernel)
set_option maxRecDepth 20000 in
theorem gX9_come_X9_keep : GoodIn wsX9_come (wsV RX9 202 RX9 yX9_keep wsX9_keep) := goodIn_app (goodIn_of _ (by decide +kernel)) ggX9_come_X9_keep
set_option maxRecDepth 20000 in
theorem ggX9_come_X9_put : GoodIn wsX9_come wsX9_put := goodIn_r _ [23, 10, 108, 109, 110, 111, 112, 113, 114, 115, 116, 117, 118, 119, 120, 121, 122, 123, 124, 125, 126, 127, 128, 129, 130, 131, 132, 133, 134, 135, 136, 137, 138, 139, 140, 141, 142, 143] (by decide +kernel) (by decide +kernel)
set_option maxRecDepth 20000 in
theorem gX9_come_X9_put : GoodIn wsX9_come (wsV RX9 205 RX9 yX9_put wsX9_put) := goodIn_app (goodIn_of _ (by decide +kernel)) ggX9_come_X9_put
set_option maxRecDepth 20000 in
theorem ggX9_come_X9_isTaken : GoodIn wsX9_come wsX9_isTaken := goodIn_r _ [27, 15, 6, 7, 8, 4, 9, 10, 28, 29, 30, 31, 32, 33, 34, 35, 36, 37, 38, 39, 40, 41, 42, 43, 44, 45, 46, 47, 48, 49, 50, 51, 52, 53, 54, 55, 56, 57, 58, 59, 60, 61, 62, 63, 64, 65, 66, 67, 68, 69, 70, 71, 72, 73, 74, 75, 76, 77, 78, 79, 80, 81, 82, 83, 84, 85, 86, 87, 88, 89, 90, 91, 92, 93, 94, 95, 96, 97, 98, 99, 100, 101, 102, 103, 16, 17, 18, 19, 104, 105, 106, 107, 108, 109, 110, 111, 112, 113, 114, 115, 116, 117, 118, 119, 120, 121, 122, 123, 124, 125, 126, 127, 128, 129, 130, 131, 132, 133, 134, 135, 136, 137, 138, 139, 140, 141, 142, 143] (by decide +kernel) (by decide +kernel)
set_option maxRecDepth 20000 in
theorem gX9_come_X9_isTaken : GoodIn wsX9_come (wsV RX9 209 RX9 yX9_isTaken wsX9_isTaken) := goodIn_app (goodIn_of _ (by decide +kernel)) ggX9_come_X9_isTaken
theorem dX9_come_0 : decode cX9_come 0 = .ok (.aload_n 0, 1) := by decide +kernel
theorem dX9_come_1 : decode cX9_come 1 = .ok (.invokevirtual 199, 3) := by decide +kernel
theorem dX9_come_4 : decode cX9_come 4 = .ok (.bipush 14, 2) := by decide +kernel
theorem dX9_come_6 : decode cX9_come 6 = .ok (.if_icmp .ne 6, 3) := by decide +kernel
theorem dX9_come_9 : decode cX9_come 9 = .ok (.bipush (-4), 2) := by decide +kernel
theorem dX9_come_11 : decode cX9_come 11 = .ok (.ireturn, 1) := by decide +kernel
theorem dX9_come_12 : decode cX9_come 12 = .ok (.iconst 0, 1) := by decide +kernel
theorem dX9_come_13 : decode cX9_come 13 = .ok (.istore 6, 2) := by decide +kernel
theorem dX9_come_15 : decode cX9_come 15 = .ok (.aload_n 0, 1) := by decide +kernel
theorem dX9_come_16 : decode cX9_come 16 = .ok (.iload 6, 2) := by decide +kernel
theorem dX9_come_18 : decode cX9_come 18 = .ok (.bipush 10, 2) := by decide +kernel
theorem dX9_come_20 : decode cX9_come 20 = .ok (.invokevirtual 80, 3) := by decide +kernel
theorem dX9_come_23 : decode cX9_come 23 = .ok (.iconst 1, 1) := by decide +kernel
theorem dX9_come_24 : decode cX9_come 24 = .ok (.if_icmp .ne 9, 3) := by decide +kernel
theorem dX9_come_27 : decode cX9_come 27 = .ok (.iinc 6 1, 3) := by decide +kernel
theorem dX9_come_30 : decode cX9_come 30 = .ok (.goto (-15), 3) := by decide +kernel
theorem dX9_come_33 : decode cX9_come 33 = .ok (.aload_n 0, 1) := by decide +kernel
theorem dX9_come_34 : decode cX9_come 34 = .ok (.iload 6, 2) := by decide +kernel
theorem dX9_come_36 : decode cX9_come 36 = .ok (.invokevirtual 202, 3) := by decide +kernel
theorem dX9_come_39 : decode cX9_come 39 = .ok (.aload_n 0, 1) := by decide +kernel
theorem dX9_come_40 : decode cX9_come 40 = .ok (.iload 6, 2) := by decide +kernel
theorem dX9_come_42 : decode cX9_come 42 = .ok (.aload_n 1, 1) := by decide +kernel
theorem dX9_come_43 : decode cX9_come 43 = .ok (.iload_n 2, 1) := by decide +kernel
theorem dX9_come_44 : decode cX9_come 44 = .ok (.iload_n 3, 1) := by decide +kernel
theorem dX9_come_45 : decode cX9_come 45 = .ok (.iload 4, 2) := by decide +kernel
theorem dX9_come_47 : decode cX9_come 47 = .ok (.iload 5, 2) := by decide +kernel
theorem dX9_come_49 : decode cX9_come 49 = .ok (.invokevirtual 205, 3) := by decide +kernel
theorem dX9_come_52 : decode cX9_come 52 = .ok (.aload_n 0, 1) := by decide +kernel
theorem dX9_come_53 : decode cX9_come 53 = .ok (.iload 6, 2) := by decide +kernel
theorem dX9_come_55 : decode cX9_come 55 = .ok (.invokevirtual 209, 3) := by decide +kernel
theorem dX9_come_58 : decode cX9_come 58 = .ok (.ifCond .eq 8, 3) := by decide +kernel
theorem dX9_come_61 : decode cX9_come 61 = .ok (.iload 6, 2) := by decide +kernel
theorem dX9_come_63 : decode cX9_come 63 = .ok (.goto 5, 3) := by decide +kernel
theorem dX9_come_66 : decode cX9_come 66 = .ok (.bipush (-3), 2) := by decide +kernel
theorem dX9_come_68 : decode cX9_come 68 = .ok (.ireturn, 1) := by decide +kernel
theorem dX9_put_0 : decode cX9_put 0 = .ok (.iconst 0, 1) := by decide +kernel
theorem dX9_put_1 : decode cX9_put 1 = .ok (.istore 7, 2) := by decide +kernel
theorem dX9_put_3 : decode cX9_put 3 = .ok (.iload 7, 2) := by decide +kernel
theorem dX9_put_5 : decode cX9_put 5 = .ok (.bipush 6, 2) := by decide +kernel
theorem dX9_put_7 : decode cX9_put 7 = .ok (.if_icmp .ge 25, 3) := by decide +kernel
theorem dX9_put_10 : decode cX9_put 10 = .ok (.aload_n 0, 1) := by decide +kernel
theorem dX9_put_11 : decode cX9_put 11 = .ok (.getfield 7, 3) := by decide +kernel
theorem dX9_put_14 : decode cX9_put 14 = .ok (.bipush 11, 2) := by decide +kernel
theorem dX9_put_16 : decode cX9_put 16 = .ok (.iload_n 1, 1) := by decide +kernel
theorem dX9_put_17 : decode cX9_put 17 = .ok (.imul, 1) := by decide +kernel
theorem dX9_put_18 : decode cX9_put 18 = .ok (.iload 7, 2) := by decide +kernel
theorem dX9_put_20 : decode cX9_put 20 = .ok (.iadd, 1) := by decide +kernel
theorem dX9_put_21 : decode cX9_put 21 = .ok (.aload_n 2, 1) := by decide +kernel
theorem dX9_put_22 : decode cX9_put 22 = .ok (.iload 7, 2) := by decide +kernel
theorem dX9_put_24 : decode cX9_put 24 = .ok (.iaload, 1) := by decide +kernel
theorem dX9_put_25 : decode cX9_put 25 = .ok (.iastore, 1) := by decide +kernel
theorem dX9_put_26 : decode cX9_put 26 = .ok (.iinc 7 1, 3) := by decide +kernel
theorem dX9_put_29 : decode cX9_put 29 = .ok (.goto (-26), 3) := by decide +kernel
theorem dX9_put_32 : decode cX9_put 32 = .ok (.aload_n 0, 1) := by decide +kernel
theorem dX9_put_33 : decode cX9_put 33 = .ok (.getfield 7, 3) := by decide +kernel
theorem dX9_put_36 : decode cX9_put 36 = .ok (.bipush 11, 2) := by decide +kernel
theorem dX9_put_38 : decode cX9_put 38 = .ok (.iload_n 1, 1) := by decide +kernel
theorem dX9_put_39 : decode cX9_put 39 = .ok (.imul, 1) := by decide +kernel
theorem dX9_put_40 : decode cX9_put 40 = .ok (.bipush 6, 2) := by decide +kernel
theorem dX9_put_42 : decode cX9_put 42 = .ok (.iadd, 1) := by decide +kernel
theorem dX9_put_43 : decode cX9_put 43 = .ok (.iload_n 3, 1) := by decide +kernel
theorem dX9_put_44 : decode cX9_put 44 = .ok (.iastore, 1) := by decide +kernel
theorem dX9_put_45 : decode cX9_put 45 = .ok (.aload_n 0, 1) := by decide +kernel
theorem dX9_put_46 : decode cX9_put 46 = .ok (.getfield 7, 3) := by decide +kernel
theorem dX9_put_49 : decode cX9_put 49 = .ok (.bipush 11, 2) := by decide +kernel
theorem dX9_put_51 : decode cX9_put 51 = .ok (.iload_n 1, 1) := by decide +kernel
theorem dX9_put_52 : decode cX9_put 52 = .ok (.imul, 1) := by decide +kernel
theorem dX9_put_53 : decode cX9_put 53 = .ok (.bipush 7, 2) := by decide +kernel
theorem dX9_put_55 : decode cX9_put 55 = .ok (.iadd, 1) := by decide +kernel
theorem dX9_put_56 : decode cX9_put 56 = .ok (.iload 4, 2) := by decide +kernel
theorem dX9_put_58 : decode cX9_put 58 = .ok (.iastore, 1) := by decide +kernel
theorem dX9_put_59 : decode cX9_put 59 = .ok (.aload_n 0, 1) := by decide +kernel
theorem dX9_put_60 : decode cX9_put 60 = .ok (.getfield 7, 3) := by decide +kernel
theorem dX9_put_63 : decode cX9_put 63 = .ok (.bipush 11, 2) := by decide +kernel
theorem dX9_put_65 : decode cX9_put 65 = .ok (.iload_n 1, 1) := by decide +kernel
theorem dX9_put_66 : decode cX9_put 66 = .ok (.imul, 1) := by decide +kernel
theorem dX9_put_67 : decode cX9_put 67 = .ok (.bipush 8, 2) := by decide +kernel
theorem dX9_put_69 : decode cX9_put 69 = .ok (.iadd, 1) := by decide +kernel
theorem dX9_put_70 : decode cX9_put 70 = .ok (.iload 5, 2) := by decide +kernel
theorem dX9_put_72 : decode cX9_put 72 = .ok (.iastore, 1) := by decide +kernel
theorem dX9_put_73 : decode cX9_put 73 = .ok (.aload_n 0, 1) := by decide +kernel
theorem dX9_put_74 : decode cX9_put 74 = .ok (.getfield 7, 3) := by decide +kernel
theorem dX9_put_77 : decode cX9_put 77 = .ok (.bipush 11, 2) := by decide +kernel
theorem dX9_put_79 : decode cX9_put 79 = .ok (.iload_n 1, 1) := by decide +kernel
theorem dX9_put_80 : decode cX9_put 80 = .ok (.imul, 1) := by decide +kernel
theorem dX9_put_81 : decode cX9_put 81 = .ok (.bipush 9, 2) := by decide +kernel
theorem dX9_put_83 : decode cX9_put 83 = .ok (.iadd, 1) := by decide +kernel
theorem dX9_put_84 : decode cX9_put 84 = .ok (.iload 6, 2) := by decide +kernel
theorem dX9_put_86 : decode cX9_put 86 = .ok (.iastore, 1) := by decide +kernel
theorem dX9_put_87 : decode cX9_put 87 = .ok (.aload_n 0, 1) := by decide +kernel
theorem dX9_put_88 : decode cX9_put 88 = .ok (.getfield 7, 3) := by decide +kernel
theorem dX9_put_91 : decode cX9_put 91 = .ok (.bipush 11, 2) := by decide +kernel
theorem dX9_put_93 : decode cX9_put 93 = .ok (.iload_n 1, 1) := by decide +kernel
theorem dX9_put_94 : decode cX9_put 94 = .ok (.imul, 1) := by decide +kernel
theorem dX9_put_95 : decode cX9_put 95 = .ok (.bipush 10, 2) := by decide +kernel
theorem dX9_put_97 : decode cX9_put 97 = .ok (.iadd, 1) := by decide +kernel
theorem dX9_put_98 : decode cX9_put 98 = .ok (.iconst 1, 1) := by decide +kernel
theorem dX9_put_99 : decode cX9_put 99 = .ok (.iastore, 1) := by decide +kernel
theorem dX9_put_100 : decode cX9_put 100 = .ok (.return_, 1) := by decide +kernel
set_option maxRecDepth 20000 in
theorem ggX9_isConstant_X9_in : GoodIn wsX9_isConstant wsX9_in := goodIn_r _ [4] (by decide +kernel) (by decide +kernel)
set_option maxRecDepth 20000 in
theorem gX9_isConstant_X9_in : GoodIn wsX9_isConstant (va_wsS RX9 76 yX9_in wsX9_in) := goodIn_app (goodIn_of _ (by decide +kernel)) ggX9_isConstant_X9_in
theorem dX9_isConstant_0 : decode cX9_isConstant 0 = .ok (.iload_n 0, 1) := by decide +kernel
theorem dX9_isConstant_1 : decode cX9_isConstant 1 = .ok (.sipush (-200), 3) := by decide +kernel
theorem dX9_isConstant_4 : decode cX9_isConstant 4 = .ok (.sipush 200, 3) := by decide +kernel
theorem dX9_isConstant_7 : decode cX9_isConstant 7 = .ok (.invokestatic 76, 3) := by decide +kernel
theorem dX9_isConstant_10 : decode cX9_isConstant 10 = .ok (.ireturn, 1) := by decide +kernel
set_option maxRecDepth 20000 in
theorem ggX9_isStrength_X9_in : GoodIn wsX9_isStrength wsX9_in := goodIn_r _ [4] (by decide +kernel) (by decide +kernel)
set_option maxRecDepth 20000 in
theorem gX9_isStrength_X9_in : GoodIn wsX9_isStrength (va_wsS RX9 76 yX9_in wsX9_in) := goodIn_app (goodIn_of _ (by decide +kernel)) ggX9_isStrength_X9_in
theorem dX9_isStrength_0 : decode cX9_isStrength 0 = .ok (.iload_n 0, 1) := by decide +kernel
theorem dX9_isStrength_1 : decode cX9_isStrength 1 = .ok (.iconst 0, 1) := by decide +kernel
theorem dX9_isStrength_2 : decode cX9_isStrength 2 = .ok (.iconst 3, 1) := by decide +kernel
theorem dX9_isStrength_3 : decode cX9_isStrength 3 = .ok (.invokestatic 76, 3) := by decide +kernel
theorem dX9_isStrength_6 : decode cX9_isStrength 6 = .ok (.ifCond .eq 16, 3) := by decide +kernel
theorem dX9_isStrength_9 : decode cX9_isStrength 9 = .ok (.iload_n 1, 1) := by decide +kernel
theorem dX9_isStrength_10 : decode cX9_isStrength 10 = .ok (.iconst 1, 1) := by decide +kernel
theorem dX9_isStrength_11 : decode cX9_isStrength 11 = .ok (.iconst 5, 1) := by decide +kernel
theorem dX9_isStrength_12 : decode cX9_isStrength 12 = .ok (.invokestatic 76, 3) := by decide +kernel
theorem dX9_isStrength_15 : decode cX9_isStrength 15 = .ok (.ifCond .eq 7, 3) := by decide +kernel
theorem dX9_isStrength_18 : decode cX9_isStrength 18 = .ok (.iconst 1, 1) := by decide +kernel
theorem dX9_isStrength_19 : decode cX9_isStrength 19 = .ok (.goto 4, 3) := by decide +kernel
theorem dX9_isStrength_22 : decode cX9_isStrength 22 = .ok (.iconst 0, 1) := by decide +kernel
theorem dX9_isStrength_23 : decode cX9_isStrength 23 = .ok (.ireturn, 1) := by decide +kernel
set_option maxRecDepth 20000 in
theorem ggX9_add_X9_in : GoodIn wsX9_add wsX9_in := goodIn_r _ [5] (by decide +kernel) (by decide +kernel)
set_option maxRecDepth 20000 in
theorem gX9_add_X9_in : GoodIn wsX9_add (va_wsS RX9 76 yX9_in wsX9_in) := goodIn_app (goodIn_of _ (by decide +kernel)) ggX9_add_X9_in
set_option maxRecDepth 20000 in
theorem ggX9_add_X9_isConstant : GoodIn wsX9_add wsX9_isConstant := goodIn_r _ [8, 2, 3, 4, 5] (by decide +kernel) (by decide +kernel)
set_option maxRecDepth 20000 in
theorem gX9_add_X9_isConstant : GoodIn wsX9_add (va_wsS RX9 212 yX9_isConstant wsX9_isConstant) := goodIn_app (goodIn_of _ (by decide +kernel)) ggX9_add_X9_isConstant
set_option maxRecDepth 20000 in
theorem ggX9_add_X9_isStrength : GoodIn wsX9_add wsX9_isStrength := goodIn_r _ [11, 2, 3, 4, 5] (by decide +kernel) (by decide +kernel)
set_option maxRecDepth 20000 in
theorem gX9_add_X9_isStrength : GoodIn wsX9_add (va_wsS RX9 215 yX9_isStrength wsX9_isStrength) := goodIn_app (goodIn_of _ (by decide +kernel)) ggX9_add_X9_isStrength
set_option maxRecDepth 20000 in
theorem ggX9_add_X9_isAnything : GoodIn wsX9_add wsX9_isAnything := goodIn_r _ [14] (by decide +kernel) (by decide +kernel)
set_option maxRecDepth 20000 in
theorem gX9_add_X9_isAnything : GoodIn wsX9_add (va_wsS RX9 219 yX9_isAnything wsX9_isAnything) := goodIn_app (goodIn_of _ (by decide +kernel)) ggX9_add_X9_isAnything
set_option maxRecDepth 20000 in
theorem ggX9_add_X9_come : GoodIn wsX9_add wsX9_come := goodIn_r _ [18, 19, 20, 21, 4, 22, 23, 24, 25, 26, 27, 28, 29, 30, 31, 32, 33, 34, 35, 36, 37, 38, 39, 40, 41, 42, 43, 44, 45, 46, 47, 48, 49, 50, 51, 52, 53, 54, 55, 56, 57, 58, 59, 60, 61, 62, 63, 64, 65, 66, 67, 68, 69, 70, 2, 3, 5, 71, 72, 73, 74, 75, 76, 77, 78, 79, 80, 81, 82, 83, 84, 85, 86, 87, 88, 89, 90, 91, 92, 93, 94, 95, 96, 97, 98, 99, 100, 101, 102, 103, 104, 105, 106, 107, 108, 109, 110, 111, 112, 113, 114, 115, 116, 117, 118, 119, 120, 121, 122, 123, 124, 125, 126, 127, 128, 129, 130, 131, 132, 133, 134, 135, 136, 137, 138, 139, 140, 141, 142, 143, 144, 145, 146, 147, 148, 149, 150, 151, 152, 153, 154, 155, 156, 157] (by decide +kernel) (by decide +kernel)
set_option maxRecDepth 20000 in
theorem gX9_add_X9_come : GoodIn wsX9_add (wsV RX9 223 RX9 yX9_come wsX9_come) := goodIn_app (goodIn_of _ (by decide +kernel)) ggX9_add_X9_come
theorem dX9_add_0 : decode cX9_add 0 = .ok (.iload_n 1, 1) := by decide +kernel
theorem dX9_add_1 : decode cX9_add 1 = .ok (.iconst 0, 1) := by decide +kernel
theorem dX9_add_2 : decode cX9_add 2 = .ok (.iconst 2, 1) := by decide +kernel
theorem dX9_add_3 : decode cX9_add 3 = .ok (.invokestatic 76, 3) := by decide +kernel
theorem dX9_add_6 : decode cX9_add 6 = .ok (.ifCond .eq 19, 3) := by decide +kernel
theorem dX9_add_9 : decode cX9_add 9 = .ok (.iload_n 2, 1) := by decide +kernel
theorem dX9_add_10 : decode cX9_add 10 = .ok (.invokestatic 212, 3) := by decide +kernel
theorem dX9_add_13 : decode cX9_add 13 = .ok (.ifCond .eq 12, 3) := by decide +kernel
theorem dX9_add_16 : decode cX9_add 16 = .ok (.iload_n 3, 1) := by decide +kernel
theorem dX9_add_17 : decode cX9_add 17 = .ok (.iload 4, 2) := by decide +kernel
theorem dX9_add_19 : decode cX9_add 19 = .ok (.invokestatic 215, 3) := by decide +kernel
theorem dX9_add_22 : decode cX9_add 22 = .ok (.ifCond .ne 6, 3) := by decide +kernel
theorem dX9_add_25 : decode cX9_add 25 = .ok (.bipush (-2), 2) := by decide +kernel
theorem dX9_add_27 : decode cX9_add 27 = .ok (.ireturn, 1) := by decide +kernel
theorem dX9_add_28 : decode cX9_add 28 = .ok (.aload_n 0, 1) := by decide +kernel
theorem dX9_add_29 : decode cX9_add 29 = .ok (.getfield 20, 3) := by decide +kernel
theorem dX9_add_32 : decode cX9_add 32 = .ok (.invokestatic 219, 3) := by decide +kernel
theorem dX9_add_35 : decode cX9_add 35 = .ok (.ifCond .ne 6, 3) := by decide +kernel
theorem dX9_add_38 : decode cX9_add 38 = .ok (.bipush (-5), 2) := by decide +kernel
theorem dX9_add_40 : decode cX9_add 40 = .ok (.ireturn, 1) := by decide +kernel
theorem dX9_add_41 : decode cX9_add 41 = .ok (.aload_n 0, 1) := by decide +kernel
theorem dX9_add_42 : decode cX9_add 42 = .ok (.aload_n 0, 1) := by decide +kernel
theorem dX9_add_43 : decode cX9_add 43 = .ok (.getfield 20, 3) := by decide +kernel
theorem dX9_add_46 : decode cX9_add 46 = .ok (.iload_n 1, 1) := by decide +kernel
theorem dX9_add_47 : decode cX9_add 47 = .ok (.iload_n 2, 1) := by decide +kernel
theorem dX9_add_48 : decode cX9_add 48 = .ok (.iload_n 3, 1) := by decide +kernel
theorem dX9_add_49 : decode cX9_add 49 = .ok (.iload 4, 2) := by decide +kernel
theorem dX9_add_51 : decode cX9_add 51 = .ok (.invokevirtual 223, 3) := by decide +kernel
theorem dX9_add_54 : decode cX9_add 54 = .ok (.istore 5, 2) := by decide +kernel
theorem dX9_add_56 : decode cX9_add 56 = .ok (.iconst 0, 1) := by decide +kernel
theorem dX9_add_57 : decode cX9_add 57 = .ok (.istore 6, 2) := by decide +kernel
theorem dX9_add_59 : decode cX9_add 59 = .ok (.iload 6, 2) := by decide +kernel
theorem dX9_add_61 : decode cX9_add 61 = .ok (.bipush 6, 2) := by decide +kernel
theorem dX9_add_63 : decode cX9_add 63 = .ok (.if_icmp .ge 22, 3) := by decide +kernel
theorem dX9_add_66 : decode cX9_add 66 = .ok (.iload 5, 2) := by decide +kernel
theorem dX9_add_68 : decode cX9_add 68 = .ok (.ifCond .lt 17, 3) := by decide +kernel
theorem dX9_add_71 : decode cX9_add 71 = .ok (.aload_n 0, 1) := by decide +kernel
theorem dX9_add_72 : decode cX9_add 72 = .ok (.getfield 20, 3) := by decide +kernel
theorem dX9_add_75 : decode cX9_add 75 = .ok (.iload 6, 2) := by decide +kernel
theorem dX9_add_77 : decode cX9_add 77 = .ok (.iconst 0, 1) := by decide +kernel
theorem dX9_add_78 : decode cX9_add 78 = .ok (.iastore, 1) := by decide +kernel
theorem dX9_add_79 : decode cX9_add 79 = .ok (.iinc 6 1, 3) := by decide +kernel
theorem dX9_add_82 : decode cX9_add 82 = .ok (.goto (-23), 3) := by decide +kernel
theorem dX9_add_85 : decode cX9_add 85 = .ok (.iload 5, 2) := by decide +kernel
theorem dX9_add_87 : decode cX9_add 87 = .ok (.ireturn, 1) := by decide +kernel
set_option maxRecDepth 20000 in
theorem ggX9_remove_X9_isOne : GoodIn wsX9_remove wsX9_isOne := goodIn_r _ [6, 7, 8, 5, 9, 10, 11, 12, 13, 1, 108, 109, 110, 111, 112, 113, 114, 115, 116, 117, 118, 119, 120, 121, 122, 123, 124, 125, 126, 127, 128, 129, 130, 131, 132, 133, 134, 135, 136, 137, 138, 139, 140, 141, 142, 143] (by decide +kernel) (by decide +kernel)
set_option maxRecDepth 20000 in
theorem gX9_remove_X9_isOne : GoodIn wsX9_remove (wsV RX9 227 RX9 yX9_isOne wsX9_isOne) := goodIn_app (goodIn_of _ (by decide +kernel)) ggX9_remove_X9_isOne
set_option maxRecDepth 20000 in
theorem ggX9_remove_X9_keep : GoodIn wsX9_remove wsX9_keep := goodIn_r _ [17, 18, 19, 20, 21, 5, 22, 1, 108, 109, 110, 111, 112, 113, 114, 115, 116, 117, 118, 119, 120, 121, 122, 123, 124, 125, 126, 127, 128, 129, 130, 131, 132, 133, 134, 135, 136, 137, 138, 139, 140, 141, 142, 143] (by decide +kernel) (by decide +kernel)
set_option maxRecDepth 20000 in
theorem gX9_remove_X9_keep : GoodIn wsX9_remove (wsV RX9 202 RX9 yX9_keep wsX9_keep) := goodIn_app (goodIn_of _ (by decide +kernel)) ggX9_remove_X9_keep
set_option maxRecDepth 20000 in
theorem ggX9_remove_X9_isTaken : GoodIn wsX9_remove wsX9_isTaken := goodIn_r _ [26, 18, 10, 11, 12, 5, 13, 1, 27, 28, 29, 30, 31, 32, 33, 34, 35, 36, 37, 38, 39, 40, 41, 42, 43, 44, 45, 46, 47, 48, 49, 50, 51, 52, 7, 8, 9, 53, 54, 55, 56, 57, 58, 59, 60, 61, 62, 63, 64, 65, 66, 67, 68, 69, 70, 71, 72, 73, 74, 75, 76, 77, 78, 79, 80, 81, 82, 83, 84, 85, 86, 87, 88, 89, 90, 91, 92, 93, 94, 95, 96, 97, 98, 99, 19, 20, 21, 22, 100, 101, 102, 103, 108, 109, 110, 111, 112, 113, 114, 115, 116, 117, 118, 119, 120, 121, 122, 123, 124, 125, 126, 127, 128, 129, 130, 131, 132, 133, 134, 135, 136, 137, 138, 139, 140, 141, 142, 143] (by decide +kernel) (by decide +kernel)
set_option maxRecDepth 20000 in
theorem gX9_remove_X9_isTaken : GoodIn wsX9_remove (wsV RX9 209 RX9 yX9_isTaken wsX9_isTaken) := goodIn_app (goodIn_of _ (by decide +kernel)) ggX9_remove_X9_isTaken
set_option maxRecDepth 20000 in
theorem ggX9_remove_X9_constraintsThere : GoodIn wsX9_remove wsX9_constraintsThere := goodIn_r _ [107, 10, 11, 12, 5, 13, 1, 108, 109, 110, 111, 112, 113, 114, 115, 116, 117, 118, 119, 120, 121, 122, 123, 124, 125, 126, 127, 128, 129, 130, 131, 132, 133, 134, 135, 136, 137, 138, 139, 140, 141, 142, 143] (by decide +kernel) (by decide +kernel)
set_option maxRecDepth 20000 in
theorem gX9_remove_X9_constraintsThere : GoodIn wsX9_remove (wsV RX9 199 RX9 yX9_constraintsThere wsX9_constraintsThere) := goodIn_app (goodIn_of _ (by decide +kernel)) ggX9_remove_X9_constraintsThere
theorem dX9_remove_0 : decode cX9_remove 0 = .ok (.aload_n 0, 1) := by decide +kernel
theorem dX9_remove_1 : decode cX9_remove 1 = .ok (.iload_n 1, 1) := by decide +kernel
theorem dX9_remove_2 : decode cX9_remove 2 = .ok (.invokevirtual 227, 3) := by decide +kernel
theorem dX9_remove_5 : decode cX9_remove 5 = .ok (.ifCond .ne 5, 3) := by decide +kernel
theorem dX9_remove_8 : decode cX9_remove 8 = .ok (.iconst (-1), 1) := by decide +kernel
theorem dX9_remove_9 : decode cX9_remove 9 = .ok (.ireturn, 1) := by decide +kernel
theorem dX9_remove_10 : decode cX9_remove 10 = .ok (.aload_n 0, 1) := by decide +kernel
theorem dX9_remove_11 : decode cX9_remove 11 = .ok (.iload_n 1, 1) := by decide +kernel
theorem dX9_remove_12 : decode cX9_remove 12 = .ok (.invokevirtual 202, 3) := by decide +kernel
theorem dX9_remove_15 : decode cX9_remove 15 = .ok (.aload_n 0, 1) := by decide +kernel
theorem dX9_remove_16 : decode cX9_remove 16 = .ok (.getfield 7, 3) := by decide +kernel
theorem dX9_remove_19 : decode cX9_remove 19 = .ok (.bipush 11, 2) := by decide +kernel
theorem dX9_remove_21 : decode cX9_remove 21 = .ok (.iload_n 1, 1) := by decide +kernel
theorem dX9_remove_22 : decode cX9_remove 22 = .ok (.imul, 1) := by decide +kernel
theorem dX9_remove_23 : decode cX9_remove 23 = .ok (.bipush 10, 2) := by decide +kernel
theorem dX9_remove_25 : decode cX9_remove 25 = .ok (.iadd, 1) := by decide +kernel
theorem dX9_remove_26 : decode cX9_remove 26 = .ok (.iconst 0, 1) := by decide +kernel
theorem dX9_remove_27 : decode cX9_remove 27 = .ok (.iastore, 1) := by decide +kernel
theorem dX9_remove_28 : decode cX9_remove 28 = .ok (.aload_n 0, 1) := by decide +kernel
theorem dX9_remove_29 : decode cX9_remove 29 = .ok (.iload_n 1, 1) := by decide +kernel
theorem dX9_remove_30 : decode cX9_remove 30 = .ok (.invokevirtual 209, 3) := by decide +kernel
theorem dX9_remove_33 : decode cX9_remove 33 = .ok (.pop, 1) := by decide +kernel
theorem dX9_remove_34 : decode cX9_remove 34 = .ok (.aload_n 0, 1) := by decide +kernel
theorem dX9_remove_35 : decode cX9_remove 35 = .ok (.invokevirtual 199, 3) := by decide +kernel
theorem dX9_remove_38 : decode cX9_remove 38 = .ok (.ireturn, 1) := by decide +kernel
set_option maxRecDepth 20000 in
theorem ggX9_setConstant_X9_isOne : GoodIn wsX9_setConstant wsX9_isOne := goodIn_r _ [6, 7, 8, 5, 9, 10, 11, 12, 13, 1, 107, 108, 109, 110, 111, 112, 113, 114, 115, 116, 117, 118, 119, 120, 121, 122, 123, 124, 125, 126, 127, 128, 129, 130, 131, 132, 133, 134, 135, 136, 137, 138, 139, 140, 141, 142] (by decide +kernel) (by decide +kernel)
set_option maxRecDepth 20000 in
theorem gX9_setConstant_X9_isOne : GoodIn wsX9_setConstant (wsV RX9 227 RX9 yX9_isOne wsX9_isOne) := goodIn_app (goodIn_of _ (by decide +kernel)) ggX9_setConstant_X9_isOne
set_option maxRecDepth 20000 in
theorem ggX9_setConstant_X9_isConstant : GoodIn wsX9_setConstant wsX9_isConstant := goodIn_r _ [16, 7, 8, 5, 9] (by decide +kernel) (by decide +kernel)
set_option maxRecDepth 20000 in
theorem gX9_setConstant_X9_isConstant : GoodIn wsX9_setConstant (va_wsS RX9 212 yX9_isConstant wsX9_isConstant) := goodIn_app (goodIn_of _ (by decide +kernel)) ggX9_setConstant_X9_isConstant
set_option maxRecDepth 20000 in
theorem ggX9_setConstant_X9_keep : GoodIn wsX9_setConstant wsX9_keep := goodIn_r _ [20, 21, 22, 23, 24, 5, 25, 1, 107, 108, 109, 110, 111, 112, 113, 114, 115, 116, 117, 118, 119, 120, 121, 122, 123, 124, 125, 126, 127, 128, 129, 130, 131, 132, 133, 134, 135, 136, 137, 138, 139, 140, 141, 142] (by decide +kernel) (by decide +kernel)
set_option maxRecDepth 20000 in
theorem gX9_setConstant_X9_keep : GoodIn wsX9_setConstant (wsV RX9 202 RX9 yX9_keep wsX9_keep) := goodIn_app (goodIn_of _ (by decide +kernel)) ggX9_setConstant_X9_keep
set_option maxRecDepth 20000 in
theorem ggX9_setConstant_X9_of : GoodIn wsX9_setConstant wsX9_of := goodIn_r _ [13, 1, 107, 108, 109, 110, 111, 112, 113, 114, 115, 116, 117, 118, 119, 120, 121, 122, 123, 124, 125, 126, 127, 128, 129, 130, 131, 132, 133, 134, 135, 136, 137, 138, 139, 140, 141, 142] (by decide +kernel) (by decide +kernel)
set_option maxRecDepth 20000 in
theorem gX9_setConstant_X9_of : GoodIn wsX9_setConstant (wsV RX9 80 RX9 yX9_of wsX9_of) := goodIn_app (goodIn_of _ (by decide +kernel)) ggX9_setConstant_X9_of
set_option maxRecDepth 20000 in
theorem ggX9_setConstant_X9_isTaken : GoodIn wsX9_setConstant wsX9_isTaken := goodIn_r _ [29, 21, 10, 11, 12, 5, 13, 1, 30, 31, 32, 33, 34, 35, 36, 37, 38, 39, 40, 41, 42, 43, 44, 45, 46, 47, 48, 49, 50, 51, 52, 53, 54, 55, 7, 8, 9, 56, 57, 58, 59, 60, 61, 62, 63, 64, 65, 66, 67, 68, 69, 70, 71, 72, 73, 74, 75, 76, 77, 78, 79, 80, 81, 82, 83, 84, 85, 86, 87, 88, 89, 90, 91, 92, 93, 94, 95, 96, 97, 98, 99, 100, 101, 102, 22, 23, 24, 25, 103, 104, 105, 106, 107, 108, 109, 110, 111, 112, 113, 114, 115, 116, 117, 118, 119, 120, 121, 122, 123, 124, 125, 126, 127, 128, 129, 130, 131, 132, 133, 134, 135, 136, 137, 138, 139, 140, 141, 142] (by decide +kernel) (by decide +kernel)
set_option maxRecDepth 20000 in
theorem gX9_setConstant_X9_isTaken : GoodIn wsX9_setConstant (wsV RX9 209 RX9 yX9_isTaken wsX9_isTaken) := goodIn_app (goodIn_of _ (by decide +kernel)) ggX9_setConstant_X9_isTaken
theorem dX9_setConstant_0 : decode cX9_setConstant 0 = .ok (.aload_n 0, 1) := by decide +kernel
theorem dX9_setConstant_1 : decode cX9_setConstant 1 = .ok (.iload_n 1, 1) := by decide +kernel
theorem dX9_setConstant_2 : decode cX9_setConstant 2 = .ok (.invokevirtual 227, 3) := by decide +kernel
theorem dX9_setConstant_5 : decode cX9_setConstant 5 = .ok (.ifCond .ne 5, 3) := by decide +kernel
theorem dX9_setConstant_8 : decode cX9_setConstant 8 = .ok (.iconst (-1), 1) := by decide +kernel
theorem dX9_setConstant_9 : decode cX9_setConstant 9 = .ok (.ireturn, 1) := by decide +kernel
theorem dX9_setConstant_10 : decode cX9_setConstant 10 = .ok (.iload_n 2, 1) := by decide +kernel
theorem dX9_setConstant_11 : decode cX9_setConstant 11 = .ok (.invokestatic 212, 3) := by decide +kernel
theorem dX9_setConstant_14 : decode cX9_setConstant 14 = .ok (.ifCond .ne 6, 3) := by decide +kernel
theorem dX9_setConstant_17 : decode cX9_setConstant 17 = .ok (.bipush (-2), 2) := by decide +kernel
theorem dX9_setConstant_19 : decode cX9_setConstant 19 = .ok (.ireturn, 1) := by decide +kernel
theorem dX9_setConstant_20 : decode cX9_setConstant 20 = .ok (.aload_n 0, 1) := by decide +kernel
theorem dX9_setConstant_21 : decode cX9_setConstant 21 = .ok (.iload_n 1, 1) := by decide +kernel
theorem dX9_setConstant_22 : decode cX9_setConstant 22 = .ok (.invokevirtual 202, 3) := by decide +kernel
theorem dX9_setConstant_25 : decode cX9_setConstant 25 = .ok (.aload_n 0, 1) := by decide +kernel
theorem dX9_setConstant_26 : decode cX9_setConstant 26 = .ok (.iload_n 1, 1) := by decide +kernel
theorem dX9_setConstant_27 : decode cX9_setConstant 27 = .ok (.bipush 7, 2) := by decide +kernel
theorem dX9_setConstant_29 : decode cX9_setConstant 29 = .ok (.invokevirtual 80, 3) := by decide +kernel
theorem dX9_setConstant_32 : decode cX9_setConstant 32 = .ok (.istore_n 3, 1) := by decide +kernel
theorem dX9_setConstant_33 : decode cX9_setConstant 33 = .ok (.aload_n 0, 1) := by decide +kernel
theorem dX9_setConstant_34 : decode cX9_setConstant 34 = .ok (.getfield 7, 3) := by decide +kernel
theorem dX9_setConstant_37 : decode cX9_setConstant 37 = .ok (.bipush 11, 2) := by decide +kernel
theorem dX9_setConstant_39 : decode cX9_setConstant 39 = .ok (.iload_n 1, 1) := by decide +kernel
theorem dX9_setConstant_40 : decode cX9_setConstant 40 = .ok (.imul, 1) := by decide +kernel
theorem dX9_setConstant_41 : decode cX9_setConstant 41 = .ok (.bipush 7, 2) := by decide +kernel
theorem dX9_setConstant_43 : decode cX9_setConstant 43 = .ok (.iadd, 1) := by decide +kernel
theorem dX9_setConstant_44 : decode cX9_setConstant 44 = .ok (.iload_n 2, 1) := by decide +kernel
theorem dX9_setConstant_45 : decode cX9_setConstant 45 = .ok (.iastore, 1) := by decide +kernel
theorem dX9_setConstant_46 : decode cX9_setConstant 46 = .ok (.aload_n 0, 1) := by decide +kernel
theorem dX9_setConstant_47 : decode cX9_setConstant 47 = .ok (.iload_n 1, 1) := by decide +kernel
theorem dX9_setConstant_48 : decode cX9_setConstant 48 = .ok (.invokevirtual 209, 3) := by decide +kernel
theorem dX9_setConstant_51 : decode cX9_setConstant 51 = .ok (.ifCond .eq 11, 3) := by decide +kernel
theorem dX9_setConstant_54 : decode cX9_setConstant 54 = .ok (.iload_n 3, 1) := by decide +kernel
theorem dX9_setConstant_55 : decode cX9_setConstant 55 = .ok (.sipush 1000, 3) := by decide +kernel
theorem dX9_setConstant_58 : decode cX9_setConstant 58 = .ok (.iadd, 1) := by decide +kernel
theorem dX9_setConstant_59 : decode cX9_setConstant 59 = .ok (.goto 5, 3) := by decide +kernel
theorem dX9_setConstant_62 : decode cX9_setConstant 62 = .ok (.bipush (-3), 2) := by decide +kernel
theorem dX9_setConstant_64 : decode cX9_setConstant 64 = .ok (.ireturn, 1) := by decide +kernel
set_option maxRecDepth 20000 in
theorem ggX9_setStrength_X9_isOne : GoodIn wsX9_setStrength wsX9_isOne := goodIn_r _ [6, 7, 8, 5, 9, 10, 11, 12, 13, 1, 107, 108, 109, 110, 111, 112, 113, 114, 115, 116, 117, 118, 119, 120, 121, 122, 123, 124, 125, 126, 127, 128, 129, 130, 131, 132, 133, 134, 135, 136, 137, 138, 139, 140, 141, 142] (by decide +kernel) (by decide +kernel)
set_option maxRecDepth 20000 in
theorem gX9_setStrength_X9_isOne : GoodIn wsX9_setStrength (wsV RX9 227 RX9 yX9_isOne wsX9_isOne) := goodIn_app (goodIn_of _ (by decide +kernel)) ggX9_setStrength_X9_isOne
set_option maxRecDepth 20000 in
theorem ggX9_setStrength_X9_isStrength : GoodIn wsX9_setStrength wsX9_isStrength := goodIn_r _ [16, 7, 8, 5, 9] (by decide +kernel) (by decide +kernel)
set_option maxRecDepth 20000 in
theorem gX9_setStrength_X9_isStrength : GoodIn wsX9_setStrength (va_wsS RX9 215 yX9_isStrength wsX9_isStrength) := goodIn_app (goodIn_of _ (by decide +kernel)) ggX9_setStrength_X9_isStrength
set_option maxRecDepth 20000 in
theorem ggX9_setStrength_X9_keep : GoodIn wsX9_setStrength wsX9_keep := goodIn_r _ [20, 21, 22, 23, 24, 5, 25, 1, 107, 108, 109, 110, 111, 112, 113, 114, 115, 116, 117, 118, 119, 120, 121, 122, 123, 124, 125, 126, 127, 128, 129, 130, 131, 132, 133, 134, 135, 136, 137, 138, 139, 140, 141, 142] (by decide +kernel) (by decide +kernel)
set_option maxRecDepth 20000 in
theorem gX9_setStrength_X9_keep : GoodIn wsX9_setStrength (wsV RX9 202 RX9 yX9_keep wsX9_keep) := goodIn_app (goodIn_of _ (by decide +kernel)) ggX9_setStrength_X9_keep
set_option maxRecDepth 20000 in
theorem ggX9_setStrength_X9_of : GoodIn wsX9_setStrength wsX9_of := goodIn_r _ [13, 1, 107, 108, 109, 110, 111, 112, 113, 114, 115, 116, 117, 118, 119, 120, 121, 122, 123, 124, 125, 126, 127, 128, 129, 130, 131, 132, 133, 134, 135, 136, 137, 138, 139, 140, 141, 142] (by decide +kernel) (by decide +kernel)
set_option maxRecDepth 20000 in
theorem gX9_setStrength_X9_of : GoodIn wsX9_setStrength (wsV RX9 80 RX9 yX9_of wsX9_of) := goodIn_app (goodIn_of _ (by decide +kernel)) ggX9_setStrength_X9_of
set_option maxRecDepth 20000 in
theorem ggX9_setStrength_X9_isTaken : GoodIn wsX9_setStrength wsX9_isTaken := goodIn_r _ [29, 21, 10, 11, 12, 5, 13, 1, 30, 31, 32, 33, 34, 35, 36, 37, 38, 39, 40, 41, 42, 43, 44, 45, 46, 47, 48, 49, 50, 51, 52, 53, 54, 55, 7, 8, 9, 56, 57, 58, 59, 60, 61, 62, 63, 64, 65, 66, 67, 68, 69, 70, 71, 72, 73, 74, 75, 76, 77, 78, 79, 80, 81, 82, 83, 84, 85, 86, 87, 88, 89, 90, 91, 92, 93, 94, 95, 96, 97, 98, 99, 100, 101, 102, 22, 23, 24, 25, 103, 104, 105, 106, 107, 108, 109, 110, 111, 112, 113, 114, 115, 116, 117, 118, 119, 120, 121, 122, 123, 124, 125, 126, 127, 128, 129, 130, 131, 132, 133, 134, 135, 136, 137, 138, 139, 140, 141, 142] (by decide +kernel) (by decide +kernel)
set_option maxRecDepth 20000 in
theorem gX9_setStrength_X9_isTaken : GoodIn wsX9_setStrength (wsV RX9 209 RX9 yX9_isTaken wsX9_isTaken) := goodIn_app (goodIn_of _ (by decide +kernel)) ggX9_setStrength_X9_isTaken
theorem dX9_setStrength_0 : decode cX9_setStrength 0 = .ok (.aload_n 0, 1) := by decide +kernel
theorem dX9_setStrength_1 : decode cX9_setStrength 1 = .ok (.iload_n 1, 1) := by decide +kernel
theorem dX9_setStrength_2 : decode cX9_setStrength 2 = .ok (.invokevirtual 227, 3) := by decide +kernel
theorem dX9_setStrength_5 : decode cX9_setStrength 5 = .ok (.ifCond .ne 5, 3) := by decide +kernel
theorem dX9_setStrength_8 : decode cX9_setStrength 8 = .ok (.iconst (-1), 1) := by decide +kernel
theorem dX9_setStrength_9 : decode cX9_setStrength 9 = .ok (.ireturn, 1) := by decide +kernel
theorem dX9_setStrength_10 : decode cX9_setStrength 10 = .ok (.iload_n 2, 1) := by decide +kernel
theorem dX9_setStrength_11 : decode cX9_setStrength 11 = .ok (.iload_n 3, 1) := by decide +kernel
theorem dX9_setStrength_12 : decode cX9_setStrength 12 = .ok (.invokestatic 215, 3) := by decide +kernel
theorem dX9_setStrength_15 : decode cX9_setStrength 15 = .ok (.ifCond .ne 6, 3) := by decide +kernel
theorem dX9_setStrength_18 : decode cX9_setStrength 18 = .ok (.bipush (-2), 2) := by decide +kernel
theorem dX9_setStrength_20 : decode cX9_setStrength 20 = .ok (.ireturn, 1) := by decide +kernel
theorem dX9_setStrength_21 : decode cX9_setStrength 21 = .ok (.aload_n 0, 1) := by decide +kernel
theorem dX9_setStrength_22 : decode cX9_setStrength 22 = .ok (.iload_n 1, 1) := by decide +kernel
theorem dX9_setStrength_23 : decode cX9_setStrength 23 = .ok (.invokevirtual 202, 3) := by decide +kernel
theorem dX9_setStrength_26 : decode cX9_setStrength 26 = .ok (.aload_n 0, 1) := by decide +kernel
theorem dX9_setStrength_27 : decode cX9_setStrength 27 = .ok (.iload_n 1, 1) := by decide +kernel
theorem dX9_setStrength_28 : decode cX9_setStrength 28 = .ok (.bipush 8, 2) := by decide +kernel
theorem dX9_setStrength_30 : decode cX9_setStrength 30 = .ok (.invokevirtual 80, 3) := by decide +kernel
theorem dX9_setStrength_33 : decode cX9_setStrength 33 = .ok (.istore 4, 2) := by decide +kernel
theorem dX9_setStrength_35 : decode cX9_setStrength 35 = .ok (.aload_n 0, 1) := by decide +kernel
theorem dX9_setStrength_36 : decode cX9_setStrength 36 = .ok (.getfield 7, 3) := by decide +kernel
theorem dX9_setStrength_39 : decode cX9_setStrength 39 = .ok (.bipush 11, 2) := by decide +kernel
theorem dX9_setStrength_41 : decode cX9_setStrength 41 = .ok (.iload_n 1, 1) := by decide +kernel
theorem dX9_setStrength_42 : decode cX9_setStrength 42 = .ok (.imul, 1) := by decide +kernel
theorem dX9_setStrength_43 : decode cX9_setStrength 43 = .ok (.bipush 8, 2) := by decide +kernel
theorem dX9_setStrength_45 : decode cX9_setStrength 45 = .ok (.iadd, 1) := by decide +kernel
theorem dX9_setStrength_46 : decode cX9_setStrength 46 = .ok (.iload_n 2, 1) := by decide +kernel
theorem dX9_setStrength_47 : decode cX9_setStrength 47 = .ok (.iastore, 1) := by decide +kernel
theorem dX9_setStrength_48 : decode cX9_setStrength 48 = .ok (.aload_n 0, 1) := by decide +kernel
theorem dX9_setStrength_49 : decode cX9_setStrength 49 = .ok (.getfield 7, 3) := by decide +kernel
theorem dX9_setStrength_52 : decode cX9_setStrength 52 = .ok (.bipush 11, 2) := by decide +kernel
theorem dX9_setStrength_54 : decode cX9_setStrength 54 = .ok (.iload_n 1, 1) := by decide +kernel
theorem dX9_setStrength_55 : decode cX9_setStrength 55 = .ok (.imul, 1) := by decide +kernel
theorem dX9_setStrength_56 : decode cX9_setStrength 56 = .ok (.bipush 9, 2) := by decide +kernel
theorem dX9_setStrength_58 : decode cX9_setStrength 58 = .ok (.iadd, 1) := by decide +kernel
theorem dX9_setStrength_59 : decode cX9_setStrength 59 = .ok (.iload_n 3, 1) := by decide +kernel
theorem dX9_setStrength_60 : decode cX9_setStrength 60 = .ok (.iastore, 1) := by decide +kernel
theorem dX9_setStrength_61 : decode cX9_setStrength 61 = .ok (.aload_n 0, 1) := by decide +kernel
theorem dX9_setStrength_62 : decode cX9_setStrength 62 = .ok (.iload_n 1, 1) := by decide +kernel
theorem dX9_setStrength_63 : decode cX9_setStrength 63 = .ok (.invokevirtual 209, 3) := by decide +kernel
theorem dX9_setStrength_66 : decode cX9_setStrength 66 = .ok (.ifCond .eq 8, 3) := by decide +kernel
theorem dX9_setStrength_69 : decode cX9_setStrength 69 = .ok (.iload 4, 2) := by decide +kernel
theorem dX9_setStrength_71 : decode cX9_setStrength 71 = .ok (.goto 5, 3) := by decide +kernel
theorem dX9_setStrength_74 : decode cX9_setStrength 74 = .ok (.bipush (-3), 2) := by decide +kernel
theorem dX9_setStrength_76 : decode cX9_setStrength 76 = .ok (.ireturn, 1) := by decide +kernel
set_option maxRecDepth 20000 in
theorem ggX9_about_X9_isOne : GoodIn wsX9_about wsX9_isOne := goodIn_r _ [5, 6, 7, 4, 8, 9, 10, 11, 12, 13, 14, 15, 16, 17, 18, 19, 20, 21, 22, 23, 24, 25, 26, 27, 28, 29, 30, 31, 32, 33, 34, 35, 36, 37, 38, 39, 40, 41, 42, 43, 44, 45, 46, 47, 48, 49] (by decide +kernel) (by decide +kernel)
set_option maxRecDepth 20000 in
theorem gX9_about_X9_isOne : GoodIn wsX9_about (wsV RX9 227 RX9 yX9_isOne wsX9_isOne) := goodIn_app (goodIn_of _ (by decide +kernel)) ggX9_about_X9_isOne
set_option maxRecDepth 20000 in
theorem ggX9_about_X9_in : GoodIn wsX9_about wsX9_in := goodIn_r _ [8] (by decide +kernel) (by decide +kernel)
set_option maxRecDepth 20000 in
theorem gX9_about_X9_in : GoodIn wsX9_about (va_wsS RX9 76 yX9_in wsX9_in) := goodIn_app (goodIn_of _ (by decide +kernel)) ggX9_about_X9_in
set_option maxRecDepth 20000 in
theorem ggX9_about_X9_of : GoodIn wsX9_about wsX9_of := goodIn_r _ [12, 13, 14, 15, 16, 17, 18, 19, 20, 21, 22, 23, 24, 25, 26, 27, 28, 29, 30, 31, 32, 33, 34, 35, 36, 37, 38, 39, 40, 41, 42, 43, 44, 45, 46, 47, 48, 49] (by decide +kernel) (by decide +kernel)
set_option maxRecDepth 20000 in
theorem gX9_about_X9_of : GoodIn wsX9_about (wsV RX9 80 RX9 yX9_of wsX9_of) := goodIn_app (goodIn_of _ (by decide +kernel)) ggX9_about_X9_of
theorem dX9_about_0 : decode cX9_about 0 = .ok (.aload_n 0, 1) := by decide +kernel
theorem dX9_about_1 : decode cX9_about 1 = .ok (.iload_n 1, 1) := by decide +kernel
theorem dX9_about_2 : decode cX9_about 2 = .ok (.invokevirtual 227, 3) := by decide +kernel
theorem dX9_about_5 : decode cX9_about 5 = .ok (.ifCond .ne 5, 3) := by decide +kernel
theorem dX9_about_8 : decode cX9_about 8 = .ok (.iconst (-1), 1) := by decide +kernel
theorem dX9_about_9 : decode cX9_about 9 = .ok (.ireturn, 1) := by decide +kernel
theorem dX9_about_10 : decode cX9_about 10 = .ok (.iload_n 2, 1) := by decide +kernel
theorem dX9_about_11 : decode cX9_about 11 = .ok (.iconst 0, 1) := by decide +kernel
theorem dX9_about_12 : decode cX9_about 12 = .ok (.bipush 9, 2) := by decide +kernel
theorem dX9_about_14 : decode cX9_about 14 = .ok (.invokestatic 76, 3) := by decide +kernel
theorem dX9_about_17 : decode cX9_about 17 = .ok (.ifCond .ne 6, 3) := by decide +kernel
theorem dX9_about_20 : decode cX9_about 20 = .ok (.bipush (-2), 2) := by decide +kernel
theorem dX9_about_22 : decode cX9_about 22 = .ok (.ireturn, 1) := by decide +kernel
theorem dX9_about_23 : decode cX9_about 23 = .ok (.aload_n 0, 1) := by decide +kernel
theorem dX9_about_24 : decode cX9_about 24 = .ok (.iload_n 1, 1) := by decide +kernel
theorem dX9_about_25 : decode cX9_about 25 = .ok (.iload_n 2, 1) := by decide +kernel
theorem dX9_about_26 : decode cX9_about 26 = .ok (.invokevirtual 80, 3) := by decide +kernel
theorem dX9_about_29 : decode cX9_about 29 = .ok (.iload_n 2, 1) := by decide +kernel
theorem dX9_about_30 : decode cX9_about 30 = .ok (.bipush 6, 2) := by decide +kernel
theorem dX9_about_32 : decode cX9_about 32 = .ok (.if_icmp .ge 8, 3) := by decide +kernel
theorem dX9_about_35 : decode cX9_about 35 = .ok (.bipush 10, 2) := by decide +kernel
theorem dX9_about_37 : decode cX9_about 37 = .ok (.goto 16, 3) := by decide +kernel
theorem dX9_about_40 : decode cX9_about 40 = .ok (.iload_n 2, 1) := by decide +kernel
theorem dX9_about_41 : decode cX9_about 41 = .ok (.bipush 7, 2) := by decide +kernel
theorem dX9_about_43 : decode cX9_about 43 = .ok (.if_icmp .ne 9, 3) := by decide +kernel
theorem dX9_about_46 : decode cX9_about 46 = .ok (.sipush 1000, 3) := by decide +kernel
theorem dX9_about_49 : decode cX9_about 49 = .ok (.goto 4, 3) := by decide +kernel
theorem dX9_about_52 : decode cX9_about 52 = .ok (.iconst 0, 1) := by decide +kernel
theorem dX9_about_53 : decode cX9_about 53 = .ok (.iadd, 1) := by decide +kernel
theorem dX9_about_54 : decode cX9_about 54 = .ok (.ireturn, 1) := by decide +kernel
set_option maxRecDepth 20000 in
theorem ggX9_constraints_X9_of : GoodIn wsX9_constraints wsX9_of := goodIn_r _ [5, 6, 7, 8, 9, 10, 11, 12, 13, 14, 15, 16, 17, 18, 19, 20, 21, 22, 23, 24, 25, 26, 27, 28, 29, 30, 31, 32, 33, 34, 35, 36, 37, 38, 39, 40, 41, 42] (by decide +kernel) (by decide +kernel)
set_option maxRecDepth 20000 in
theorem gX9_constraints_X9_of : GoodIn wsX9_constraints (wsV RX9 80 RX9 yX9_of wsX9_of) := goodIn_app (goodIn_of _ (by decide +kernel)) ggX9_constraints_X9_of
theorem dX9_constraints_0 : decode cX9_constraints 0 = .ok (.iconst 0, 1) := by decide +kernel
theorem dX9_constraints_1 : decode cX9_constraints 1 = .ok (.istore_n 1, 1) := by decide +kernel
theorem dX9_constraints_2 : decode cX9_constraints 2 = .ok (.iconst 0, 1) := by decide +kernel
theorem dX9_constraints_3 : decode cX9_constraints 3 = .ok (.istore_n 2, 1) := by decide +kernel
theorem dX9_constraints_4 : decode cX9_constraints 4 = .ok (.iload_n 2, 1) := by decide +kernel
theorem dX9_constraints_5 : decode cX9_constraints 5 = .ok (.bipush 14, 2) := by decide +kernel
theorem dX9_constraints_7 : decode cX9_constraints 7 = .ok (.if_icmp .ge 21, 3) := by decide +kernel
theorem dX9_constraints_10 : decode cX9_constraints 10 = .ok (.iload_n 1, 1) := by decide +kernel
theorem dX9_constraints_11 : decode cX9_constraints 11 = .ok (.aload_n 0, 1) := by decide +kernel
theorem dX9_constraints_12 : decode cX9_constraints 12 = .ok (.iload_n 2, 1) := by decide +kernel
theorem dX9_constraints_13 : decode cX9_constraints 13 = .ok (.bipush 10, 2) := by decide +kernel
theorem dX9_constraints_15 : decode cX9_constraints 15 = .ok (.invokevirtual 80, 3) := by decide +kernel
theorem dX9_constraints_18 : decode cX9_constraints 18 = .ok (.iload_n 2, 1) := by decide +kernel
theorem dX9_constraints_19 : decode cX9_constraints 19 = .ok (.ishl, 1) := by decide +kernel
theorem dX9_constraints_20 : decode cX9_constraints 20 = .ok (.ior, 1) := by decide +kernel
theorem dX9_constraints_21 : decode cX9_constraints 21 = .ok (.istore_n 1, 1) := by decide +kernel
theorem dX9_constraints_22 : decode cX9_constraints 22 = .ok (.iinc 2 1, 3) := by decide +kernel
theorem dX9_constraints_25 : decode cX9_constraints 25 = .ok (.goto (-21), 3) := by decide +kernel
theorem dX9_constraints_28 : decode cX9_constraints 28 = .ok (.iload_n 1, 1) := by decide +kernel
theorem dX9_constraints_29 : decode cX9_constraints 29 = .ok (.ireturn, 1) := by decide +kernel
set_option maxRecDepth 20000 in
theorem ggX9_say_X9_in : GoodIn wsX9_say wsX9_in := goodIn_r _ [6] (by decide +kernel) (by decide +kernel)
set_option maxRecDepth 20000 in
theorem gX9_say_X9_in : GoodIn wsX9_say (va_wsS RX9 76 yX9_in wsX9_in) := goodIn_app (goodIn_of _ (by decide +kernel)) ggX9_say_X9_in
theorem dX9_say_0 : decode cX9_say 0 = .ok (.iload_n 1, 1) := by decide +kernel
theorem dX9_say_1 : decode cX9_say 1 = .ok (.bipush 33, 2) := by decide +kernel
theorem dX9_say_3 : decode cX9_say 3 = .ok (.bipush 126, 2) := by decide +kernel
theorem dX9_say_5 : decode cX9_say 5 = .ok (.invokestatic 76, 3) := by decide +kernel
theorem dX9_say_8 : decode cX9_say 8 = .ok (.ifCond .ne 6, 3) := by decide +kernel
theorem dX9_say_11 : decode cX9_say 11 = .ok (.bipush (-2), 2) := by decide +kernel
theorem dX9_say_13 : decode cX9_say 13 = .ok (.ireturn, 1) := by decide +kernel
theorem dX9_say_14 : decode cX9_say 14 = .ok (.aload_n 0, 1) := by decide +kernel
theorem dX9_say_15 : decode cX9_say 15 = .ok (.getfield 230, 3) := by decide +kernel
theorem dX9_say_18 : decode cX9_say 18 = .ok (.bipush 40, 2) := by decide +kernel
theorem dX9_say_20 : decode cX9_say 20 = .ok (.if_icmp .ne 6, 3) := by decide +kernel
theorem dX9_say_23 : decode cX9_say 23 = .ok (.bipush (-4), 2) := by decide +kernel
theorem dX9_say_25 : decode cX9_say 25 = .ok (.ireturn, 1) := by decide +kernel
theorem dX9_say_26 : decode cX9_say 26 = .ok (.aload_n 0, 1) := by decide +kernel
theorem dX9_say_27 : decode cX9_say 27 = .ok (.getfield 23, 3) := by decide +kernel
theorem dX9_say_30 : decode cX9_say 30 = .ok (.aload_n 0, 1) := by decide +kernel
theorem dX9_say_31 : decode cX9_say 31 = .ok (.getfield 230, 3) := by decide +kernel
theorem dX9_say_34 : decode cX9_say 34 = .ok (.iload_n 1, 1) := by decide +kernel
theorem dX9_say_35 : decode cX9_say 35 = .ok (.iastore, 1) := by decide +kernel
theorem dX9_say_36 : decode cX9_say 36 = .ok (.aload_n 0, 1) := by decide +kernel
theorem dX9_say_37 : decode cX9_say 37 = .ok (.dup, 1) := by decide +kernel
theorem dX9_say_38 : decode cX9_say 38 = .ok (.getfield 230, 3) := by decide +kernel
theorem dX9_say_41 : decode cX9_say 41 = .ok (.iconst 1, 1) := by decide +kernel
theorem dX9_say_42 : decode cX9_say 42 = .ok (.iadd, 1) := by decide +kernel
theorem dX9_say_43 : decode cX9_say 43 = .ok (.putfield 230, 3) := by decide +kernel
theorem dX9_say_46 : decode cX9_say 46 = .ok (.aload_n 0, 1) := by decide +kernel
theorem dX9_say_47 : decode cX9_say 47 = .ok (.getfield 230, 3) := by decide +kernel
theorem dX9_say_50 : decode cX9_say 50 = .ok (.ireturn, 1) := by decide +kernel
theorem dX9_wipe_0 : decode cX9_wipe 0 = .ok (.aload_n 0, 1) := by decide +kernel
theorem dX9_wipe_1 : decode cX9_wipe 1 = .ok (.getfield 230, 3) := by decide +kernel
theorem dX9_wipe_4 : decode cX9_wipe 4 = .ok (.istore_n 1, 1) := by decide +kernel
theorem dX9_wipe_5 : decode cX9_wipe 5 = .ok (.aload_n 0, 1) := by decide +kernel
theorem dX9_wipe_6 : decode cX9_wipe 6 = .ok (.iconst 0, 1) := by decide +kernel
theorem dX9_wipe_7 : decode cX9_wipe 7 = .ok (.putfield 230, 3) := by decide +kernel
theorem dX9_wipe_10 : decode cX9_wipe 10 = .ok (.iload_n 1, 1) := by decide +kernel
theorem dX9_wipe_11 : decode cX9_wipe 11 = .ok (.ireturn, 1) := by decide +kernel
theorem dX9_sign_0 : decode cX9_sign 0 = .ok (.aload_n 0, 1) := by decide +kernel
theorem dX9_sign_1 : decode cX9_sign 1 = .ok (.getfield 233, 3) := by decide +kernel
theorem dX9_sign_4 : decode cX9_sign 4 = .ok (.aload_n 0, 1) := by decide +kernel
theorem dX9_sign_5 : decode cX9_sign 5 = .ok (.getfield 230, 3) := by decide +kernel
theorem dX9_sign_8 : decode cX9_sign 8 = .ok (.if_icmp .ge 15, 3) := by decide +kernel
theorem dX9_sign_11 : decode cX9_sign 11 = .ok (.aload_n 0, 1) := by decide +kernel
theorem dX9_sign_12 : decode cX9_sign 12 = .ok (.getfield 23, 3) := by decide +kernel
theorem dX9_sign_15 : decode cX9_sign 15 = .ok (.aload_n 0, 1) := by decide +kernel
theorem dX9_sign_16 : decode cX9_sign 16 = .ok (.getfield 233, 3) := by decide +kernel
theorem dX9_sign_19 : decode cX9_sign 19 = .ok (.iaload, 1) := by decide +kernel
theorem dX9_sign_20 : decode cX9_sign 20 = .ok (.goto 4, 3) := by decide +kernel
theorem dX9_sign_23 : decode cX9_sign 23 = .ok (.iconst 0, 1) := by decide +kernel
theorem dX9_sign_24 : decode cX9_sign 24 = .ok (.ireturn, 1) := by decide +kernel
set_option maxRecDepth 20000 in
theorem ggX9_readTerm_X9_sign : GoodIn wsX9_readTerm wsX9_sign := goodIn_r _ [8, 1, 9, 10, 14, 15, 16, 17, 18, 19, 20, 21, 22, 23, 24, 25, 26, 27, 28, 29, 30, 31, 32, 33, 34, 35, 36, 37, 38, 39, 40, 41, 42, 43, 44, 45, 46, 47, 48, 49] (by decide +kernel) (by decide +kernel)
set_option maxRecDepth 20000 in
theorem gX9_readTerm_X9_sign : GoodIn wsX9_readTerm (wsV RX9 236 RX9 yX9_sign wsX9_sign) := goodIn_app (goodIn_of _ (by decide +kernel)) ggX9_readTerm_X9_sign
set_option maxRecDepth 20000 in
theorem ggX9_readTerm_X9_in : GoodIn wsX9_readTerm wsX9_in := goodIn_r _ [13] (by decide +kernel) (by decide +kernel)
set_option maxRecDepth 20000 in
theorem gX9_readTerm_X9_in : GoodIn wsX9_readTerm (va_wsS RX9 76 yX9_in wsX9_in) := goodIn_app (goodIn_of _ (by decide +kernel)) ggX9_readTerm_X9_in
theorem dX9_readTerm_0 : decode cX9_readTerm 0 = .ok (.iload_n 1, 1) := by decide +kernel
theorem dX9_readTerm_1 : decode cX9_readTerm 1 = .ok (.istore_n 2, 1) := by decide +kernel
theorem dX9_readTerm_2 : decode cX9_readTerm 2 = .ok (.aload_n 0, 1) := by decide +kernel
theorem dX9_readTerm_3 : decode cX9_readTerm 3 = .ok (.invokevirtual 236, 3) := by decide +kernel
theorem dX9_readTerm_6 : decode cX9_readTerm 6 = .ok (.bipush 50, 2) := by decide +kernel
theorem dX9_readTerm_8 : decode cX9_readTerm 8 = .ok (.bipush 51, 2) := by decide +kernel
theorem dX9_readTerm_10 : decode cX9_readTerm 10 = .ok (.invokestatic 76, 3) := by decide +kernel
theorem dX9_readTerm_13 : decode cX9_readTerm 13 = .ok (.ifCond .eq 23, 3) := by decide +kernel
theorem dX9_readTerm_16 : decode cX9_readTerm 16 = .ok (.iload_n 1, 1) := by decide +kernel
theorem dX9_readTerm_17 : decode cX9_readTerm 17 = .ok (.aload_n 0, 1) := by decide +kernel
theorem dX9_readTerm_18 : decode cX9_readTerm 18 = .ok (.invokevirtual 236, 3) := by decide +kernel
theorem dX9_readTerm_21 : decode cX9_readTerm 21 = .ok (.bipush 48, 2) := by decide +kernel
theorem dX9_readTerm_23 : decode cX9_readTerm 23 = .ok (.isub, 1) := by decide +kernel
theorem dX9_readTerm_24 : decode cX9_readTerm 24 = .ok (.imul, 1) := by decide +kernel
theorem dX9_readTerm_25 : decode cX9_readTerm 25 = .ok (.istore_n 2, 1) := by decide +kernel
theorem dX9_readTerm_26 : decode cX9_readTerm 26 = .ok (.aload_n 0, 1) := by decide +kernel
theorem dX9_readTerm_27 : decode cX9_readTerm 27 = .ok (.dup, 1) := by decide +kernel
theorem dX9_readTerm_28 : decode cX9_readTerm 28 = .ok (.getfield 233, 3) := by decide +kernel
theorem dX9_readTerm_31 : decode cX9_readTerm 31 = .ok (.iconst 1, 1) := by decide +kernel
theorem dX9_readTerm_32 : decode cX9_readTerm 32 = .ok (.iadd, 1) := by decide +kernel
theorem dX9_readTerm_33 : decode cX9_readTerm 33 = .ok (.putfield 233, 3) := by decide +kernel
theorem dX9_readTerm_36 : decode cX9_readTerm 36 = .ok (.aload_n 0, 1) := by decide +kernel
theorem dX9_readTerm_37 : decode cX9_readTerm 37 = .ok (.invokevirtual 236, 3) := by decide +kernel
theorem dX9_readTerm_40 : decode cX9_readTerm 40 = .ok (.bipush 97, 2) := by decide +kernel
theorem dX9_readTerm_42 : decode cX9_readTerm 42 = .ok (.bipush 102, 2) := by decide +kernel
theorem dX9_readTerm_44 : decode cX9_readTerm 44 = .ok (.invokestatic 76, 3) := by decide +kernel
theorem dX9_readTerm_47 : decode cX9_readTerm 47 = .ok (.ifCond .eq 32, 3) := by decide +kernel
theorem dX9_readTerm_50 : decode cX9_readTerm 50 = .ok (.aload_n 0, 1) := by decide +kernel
theorem dX9_readTerm_51 : decode cX9_readTerm 51 = .ok (.getfield 57, 3) := by decide +kernel
theorem dX9_readTerm_54 : decode cX9_readTerm 54 = .ok (.aload_n 0, 1) := by decide +kernel
theorem dX9_readTerm_55 : decode cX9_readTerm 55 = .ok (.invokevirtual 236, 3) := by decide +kernel
theorem dX9_readTerm_58 : decode cX9_readTerm 58 = .ok (.bipush 97, 2) := by decide +kernel
theorem dX9_readTerm_60 : decode cX9_readTerm 60 = .ok (.isub, 1) := by decide +kernel
theorem dX9_readTerm_61 : decode cX9_readTerm 61 = .ok (.dup2, 1) := by decide +kernel
theorem dX9_readTerm_62 : decode cX9_readTerm 62 = .ok (.iaload, 1) := by decide +kernel
theorem dX9_readTerm_63 : decode cX9_readTerm 63 = .ok (.iload_n 2, 1) := by decide +kernel
theorem dX9_readTerm_64 : decode cX9_readTerm 64 = .ok (.iadd, 1) := by decide +kernel
theorem dX9_readTerm_65 : decode cX9_readTerm 65 = .ok (.iastore, 1) := by decide +kernel
theorem dX9_readTerm_66 : decode cX9_readTerm 66 = .ok (.aload_n 0, 1) := by decide +kernel
theorem dX9_readTerm_67 : decode cX9_readTerm 67 = .ok (.dup, 1) := by decide +kernel
theorem dX9_readTerm_68 : decode cX9_readTerm 68 = .ok (.getfield 233, 3) := by decide +kernel
theorem dX9_readTerm_71 : decode cX9_readTerm 71 = .ok (.iconst 1, 1) := by decide +kernel
theorem dX9_readTerm_72 : decode cX9_readTerm 72 = .ok (.iadd, 1) := by decide +kernel
theorem dX9_readTerm_73 : decode cX9_readTerm 73 = .ok (.putfield 233, 3) := by decide +kernel
theorem dX9_readTerm_76 : decode cX9_readTerm 76 = .ok (.goto 8, 3) := by decide +kernel
theorem dX9_readTerm_79 : decode cX9_readTerm 79 = .ok (.aload_n 0, 1) := by decide +kernel
theorem dX9_readTerm_80 : decode cX9_readTerm 80 = .ok (.iconst 1, 1) := by decide +kernel
theorem dX9_readTerm_81 : decode cX9_readTerm 81 = .ok (.putfield 239, 3) := by decide +kernel
theorem dX9_readTerm_84 : decode cX9_readTerm 84 = .ok (.return_, 1) := by decide +kernel
set_option maxRecDepth 20000 in
theorem ggX9_readSide_X9_sign : GoodIn wsX9_readSide wsX9_sign := goodIn_r _ [7, 1, 8, 9, 18, 19, 20, 21, 22, 23, 24, 25, 26, 27, 28, 29, 30, 31, 32, 33, 34, 35, 36, 37, 38, 39, 40, 41, 42, 43, 44, 45, 46, 47, 48, 49, 50, 51, 52, 53] (by decide +kernel) (by decide +kernel)
set_option maxRecDepth 20000 in
theorem gX9_readSide_X9_sign : GoodIn wsX9_readSide (wsV RX9 236 RX9 yX9_sign wsX9_sign) := goodIn_app (goodIn_of _ (by decide +kernel)) ggX9_readSide_X9_sign
set_option maxRecDepth 20000 in
theorem ggX9_readSide_X9_readTerm : GoodIn wsX9_readSide wsX9_readTerm := goodIn_r _ [13, 1, 14, 2, 3, 4, 5, 6, 7, 8, 9, 15, 16, 17, 18, 19, 20, 21, 22, 23, 24, 25, 26, 27, 28, 29, 30, 31, 32, 33, 34, 35, 36, 37, 38, 39, 40, 41, 42, 43, 44, 45, 46, 47, 48, 49, 50, 51, 52, 53] (by decide +kernel) (by decide +kernel)
set_option maxRecDepth 20000 in
theorem gX9_readSide_X9_readTerm : GoodIn wsX9_readSide (wsV RX9 242 RX9 yX9_readTerm wsX9_readTerm) := goodIn_app (goodIn_of _ (by decide +kernel)) ggX9_readSide_X9_readTerm
theorem dX9_readSide_0 : decode cX9_readSide 0 = .ok (.aload_n 0, 1) := by decide +kernel
theorem dX9_readSide_1 : decode cX9_readSide 1 = .ok (.invokevirtual 236, 3) := by decide +kernel
theorem dX9_readSide_4 : decode cX9_readSide 4 = .ok (.bipush 45, 2) := by decide +kernel
theorem dX9_readSide_6 : decode cX9_readSide 6 = .ok (.if_icmp .ne 7, 3) := by decide +kernel
theorem dX9_readSide_9 : decode cX9_readSide 9 = .ok (.iconst (-1), 1) := by decide +kernel
theorem dX9_readSide_10 : decode cX9_readSide 10 = .ok (.goto 4, 3) := by decide +kernel
theorem dX9_readSide_13 : decode cX9_readSide 13 = .ok (.iconst 1, 1) := by decide +kernel
theorem dX9_readSide_14 : decode cX9_readSide 14 = .ok (.istore_n 1, 1) := by decide +kernel
theorem dX9_readSide_15 : decode cX9_readSide 15 = .ok (.aload_n 0, 1) := by decide +kernel
theorem dX9_readSide_16 : decode cX9_readSide 16 = .ok (.dup, 1) := by decide +kernel
theorem dX9_readSide_17 : decode cX9_readSide 17 = .ok (.getfield 233, 3) := by decide +kernel
theorem dX9_readSide_20 : decode cX9_readSide 20 = .ok (.iload_n 1, 1) := by decide +kernel
theorem dX9_readSide_21 : decode cX9_readSide 21 = .ok (.ifCond .ge 7, 3) := by decide +kernel
theorem dX9_readSide_24 : decode cX9_readSide 24 = .ok (.iconst 1, 1) := by decide +kernel
theorem dX9_readSide_25 : decode cX9_readSide 25 = .ok (.goto 4, 3) := by decide +kernel
theorem dX9_readSide_28 : decode cX9_readSide 28 = .ok (.iconst 0, 1) := by decide +kernel
theorem dX9_readSide_29 : decode cX9_readSide 29 = .ok (.iadd, 1) := by decide +kernel
theorem dX9_readSide_30 : decode cX9_readSide 30 = .ok (.putfield 233, 3) := by decide +kernel
theorem dX9_readSide_33 : decode cX9_readSide 33 = .ok (.aload_n 0, 1) := by decide +kernel
theorem dX9_readSide_34 : decode cX9_readSide 34 = .ok (.iload_n 1, 1) := by decide +kernel
theorem dX9_readSide_35 : decode cX9_readSide 35 = .ok (.invokevirtual 242, 3) := by decide +kernel
theorem dX9_readSide_38 : decode cX9_readSide 38 = .ok (.aload_n 0, 1) := by decide +kernel
theorem dX9_readSide_39 : decode cX9_readSide 39 = .ok (.getfield 239, 3) := by decide +kernel
theorem dX9_readSide_42 : decode cX9_readSide 42 = .ok (.ifCond .ne 54, 3) := by decide +kernel
theorem dX9_readSide_45 : decode cX9_readSide 45 = .ok (.aload_n 0, 1) := by decide +kernel
theorem dX9_readSide_46 : decode cX9_readSide 46 = .ok (.invokevirtual 236, 3) := by decide +kernel
theorem dX9_readSide_49 : decode cX9_readSide 49 = .ok (.bipush 43, 2) := by decide +kernel
theorem dX9_readSide_51 : decode cX9_readSide 51 = .ok (.if_icmp .eq 12, 3) := by decide +kernel
theorem dX9_readSide_54 : decode cX9_readSide 54 = .ok (.aload_n 0, 1) := by decide +kernel
theorem dX9_readSide_55 : decode cX9_readSide 55 = .ok (.invokevirtual 236, 3) := by decide +kernel
theorem dX9_readSide_58 : decode cX9_readSide 58 = .ok (.bipush 45, 2) := by decide +kernel
theorem dX9_readSide_60 : decode cX9_readSide 60 = .ok (.if_icmp .ne 36, 3) := by decide +kernel
theorem dX9_readSide_63 : decode cX9_readSide 63 = .ok (.aload_n 0, 1) := by decide +kernel
theorem dX9_readSide_64 : decode cX9_readSide 64 = .ok (.invokevirtual 236, 3) := by decide +kernel
theorem dX9_readSide_67 : decode cX9_readSide 67 = .ok (.bipush 45, 2) := by decide +kernel
theorem dX9_readSide_69 : decode cX9_readSide 69 = .ok (.if_icmp .ne 7, 3) := by decide +kernel
theorem dX9_readSide_72 : decode cX9_readSide 72 = .ok (.iconst (-1), 1) := by decide +kernel
theorem dX9_readSide_73 : decode cX9_readSide 73 = .ok (.goto 4, 3) := by decide +kernel
theorem dX9_readSide_76 : decode cX9_readSide 76 = .ok (.iconst 1, 1) := by decide +kernel
theorem dX9_readSide_77 : decode cX9_readSide 77 = .ok (.istore_n 1, 1) := by decide +kernel
theorem dX9_readSide_78 : decode cX9_readSide 78 = .ok (.aload_n 0, 1) := by decide +kernel
theorem dX9_readSide_79 : decode cX9_readSide 79 = .ok (.dup, 1) := by decide +kernel
theorem dX9_readSide_80 : decode cX9_readSide 80 = .ok (.getfield 233, 3) := by decide +kernel
theorem dX9_readSide_83 : decode cX9_readSide 83 = .ok (.iconst 1, 1) := by decide +kernel
theorem dX9_readSide_84 : decode cX9_readSide 84 = .ok (.iadd, 1) := by decide +kernel
theorem dX9_readSide_85 : decode cX9_readSide 85 = .ok (.putfield 233, 3) := by decide +kernel
theorem dX9_readSide_88 : decode cX9_readSide 88 = .ok (.aload_n 0, 1) := by decide +kernel
theorem dX9_readSide_89 : decode cX9_readSide 89 = .ok (.iload_n 1, 1) := by decide +kernel
theorem dX9_readSide_90 : decode cX9_readSide 90 = .ok (.invokevirtual 242, 3) := by decide +kernel
theorem dX9_readSide_93 : decode cX9_readSide 93 = .ok (.goto (-55), 3) := by decide +kernel
theorem dX9_readSide_96 : decode cX9_readSide 96 = .ok (.return_, 1) := by decide +kernel
set_option maxRecDepth 20000 in
theorem ggX9_readNumber_X9_sign : GoodIn wsX9_readNumber wsX9_sign := goodIn_r _ [8, 1, 9, 10, 14, 15, 16, 17, 18, 19, 20, 21, 22, 23, 24, 25, 26, 27, 28, 29, 30, 31, 32, 33, 34, 35, 36, 37, 38, 39, 40, 41, 42, 43, 44, 45, 46, 47, 48, 49] (by decide +kernel) (by decide +kernel)
set_option maxRecDepth 20000 in
theorem gX9_readNumber_X9_sign : GoodIn wsX9_readNumber (wsV RX9 236 RX9 yX9_sign wsX9_sign) := goodIn_app (goodIn_of _ (by decide +kernel)) ggX9_readNumber_X9_sign
set_option maxRecDepth 20000 in
theorem ggX9_readNumber_X9_in : GoodIn wsX9_readNumber wsX9_in := goodIn_r _ [13] (by decide +kernel) (by decide +kernel)
set_option maxRecDepth 20000 in
theorem gX9_readNumber_X9_in : GoodIn wsX9_readNumber (va_wsS RX9 76 yX9_in wsX9_in) := goodIn_app (goodIn_of _ (by decide +kernel)) ggX9_readNumber_X9_in
theorem dX9_readNumber_0 : decode cX9_readNumber 0 = .ok (.aload_n 0, 1) := by decide +kernel
theorem dX9_readNumber_1 : decode cX9_readNumber 1 = .ok (.invokevirtual 236, 3) := by decide +kernel
theorem dX9_readNumber_4 : decode cX9_readNumber 4 = .ok (.bipush 45, 2) := by decide +kernel
theorem dX9_readNumber_6 : decode cX9_readNumber 6 = .ok (.if_icmp .ne 7, 3) := by decide +kernel
theorem dX9_readNumber_9 : decode cX9_readNumber 9 = .ok (.iconst (-1), 1) := by decide +kernel
theorem dX9_readNumber_10 : decode cX9_readNumber 10 = .ok (.goto 4, 3) := by decide +kernel
theorem dX9_readNumber_13 : decode cX9_readNumber 13 = .ok (.iconst 1, 1) := by decide +kernel
theorem dX9_readNumber_14 : decode cX9_readNumber 14 = .ok (.istore_n 1, 1) := by decide +kernel
theorem dX9_readNumber_15 : decode cX9_readNumber 15 = .ok (.aload_n 0, 1) := by decide +kernel
theorem dX9_readNumber_16 : decode cX9_readNumber 16 = .ok (.dup, 1) := by decide +kernel
theorem dX9_readNumber_17 : decode cX9_readNumber 17 = .ok (.getfield 233, 3) := by decide +kernel
theorem dX9_readNumber_20 : decode cX9_readNumber 20 = .ok (.iload_n 1, 1) := by decide +kernel
theorem dX9_readNumber_21 : decode cX9_readNumber 21 = .ok (.ifCond .ge 7, 3) := by decide +kernel
theorem dX9_readNumber_24 : decode cX9_readNumber 24 = .ok (.iconst 1, 1) := by decide +kernel
theorem dX9_readNumber_25 : decode cX9_readNumber 25 = .ok (.goto 4, 3) := by decide +kernel
theorem dX9_readNumber_28 : decode cX9_readNumber 28 = .ok (.iconst 0, 1) := by decide +kernel
theorem dX9_readNumber_29 : decode cX9_readNumber 29 = .ok (.iadd, 1) := by decide +kernel
theorem dX9_readNumber_30 : decode cX9_readNumber 30 = .ok (.putfield 233, 3) := by decide +kernel
theorem dX9_readNumber_33 : decode cX9_readNumber 33 = .ok (.aload_n 0, 1) := by decide +kernel
theorem dX9_readNumber_34 : decode cX9_readNumber 34 = .ok (.invokevirtual 236, 3) := by decide +kernel
theorem dX9_readNumber_37 : decode cX9_readNumber 37 = .ok (.bipush 48, 2) := by decide +kernel
theorem dX9_readNumber_39 : decode cX9_readNumber 39 = .ok (.bipush 57, 2) := by decide +kernel
theorem dX9_readNumber_41 : decode cX9_readNumber 41 = .ok (.invokestatic 76, 3) := by decide +kernel
theorem dX9_readNumber_44 : decode cX9_readNumber 44 = .ok (.ifCond .ne 9, 3) := by decide +kernel
theorem dX9_readNumber_47 : decode cX9_readNumber 47 = .ok (.aload_n 0, 1) := by decide +kernel
theorem dX9_readNumber_48 : decode cX9_readNumber 48 = .ok (.iconst 1, 1) := by decide +kernel
theorem dX9_readNumber_49 : decode cX9_readNumber 49 = .ok (.putfield 239, 3) := by decide +kernel
theorem dX9_readNumber_52 : decode cX9_readNumber 52 = .ok (.return_, 1) := by decide +kernel
theorem dX9_readNumber_53 : decode cX9_readNumber 53 = .ok (.aload_n 0, 1) := by decide +kernel
theorem dX9_readNumber_54 : decode cX9_readNumber 54 = .ok (.invokevirtual 236, 3) := by decide +kernel
theorem dX9_readNumber_57 : decode cX9_readNumber 57 = .ok (.bipush 48, 2) := by decide +kernel
theorem dX9_readNumber_59 : decode cX9_readNumber 59 = .ok (.isub, 1) := by decide +kernel
theorem dX9_readNumber_60 : decode cX9_readNumber 60 = .ok (.istore_n 2, 1) := by decide +kernel
theorem dX9_readNumber_61 : decode cX9_readNumber 61 = .ok (.aload_n 0, 1) := by decide +kernel
theorem dX9_readNumber_62 : decode cX9_readNumber 62 = .ok (.dup, 1) := by decide +kernel
theorem dX9_readNumber_63 : decode cX9_readNumber 63 = .ok (.getfield 233, 3) := by decide +kernel
theorem dX9_readNumber_66 : decode cX9_readNumber 66 = .ok (.iconst 1, 1) := by decide +kernel
theorem dX9_readNumber_67 : decode cX9_readNumber 67 = .ok (.iadd, 1) := by decide +kernel
theorem dX9_readNumber_68 : decode cX9_readNumber 68 = .ok (.putfield 233, 3) := by decide +kernel
theorem dX9_readNumber_71 : decode cX9_readNumber 71 = .ok (.iload_n 2, 1) := by decide +kernel
theorem dX9_readNumber_72 : decode cX9_readNumber 72 = .ok (.ifCond .le 61, 3) := by decide +kernel
theorem dX9_readNumber_75 : decode cX9_readNumber 75 = .ok (.aload_n 0, 1) := by decide +kernel
theorem dX9_readNumber_76 : decode cX9_readNumber 76 = .ok (.invokevirtual 236, 3) := by decide +kernel
theorem dX9_readNumber_79 : decode cX9_readNumber 79 = .ok (.bipush 48, 2) := by decide +kernel
theorem dX9_readNumber_81 : decode cX9_readNumber 81 = .ok (.bipush 57, 2) := by decide +kernel
theorem dX9_readNumber_83 : decode cX9_readNumber 83 = .ok (.invokestatic 76, 3) := by decide +kernel
theorem dX9_readNumber_86 : decode cX9_readNumber 86 = .ok (.ifCond .eq 47, 3) := by decide +kernel
theorem dX9_readNumber_89 : decode cX9_readNumber 89 = .ok (.bipush 10, 2) := by decide +kernel
theorem dX9_readNumber_91 : decode cX9_readNumber 91 = .ok (.iload_n 2, 1) := by decide +kernel
theorem dX9_readNumber_92 : decode cX9_readNumber 92 = .ok (.imul, 1) := by decide +kernel
theorem dX9_readNumber_93 : decode cX9_readNumber 93 = .ok (.aload_n 0, 1) := by decide +kernel
theorem dX9_readNumber_94 : decode cX9_readNumber 94 = .ok (.invokevirtual 236, 3) := by decide +kernel
theorem dX9_readNumber_97 : decode cX9_readNumber 97 = .ok (.iadd, 1) := by decide +kernel
theorem dX9_readNumber_98 : decode cX9_readNumber 98 = .ok (.bipush 48, 2) := by decide +kernel
theorem dX9_readNumber_100 : decode cX9_readNumber 100 = .ok (.isub, 1) := by decide +kernel
theorem dX9_readNumber_101 : decode cX9_readNumber 101 = .ok (.sipush 200, 3) := by decide +kernel
theorem dX9_readNumber_104 : decode cX9_readNumber 104 = .ok (.if_icmp .gt 29, 3) := by decide +kernel
theorem dX9_readNumber_107 : decode cX9_readNumber 107 = .ok (.bipush 10, 2) := by decide +kernel
theorem dX9_readNumber_109 : decode cX9_readNumber 109 = .ok (.iload_n 2, 1) := by decide +kernel
theorem dX9_readNumber_110 : decode cX9_readNumber 110 = .ok (.imul, 1) := by decide +kernel
theorem dX9_readNumber_111 : decode cX9_readNumber 111 = .ok (.aload_n 0, 1) := by decide +kernel
theorem dX9_readNumber_112 : decode cX9_readNumber 112 = .ok (.invokevirtual 236, 3) := by decide +kernel
theorem dX9_readNumber_115 : decode cX9_readNumber 115 = .ok (.iadd, 1) := by decide +kernel
theorem dX9_readNumber_116 : decode cX9_readNumber 116 = .ok (.bipush 48, 2) := by decide +kernel
theorem dX9_readNumber_118 : decode cX9_readNumber 118 = .ok (.isub, 1) := by decide +kernel
theorem dX9_readNumber_119 : decode cX9_readNumber 119 = .ok (.istore_n 2, 1) := by decide +kernel
theorem dX9_readNumber_120 : decode cX9_readNumber 120 = .ok (.aload_n 0, 1) := by decide +kernel
theorem dX9_readNumber_121 : decode cX9_readNumber 121 = .ok (.dup, 1) := by decide +kernel
theorem dX9_readNumber_122 : decode cX9_readNumber 122 = .ok (.getfield 233, 3) := by decide +kernel
theorem dX9_readNumber_125 : decode cX9_readNumber 125 = .ok (.iconst 1, 1) := by decide +kernel
theorem dX9_readNumber_126 : decode cX9_readNumber 126 = .ok (.iadd, 1) := by decide +kernel
theorem dX9_readNumber_127 : decode cX9_readNumber 127 = .ok (.putfield 233, 3) := by decide +kernel
theorem dX9_readNumber_130 : decode cX9_readNumber 130 = .ok (.goto (-59), 3) := by decide +kernel
theorem dX9_readNumber_133 : decode cX9_readNumber 133 = .ok (.aload_n 0, 1) := by decide +kernel
theorem dX9_readNumber_134 : decode cX9_readNumber 134 = .ok (.iload_n 1, 1) := by decide +kernel
theorem dX9_readNumber_135 : decode cX9_readNumber 135 = .ok (.iload_n 2, 1) := by decide +kernel
theorem dX9_readNumber_136 : decode cX9_readNumber 136 = .ok (.imul, 1) := by decide +kernel
theorem dX9_readNumber_137 : decode cX9_readNumber 137 = .ok (.putfield 245, 3) := by decide +kernel
theorem dX9_readNumber_140 : decode cX9_readNumber 140 = .ok (.return_, 1) := by decide +kernel
set_option maxRecDepth 20000 in
theorem ggX9_readEnd_X9_sign : GoodIn wsX9_readEnd wsX9_sign := goodIn_r _ [9, 3, 10, 11, 15, 16, 17, 18, 19, 20, 21, 22, 23, 24, 25, 26, 27, 28, 29, 30, 31, 32, 33, 34, 35, 36, 37, 38, 39, 40, 41, 42, 43, 44, 45, 46, 47, 48, 49, 50] (by decide +kernel) (by decide +kernel)
set_option maxRecDepth 20000 in
theorem gX9_readEnd_X9_sign : GoodIn wsX9_readEnd (wsV RX9 236 RX9 yX9_sign wsX9_sign) := goodIn_app (goodIn_of _ (by decide +kernel)) ggX9_readEnd_X9_sign
set_option maxRecDepth 20000 in
theorem ggX9_readEnd_X9_in : GoodIn wsX9_readEnd wsX9_in := goodIn_r _ [14] (by decide +kernel) (by decide +kernel)
set_option maxRecDepth 20000 in
theorem gX9_readEnd_X9_in : GoodIn wsX9_readEnd (va_wsS RX9 76 yX9_in wsX9_in) := goodIn_app (goodIn_of _ (by decide +kernel)) ggX9_readEnd_X9_in
theorem dX9_readEnd_0 : decode cX9_readEnd 0 = .ok (.aload_n 0, 1) := by decide +kernel
theorem dX9_readEnd_1 : decode cX9_readEnd 1 = .ok (.invokevirtual 236, 3) := by decide +kernel
theorem dX9_readEnd_4 : decode cX9_readEnd 4 = .ok (.istore_n 1, 1) := by decide +kernel
theorem dX9_readEnd_5 : decode cX9_readEnd 5 = .ok (.aload_n 0, 1) := by decide +kernel
theorem dX9_readEnd_6 : decode cX9_readEnd 6 = .ok (.iload_n 1, 1) := by decide +kernel
theorem dX9_readEnd_7 : decode cX9_readEnd 7 = .ok (.bipush 114, 2) := by decide +kernel
theorem dX9_readEnd_9 : decode cX9_readEnd 9 = .ok (.if_icmp .ne 7, 3) := by decide +kernel
theorem dX9_readEnd_12 : decode cX9_readEnd 12 = .ok (.iconst 0, 1) := by decide +kernel
theorem dX9_readEnd_13 : decode cX9_readEnd 13 = .ok (.goto 35, 3) := by decide +kernel
theorem dX9_readEnd_16 : decode cX9_readEnd 16 = .ok (.iload_n 1, 1) := by decide +kernel
theorem dX9_readEnd_17 : decode cX9_readEnd 17 = .ok (.bipush 115, 2) := by decide +kernel
theorem dX9_readEnd_19 : decode cX9_readEnd 19 = .ok (.if_icmp .ne 7, 3) := by decide +kernel
theorem dX9_readEnd_22 : decode cX9_readEnd 22 = .ok (.iconst 1, 1) := by decide +kernel
theorem dX9_readEnd_23 : decode cX9_readEnd 23 = .ok (.goto 25, 3) := by decide +kernel
theorem dX9_readEnd_26 : decode cX9_readEnd 26 = .ok (.iload_n 1, 1) := by decide +kernel
theorem dX9_readEnd_27 : decode cX9_readEnd 27 = .ok (.bipush 109, 2) := by decide +kernel
theorem dX9_readEnd_29 : decode cX9_readEnd 29 = .ok (.if_icmp .ne 7, 3) := by decide +kernel
theorem dX9_readEnd_32 : decode cX9_readEnd 32 = .ok (.iconst 2, 1) := by decide +kernel
theorem dX9_readEnd_33 : decode cX9_readEnd 33 = .ok (.goto 15, 3) := by decide +kernel
theorem dX9_readEnd_36 : decode cX9_readEnd 36 = .ok (.iload_n 1, 1) := by decide +kernel
theorem dX9_readEnd_37 : decode cX9_readEnd 37 = .ok (.bipush 119, 2) := by decide +kernel
theorem dX9_readEnd_39 : decode cX9_readEnd 39 = .ok (.if_icmp .ne 7, 3) := by decide +kernel
theorem dX9_readEnd_42 : decode cX9_readEnd 42 = .ok (.iconst 3, 1) := by decide +kernel
theorem dX9_readEnd_43 : decode cX9_readEnd 43 = .ok (.goto 5, 3) := by decide +kernel
theorem dX9_readEnd_46 : decode cX9_readEnd 46 = .ok (.bipush (-6), 2) := by decide +kernel
theorem dX9_readEnd_48 : decode cX9_readEnd 48 = .ok (.putfield 248, 3) := by decide +kernel
theorem dX9_readEnd_51 : decode cX9_readEnd 51 = .ok (.aload_n 0, 1) := by decide +kernel
theorem dX9_readEnd_52 : decode cX9_readEnd 52 = .ok (.aload_n 0, 1) := by decide +kernel
theorem dX9_readEnd_53 : decode cX9_readEnd 53 = .ok (.getfield 248, 3) := by decide +kernel
theorem dX9_readEnd_56 : decode cX9_readEnd 56 = .ok (.bipush (-6), 2) := by decide +kernel
theorem dX9_readEnd_58 : decode cX9_readEnd 58 = .ok (.if_icmp .ne 7, 3) := by decide +kernel
theorem dX9_readEnd_61 : decode cX9_readEnd 61 = .ok (.iconst 1, 1) := by decide +kernel
theorem dX9_readEnd_62 : decode cX9_readEnd 62 = .ok (.goto 4, 3) := by decide +kernel
theorem dX9_readEnd_65 : decode cX9_readEnd 65 = .ok (.iconst 0, 1) := by decide +kernel
theorem dX9_readEnd_66 : decode cX9_readEnd 66 = .ok (.putfield 239, 3) := by decide +kernel
theorem dX9_readEnd_69 : decode cX9_readEnd 69 = .ok (.aload_n 0, 1) := by decide +kernel
theorem dX9_readEnd_70 : decode cX9_readEnd 70 = .ok (.dup, 1) := by decide +kernel
theorem dX9_readEnd_71 : decode cX9_readEnd 71 = .ok (.getfield 233, 3) := by decide +kernel
theorem dX9_readEnd_74 : decode cX9_readEnd 74 = .ok (.aload_n 0, 1) := by decide +kernel
theorem dX9_readEnd_75 : decode cX9_readEnd 75 = .ok (.getfield 239, 3) := by decide +kernel
theorem dX9_readEnd_78 : decode cX9_readEnd 78 = .ok (.ifCond .eq 7, 3) := by decide +kernel
theorem dX9_readEnd_81 : decode cX9_readEnd 81 = .ok (.iconst 0, 1) := by decide +kernel
theorem dX9_readEnd_82 : decode cX9_readEnd 82 = .ok (.goto 4, 3) := by decide +kernel
theorem dX9_readEnd_85 : decode cX9_readEnd 85 = .ok (.iconst 1, 1) := by decide +kernel
theorem dX9_readEnd_86 : decode cX9_readEnd 86 = .ok (.iadd, 1) := by decide +kernel
theorem dX9_readEnd_87 : decode cX9_readEnd 87 = .ok (.putfield 233, 3) := by decide +kernel
theorem dX9_readEnd_90 : decode cX9_readEnd 90 = .ok (.aload_n 0, 1) := by decide +kernel
theorem dX9_readEnd_91 : decode cX9_readEnd 91 = .ok (.getfield 239, 3) := by decide +kernel
theorem dX9_readEnd_94 : decode cX9_readEnd 94 = .ok (.ifCond .ne 45, 3) := by decide +kernel
theorem dX9_readEnd_97 : decode cX9_readEnd 97 = .ok (.aload_n 0, 1) := by decide +kernel
theorem dX9_readEnd_98 : decode cX9_readEnd 98 = .ok (.getfield 248, 3) := by decide +kernel
theorem dX9_readEnd_101 : decode cX9_readEnd 101 = .ok (.ifCond .eq 38, 3) := by decide +kernel
theorem dX9_readEnd_104 : decode cX9_readEnd 104 = .ok (.aload_n 0, 1) := by decide +kernel
theorem dX9_readEnd_105 : decode cX9_readEnd 105 = .ok (.invokevirtual 236, 3) := by decide +kernel
theorem dX9_readEnd_108 : decode cX9_readEnd 108 = .ok (.bipush 49, 2) := by decide +kernel
theorem dX9_readEnd_110 : decode cX9_readEnd 110 = .ok (.bipush 53, 2) := by decide +kernel
theorem dX9_readEnd_112 : decode cX9_readEnd 112 = .ok (.invokestatic 76, 3) := by decide +kernel
theorem dX9_readEnd_115 : decode cX9_readEnd 115 = .ok (.ifCond .eq 24, 3) := by decide +kernel
theorem dX9_readEnd_118 : decode cX9_readEnd 118 = .ok (.aload_n 0, 1) := by decide +kernel
theorem dX9_readEnd_119 : decode cX9_readEnd 119 = .ok (.aload_n 0, 1) := by decide +kernel
theorem dX9_readEnd_120 : decode cX9_readEnd 120 = .ok (.invokevirtual 236, 3) := by decide +kernel
theorem dX9_readEnd_123 : decode cX9_readEnd 123 = .ok (.bipush 48, 2) := by decide +kernel
theorem dX9_readEnd_125 : decode cX9_readEnd 125 = .ok (.isub, 1) := by decide +kernel
theorem dX9_readEnd_126 : decode cX9_readEnd 126 = .ok (.putfield 251, 3) := by decide +kernel
theorem dX9_readEnd_129 : decode cX9_readEnd 129 = .ok (.aload_n 0, 1) := by decide +kernel
theorem dX9_readEnd_130 : decode cX9_readEnd 130 = .ok (.dup, 1) := by decide +kernel
theorem dX9_readEnd_131 : decode cX9_readEnd 131 = .ok (.getfield 233, 3) := by decide +kernel
theorem dX9_readEnd_134 : decode cX9_readEnd 134 = .ok (.iconst 1, 1) := by decide +kernel
theorem dX9_readEnd_135 : decode cX9_readEnd 135 = .ok (.iadd, 1) := by decide +kernel
theorem dX9_readEnd_136 : decode cX9_readEnd 136 = .ok (.putfield 233, 3) := by decide +kernel
theorem dX9_readEnd_139 : decode cX9_readEnd 139 = .ok (.return_, 1) := by decide +kernel
set_option maxRecDepth 20000 in
theorem ggX9_fault_X9_readSide : GoodIn wsX9_fault wsX9_readSide := goodIn_r _ [12, 1, 2, 13, 14, 15, 11, 16, 7, 17, 18, 19, 20, 21, 3, 22, 23, 24, 34, 35, 36, 37, 38, 39, 40, 41, 42, 43, 44, 45, 46, 47, 48, 49, 50, 51, 52, 53, 54, 55, 56, 57, 58, 59, 60, 61, 62, 63, 64, 65, 66, 67, 68, 69] (by decide +kernel) (by decide +kernel)
set_option maxRecDepth 20000 in
theorem gX9_fault_X9_readSide : GoodIn wsX9_fault (wsV RX9 254 RX9 yX9_readSide wsX9_readSide) := goodIn_app (goodIn_of _ (by decide +kernel)) ggX9_fault_X9_readSide
set_option maxRecDepth 20000 in
theorem ggX9_fault_X9_sign : GoodIn wsX9_fault wsX9_sign := goodIn_r _ [16, 1, 7, 17, 34, 35, 36, 37, 38, 39, 40, 41, 42, 43, 44, 45, 46, 47, 48, 49, 50, 51, 52, 53, 54, 55, 56, 57, 58, 59, 60, 61, 62, 63, 64, 65, 66, 67, 68, 69] (by decide +kernel) (by decide +kernel)
set_option maxRecDepth 20000 in
theorem gX9_fault_X9_sign : GoodIn wsX9_fault (wsV RX9 236 RX9 yX9_sign wsX9_sign) := goodIn_app (goodIn_of _ (by decide +kernel)) ggX9_fault_X9_sign
set_option maxRecDepth 20000 in
theorem ggX9_fault_X9_readNumber : GoodIn wsX9_fault wsX9_readNumber := goodIn_r _ [28, 1, 2, 29, 13, 14, 15, 11, 16, 7, 17, 22, 23, 24, 34, 35, 36, 37, 38, 39, 40, 41, 42, 43, 44, 45, 46, 47, 48, 49, 50, 51, 52, 53, 54, 55, 56, 57, 58, 59, 60, 61, 62, 63, 64, 65, 66, 67, 68, 69] (by decide +kernel) (by decide +kernel)
set_option maxRecDepth 20000 in
theorem gX9_fault_X9_readNumber : GoodIn wsX9_fault (wsV RX9 260 RX9 yX9_readNumber wsX9_readNumber) := goodIn_app (goodIn_of _ (by decide +kernel)) ggX9_fault_X9_readNumber
set_option maxRecDepth 20000 in
theorem ggX9_fault_X9_readEnd : GoodIn wsX9_fault wsX9_readEnd := goodIn_r _ [33, 4, 2, 1, 5, 13, 14, 15, 11, 16, 7, 17, 22, 23, 24, 34, 35, 36, 37, 38, 39, 40, 41, 42, 43, 44, 45, 46, 47, 48, 49, 50, 51, 52, 53, 54, 55, 56, 57, 58, 59, 60, 61, 62, 63, 64, 65, 66, 67, 68, 69] (by decide +kernel) (by decide +kernel)
set_option maxRecDepth 20000 in
theorem gX9_fault_X9_readEnd : GoodIn wsX9_fault (wsV RX9 263 RX9 yX9_readEnd wsX9_readEnd) := goodIn_app (goodIn_of _ (by decide +kernel)) ggX9_fault_X9_readEnd
theorem dX9_fault_0 : decode cX9_fault 0 = .ok (.aload_n 0, 1) := by decide +kernel
theorem dX9_fault_1 : decode cX9_fault 1 = .ok (.iconst 0, 1) := by decide +kernel
theorem dX9_fault_2 : decode cX9_fault 2 = .ok (.putfield 233, 3) := by decide +kernel
theorem dX9_fault_5 : decode cX9_fault 5 = .ok (.aload_n 0, 1) := by decide +kernel
theorem dX9_fault_6 : decode cX9_fault 6 = .ok (.iconst 0, 1) := by decide +kernel
theorem dX9_fault_7 : decode cX9_fault 7 = .ok (.putfield 239, 3) := by decide +kernel
theorem dX9_fault_10 : decode cX9_fault 10 = .ok (.iconst 0, 1) := by decide +kernel
theorem dX9_fault_11 : decode cX9_fault 11 = .ok (.istore_n 1, 1) := by decide +kernel
theorem dX9_fault_12 : decode cX9_fault 12 = .ok (.iload_n 1, 1) := by decide +kernel
theorem dX9_fault_13 : decode cX9_fault 13 = .ok (.bipush 6, 2) := by decide +kernel
theorem dX9_fault_15 : decode cX9_fault 15 = .ok (.if_icmp .ge 16, 3) := by decide +kernel
theorem dX9_fault_18 : decode cX9_fault 18 = .ok (.aload_n 0, 1) := by decide +kernel
theorem dX9_fault_19 : decode cX9_fault 19 = .ok (.getfield 57, 3) := by decide +kernel
theorem dX9_fault_22 : decode cX9_fault 22 = .ok (.iload_n 1, 1) := by decide +kernel
theorem dX9_fault_23 : decode cX9_fault 23 = .ok (.iconst 0, 1) := by decide +kernel
theorem dX9_fault_24 : decode cX9_fault 24 = .ok (.iastore, 1) := by decide +kernel
theorem dX9_fault_25 : decode cX9_fault 25 = .ok (.iinc 1 1, 3) := by decide +kernel
theorem dX9_fault_28 : decode cX9_fault 28 = .ok (.goto (-16), 3) := by decide +kernel
theorem dX9_fault_31 : decode cX9_fault 31 = .ok (.aload_n 0, 1) := by decide +kernel
theorem dX9_fault_32 : decode cX9_fault 32 = .ok (.iconst 0, 1) := by decide +kernel
theorem dX9_fault_33 : decode cX9_fault 33 = .ok (.putfield 248, 3) := by decide +kernel
theorem dX9_fault_36 : decode cX9_fault 36 = .ok (.aload_n 0, 1) := by decide +kernel
theorem dX9_fault_37 : decode cX9_fault 37 = .ok (.iconst 1, 1) := by decide +kernel
theorem dX9_fault_38 : decode cX9_fault 38 = .ok (.putfield 251, 3) := by decide +kernel
theorem dX9_fault_41 : decode cX9_fault 41 = .ok (.aload_n 0, 1) := by decide +kernel
theorem dX9_fault_42 : decode cX9_fault 42 = .ok (.invokevirtual 254, 3) := by decide +kernel
theorem dX9_fault_45 : decode cX9_fault 45 = .ok (.aload_n 0, 1) := by decide +kernel
theorem dX9_fault_46 : decode cX9_fault 46 = .ok (.getfield 239, 3) := by decide +kernel
theorem dX9_fault_49 : decode cX9_fault 49 = .ok (.ifCond .ne 83, 3) := by decide +kernel
theorem dX9_fault_52 : decode cX9_fault 52 = .ok (.aload_n 0, 1) := by decide +kernel
theorem dX9_fault_53 : decode cX9_fault 53 = .ok (.invokevirtual 236, 3) := by decide +kernel
theorem dX9_fault_56 : decode cX9_fault 56 = .ok (.istore_n 1, 1) := by decide +kernel
theorem dX9_fault_57 : decode cX9_fault 57 = .ok (.aload_n 0, 1) := by decide +kernel
theorem dX9_fault_58 : decode cX9_fault 58 = .ok (.iload_n 1, 1) := by decide +kernel
theorem dX9_fault_59 : decode cX9_fault 59 = .ok (.bipush 60, 2) := by decide +kernel
theorem dX9_fault_61 : decode cX9_fault 61 = .ok (.if_icmp .ne 7, 3) := by decide +kernel
theorem dX9_fault_64 : decode cX9_fault 64 = .ok (.iconst 0, 1) := by decide +kernel
theorem dX9_fault_65 : decode cX9_fault 65 = .ok (.goto 25, 3) := by decide +kernel
theorem dX9_fault_68 : decode cX9_fault 68 = .ok (.iload_n 1, 1) := by decide +kernel
theorem dX9_fault_69 : decode cX9_fault 69 = .ok (.bipush 61, 2) := by decide +kernel
theorem dX9_fault_71 : decode cX9_fault 71 = .ok (.if_icmp .ne 7, 3) := by decide +kernel
theorem dX9_fault_74 : decode cX9_fault 74 = .ok (.iconst 1, 1) := by decide +kernel
theorem dX9_fault_75 : decode cX9_fault 75 = .ok (.goto 15, 3) := by decide +kernel
theorem dX9_fault_78 : decode cX9_fault 78 = .ok (.iload_n 1, 1) := by decide +kernel
theorem dX9_fault_79 : decode cX9_fault 79 = .ok (.bipush 62, 2) := by decide +kernel
theorem dX9_fault_81 : decode cX9_fault 81 = .ok (.if_icmp .ne 7, 3) := by decide +kernel
theorem dX9_fault_84 : decode cX9_fault 84 = .ok (.iconst 2, 1) := by decide +kernel
theorem dX9_fault_85 : decode cX9_fault 85 = .ok (.goto 5, 3) := by decide +kernel
theorem dX9_fault_88 : decode cX9_fault 88 = .ok (.bipush (-6), 2) := by decide +kernel
theorem dX9_fault_90 : decode cX9_fault 90 = .ok (.putfield 257, 3) := by decide +kernel
theorem dX9_fault_93 : decode cX9_fault 93 = .ok (.aload_n 0, 1) := by decide +kernel
theorem dX9_fault_94 : decode cX9_fault 94 = .ok (.aload_n 0, 1) := by decide +kernel
theorem dX9_fault_95 : decode cX9_fault 95 = .ok (.getfield 257, 3) := by decide +kernel
theorem dX9_fault_98 : decode cX9_fault 98 = .ok (.bipush (-6), 2) := by decide +kernel
theorem dX9_fault_100 : decode cX9_fault 100 = .ok (.if_icmp .ne 7, 3) := by decide +kernel
theorem dX9_fault_103 : decode cX9_fault 103 = .ok (.iconst 1, 1) := by decide +kernel
theorem dX9_fault_104 : decode cX9_fault 104 = .ok (.goto 4, 3) := by decide +kernel
theorem dX9_fault_107 : decode cX9_fault 107 = .ok (.iconst 0, 1) := by decide +kernel
theorem dX9_fault_108 : decode cX9_fault 108 = .ok (.putfield 239, 3) := by decide +kernel
theorem dX9_fault_111 : decode cX9_fault 111 = .ok (.aload_n 0, 1) := by decide +kernel
theorem dX9_fault_112 : decode cX9_fault 112 = .ok (.dup, 1) := by decide +kernel
theorem dX9_fault_113 : decode cX9_fault 113 = .ok (.getfield 233, 3) := by decide +kernel
theorem dX9_fault_116 : decode cX9_fault 116 = .ok (.aload_n 0, 1) := by decide +kernel
theorem dX9_fault_117 : decode cX9_fault 117 = .ok (.getfield 239, 3) := by decide +kernel
theorem dX9_fault_120 : decode cX9_fault 120 = .ok (.ifCond .eq 7, 3) := by decide +kernel
theorem dX9_fault_123 : decode cX9_fault 123 = .ok (.iconst 0, 1) := by decide +kernel
theorem dX9_fault_124 : decode cX9_fault 124 = .ok (.goto 4, 3) := by decide +kernel
theorem dX9_fault_127 : decode cX9_fault 127 = .ok (.iconst 1, 1) := by decide +kernel
theorem dX9_fault_128 : decode cX9_fault 128 = .ok (.iadd, 1) := by decide +kernel
theorem dX9_fault_129 : decode cX9_fault 129 = .ok (.putfield 233, 3) := by decide +kernel
theorem dX9_fault_132 : decode cX9_fault 132 = .ok (.aload_n 0, 1) := by decide +kernel
theorem dX9_fault_133 : decode cX9_fault 133 = .ok (.getfield 239, 3) := by decide +kernel
theorem dX9_fault_136 : decode cX9_fault 136 = .ok (.ifCond .ne 7, 3) := by decide +kernel
theorem dX9_fault_139 : decode cX9_fault 139 = .ok (.aload_n 0, 1) := by decide +kernel
theorem dX9_fault_140 : decode cX9_fault 140 = .ok (.invokevirtual 260, 3) := by decide +kernel
theorem dX9_fault_143 : decode cX9_fault 143 = .ok (.aload_n 0, 1) := by decide +kernel
theorem dX9_fault_144 : decode cX9_fault 144 = .ok (.getfield 239, 3) := by decide +kernel
theorem dX9_fault_147 : decode cX9_fault 147 = .ok (.ifCond .ne 26, 3) := by decide +kernel
theorem dX9_fault_150 : decode cX9_fault 150 = .ok (.aload_n 0, 1) := by decide +kernel
theorem dX9_fault_151 : decode cX9_fault 151 = .ok (.invokevirtual 236, 3) := by decide +kernel
theorem dX9_fault_154 : decode cX9_fault 154 = .ok (.bipush 64, 2) := by decide +kernel
theorem dX9_fault_156 : decode cX9_fault 156 = .ok (.if_icmp .ne 17, 3) := by decide +kernel
theorem dX9_fault_159 : decode cX9_fault 159 = .ok (.aload_n 0, 1) := by decide +kernel
theorem dX9_fault_160 : decode cX9_fault 160 = .ok (.dup, 1) := by decide +kernel
theorem dX9_fault_161 : decode cX9_fault 161 = .ok (.getfield 233, 3) := by decide +kernel
theorem dX9_fault_164 : decode cX9_fault 164 = .ok (.iconst 1, 1) := by decide +kernel
theorem dX9_fault_165 : decode cX9_fault 165 = .ok (.iadd, 1) := by decide +kernel
theorem dX9_fault_166 : decode cX9_fault 166 = .ok (.putfield 233, 3) := by decide +kernel
theorem dX9_fault_169 : decode cX9_fault 169 = .ok (.aload_n 0, 1) := by decide +kernel
theorem dX9_fault_170 : decode cX9_fault 170 = .ok (.invokevirtual 263, 3) := by decide +kernel
theorem dX9_fault_173 : decode cX9_fault 173 = .ok (.aload_n 0, 1) := by decide +kernel
theorem dX9_fault_174 : decode cX9_fault 174 = .ok (.getfield 239, 3) := by decide +kernel
theorem dX9_fault_177 : decode cX9_fault 177 = .ok (.ifCond .ne 14, 3) := by decide +kernel
theorem dX9_fault_180 : decode cX9_fault 180 = .ok (.aload_n 0, 1) := by decide +kernel
theorem dX9_fault_181 : decode cX9_fault 181 = .ok (.getfield 233, 3) := by decide +kernel
theorem dX9_fault_184 : decode cX9_fault 184 = .ok (.aload_n 0, 1) := by decide +kernel
theorem dX9_fault_185 : decode cX9_fault 185 = .ok (.getfield 230, 3) := by decide +kernel
theorem dX9_fault_188 : decode cX9_fault 188 = .ok (.if_icmp .ge 10, 3) := by decide +kernel
theorem dX9_fault_191 : decode cX9_fault 191 = .ok (.aload_n 0, 1) := by decide +kernel
theorem dX9_fault_192 : decode cX9_fault 192 = .ok (.getfield 233, 3) := by decide +kernel
theorem dX9_fault_195 : decode cX9_fault 195 = .ok (.goto 5, 3) := by decide +kernel
theorem dX9_fault_198 : decode cX9_fault 198 = .ok (.bipush (-6), 2) := by decide +kernel
theorem dX9_fault_200 : decode cX9_fault 200 = .ok (.ireturn, 1) := by decide +kernel
set_option maxRecDepth 20000 in
theorem ggX9_parse_X9_fault : GoodIn wsX9_parse wsX9_fault := goodIn_r _ [11, 12, 13, 1, 4, 5, 2, 6, 14, 15, 16, 10, 17, 18, 19, 20, 21, 22, 23, 24, 25, 26, 27, 28, 29, 30, 31, 32, 33, 3, 34, 35, 36, 37, 148, 149, 150, 151, 152, 153, 154, 155, 156, 157, 158, 159, 160, 161, 162, 163, 164, 165, 166, 167, 168, 169, 170, 171, 172, 173, 174, 175, 176, 177, 178, 179, 180, 181, 182, 183] (by decide +kernel) (by decide +kernel)
set_option maxRecDepth 20000 in
theorem gX9_parse_X9_fault : GoodIn wsX9_parse (wsV RX9 266 RX9 yX9_fault wsX9_fault) := goodIn_app (goodIn_of _ (by decide +kernel)) ggX9_parse_X9_fault
set_option maxRecDepth 20000 in
theorem ggX9_parse_X9_isAnything : GoodIn wsX9_parse wsX9_isAnything := goodIn_r _ [40] (by decide +kernel) (by decide +kernel)
set_option maxRecDepth 20000 in
theorem gX9_parse_X9_isAnything : GoodIn wsX9_parse (va_wsS RX9 219 yX9_isAnything wsX9_isAnything) := goodIn_app (goodIn_of _ (by decide +kernel)) ggX9_parse_X9_isAnything
set_option maxRecDepth 20000 in
theorem ggX9_parse_X9_in : GoodIn wsX9_parse wsX9_in := goodIn_r _ [29] (by decide +kernel) (by decide +kernel)
set_option maxRecDepth 20000 in
theorem gX9_parse_X9_in : GoodIn wsX9_parse (va_wsS RX9 76 yX9_in wsX9_in) := goodIn_app (goodIn_of _ (by decide +kernel)) ggX9_parse_X9_in
set_option maxRecDepth 20000 in
theorem ggX9_parse_X9_come : GoodIn wsX9_parse wsX9_come := goodIn_r _ [44, 45, 46, 47, 10, 48, 49, 50, 51, 52, 53, 54, 55, 56, 57, 58, 59, 60, 61, 62, 63, 64, 65, 66, 67, 68, 69, 70, 71, 72, 73, 74, 75, 76, 77, 78, 79, 80, 81, 82, 83, 84, 85, 86, 87, 88, 89, 90, 91, 92, 93, 94, 95, 96, 27, 28, 29, 97, 98, 99, 100, 101, 102, 103, 104, 105, 106, 107, 108, 109, 110, 111, 112, 113, 114, 115, 116, 117, 118, 119, 120, 121, 122, 123, 124, 125, 126, 127, 128, 129, 130, 131, 132, 133, 134, 135, 136, 137, 138, 139, 140, 141, 142, 143, 144, 145, 146, 147, 148, 149, 150, 151, 152, 153, 154, 155, 156, 157, 158, 159, 160, 161, 162, 163, 164, 165, 166, 167, 168, 169, 170, 171, 172, 173, 174, 175, 176, 177, 178, 179, 180, 181, 182, 183] (by decide +kernel) (by decide +kernel)
set_option maxRecDepth 20000 in
theorem gX9_parse_X9_come : GoodIn wsX9_parse (wsV RX9 223 RX9 yX9_come wsX9_come) := goodIn_app (goodIn_of _ (by decide +kernel)) ggX9_parse_X9_come
theorem dX9_parse_0 : decode cX9_parse 0 = .ok (.aload_n 0, 1) := by decide +kernel
theorem dX9_parse_1 : decode cX9_parse 1 = .ok (.invokevirtual 266, 3) := by decide +kernel
theorem dX9_parse_4 : decode cX9_parse 4 = .ok (.bipush (-6), 2) := by decide +kernel
theorem dX9_parse_6 : decode cX9_parse 6 = .ok (.if_icmp .ne 13, 3) := by decide +kernel
theorem dX9_parse_9 : decode cX9_parse 9 = .ok (.aload_n 0, 1) := by decide +kernel
theorem dX9_parse_10 : decode cX9_parse 10 = .ok (.getfield 57, 3) := by decide +kernel
theorem dX9_parse_13 : decode cX9_parse 13 = .ok (.invokestatic 219, 3) := by decide +kernel
theorem dX9_parse_16 : decode cX9_parse 16 = .ok (.ifCond .ne 6, 3) := by decide +kernel
theorem dX9_parse_19 : decode cX9_parse 19 = .ok (.bipush (-5), 2) := by decide +kernel
theorem dX9_parse_21 : decode cX9_parse 21 = .ok (.ireturn, 1) := by decide +kernel
theorem dX9_parse_22 : decode cX9_parse 22 = .ok (.iconst 0, 1) := by decide +kernel
theorem dX9_parse_23 : decode cX9_parse 23 = .ok (.istore_n 1, 1) := by decide +kernel
theorem dX9_parse_24 : decode cX9_parse 24 = .ok (.iload_n 1, 1) := by decide +kernel
theorem dX9_parse_25 : decode cX9_parse 25 = .ok (.bipush 6, 2) := by decide +kernel
theorem dX9_parse_27 : decode cX9_parse 27 = .ok (.if_icmp .ge 27, 3) := by decide +kernel
theorem dX9_parse_30 : decode cX9_parse 30 = .ok (.aload_n 0, 1) := by decide +kernel
theorem dX9_parse_31 : decode cX9_parse 31 = .ok (.getfield 57, 3) := by decide +kernel
theorem dX9_parse_34 : decode cX9_parse 34 = .ok (.iload_n 1, 1) := by decide +kernel
theorem dX9_parse_35 : decode cX9_parse 35 = .ok (.iaload, 1) := by decide +kernel
theorem dX9_parse_36 : decode cX9_parse 36 = .ok (.bipush (-3), 2) := by decide +kernel
theorem dX9_parse_38 : decode cX9_parse 38 = .ok (.iconst 3, 1) := by decide +kernel
theorem dX9_parse_39 : decode cX9_parse 39 = .ok (.invokestatic 76, 3) := by decide +kernel
theorem dX9_parse_42 : decode cX9_parse 42 = .ok (.ifCond .ne 6, 3) := by decide +kernel
theorem dX9_parse_45 : decode cX9_parse 45 = .ok (.bipush (-2), 2) := by decide +kernel
theorem dX9_parse_47 : decode cX9_parse 47 = .ok (.ireturn, 1) := by decide +kernel
theorem dX9_parse_48 : decode cX9_parse 48 = .ok (.iinc 1 1, 3) := by decide +kernel
theorem dX9_parse_51 : decode cX9_parse 51 = .ok (.goto (-27), 3) := by decide +kernel
theorem dX9_parse_54 : decode cX9_parse 54 = .ok (.aload_n 0, 1) := by decide +kernel
theorem dX9_parse_55 : decode cX9_parse 55 = .ok (.aload_n 0, 1) := by decide +kernel
theorem dX9_parse_56 : decode cX9_parse 56 = .ok (.getfield 57, 3) := by decide +kernel
theorem dX9_parse_59 : decode cX9_parse 59 = .ok (.aload_n 0, 1) := by decide +kernel
theorem dX9_parse_60 : decode cX9_parse 60 = .ok (.getfield 257, 3) := by decide +kernel
theorem dX9_parse_63 : decode cX9_parse 63 = .ok (.aload_n 0, 1) := by decide +kernel
theorem dX9_parse_64 : decode cX9_parse 64 = .ok (.getfield 245, 3) := by decide +kernel
theorem dX9_parse_67 : decode cX9_parse 67 = .ok (.aload_n 0, 1) := by decide +kernel
theorem dX9_parse_68 : decode cX9_parse 68 = .ok (.getfield 248, 3) := by decide +kernel
theorem dX9_parse_71 : decode cX9_parse 71 = .ok (.aload_n 0, 1) := by decide +kernel
theorem dX9_parse_72 : decode cX9_parse 72 = .ok (.getfield 251, 3) := by decide +kernel
theorem dX9_parse_75 : decode cX9_parse 75 = .ok (.invokevirtual 223, 3) := by decide +kernel
theorem dX9_parse_78 : decode cX9_parse 78 = .ok (.istore_n 1, 1) := by decide +kernel
theorem dX9_parse_79 : decode cX9_parse 79 = .ok (.aload_n 0, 1) := by decide +kernel
theorem dX9_parse_80 : decode cX9_parse 80 = .ok (.iload_n 1, 1) := by decide +kernel
theorem dX9_parse_81 : decode cX9_parse 81 = .ok (.ifCond .lt 7, 3) := by decide +kernel
theorem dX9_parse_84 : decode cX9_parse 84 = .ok (.iconst 0, 1) := by decide +kernel
theorem dX9_parse_85 : decode cX9_parse 85 = .ok (.goto 7, 3) := by decide +kernel
theorem dX9_parse_88 : decode cX9_parse 88 = .ok (.aload_n 0, 1) := by decide +kernel
theorem dX9_parse_89 : decode cX9_parse 89 = .ok (.getfield 230, 3) := by decide +kernel
theorem dX9_parse_92 : decode cX9_parse 92 = .ok (.putfield 230, 3) := by decide +kernel
theorem dX9_parse_95 : decode cX9_parse 95 = .ok (.iload_n 1, 1) := by decide +kernel
theorem dX9_parse_96 : decode cX9_parse 96 = .ok (.ireturn, 1) := by decide +kernel
theorem dX9_spellOne_0 : decode cX9_spellOne 0 = .ok (.aload_n 0, 1) := by decide +kernel
theorem dX9_spellOne_1 : decode cX9_spellOne 1 = .ok (.getfield 60, 3) := by decide +kernel
theorem dX9_spellOne_4 : decode cX9_spellOne 4 = .ok (.aload_n 0, 1) := by decide +kernel
theorem dX9_spellOne_5 : decode cX9_spellOne 5 = .ok (.getfield 269, 3) := by decide +kernel
theorem dX9_spellOne_8 : decode cX9_spellOne 8 = .ok (.iload_n 1, 1) := by decide +kernel
theorem dX9_spellOne_9 : decode cX9_spellOne 9 = .ok (.iastore, 1) := by decide +kernel
theorem dX9_spellOne_10 : decode cX9_spellOne 10 = .ok (.aload_n 0, 1) := by decide +kernel
theorem dX9_spellOne_11 : decode cX9_spellOne 11 = .ok (.dup, 1) := by decide +kernel
theorem dX9_spellOne_12 : decode cX9_spellOne 12 = .ok (.getfield 269, 3) := by decide +kernel
theorem dX9_spellOne_15 : decode cX9_spellOne 15 = .ok (.iconst 1, 1) := by decide +kernel
theorem dX9_spellOne_16 : decode cX9_spellOne 16 = .ok (.iadd, 1) := by decide +kernel
theorem dX9_spellOne_17 : decode cX9_spellOne 17 = .ok (.putfield 269, 3) := by decide +kernel
theorem dX9_spellOne_20 : decode cX9_spellOne 20 = .ok (.return_, 1) := by decide +kernel
set_option maxRecDepth 20000 in
theorem ggX9_spellNumber_X9_spellOne : GoodIn wsX9_spellNumber wsX9_spellOne := goodIn_r _ [5, 6, 7, 8, 9, 10, 11, 12, 13, 14, 15, 16, 17, 18, 19, 20, 21, 22, 23, 24, 25, 26, 27, 28, 29, 30, 31, 32, 33, 34, 35, 36, 37, 38, 39, 40, 41, 42, 43] (by decide +kernel) (by decide +kernel)
set_option maxRecDepth 20000 in
theorem gX9_spellNumber_X9_spellOne : GoodIn wsX9_spellNumber (wsV RX9 272 RX9 yX9_spellOne wsX9_spellOne) := goodIn_app (goodIn_of _ (by decide +kernel)) ggX9_spellNumber_X9_spellOne
theorem dX9_spellNumber_0 : decode cX9_spellNumber 0 = .ok (.iload_n 1, 1) := by decide +kernel
theorem dX9_spellNumber_1 : decode cX9_spellNumber 1 = .ok (.ifCond .ge 9, 3) := by decide +kernel
theorem dX9_spellNumber_4 : decode cX9_spellNumber 4 = .ok (.aload_n 0, 1) := by decide +kernel
theorem dX9_spellNumber_5 : decode cX9_spellNumber 5 = .ok (.bipush 45, 2) := by decide +kernel
theorem dX9_spellNumber_7 : decode cX9_spellNumber 7 = .ok (.invokevirtual 272, 3) := by decide +kernel
theorem dX9_spellNumber_10 : decode cX9_spellNumber 10 = .ok (.iload_n 1, 1) := by decide +kernel
theorem dX9_spellNumber_11 : decode cX9_spellNumber 11 = .ok (.ifCond .ge 8, 3) := by decide +kernel
theorem dX9_spellNumber_14 : decode cX9_spellNumber 14 = .ok (.iload_n 1, 1) := by decide +kernel
theorem dX9_spellNumber_15 : decode cX9_spellNumber 15 = .ok (.ineg, 1) := by decide +kernel
theorem dX9_spellNumber_16 : decode cX9_spellNumber 16 = .ok (.goto 4, 3) := by decide +kernel
theorem dX9_spellNumber_19 : decode cX9_spellNumber 19 = .ok (.iload_n 1, 1) := by decide +kernel
theorem dX9_spellNumber_20 : decode cX9_spellNumber 20 = .ok (.istore_n 2, 1) := by decide +kernel
theorem dX9_spellNumber_21 : decode cX9_spellNumber 21 = .ok (.iload_n 2, 1) := by decide +kernel
theorem dX9_spellNumber_22 : decode cX9_spellNumber 22 = .ok (.bipush 99, 2) := by decide +kernel
theorem dX9_spellNumber_24 : decode cX9_spellNumber 24 = .ok (.if_icmp .le 14, 3) := by decide +kernel
theorem dX9_spellNumber_27 : decode cX9_spellNumber 27 = .ok (.aload_n 0, 1) := by decide +kernel
theorem dX9_spellNumber_28 : decode cX9_spellNumber 28 = .ok (.bipush 48, 2) := by decide +kernel
theorem dX9_spellNumber_30 : decode cX9_spellNumber 30 = .ok (.iload_n 2, 1) := by decide +kernel
theorem dX9_spellNumber_31 : decode cX9_spellNumber 31 = .ok (.bipush 100, 2) := by decide +kernel
theorem dX9_spellNumber_33 : decode cX9_spellNumber 33 = .ok (.idiv, 1) := by decide +kernel
theorem dX9_spellNumber_34 : decode cX9_spellNumber 34 = .ok (.iadd, 1) := by decide +kernel
theorem dX9_spellNumber_35 : decode cX9_spellNumber 35 = .ok (.invokevirtual 272, 3) := by decide +kernel
theorem dX9_spellNumber_38 : decode cX9_spellNumber 38 = .ok (.iload_n 2, 1) := by decide +kernel
theorem dX9_spellNumber_39 : decode cX9_spellNumber 39 = .ok (.bipush 9, 2) := by decide +kernel
theorem dX9_spellNumber_41 : decode cX9_spellNumber 41 = .ok (.if_icmp .le 17, 3) := by decide +kernel
theorem dX9_spellNumber_44 : decode cX9_spellNumber 44 = .ok (.aload_n 0, 1) := by decide +kernel
theorem dX9_spellNumber_45 : decode cX9_spellNumber 45 = .ok (.bipush 48, 2) := by decide +kernel
theorem dX9_spellNumber_47 : decode cX9_spellNumber 47 = .ok (.iload_n 2, 1) := by decide +kernel
theorem dX9_spellNumber_48 : decode cX9_spellNumber 48 = .ok (.bipush 10, 2) := by decide +kernel
theorem dX9_spellNumber_50 : decode cX9_spellNumber 50 = .ok (.idiv, 1) := by decide +kernel
theorem dX9_spellNumber_51 : decode cX9_spellNumber 51 = .ok (.bipush 10, 2) := by decide +kernel
theorem dX9_spellNumber_53 : decode cX9_spellNumber 53 = .ok (.irem, 1) := by decide +kernel
theorem dX9_spellNumber_54 : decode cX9_spellNumber 54 = .ok (.iadd, 1) := by decide +kernel
theorem dX9_spellNumber_55 : decode cX9_spellNumber 55 = .ok (.invokevirtual 272, 3) := by decide +kernel
theorem dX9_spellNumber_58 : decode cX9_spellNumber 58 = .ok (.aload_n 0, 1) := by decide +kernel
theorem dX9_spellNumber_59 : decode cX9_spellNumber 59 = .ok (.bipush 48, 2) := by decide +kernel
theorem dX9_spellNumber_61 : decode cX9_spellNumber 61 = .ok (.iload_n 2, 1) := by decide +kernel
theorem dX9_spellNumber_62 : decode cX9_spellNumber 62 = .ok (.bipush 10, 2) := by decide +kernel
theorem dX9_spellNumber_64 : decode cX9_spellNumber 64 = .ok (.irem, 1) := by decide +kernel
theorem dX9_spellNumber_65 : decode cX9_spellNumber 65 = .ok (.iadd, 1) := by decide +kernel
theorem dX9_spellNumber_66 : decode cX9_spellNumber 66 = .ok (.invokevirtual 272, 3) := by decide +kernel
theorem dX9_spellNumber_69 : decode cX9_spellNumber 69 = .ok (.return_, 1) := by decide +kernel
set_option maxRecDepth 20000 in
theorem ggX9_spellSide_X9_of : GoodIn wsX9_spellSide wsX9_of := goodIn_r _ [6, 7, 13, 14, 15, 16, 17, 18, 19, 20, 21, 22, 23, 24, 25, 26, 27, 28, 29, 30, 31, 32, 33, 34, 35, 36, 37, 38, 39, 40, 41, 42, 43, 44, 45, 46, 47, 48] (by decide +kernel) (by decide +kernel)
set_option maxRecDepth 20000 in
theorem gX9_spellSide_X9_of : GoodIn wsX9_spellSide (wsV RX9 80 RX9 yX9_of wsX9_of) := goodIn_app (goodIn_of _ (by decide +kernel)) ggX9_spellSide_X9_of
set_option maxRecDepth 20000 in
theorem ggX9_spellSide_X9_spellOne : GoodIn wsX9_spellSide wsX9_spellOne := goodIn_r _ [11, 12, 1, 13, 14, 15, 16, 17, 18, 19, 20, 21, 22, 23, 24, 25, 26, 27, 28, 29, 30, 31, 32, 33, 34, 35, 36, 37, 38, 39, 40, 41, 42, 43, 44, 45, 46, 47, 48] (by decide +kernel) (by decide +kernel)
set_option maxRecDepth 20000 in
theorem gX9_spellSide_X9_spellOne : GoodIn wsX9_spellSide (wsV RX9 272 RX9 yX9_spellOne wsX9_spellOne) := goodIn_app (goodIn_of _ (by decide +kernel)) ggX9_spellSide_X9_spellOne
theorem dX9_spellSide_0 : decode cX9_spellSide 0 = .ok (.iconst 0, 1) := by decide +kernel
theorem dX9_spellSide_1 : decode cX9_spellSide 1 = .ok (.istore_n 2, 1) := by decide +kernel
theorem dX9_spellSide_2 : decode cX9_spellSide 2 = .ok (.iload_n 2, 1) := by decide +kernel
theorem dX9_spellSide_3 : decode cX9_spellSide 3 = .ok (.bipush 6, 2) := by decide +kernel
theorem dX9_spellSide_5 : decode cX9_spellSide 5 = .ok (.if_icmp .ge 81, 3) := by decide +kernel
theorem dX9_spellSide_8 : decode cX9_spellSide 8 = .ok (.aload_n 0, 1) := by decide +kernel
theorem dX9_spellSide_9 : decode cX9_spellSide 9 = .ok (.iload_n 1, 1) := by decide +kernel
theorem dX9_spellSide_10 : decode cX9_spellSide 10 = .ok (.iload_n 2, 1) := by decide +kernel
theorem dX9_spellSide_11 : decode cX9_spellSide 11 = .ok (.invokevirtual 80, 3) := by decide +kernel
theorem dX9_spellSide_14 : decode cX9_spellSide 14 = .ok (.istore_n 3, 1) := by decide +kernel
theorem dX9_spellSide_15 : decode cX9_spellSide 15 = .ok (.iload_n 3, 1) := by decide +kernel
theorem dX9_spellSide_16 : decode cX9_spellSide 16 = .ok (.ifCond .eq 64, 3) := by decide +kernel
theorem dX9_spellSide_19 : decode cX9_spellSide 19 = .ok (.iload_n 3, 1) := by decide +kernel
theorem dX9_spellSide_20 : decode cX9_spellSide 20 = .ok (.ifCond .lt 10, 3) := by decide +kernel
theorem dX9_spellSide_23 : decode cX9_spellSide 23 = .ok (.aload_n 0, 1) := by decide +kernel
theorem dX9_spellSide_24 : decode cX9_spellSide 24 = .ok (.getfield 269, 3) := by decide +kernel
theorem dX9_spellSide_27 : decode cX9_spellSide 27 = .ok (.ifCond .le 18, 3) := by decide +kernel
theorem dX9_spellSide_30 : decode cX9_spellSide 30 = .ok (.aload_n 0, 1) := by decide +kernel
theorem dX9_spellSide_31 : decode cX9_spellSide 31 = .ok (.iload_n 3, 1) := by decide +kernel
theorem dX9_spellSide_32 : decode cX9_spellSide 32 = .ok (.ifCond .ge 8, 3) := by decide +kernel
theorem dX9_spellSide_35 : decode cX9_spellSide 35 = .ok (.bipush 45, 2) := by decide +kernel
theorem dX9_spellSide_37 : decode cX9_spellSide 37 = .ok (.goto 5, 3) := by decide +kernel
theorem dX9_spellSide_40 : decode cX9_spellSide 40 = .ok (.bipush 43, 2) := by decide +kernel
theorem dX9_spellSide_42 : decode cX9_spellSide 42 = .ok (.invokevirtual 272, 3) := by decide +kernel
theorem dX9_spellSide_45 : decode cX9_spellSide 45 = .ok (.iload_n 3, 1) := by decide +kernel
theorem dX9_spellSide_46 : decode cX9_spellSide 46 = .ok (.ifCond .ge 8, 3) := by decide +kernel
theorem dX9_spellSide_49 : decode cX9_spellSide 49 = .ok (.iload_n 3, 1) := by decide +kernel
theorem dX9_spellSide_50 : decode cX9_spellSide 50 = .ok (.ineg, 1) := by decide +kernel
theorem dX9_spellSide_51 : decode cX9_spellSide 51 = .ok (.goto 4, 3) := by decide +kernel
theorem dX9_spellSide_54 : decode cX9_spellSide 54 = .ok (.iload_n 3, 1) := by decide +kernel
theorem dX9_spellSide_55 : decode cX9_spellSide 55 = .ok (.istore 4, 2) := by decide +kernel
theorem dX9_spellSide_57 : decode cX9_spellSide 57 = .ok (.iload 4, 2) := by decide +kernel
theorem dX9_spellSide_59 : decode cX9_spellSide 59 = .ok (.iconst 1, 1) := by decide +kernel
theorem dX9_spellSide_60 : decode cX9_spellSide 60 = .ok (.if_icmp .le 12, 3) := by decide +kernel
theorem dX9_spellSide_63 : decode cX9_spellSide 63 = .ok (.aload_n 0, 1) := by decide +kernel
theorem dX9_spellSide_64 : decode cX9_spellSide 64 = .ok (.bipush 48, 2) := by decide +kernel
theorem dX9_spellSide_66 : decode cX9_spellSide 66 = .ok (.iload 4, 2) := by decide +kernel
theorem dX9_spellSide_68 : decode cX9_spellSide 68 = .ok (.iadd, 1) := by decide +kernel
theorem dX9_spellSide_69 : decode cX9_spellSide 69 = .ok (.invokevirtual 272, 3) := by decide +kernel
theorem dX9_spellSide_72 : decode cX9_spellSide 72 = .ok (.aload_n 0, 1) := by decide +kernel
theorem dX9_spellSide_73 : decode cX9_spellSide 73 = .ok (.bipush 97, 2) := by decide +kernel
theorem dX9_spellSide_75 : decode cX9_spellSide 75 = .ok (.iload_n 2, 1) := by decide +kernel
theorem dX9_spellSide_76 : decode cX9_spellSide 76 = .ok (.iadd, 1) := by decide +kernel
theorem dX9_spellSide_77 : decode cX9_spellSide 77 = .ok (.invokevirtual 272, 3) := by decide +kernel
theorem dX9_spellSide_80 : decode cX9_spellSide 80 = .ok (.iinc 2 1, 3) := by decide +kernel
theorem dX9_spellSide_83 : decode cX9_spellSide 83 = .ok (.goto (-81), 3) := by decide +kernel
theorem dX9_spellSide_86 : decode cX9_spellSide 86 = .ok (.return_, 1) := by decide +kernel
set_option maxRecDepth 20000 in
theorem ggX9_spell_X9_isOne : GoodIn wsX9_spell wsX9_isOne := goodIn_r _ [7, 8, 9, 6, 10, 11, 12, 13, 14, 15, 28, 29, 30, 31, 32, 33, 34, 35, 36, 37, 38, 39, 40, 41, 42, 43, 44, 45, 46, 47, 48, 49, 50, 51, 52, 53, 54, 55, 56, 57, 58, 59, 60, 61, 62, 63] (by decide +kernel) (by decide +kernel)
set_option maxRecDepth 20000 in
theorem gX9_spell_X9_isOne : GoodIn wsX9_spell (wsV RX9 227 RX9 yX9_isOne wsX9_isOne) := goodIn_app (goodIn_of _ (by decide +kernel)) ggX9_spell_X9_isOne
set_option maxRecDepth 20000 in
theorem ggX9_spell_X9_spellSide : GoodIn wsX9_spell wsX9_spellSide := goodIn_r _ [19, 1, 11, 12, 13, 6, 14, 15, 20, 21, 22, 23, 2, 28, 29, 30, 31, 32, 33, 34, 35, 36, 37, 38, 39, 40, 41, 42, 43, 44, 45, 46, 47, 48, 49, 50, 51, 52, 53, 54, 55, 56, 57, 58, 59, 60, 61, 62, 63] (by decide +kernel) (by decide +kernel)
set_option maxRecDepth 20000 in
theorem gX9_spell_X9_spellSide : GoodIn wsX9_spell (wsV RX9 275 RX9 yX9_spellSide wsX9_spellSide) := goodIn_app (goodIn_of _ (by decide +kernel)) ggX9_spell_X9_spellSide
set_option maxRecDepth 20000 in
theorem ggX9_spell_X9_of : GoodIn wsX9_spell wsX9_of := goodIn_r _ [14, 15, 28, 29, 30, 31, 32, 33, 34, 35, 36, 37, 38, 39, 40, 41, 42, 43, 44, 45, 46, 47, 48, 49, 50, 51, 52, 53, 54, 55, 56, 57, 58, 59, 60, 61, 62, 63] (by decide +kernel) (by decide +kernel)
set_option maxRecDepth 20000 in
theorem gX9_spell_X9_of : GoodIn wsX9_spell (wsV RX9 80 RX9 yX9_of wsX9_of) := goodIn_app (goodIn_of _ (by decide +kernel)) ggX9_spell_X9_of
set_option maxRecDepth 20000 in
theorem ggX9_spell_X9_spellOne : GoodIn wsX9_spell wsX9_spellOne := goodIn_r _ [23, 2, 1, 28, 29, 30, 31, 32, 33, 34, 35, 36, 37, 38, 39, 40, 41, 42, 43, 44, 45, 46, 47, 48, 49, 50, 51, 52, 53, 54, 55, 56, 57, 58, 59, 60, 61, 62, 63] (by decide +kernel) (by decide +kernel)
set_option maxRecDepth 20000 in
theorem gX9_spell_X9_spellOne : GoodIn wsX9_spell (wsV RX9 272 RX9 yX9_spellOne wsX9_spellOne) := goodIn_app (goodIn_of _ (by decide +kernel)) ggX9_spell_X9_spellOne
set_option maxRecDepth 20000 in
theorem ggX9_spell_X9_spellNumber : GoodIn wsX9_spell wsX9_spellNumber := goodIn_r _ [27, 20, 21, 22, 6, 23, 2, 1, 28, 29, 30, 31, 32, 33, 34, 35, 36, 37, 38, 39, 40, 41, 42, 43, 44, 45, 46, 47, 48, 49, 50, 51, 52, 53, 54, 55, 56, 57, 58, 59, 60, 61, 62, 63] (by decide +kernel) (by decide +kernel)
set_option maxRecDepth 20000 in
theorem gX9_spell_X9_spellNumber : GoodIn wsX9_spell (wsV RX9 278 RX9 yX9_spellNumber wsX9_spellNumber) := goodIn_app (goodIn_of _ (by decide +kernel)) ggX9_spell_X9_spellNumber
set_option maxRecDepth 20000 in
theorem ggX9_spell_X9_in : GoodIn wsX9_spell wsX9_in := goodIn_r _ [10] (by decide +kernel) (by decide +kernel)
set_option maxRecDepth 20000 in
theorem gX9_spell_X9_in : GoodIn wsX9_spell (va_wsS RX9 76 yX9_in wsX9_in) := goodIn_app (goodIn_of _ (by decide +kernel)) ggX9_spell_X9_in
theorem dX9_spell_0 : decode cX9_spell 0 = .ok (.aload_n 0, 1) := by decide +kernel
theorem dX9_spell_1 : decode cX9_spell 1 = .ok (.iload_n 1, 1) := by decide +kernel
theorem dX9_spell_2 : decode cX9_spell 2 = .ok (.invokevirtual 227, 3) := by decide +kernel
theorem dX9_spell_5 : decode cX9_spell 5 = .ok (.ifCond .ne 5, 3) := by decide +kernel
theorem dX9_spell_8 : decode cX9_spell 8 = .ok (.iconst (-1), 1) := by decide +kernel
theorem dX9_spell_9 : decode cX9_spell 9 = .ok (.ireturn, 1) := by decide +kernel
theorem dX9_spell_10 : decode cX9_spell 10 = .ok (.aload_n 0, 1) := by decide +kernel
theorem dX9_spell_11 : decode cX9_spell 11 = .ok (.iconst 0, 1) := by decide +kernel
theorem dX9_spell_12 : decode cX9_spell 12 = .ok (.putfield 269, 3) := by decide +kernel
theorem dX9_spell_15 : decode cX9_spell 15 = .ok (.aload_n 0, 1) := by decide +kernel
theorem dX9_spell_16 : decode cX9_spell 16 = .ok (.iload_n 1, 1) := by decide +kernel
theorem dX9_spell_17 : decode cX9_spell 17 = .ok (.invokevirtual 275, 3) := by decide +kernel
theorem dX9_spell_20 : decode cX9_spell 20 = .ok (.aload_n 0, 1) := by decide +kernel
theorem dX9_spell_21 : decode cX9_spell 21 = .ok (.aload_n 0, 1) := by decide +kernel
theorem dX9_spell_22 : decode cX9_spell 22 = .ok (.iload_n 1, 1) := by decide +kernel
theorem dX9_spell_23 : decode cX9_spell 23 = .ok (.bipush 6, 2) := by decide +kernel
theorem dX9_spell_25 : decode cX9_spell 25 = .ok (.invokevirtual 80, 3) := by decide +kernel
theorem dX9_spell_28 : decode cX9_spell 28 = .ok (.ifCond .ne 8, 3) := by decide +kernel
theorem dX9_spell_31 : decode cX9_spell 31 = .ok (.bipush 60, 2) := by decide +kernel
theorem dX9_spell_33 : decode cX9_spell 33 = .ok (.goto 21, 3) := by decide +kernel
theorem dX9_spell_36 : decode cX9_spell 36 = .ok (.aload_n 0, 1) := by decide +kernel
theorem dX9_spell_37 : decode cX9_spell 37 = .ok (.iload_n 1, 1) := by decide +kernel
theorem dX9_spell_38 : decode cX9_spell 38 = .ok (.bipush 6, 2) := by decide +kernel
theorem dX9_spell_40 : decode cX9_spell 40 = .ok (.invokevirtual 80, 3) := by decide +kernel
theorem dX9_spell_43 : decode cX9_spell 43 = .ok (.iconst 1, 1) := by decide +kernel
theorem dX9_spell_44 : decode cX9_spell 44 = .ok (.if_icmp .ne 8, 3) := by decide +kernel
theorem dX9_spell_47 : decode cX9_spell 47 = .ok (.bipush 61, 2) := by decide +kernel
theorem dX9_spell_49 : decode cX9_spell 49 = .ok (.goto 5, 3) := by decide +kernel
theorem dX9_spell_52 : decode cX9_spell 52 = .ok (.bipush 62, 2) := by decide +kernel
theorem dX9_spell_54 : decode cX9_spell 54 = .ok (.invokevirtual 272, 3) := by decide +kernel
theorem dX9_spell_57 : decode cX9_spell 57 = .ok (.aload_n 0, 1) := by decide +kernel
theorem dX9_spell_58 : decode cX9_spell 58 = .ok (.aload_n 0, 1) := by decide +kernel
theorem dX9_spell_59 : decode cX9_spell 59 = .ok (.iload_n 1, 1) := by decide +kernel
theorem dX9_spell_60 : decode cX9_spell 60 = .ok (.bipush 7, 2) := by decide +kernel
theorem dX9_spell_62 : decode cX9_spell 62 = .ok (.invokevirtual 80, 3) := by decide +kernel
theorem dX9_spell_65 : decode cX9_spell 65 = .ok (.invokevirtual 278, 3) := by decide +kernel
theorem dX9_spell_68 : decode cX9_spell 68 = .ok (.aload_n 0, 1) := by decide +kernel
theorem dX9_spell_69 : decode cX9_spell 69 = .ok (.iload_n 1, 1) := by decide +kernel
theorem dX9_spell_70 : decode cX9_spell 70 = .ok (.bipush 8, 2) := by decide +kernel
theorem dX9_spell_72 : decode cX9_spell 72 = .ok (.invokevirtual 80, 3) := by decide +kernel
theorem dX9_spell_75 : decode cX9_spell 75 = .ok (.istore_n 3, 1) := by decide +kernel
theorem dX9_spell_76 : decode cX9_spell 76 = .ok (.iload_n 3, 1) := by decide +kernel
theorem dX9_spell_77 : decode cX9_spell 77 = .ok (.ifCond .eq 60, 3) := by decide +kernel
theorem dX9_spell_80 : decode cX9_spell 80 = .ok (.aload_n 0, 1) := by decide +kernel
theorem dX9_spell_81 : decode cX9_spell 81 = .ok (.bipush 64, 2) := by decide +kernel
theorem dX9_spell_83 : decode cX9_spell 83 = .ok (.invokevirtual 272, 3) := by decide +kernel
theorem dX9_spell_86 : decode cX9_spell 86 = .ok (.aload_n 0, 1) := by decide +kernel
theorem dX9_spell_87 : decode cX9_spell 87 = .ok (.iload_n 3, 1) := by decide +kernel
theorem dX9_spell_88 : decode cX9_spell 88 = .ok (.iconst 1, 1) := by decide +kernel
theorem dX9_spell_89 : decode cX9_spell 89 = .ok (.if_icmp .ne 8, 3) := by decide +kernel
theorem dX9_spell_92 : decode cX9_spell 92 = .ok (.bipush 115, 2) := by decide +kernel
theorem dX9_spell_94 : decode cX9_spell 94 = .ok (.goto 15, 3) := by decide +kernel
theorem dX9_spell_97 : decode cX9_spell 97 = .ok (.iload_n 3, 1) := by decide +kernel
theorem dX9_spell_98 : decode cX9_spell 98 = .ok (.iconst 3, 1) := by decide +kernel
theorem dX9_spell_99 : decode cX9_spell 99 = .ok (.if_icmp .ne 8, 3) := by decide +kernel
theorem dX9_spell_102 : decode cX9_spell 102 = .ok (.bipush 119, 2) := by decide +kernel
theorem dX9_spell_104 : decode cX9_spell 104 = .ok (.goto 5, 3) := by decide +kernel
theorem dX9_spell_107 : decode cX9_spell 107 = .ok (.bipush 109, 2) := by decide +kernel
theorem dX9_spell_109 : decode cX9_spell 109 = .ok (.invokevirtual 272, 3) := by decide +kernel
theorem dX9_spell_112 : decode cX9_spell 112 = .ok (.aload_n 0, 1) := by decide +kernel
theorem dX9_spell_113 : decode cX9_spell 113 = .ok (.iload_n 1, 1) := by decide +kernel
theorem dX9_spell_114 : decode cX9_spell 114 = .ok (.bipush 9, 2) := by decide +kernel
theorem dX9_spell_116 : decode cX9_spell 116 = .ok (.invokevirtual 80, 3) := by decide +kernel
theorem dX9_spell_119 : decode cX9_spell 119 = .ok (.iconst 1, 1) := by decide +kernel
theorem dX9_spell_120 : decode cX9_spell 120 = .ok (.if_icmp .le 17, 3) := by decide +kernel
theorem dX9_spell_123 : decode cX9_spell 123 = .ok (.aload_n 0, 1) := by decide +kernel
theorem dX9_spell_124 : decode cX9_spell 124 = .ok (.bipush 48, 2) := by decide +kernel
theorem dX9_spell_126 : decode cX9_spell 126 = .ok (.aload_n 0, 1) := by decide +kernel
theorem dX9_spell_127 : decode cX9_spell 127 = .ok (.iload_n 1, 1) := by decide +kernel
theorem dX9_spell_128 : decode cX9_spell 128 = .ok (.bipush 9, 2) := by decide +kernel
theorem dX9_spell_130 : decode cX9_spell 130 = .ok (.invokevirtual 80, 3) := by decide +kernel
theorem dX9_spell_133 : decode cX9_spell 133 = .ok (.iadd, 1) := by decide +kernel
theorem dX9_spell_134 : decode cX9_spell 134 = .ok (.invokevirtual 272, 3) := by decide +kernel
theorem dX9_spell_137 : decode cX9_spell 137 = .ok (.iload_n 2, 1) := by decide +kernel
theorem dX9_spell_138 : decode cX9_spell 138 = .ok (.iconst (-1), 1) := by decide +kernel
theorem dX9_spell_139 : decode cX9_spell 139 = .ok (.if_icmp .ne 10, 3) := by decide +kernel
theorem dX9_spell_142 : decode cX9_spell 142 = .ok (.aload_n 0, 1) := by decide +kernel
theorem dX9_spell_143 : decode cX9_spell 143 = .ok (.getfield 269, 3) := by decide +kernel
theorem dX9_spell_146 : decode cX9_spell 146 = .ok (.goto 28, 3) := by decide +kernel
theorem dX9_spell_149 : decode cX9_spell 149 = .ok (.iload_n 2, 1) := by decide +kernel
theorem dX9_spell_150 : decode cX9_spell 150 = .ok (.iconst 0, 1) := by decide +kernel
theorem dX9_spell_151 : decode cX9_spell 151 = .ok (.aload_n 0, 1) := by decide +kernel
theorem dX9_spell_152 : decode cX9_spell 152 = .ok (.getfield 269, 3) := by decide +kernel
theorem dX9_spell_155 : decode cX9_spell 155 = .ok (.iconst 1, 1) := by decide +kernel
theorem dX9_spell_156 : decode cX9_spell 156 = .ok (.isub, 1) := by decide +kernel
theorem dX9_spell_157 : decode cX9_spell 157 = .ok (.invokestatic 76, 3) := by decide +kernel
theorem dX9_spell_160 : decode cX9_spell 160 = .ok (.ifCond .eq 12, 3) := by decide +kernel
theorem dX9_spell_163 : decode cX9_spell 163 = .ok (.aload_n 0, 1) := by decide +kernel
theorem dX9_spell_164 : decode cX9_spell 164 = .ok (.getfield 60, 3) := by decide +kernel
theorem dX9_spell_167 : decode cX9_spell 167 = .ok (.iload_n 2, 1) := by decide +kernel
theorem dX9_spell_168 : decode cX9_spell 168 = .ok (.iaload, 1) := by decide +kernel
theorem dX9_spell_169 : decode cX9_spell 169 = .ok (.goto 5, 3) := by decide +kernel
theorem dX9_spell_172 : decode cX9_spell 172 = .ok (.bipush (-6), 2) := by decide +kernel
theorem dX9_spell_174 : decode cX9_spell 174 = .ok (.ireturn, 1) := by decide +kernel
set_option maxRecDepth 20000 in
theorem ggX9_cost_X9_in : GoodIn wsX9_cost wsX9_in := goodIn_r _ [7] (by decide +kernel) (by decide +kernel)
set_option maxRecDepth 20000 in
theorem gX9_cost_X9_in : GoodIn wsX9_cost (va_wsS RX9 76 yX9_in wsX9_in) := goodIn_app (goodIn_of _ (by decide +kernel)) ggX9_cost_X9_in
set_option maxRecDepth 20000 in
theorem ggX9_cost_X9_isPart : GoodIn wsX9_cost wsX9_isPart := goodIn_r _ [10, 4, 5, 6, 7] (by decide +kernel) (by decide +kernel)
set_option maxRecDepth 20000 in
theorem gX9_cost_X9_isPart : GoodIn wsX9_cost (va_wsS RX9 281 yX9_isPart wsX9_isPart) := goodIn_app (goodIn_of _ (by decide +kernel)) ggX9_cost_X9_isPart
set_option maxRecDepth 20000 in
theorem ggX9_cost_X9_solve : GoodIn wsX9_cost wsX9_solve := goodIn_r _ [14, 15, 16, 17, 18, 6, 19, 2, 20, 21, 22, 3, 23, 24, 25, 26, 27, 28, 29, 30, 31, 32, 33, 34, 35, 36, 37, 38, 39, 40, 4, 5, 7, 41, 42, 43, 44, 45, 46, 47, 48, 49, 50, 51, 52, 53, 54, 55, 56, 57, 58, 59, 60, 61, 62, 63, 64, 65, 66, 67, 68, 69, 70, 71, 72, 73, 74, 75, 76, 77, 78, 79, 80, 81, 82, 83, 84, 85, 86, 87, 88, 89, 90, 91, 92, 93, 94, 95, 96, 97, 98, 99, 100, 101, 102, 103, 104, 105, 106, 107, 108, 109, 110, 111, 112, 113, 114, 115, 116, 117, 118, 119, 120, 121, 122, 123, 124, 125, 126, 127, 128, 129, 130, 131, 132, 133, 134, 135, 136, 137, 138, 139, 140, 141, 142] (by decide +kernel) (by decide +kernel)
set_option maxRecDepth 20000 in
theorem gX9_cost_X9_solve : GoodIn wsX9_cost (wsV RX9 286 RX9 yX9_solve wsX9_solve) := goodIn_app (goodIn_of _ (by decide +kernel)) ggX9_cost_X9_solve
theorem dX9_cost_0 : decode cX9_cost 0 = .ok (.iload_n 1, 1) := by decide +kernel
theorem dX9_cost_1 : decode cX9_cost 1 = .ok (.iconst 1, 1) := by decide +kernel
theorem dX9_cost_2 : decode cX9_cost 2 = .ok (.iconst 3, 1) := by decide +kernel
theorem dX9_cost_3 : decode cX9_cost 3 = .ok (.invokestatic 76, 3) := by decide +kernel
theorem dX9_cost_6 : decode cX9_cost 6 = .ok (.ifCond .eq 10, 3) := by decide +kernel
theorem dX9_cost_9 : decode cX9_cost 9 = .ok (.iload_n 2, 1) := by decide +kernel
theorem dX9_cost_10 : decode cX9_cost 10 = .ok (.invokestatic 281, 3) := by decide +kernel
theorem dX9_cost_13 : decode cX9_cost 13 = .ok (.ifCond .ne 7, 3) := by decide +kernel
theorem dX9_cost_16 : decode cX9_cost 16 = .ok (.ldc2_w 284, 3) := by decide +kernel
theorem dX9_cost_19 : decode cX9_cost 19 = .ok (.lreturn, 1) := by decide +kernel
theorem dX9_cost_20 : decode cX9_cost 20 = .ok (.aload_n 0, 1) := by decide +kernel
theorem dX9_cost_21 : decode cX9_cost 21 = .ok (.invokevirtual 286, 3) := by decide +kernel
theorem dX9_cost_24 : decode cX9_cost 24 = .ok (.iload_n 2, 1) := by decide +kernel
theorem dX9_cost_25 : decode cX9_cost 25 = .ok (.ifCond .ne 12, 3) := by decide +kernel
theorem dX9_cost_28 : decode cX9_cost 28 = .ok (.aload_n 0, 1) := by decide +kernel
theorem dX9_cost_29 : decode cX9_cost 29 = .ok (.getfield 48, 3) := by decide +kernel
theorem dX9_cost_32 : decode cX9_cost 32 = .ok (.iload_n 1, 1) := by decide +kernel
theorem dX9_cost_33 : decode cX9_cost 33 = .ok (.laload, 1) := by decide +kernel
theorem dX9_cost_34 : decode cX9_cost 34 = .ok (.goto 9, 3) := by decide +kernel
theorem dX9_cost_37 : decode cX9_cost 37 = .ok (.aload_n 0, 1) := by decide +kernel
theorem dX9_cost_38 : decode cX9_cost 38 = .ok (.getfield 51, 3) := by decide +kernel
theorem dX9_cost_41 : decode cX9_cost 41 = .ok (.iload_n 1, 1) := by decide +kernel
theorem dX9_cost_42 : decode cX9_cost 42 = .ok (.laload, 1) := by decide +kernel
theorem dX9_cost_43 : decode cX9_cost 43 = .ok (.lreturn, 1) := by decide +kernel
set_option maxRecDepth 20000 in
theorem ggX9_end_X9_isVariable : GoodIn wsX9_end wsX9_isVariable := goodIn_r _ [6, 7, 8, 5, 9] (by decide +kernel) (by decide +kernel)
set_option maxRecDepth 20000 in
theorem gX9_end_X9_isVariable : GoodIn wsX9_end (va_wsS RX9 196 yX9_isVariable wsX9_isVariable) := goodIn_app (goodIn_of _ (by decide +kernel)) ggX9_end_X9_isVariable
set_option maxRecDepth 20000 in
theorem ggX9_end_X9_isPart : GoodIn wsX9_end wsX9_isPart := goodIn_r _ [12, 7, 8, 5, 9] (by decide +kernel) (by decide +kernel)
set_option maxRecDepth 20000 in
theorem gX9_end_X9_isPart : GoodIn wsX9_end (va_wsS RX9 281 yX9_isPart wsX9_isPart) := goodIn_app (goodIn_of _ (by decide +kernel)) ggX9_end_X9_isPart
set_option maxRecDepth 20000 in
theorem ggX9_end_X9_solve : GoodIn wsX9_end wsX9_solve := goodIn_r _ [16, 17, 18, 19, 20, 5, 21, 22, 23, 24, 25, 26, 27, 28, 29, 30, 31, 32, 33, 34, 35, 36, 37, 38, 39, 40, 41, 42, 43, 44, 7, 8, 9, 45, 46, 47, 48, 49, 50, 51, 52, 53, 54, 55, 56, 57, 58, 59, 60, 61, 62, 63, 64, 65, 66, 67, 68, 69, 70, 71, 72, 73, 74, 75, 76, 77, 78, 79, 80, 81, 82, 83, 84, 85, 86, 87, 88, 89, 90, 91, 92, 93, 94, 95, 96, 97, 98, 99, 100, 101, 102, 103, 104, 105, 106, 107, 108, 109, 110, 122, 123, 124, 125, 126, 127, 128, 129, 130, 131, 132, 133, 134, 135, 136, 137, 138, 139, 140, 141, 142, 143, 144, 145, 146, 147, 148, 149, 150, 151, 152, 153, 154, 155, 156, 157] (by decide +kernel) (by decide +kernel)
set_option maxRecDepth 20000 in
theorem gX9_end_X9_solve : GoodIn wsX9_end (wsV RX9 286 RX9 yX9_solve wsX9_solve) := goodIn_app (goodIn_of _ (by decide +kernel)) ggX9_end_X9_solve
set_option maxRecDepth 20000 in
theorem ggX9_end_X9_findLeast : GoodIn wsX9_end wsX9_findLeast := goodIn_r _ [114, 23, 24, 115, 25, 116, 117, 68, 69, 70, 5, 71, 36, 45, 46, 47, 48, 49, 88, 89, 90, 91, 38, 37, 92, 93, 94, 95, 96, 97, 98, 99, 35, 100, 101, 102, 103, 40, 80, 81, 82, 83, 84, 85, 86, 87, 108, 109, 110, 122, 123, 124, 125, 126, 127, 128, 129, 130, 131, 132, 133, 134, 135, 136, 137, 138, 139, 140, 141, 142, 143, 144, 145, 146, 147, 148, 149, 150, 151, 152, 153, 154, 155, 156, 157] (by decide +kernel) (by decide +kernel)
set_option maxRecDepth 20000 in
theorem gX9_end_X9_findLeast : GoodIn wsX9_end (wsV RX9 291 RX9 yX9_findLeast wsX9_findLeast) := goodIn_app (goodIn_of _ (by decide +kernel)) ggX9_end_X9_findLeast
set_option maxRecDepth 20000 in
theorem ggX9_end_X9_found : GoodIn wsX9_end wsX9_found := goodIn_r _ [121, 116, 117, 122, 123, 124, 125, 126, 127, 128, 129, 130, 131, 132, 133, 134, 135, 136, 137, 138, 139, 140, 141, 142, 143, 144, 145, 146, 147, 148, 149, 150, 151, 152, 153, 154, 155, 156, 157] (by decide +kernel) (by decide +kernel)
set_option maxRecDepth 20000 in
theorem gX9_end_X9_found : GoodIn wsX9_end (wsV RX9 294 RX9 yX9_found wsX9_found) := goodIn_app (goodIn_of _ (by decide +kernel)) ggX9_end_X9_found
theorem dX9_end_0 : decode cX9_end 0 = .ok (.iload_n 1, 1) := by decide +kernel
theorem dX9_end_1 : decode cX9_end 1 = .ok (.invokestatic 196, 3) := by decide +kernel
theorem dX9_end_4 : decode cX9_end 4 = .ok (.ifCond .ne 7, 3) := by decide +kernel
theorem dX9_end_7 : decode cX9_end 7 = .ok (.ldc2_w 289, 3) := by decide +kernel
theorem dX9_end_10 : decode cX9_end 10 = .ok (.lreturn, 1) := by decide +kernel
theorem dX9_end_11 : decode cX9_end 11 = .ok (.iload_n 3, 1) := by decide +kernel
theorem dX9_end_12 : decode cX9_end 12 = .ok (.invokestatic 281, 3) := by decide +kernel
theorem dX9_end_15 : decode cX9_end 15 = .ok (.ifCond .ne 7, 3) := by decide +kernel
theorem dX9_end_18 : decode cX9_end 18 = .ok (.ldc2_w 284, 3) := by decide +kernel
theorem dX9_end_21 : decode cX9_end 21 = .ok (.lreturn, 1) := by decide +kernel
theorem dX9_end_22 : decode cX9_end 22 = .ok (.aload_n 0, 1) := by decide +kernel
theorem dX9_end_23 : decode cX9_end 23 = .ok (.invokevirtual 286, 3) := by decide +kernel
theorem dX9_end_26 : decode cX9_end 26 = .ok (.aload_n 0, 1) := by decide +kernel
theorem dX9_end_27 : decode cX9_end 27 = .ok (.iconst 0, 1) := by decide +kernel
theorem dX9_end_28 : decode cX9_end 28 = .ok (.iload_n 1, 1) := by decide +kernel
theorem dX9_end_29 : decode cX9_end 29 = .ok (.iload_n 2, 1) := by decide +kernel
theorem dX9_end_30 : decode cX9_end 30 = .ok (.invokevirtual 291, 3) := by decide +kernel
theorem dX9_end_33 : decode cX9_end 33 = .ok (.aload_n 0, 1) := by decide +kernel
theorem dX9_end_34 : decode cX9_end 34 = .ok (.iload_n 3, 1) := by decide +kernel
theorem dX9_end_35 : decode cX9_end 35 = .ok (.invokevirtual 294, 3) := by decide +kernel
theorem dX9_end_38 : decode cX9_end 38 = .ok (.lreturn, 1) := by decide +kernel
set_option maxRecDepth 20000 in
theorem ggX9_low_X9_end : GoodIn wsX9_low wsX9_end := goodIn_r _ [5, 6, 7, 8, 9, 4, 10, 11, 12, 13, 14, 15, 16, 17, 18, 19, 20, 21, 22, 23, 24, 25, 26, 27, 28, 29, 30, 31, 32, 33, 34, 35, 36, 37, 38, 39, 40, 41, 42, 43, 44, 45, 46, 47, 48, 49, 50, 51, 52, 53, 54, 55, 56, 57, 58, 59, 60, 61, 62, 63, 64, 65, 66, 67, 68, 69, 70, 71, 72, 73, 74, 75, 76, 77, 78, 79, 80, 81, 82, 83, 84, 85, 86, 87, 88, 89, 90, 91, 92, 93, 94, 95, 96, 97, 98, 99, 100, 101, 102, 103, 104, 105, 106, 107, 108, 109, 110, 111, 112, 113, 114, 115, 116, 117, 118, 119, 120, 121, 122, 123, 124, 125, 126, 127, 128, 129, 130, 131, 132, 133, 134, 135, 136, 137, 138, 139, 140, 141, 142, 143, 144, 145, 146, 147, 148, 149, 150, 151, 152, 153, 154, 155, 156, 157, 158, 159, 160, 161] (by decide +kernel) (by decide +kernel)
set_option maxRecDepth 20000 in
theorem gX9_low_X9_end : GoodIn wsX9_low (wsV RX9 298 RX9 yX9_end wsX9_end) := goodIn_app (goodIn_of _ (by decide +kernel)) ggX9_low_X9_end
theorem dX9_low_0 : decode cX9_low 0 = .ok (.aload_n 0, 1) := by decide +kernel
theorem dX9_low_1 : decode cX9_low 1 = .ok (.iload_n 1, 1) := by decide +kernel
theorem dX9_low_2 : decode cX9_low 2 = .ok (.iconst 1, 1) := by decide +kernel
theorem dX9_low_3 : decode cX9_low 3 = .ok (.iload_n 2, 1) := by decide +kernel
theorem dX9_low_4 : decode cX9_low 4 = .ok (.invokevirtual 298, 3) := by decide +kernel
theorem dX9_low_7 : decode cX9_low 7 = .ok (.lreturn, 1) := by decide +kernel
set_option maxRecDepth 20000 in
theorem ggX9_high_X9_end : GoodIn wsX9_high wsX9_end := goodIn_r _ [5, 6, 7, 8, 9, 4, 10, 11, 12, 13, 14, 15, 16, 17, 18, 19, 20, 21, 22, 23, 24, 25, 26, 27, 28, 29, 30, 31, 32, 33, 34, 35, 36, 37, 38, 39, 40, 41, 42, 43, 44, 45, 46, 47, 48, 49, 50, 51, 52, 53, 54, 55, 56, 57, 58, 59, 60, 61, 62, 63, 64, 65, 66, 67, 68, 69, 70, 71, 72, 73, 74, 75, 76, 77, 78, 79, 80, 81, 82, 83, 84, 85, 86, 87, 88, 89, 90, 91, 92, 93, 94, 95, 96, 97, 98, 99, 100, 101, 102, 103, 104, 105, 106, 107, 108, 109, 110, 111, 112, 113, 114, 115, 116, 117, 118, 119, 120, 121, 122, 123, 124, 125, 126, 127, 128, 129, 130, 131, 132, 133, 134, 135, 136, 137, 138, 139, 140, 141, 142, 143, 144, 145, 146, 147, 148, 149, 150, 151, 152, 153, 154, 155, 156, 157, 158, 159, 160, 161] (by decide +kernel) (by decide +kernel)
set_option maxRecDepth 20000 in
theorem gX9_high_X9_end : GoodIn wsX9_high (wsV RX9 298 RX9 yX9_end wsX9_end) := goodIn_app (goodIn_of _ (by decide +kernel)) ggX9_high_X9_end
theorem dX9_high_0 : decode cX9_high 0 = .ok (.aload_n 0, 1) := by decide +kernel
theorem dX9_high_1 : decode cX9_high 1 = .ok (.iload_n 1, 1) := by decide +kernel
theorem dX9_high_2 : decode cX9_high 2 = .ok (.iconst (-1), 1) := by decide +kernel
theorem dX9_high_3 : decode cX9_high 3 = .ok (.iload_n 2, 1) := by decide +kernel
theorem dX9_high_4 : decode cX9_high 4 = .ok (.invokevirtual 298, 3) := by decide +kernel
theorem dX9_high_7 : decode cX9_high 7 = .ok (.lreturn, 1) := by decide +kernel
set_option maxRecDepth 20000 in
theorem ggX9_ambiguous_X9_solve : GoodIn wsX9_ambiguous wsX9_solve := goodIn_r _ [7, 8, 9, 10, 11, 6, 12, 13, 14, 15, 16, 17, 18, 19, 20, 21, 22, 23, 24, 25, 26, 27, 28, 29, 30, 31, 32, 33, 34, 35, 36, 37, 38, 39, 40, 41, 42, 43, 44, 45, 46, 47, 48, 49, 50, 51, 52, 53, 54, 55, 56, 57, 58, 59, 60, 61, 62, 63, 64, 65, 66, 67, 68, 69, 70, 71, 72, 73, 74, 75, 76, 77, 78, 79, 80, 81, 82, 83, 84, 85, 86, 87, 88, 89, 90, 91, 92, 93, 94, 95, 96, 97, 98, 99, 100, 101, 102, 103, 104, 110, 111, 112, 113, 114, 115, 116, 117, 118, 119, 120, 121, 122, 123, 124, 125, 126, 127, 128, 129, 130, 131, 132, 133, 134, 135, 136, 137, 138, 139, 140, 141, 142, 143, 144, 145] (by decide +kernel) (by decide +kernel)
set_option maxRecDepth 20000 in
theorem gX9_ambiguous_X9_solve : GoodIn wsX9_ambiguous (wsV RX9 286 RX9 yX9_solve wsX9_solve) := goodIn_app (goodIn_of _ (by decide +kernel)) ggX9_ambiguous_X9_solve
set_option maxRecDepth 20000 in
theorem ggX9_ambiguous_X9_findLeast : GoodIn wsX9_ambiguous wsX9_findLeast := goodIn_r _ [108, 14, 15, 109, 16, 1, 2, 62, 63, 64, 6, 65, 27, 39, 40, 41, 42, 43, 82, 83, 84, 85, 29, 28, 86, 87, 88, 89, 90, 91, 92, 93, 26, 94, 95, 96, 97, 31, 74, 75, 76, 77, 78, 79, 80, 81, 102, 103, 104, 110, 111, 112, 113, 114, 115, 116, 117, 118, 119, 120, 121, 122, 123, 124, 125, 126, 127, 128, 129, 130, 131, 132, 133, 134, 135, 136, 137, 138, 139, 140, 141, 142, 143, 144, 145] (by decide +kernel) (by decide +kernel)
set_option maxRecDepth 20000 in
theorem gX9_ambiguous_X9_findLeast : GoodIn wsX9_ambiguous (wsV RX9 291 RX9 yX9_findLeast wsX9_findLeast) := goodIn_app (goodIn_of _ (by decide +kernel)) ggX9_ambiguous_X9_findLeast
theorem dX9_ambiguous_0 : decode cX9_ambiguous 0 = .ok (.aload_n 0, 1) := by decide +kernel
theorem dX9_ambiguous_1 : decode cX9_ambiguous 1 = .ok (.invokevirtual 286, 3) := by decide +kernel
theorem dX9_ambiguous_4 : decode cX9_ambiguous 4 = .ok (.iconst 0, 1) := by decide +kernel
theorem dX9_ambiguous_5 : decode cX9_ambiguous 5 = .ok (.istore_n 1, 1) := by decide +kernel
theorem dX9_ambiguous_6 : decode cX9_ambiguous 6 = .ok (.iconst 0, 1) := by decide +kernel
theorem dX9_ambiguous_7 : decode cX9_ambiguous 7 = .ok (.istore_n 2, 1) := by decide +kernel
theorem dX9_ambiguous_8 : decode cX9_ambiguous 8 = .ok (.iload_n 2, 1) := by decide +kernel
theorem dX9_ambiguous_9 : decode cX9_ambiguous 9 = .ok (.bipush 6, 2) := by decide +kernel
theorem dX9_ambiguous_11 : decode cX9_ambiguous 11 = .ok (.if_icmp .ge 63, 3) := by decide +kernel
theorem dX9_ambiguous_14 : decode cX9_ambiguous 14 = .ok (.aload_n 0, 1) := by decide +kernel
theorem dX9_ambiguous_15 : decode cX9_ambiguous 15 = .ok (.iconst 0, 1) := by decide +kernel
theorem dX9_ambiguous_16 : decode cX9_ambiguous 16 = .ok (.iload_n 2, 1) := by decide +kernel
theorem dX9_ambiguous_17 : decode cX9_ambiguous 17 = .ok (.iconst 1, 1) := by decide +kernel
theorem dX9_ambiguous_18 : decode cX9_ambiguous 18 = .ok (.invokevirtual 291, 3) := by decide +kernel
theorem dX9_ambiguous_21 : decode cX9_ambiguous 21 = .ok (.aload_n 0, 1) := by decide +kernel
theorem dX9_ambiguous_22 : decode cX9_ambiguous 22 = .ok (.getfield 171, 3) := by decide +kernel
theorem dX9_ambiguous_25 : decode cX9_ambiguous 25 = .ok (.lstore_n 3, 1) := by decide +kernel
theorem dX9_ambiguous_26 : decode cX9_ambiguous 26 = .ok (.aload_n 0, 1) := by decide +kernel
theorem dX9_ambiguous_27 : decode cX9_ambiguous 27 = .ok (.getfield 174, 3) := by decide +kernel
theorem dX9_ambiguous_30 : decode cX9_ambiguous 30 = .ok (.lstore 5, 2) := by decide +kernel
theorem dX9_ambiguous_32 : decode cX9_ambiguous 32 = .ok (.aload_n 0, 1) := by decide +kernel
theorem dX9_ambiguous_33 : decode cX9_ambiguous 33 = .ok (.iconst 0, 1) := by decide +kernel
theorem dX9_ambiguous_34 : decode cX9_ambiguous 34 = .ok (.iload_n 2, 1) := by decide +kernel
theorem dX9_ambiguous_35 : decode cX9_ambiguous 35 = .ok (.iconst (-1), 1) := by decide +kernel
theorem dX9_ambiguous_36 : decode cX9_ambiguous 36 = .ok (.invokevirtual 291, 3) := by decide +kernel
theorem dX9_ambiguous_39 : decode cX9_ambiguous 39 = .ok (.iload_n 1, 1) := by decide +kernel
theorem dX9_ambiguous_40 : decode cX9_ambiguous 40 = .ok (.lload_n 3, 1) := by decide +kernel
theorem dX9_ambiguous_41 : decode cX9_ambiguous 41 = .ok (.aload_n 0, 1) := by decide +kernel
theorem dX9_ambiguous_42 : decode cX9_ambiguous 42 = .ok (.getfield 171, 3) := by decide +kernel
theorem dX9_ambiguous_45 : decode cX9_ambiguous 45 = .ok (.lcmp, 1) := by decide +kernel
theorem dX9_ambiguous_46 : decode cX9_ambiguous 46 = .ok (.ifCond .ne 17, 3) := by decide +kernel
theorem dX9_ambiguous_49 : decode cX9_ambiguous 49 = .ok (.lload 5, 2) := by decide +kernel
theorem dX9_ambiguous_51 : decode cX9_ambiguous 51 = .ok (.aload_n 0, 1) := by decide +kernel
theorem dX9_ambiguous_52 : decode cX9_ambiguous 52 = .ok (.getfield 174, 3) := by decide +kernel
theorem dX9_ambiguous_55 : decode cX9_ambiguous 55 = .ok (.lcmp, 1) := by decide +kernel
theorem dX9_ambiguous_56 : decode cX9_ambiguous 56 = .ok (.ifCond .ne 7, 3) := by decide +kernel
theorem dX9_ambiguous_59 : decode cX9_ambiguous 59 = .ok (.iconst 0, 1) := by decide +kernel
theorem dX9_ambiguous_60 : decode cX9_ambiguous 60 = .ok (.goto 6, 3) := by decide +kernel
theorem dX9_ambiguous_63 : decode cX9_ambiguous 63 = .ok (.iconst 1, 1) := by decide +kernel
theorem dX9_ambiguous_64 : decode cX9_ambiguous 64 = .ok (.iload_n 2, 1) := by decide +kernel
theorem dX9_ambiguous_65 : decode cX9_ambiguous 65 = .ok (.ishl, 1) := by decide +kernel
theorem dX9_ambiguous_66 : decode cX9_ambiguous 66 = .ok (.ior, 1) := by decide +kernel
theorem dX9_ambiguous_67 : decode cX9_ambiguous 67 = .ok (.istore_n 1, 1) := by decide +kernel
theorem dX9_ambiguous_68 : decode cX9_ambiguous 68 = .ok (.iinc 2 1, 3) := by decide +kernel
theorem dX9_ambiguous_71 : decode cX9_ambiguous 71 = .ok (.goto (-63), 3) := by decide +kernel
theorem dX9_ambiguous_74 : decode cX9_ambiguous 74 = .ok (.iload_n 1, 1) := by decide +kernel
theorem dX9_ambiguous_75 : decode cX9_ambiguous 75 = .ok (.ireturn, 1) := by decide +kernel
set_option maxRecDepth 20000 in
theorem ggX9_value_X9_isOne : GoodIn wsX9_value wsX9_isOne := goodIn_r _ [7, 8, 9, 6, 10, 11, 12, 13, 14, 15, 123, 124, 125, 126, 127, 128, 129, 130, 131, 132, 133, 134, 135, 136, 137, 138, 139, 140, 141, 142, 143, 144, 145, 146, 147, 148, 149, 150, 151, 152, 153, 154, 155, 156, 157, 158] (by decide +kernel) (by decide +kernel)
set_option maxRecDepth 20000 in
theorem gX9_value_X9_isOne : GoodIn wsX9_value (wsV RX9 227 RX9 yX9_isOne wsX9_isOne) := goodIn_app (goodIn_of _ (by decide +kernel)) ggX9_value_X9_isOne
set_option maxRecDepth 20000 in
theorem ggX9_value_X9_isPart : GoodIn wsX9_value wsX9_isPart := goodIn_r _ [18, 8, 9, 6, 10] (by decide +kernel) (by decide +kernel)
set_option maxRecDepth 20000 in
theorem gX9_value_X9_isPart : GoodIn wsX9_value (va_wsS RX9 281 yX9_isPart wsX9_isPart) := goodIn_app (goodIn_of _ (by decide +kernel)) ggX9_value_X9_isPart
set_option maxRecDepth 20000 in
theorem ggX9_value_X9_solve : GoodIn wsX9_value wsX9_solve := goodIn_r _ [22, 23, 24, 25, 26, 6, 27, 28, 29, 30, 31, 32, 33, 34, 35, 36, 37, 38, 39, 40, 41, 42, 43, 44, 45, 46, 47, 48, 49, 50, 8, 9, 10, 11, 12, 13, 14, 15, 51, 52, 53, 54, 55, 56, 57, 58, 59, 60, 61, 62, 63, 64, 65, 66, 67, 68, 69, 70, 71, 72, 73, 74, 75, 76, 77, 78, 79, 80, 81, 82, 83, 84, 85, 86, 87, 88, 89, 90, 91, 92, 93, 94, 95, 96, 97, 98, 99, 100, 101, 102, 103, 104, 105, 106, 107, 108, 109, 110, 111, 123, 124, 125, 126, 127, 128, 129, 130, 131, 132, 133, 134, 135, 136, 137, 138, 139, 140, 141, 142, 143, 144, 145, 146, 147, 148, 149, 150, 151, 152, 153, 154, 155, 156, 157, 158] (by decide +kernel) (by decide +kernel)
set_option maxRecDepth 20000 in
theorem gX9_value_X9_solve : GoodIn wsX9_value (wsV RX9 286 RX9 yX9_solve wsX9_solve) := goodIn_app (goodIn_of _ (by decide +kernel)) ggX9_value_X9_solve
set_option maxRecDepth 20000 in
theorem ggX9_value_X9_findLeast : GoodIn wsX9_value wsX9_findLeast := goodIn_r _ [115, 29, 30, 116, 31, 117, 118, 69, 70, 71, 6, 72, 42, 11, 12, 13, 14, 15, 89, 90, 91, 92, 44, 43, 93, 94, 95, 96, 97, 98, 99, 100, 41, 101, 102, 103, 104, 46, 81, 82, 83, 84, 85, 86, 87, 88, 109, 110, 111, 123, 124, 125, 126, 127, 128, 129, 130, 131, 132, 133, 134, 135, 136, 137, 138, 139, 140, 141, 142, 143, 144, 145, 146, 147, 148, 149, 150, 151, 152, 153, 154, 155, 156, 157, 158] (by decide +kernel) (by decide +kernel)
set_option maxRecDepth 20000 in
theorem gX9_value_X9_findLeast : GoodIn wsX9_value (wsV RX9 291 RX9 yX9_findLeast wsX9_findLeast) := goodIn_app (goodIn_of _ (by decide +kernel)) ggX9_value_X9_findLeast
set_option maxRecDepth 20000 in
theorem ggX9_value_X9_found : GoodIn wsX9_value wsX9_found := goodIn_r _ [122, 117, 118, 123, 124, 125, 126, 127, 128, 129, 130, 131, 132, 133, 134, 135, 136, 137, 138, 139, 140, 141, 142, 143, 144, 145, 146, 147, 148, 149, 150, 151, 152, 153, 154, 155, 156, 157, 158] (by decide +kernel) (by decide +kernel)
set_option maxRecDepth 20000 in
theorem gX9_value_X9_found : GoodIn wsX9_value (wsV RX9 294 RX9 yX9_found wsX9_found) := goodIn_app (goodIn_of _ (by decide +kernel)) ggX9_value_X9_found
theorem dX9_value_0 : decode cX9_value 0 = .ok (.aload_n 0, 1) := by decide +kernel
theorem dX9_value_1 : decode cX9_value 1 = .ok (.iload_n 1, 1) := by decide +kernel
theorem dX9_value_2 : decode cX9_value 2 = .ok (.invokevirtual 227, 3) := by decide +kernel
theorem dX9_value_5 : decode cX9_value 5 = .ok (.ifCond .ne 7, 3) := by decide +kernel
theorem dX9_value_8 : decode cX9_value 8 = .ok (.ldc2_w 289, 3) := by decide +kernel
theorem dX9_value_11 : decode cX9_value 11 = .ok (.lreturn, 1) := by decide +kernel
theorem dX9_value_12 : decode cX9_value 12 = .ok (.iload_n 2, 1) := by decide +kernel
theorem dX9_value_13 : decode cX9_value 13 = .ok (.invokestatic 281, 3) := by decide +kernel
theorem dX9_value_16 : decode cX9_value 16 = .ok (.ifCond .eq 10, 3) := by decide +kernel
theorem dX9_value_19 : decode cX9_value 19 = .ok (.iload_n 3, 1) := by decide +kernel
theorem dX9_value_20 : decode cX9_value 20 = .ok (.invokestatic 281, 3) := by decide +kernel
theorem dX9_value_23 : decode cX9_value 23 = .ok (.ifCond .ne 7, 3) := by decide +kernel
theorem dX9_value_26 : decode cX9_value 26 = .ok (.ldc2_w 284, 3) := by decide +kernel
theorem dX9_value_29 : decode cX9_value 29 = .ok (.lreturn, 1) := by decide +kernel
theorem dX9_value_30 : decode cX9_value 30 = .ok (.aload_n 0, 1) := by decide +kernel
theorem dX9_value_31 : decode cX9_value 31 = .ok (.invokevirtual 286, 3) := by decide +kernel
theorem dX9_value_34 : decode cX9_value 34 = .ok (.aload_n 0, 1) := by decide +kernel
theorem dX9_value_35 : decode cX9_value 35 = .ok (.iload_n 1, 1) := by decide +kernel
theorem dX9_value_36 : decode cX9_value 36 = .ok (.bipush (-6), 2) := by decide +kernel
theorem dX9_value_38 : decode cX9_value 38 = .ok (.iload_n 2, 1) := by decide +kernel
theorem dX9_value_39 : decode cX9_value 39 = .ok (.ifCond .ne 7, 3) := by decide +kernel
theorem dX9_value_42 : decode cX9_value 42 = .ok (.iconst 1, 1) := by decide +kernel
theorem dX9_value_43 : decode cX9_value 43 = .ok (.goto 4, 3) := by decide +kernel
theorem dX9_value_46 : decode cX9_value 46 = .ok (.iconst (-1), 1) := by decide +kernel
theorem dX9_value_47 : decode cX9_value 47 = .ok (.invokevirtual 291, 3) := by decide +kernel
theorem dX9_value_50 : decode cX9_value 50 = .ok (.aload_n 0, 1) := by decide +kernel
theorem dX9_value_51 : decode cX9_value 51 = .ok (.iload_n 3, 1) := by decide +kernel
theorem dX9_value_52 : decode cX9_value 52 = .ok (.invokevirtual 294, 3) := by decide +kernel
theorem dX9_value_55 : decode cX9_value 55 = .ok (.lreturn, 1) := by decide +kernel
theorem dX9_beside_0 : decode cX9_beside 0 = .ok (.aload_n 0, 1) := by decide +kernel
theorem dX9_beside_1 : decode cX9_beside 1 = .ok (.getfield 171, 3) := by decide +kernel
theorem dX9_beside_4 : decode cX9_beside 4 = .ok (.iload_n 1, 1) := by decide +kernel
theorem dX9_beside_5 : decode cX9_beside 5 = .ok (.i2l, 1) := by decide +kernel
theorem dX9_beside_6 : decode cX9_beside 6 = .ok (.aload_n 0, 1) := by decide +kernel
theorem dX9_beside_7 : decode cX9_beside 7 = .ok (.getfield 174, 3) := by decide +kernel
theorem dX9_beside_10 : decode cX9_beside 10 = .ok (.lmul, 1) := by decide +kernel
theorem dX9_beside_11 : decode cX9_beside 11 = .ok (.lsub, 1) := by decide +kernel
theorem dX9_beside_12 : decode cX9_beside 12 = .ok (.lstore_n 2, 1) := by decide +kernel
theorem dX9_beside_13 : decode cX9_beside 13 = .ok (.lload_n 2, 1) := by decide +kernel
theorem dX9_beside_14 : decode cX9_beside 14 = .ok (.lconst 0, 1) := by decide +kernel
theorem dX9_beside_15 : decode cX9_beside 15 = .ok (.lcmp, 1) := by decide +kernel
theorem dX9_beside_16 : decode cX9_beside 16 = .ok (.ifCond .ge 7, 3) := by decide +kernel
theorem dX9_beside_19 : decode cX9_beside 19 = .ok (.iconst (-1), 1) := by decide +kernel
theorem dX9_beside_20 : decode cX9_beside 20 = .ok (.goto 14, 3) := by decide +kernel
theorem dX9_beside_23 : decode cX9_beside 23 = .ok (.lload_n 2, 1) := by decide +kernel
theorem dX9_beside_24 : decode cX9_beside 24 = .ok (.lconst 0, 1) := by decide +kernel
theorem dX9_beside_25 : decode cX9_beside 25 = .ok (.lcmp, 1) := by decide +kernel
theorem dX9_beside_26 : decode cX9_beside 26 = .ok (.ifCond .le 7, 3) := by decide +kernel
theorem dX9_beside_29 : decode cX9_beside 29 = .ok (.iconst 1, 1) := by decide +kernel
theorem dX9_beside_30 : decode cX9_beside 30 = .ok (.goto 4, 3) := by decide +kernel
theorem dX9_beside_33 : decode cX9_beside 33 = .ok (.iconst 0, 1) := by decide +kernel
theorem dX9_beside_34 : decode cX9_beside 34 = .ok (.ireturn, 1) := by decide +kernel
set_option maxRecDepth 20000 in
theorem ggX9_status_X9_isOne : GoodIn wsX9_status wsX9_isOne := goodIn_r _ [5, 6, 7, 4, 8, 9, 10, 11, 12, 13, 118, 119, 120, 121, 122, 123, 124, 125, 126, 127, 128, 129, 130, 131, 132, 133, 134, 135, 136, 137, 138, 139, 140, 141, 142, 143, 144, 145, 146, 147, 148, 149, 150, 151, 152, 153] (by decide +kernel) (by decide +kernel)
set_option maxRecDepth 20000 in
theorem gX9_status_X9_isOne : GoodIn wsX9_status (wsV RX9 227 RX9 yX9_isOne wsX9_isOne) := goodIn_app (goodIn_of _ (by decide +kernel)) ggX9_status_X9_isOne
set_option maxRecDepth 20000 in
theorem ggX9_status_X9_solve : GoodIn wsX9_status wsX9_solve := goodIn_r _ [17, 18, 19, 20, 21, 4, 22, 23, 24, 25, 26, 27, 28, 29, 30, 31, 32, 33, 34, 35, 36, 37, 38, 39, 40, 41, 42, 43, 44, 45, 6, 7, 8, 9, 10, 11, 12, 13, 46, 47, 48, 49, 50, 51, 52, 53, 54, 55, 56, 57, 58, 59, 60, 61, 62, 63, 64, 65, 66, 67, 68, 69, 70, 71, 72, 73, 74, 75, 76, 77, 78, 79, 80, 81, 82, 83, 84, 85, 86, 87, 88, 89, 90, 91, 92, 93, 94, 95, 96, 97, 98, 99, 100, 101, 102, 103, 104, 105, 106, 118, 119, 120, 121, 122, 123, 124, 125, 126, 127, 128, 129, 130, 131, 132, 133, 134, 135, 136, 137, 138, 139, 140, 141, 142, 143, 144, 145, 146, 147, 148, 149, 150, 151, 152, 153] (by decide +kernel) (by decide +kernel)
set_option maxRecDepth 20000 in
theorem gX9_status_X9_solve : GoodIn wsX9_status (wsV RX9 286 RX9 yX9_solve wsX9_solve) := goodIn_app (goodIn_of _ (by decide +kernel)) ggX9_status_X9_solve
set_option maxRecDepth 20000 in
theorem ggX9_status_X9_of : GoodIn wsX9_status wsX9_of := goodIn_r _ [12, 13, 118, 119, 120, 121, 122, 123, 124, 125, 126, 127, 128, 129, 130, 131, 132, 133, 134, 135, 136, 137, 138, 139, 140, 141, 142, 143, 144, 145, 146, 147, 148, 149, 150, 151, 152, 153] (by decide +kernel) (by decide +kernel)
set_option maxRecDepth 20000 in
theorem gX9_status_X9_of : GoodIn wsX9_status (wsV RX9 80 RX9 yX9_of wsX9_of) := goodIn_app (goodIn_of _ (by decide +kernel)) ggX9_status_X9_of
set_option maxRecDepth 20000 in
theorem ggX9_status_X9_findLeast : GoodIn wsX9_status wsX9_findLeast := goodIn_r _ [110, 24, 25, 111, 26, 112, 113, 64, 65, 66, 4, 67, 37, 9, 10, 11, 12, 13, 84, 85, 86, 87, 39, 38, 88, 89, 90, 91, 92, 93, 94, 95, 36, 96, 97, 98, 99, 41, 76, 77, 78, 79, 80, 81, 82, 83, 104, 105, 106, 118, 119, 120, 121, 122, 123, 124, 125, 126, 127, 128, 129, 130, 131, 132, 133, 134, 135, 136, 137, 138, 139, 140, 141, 142, 143, 144, 145, 146, 147, 148, 149, 150, 151, 152, 153] (by decide +kernel) (by decide +kernel)
set_option maxRecDepth 20000 in
theorem gX9_status_X9_findLeast : GoodIn wsX9_status (wsV RX9 291 RX9 yX9_findLeast wsX9_findLeast) := goodIn_app (goodIn_of _ (by decide +kernel)) ggX9_status_X9_findLeast
set_option maxRecDepth 20000 in
theorem ggX9_status_X9_beside : GoodIn wsX9_status wsX9_beside := goodIn_r _ [117, 112, 113, 118, 119, 120, 121, 122, 123, 124, 125, 126, 127, 128, 129, 130, 131, 132, 133, 134, 135, 136, 137, 138, 139, 140, 141, 142, 143, 144, 145, 146, 147, 148, 149, 150, 151, 152, 153] (by decide +kernel) (by decide +kernel)
set_option maxRecDepth 20000 in
theorem gX9_status_X9_beside : GoodIn wsX9_status (wsV RX9 302 RX9 yX9_beside wsX9_beside) := goodIn_app (goodIn_of _ (by decide +kernel)) ggX9_status_X9_beside
theorem dX9_status_0 : decode cX9_status 0 = .ok (.aload_n 0, 1) := by decide +kernel
theorem dX9_status_1 : decode cX9_status 1 = .ok (.iload_n 1, 1) := by decide +kernel
theorem dX9_status_2 : decode cX9_status 2 = .ok (.invokevirtual 227, 3) := by decide +kernel
theorem dX9_status_5 : decode cX9_status 5 = .ok (.ifCond .ne 5, 3) := by decide +kernel
theorem dX9_status_8 : decode cX9_status 8 = .ok (.iconst (-1), 1) := by decide +kernel
theorem dX9_status_9 : decode cX9_status 9 = .ok (.ireturn, 1) := by decide +kernel
theorem dX9_status_10 : decode cX9_status 10 = .ok (.aload_n 0, 1) := by decide +kernel
theorem dX9_status_11 : decode cX9_status 11 = .ok (.invokevirtual 286, 3) := by decide +kernel
theorem dX9_status_14 : decode cX9_status 14 = .ok (.aload_n 0, 1) := by decide +kernel
theorem dX9_status_15 : decode cX9_status 15 = .ok (.iload_n 1, 1) := by decide +kernel
theorem dX9_status_16 : decode cX9_status 16 = .ok (.bipush 7, 2) := by decide +kernel
theorem dX9_status_18 : decode cX9_status 18 = .ok (.invokevirtual 80, 3) := by decide +kernel
theorem dX9_status_21 : decode cX9_status 21 = .ok (.istore_n 2, 1) := by decide +kernel
theorem dX9_status_22 : decode cX9_status 22 = .ok (.aload_n 0, 1) := by decide +kernel
theorem dX9_status_23 : decode cX9_status 23 = .ok (.iload_n 1, 1) := by decide +kernel
theorem dX9_status_24 : decode cX9_status 24 = .ok (.bipush 6, 2) := by decide +kernel
theorem dX9_status_26 : decode cX9_status 26 = .ok (.invokevirtual 80, 3) := by decide +kernel
theorem dX9_status_29 : decode cX9_status 29 = .ok (.istore_n 3, 1) := by decide +kernel
theorem dX9_status_30 : decode cX9_status 30 = .ok (.aload_n 0, 1) := by decide +kernel
theorem dX9_status_31 : decode cX9_status 31 = .ok (.iload_n 1, 1) := by decide +kernel
theorem dX9_status_32 : decode cX9_status 32 = .ok (.bipush (-6), 2) := by decide +kernel
theorem dX9_status_34 : decode cX9_status 34 = .ok (.iconst 1, 1) := by decide +kernel
theorem dX9_status_35 : decode cX9_status 35 = .ok (.invokevirtual 291, 3) := by decide +kernel
theorem dX9_status_38 : decode cX9_status 38 = .ok (.aload_n 0, 1) := by decide +kernel
theorem dX9_status_39 : decode cX9_status 39 = .ok (.iload_n 2, 1) := by decide +kernel
theorem dX9_status_40 : decode cX9_status 40 = .ok (.invokevirtual 302, 3) := by decide +kernel
theorem dX9_status_43 : decode cX9_status 43 = .ok (.istore 4, 2) := by decide +kernel
theorem dX9_status_45 : decode cX9_status 45 = .ok (.aload_n 0, 1) := by decide +kernel
theorem dX9_status_46 : decode cX9_status 46 = .ok (.iload_n 1, 1) := by decide +kernel
theorem dX9_status_47 : decode cX9_status 47 = .ok (.bipush (-6), 2) := by decide +kernel
theorem dX9_status_49 : decode cX9_status 49 = .ok (.iconst (-1), 1) := by decide +kernel
theorem dX9_status_50 : decode cX9_status 50 = .ok (.invokevirtual 291, 3) := by decide +kernel
theorem dX9_status_53 : decode cX9_status 53 = .ok (.aload_n 0, 1) := by decide +kernel
theorem dX9_status_54 : decode cX9_status 54 = .ok (.iload_n 2, 1) := by decide +kernel
theorem dX9_status_55 : decode cX9_status 55 = .ok (.invokevirtual 302, 3) := by decide +kernel
theorem dX9_status_58 : decode cX9_status 58 = .ok (.istore 5, 2) := by decide +kernel
theorem dX9_status_60 : decode cX9_status 60 = .ok (.iload_n 3, 1) := by decide +kernel
theorem dX9_status_61 : decode cX9_status 61 = .ok (.ifCond .ne 23, 3) := by decide +kernel
theorem dX9_status_64 : decode cX9_status 64 = .ok (.iload 5, 2) := by decide +kernel
theorem dX9_status_66 : decode cX9_status 66 = .ok (.ifCond .gt 7, 3) := by decide +kernel
theorem dX9_status_69 : decode cX9_status 69 = .ok (.iconst 0, 1) := by decide +kernel
theorem dX9_status_70 : decode cX9_status 70 = .ok (.goto 13, 3) := by decide +kernel
theorem dX9_status_73 : decode cX9_status 73 = .ok (.iload 4, 2) := by decide +kernel
theorem dX9_status_75 : decode cX9_status 75 = .ok (.ifCond .le 7, 3) := by decide +kernel
theorem dX9_status_78 : decode cX9_status 78 = .ok (.iconst 1, 1) := by decide +kernel
theorem dX9_status_79 : decode cX9_status 79 = .ok (.goto 4, 3) := by decide +kernel
theorem dX9_status_82 : decode cX9_status 82 = .ok (.iconst 2, 1) := by decide +kernel
theorem dX9_status_83 : decode cX9_status 83 = .ok (.ireturn, 1) := by decide +kernel
theorem dX9_status_84 : decode cX9_status 84 = .ok (.iload_n 3, 1) := by decide +kernel
theorem dX9_status_85 : decode cX9_status 85 = .ok (.iconst 1, 1) := by decide +kernel
theorem dX9_status_86 : decode cX9_status 86 = .ok (.if_icmp .ne 33, 3) := by decide +kernel
theorem dX9_status_89 : decode cX9_status 89 = .ok (.iload 4, 2) := by decide +kernel
theorem dX9_status_91 : decode cX9_status 91 = .ok (.ifCond .ne 12, 3) := by decide +kernel
theorem dX9_status_94 : decode cX9_status 94 = .ok (.iload 5, 2) := by decide +kernel
theorem dX9_status_96 : decode cX9_status 96 = .ok (.ifCond .ne 7, 3) := by decide +kernel
theorem dX9_status_99 : decode cX9_status 99 = .ok (.iconst 0, 1) := by decide +kernel
theorem dX9_status_100 : decode cX9_status 100 = .ok (.goto 18, 3) := by decide +kernel
theorem dX9_status_103 : decode cX9_status 103 = .ok (.iload 4, 2) := by decide +kernel
theorem dX9_status_105 : decode cX9_status 105 = .ok (.ifCond .gt 8, 3) := by decide +kernel
theorem dX9_status_108 : decode cX9_status 108 = .ok (.iload 5, 2) := by decide +kernel
theorem dX9_status_110 : decode cX9_status 110 = .ok (.ifCond .ge 7, 3) := by decide +kernel
theorem dX9_status_113 : decode cX9_status 113 = .ok (.iconst 1, 1) := by decide +kernel
theorem dX9_status_114 : decode cX9_status 114 = .ok (.goto 4, 3) := by decide +kernel
theorem dX9_status_117 : decode cX9_status 117 = .ok (.iconst 2, 1) := by decide +kernel
theorem dX9_status_118 : decode cX9_status 118 = .ok (.ireturn, 1) := by decide +kernel
theorem dX9_status_119 : decode cX9_status 119 = .ok (.iload 4, 2) := by decide +kernel
theorem dX9_status_121 : decode cX9_status 121 = .ok (.ifCond .lt 7, 3) := by decide +kernel
theorem dX9_status_124 : decode cX9_status 124 = .ok (.iconst 0, 1) := by decide +kernel
theorem dX9_status_125 : decode cX9_status 125 = .ok (.goto 13, 3) := by decide +kernel
theorem dX9_status_128 : decode cX9_status 128 = .ok (.iload 5, 2) := by decide +kernel
theorem dX9_status_130 : decode cX9_status 130 = .ok (.ifCond .ge 7, 3) := by decide +kernel
theorem dX9_status_133 : decode cX9_status 133 = .ok (.iconst 1, 1) := by decide +kernel
theorem dX9_status_134 : decode cX9_status 134 = .ok (.goto 4, 3) := by decide +kernel
theorem dX9_status_137 : decode cX9_status 137 = .ok (.iconst 2, 1) := by decide +kernel
theorem dX9_status_138 : decode cX9_status 138 = .ok (.ireturn, 1) := by decide +kernel
set_option maxRecDepth 20000 in
theorem ggX9_reach_X9_isVariable : GoodIn wsX9_reach wsX9_isVariable := goodIn_r _ [6, 7, 8, 5, 9] (by decide +kernel) (by decide +kernel)
set_option maxRecDepth 20000 in
theorem gX9_reach_X9_isVariable : GoodIn wsX9_reach (va_wsS RX9 196 yX9_isVariable wsX9_isVariable) := goodIn_app (goodIn_of _ (by decide +kernel)) ggX9_reach_X9_isVariable
set_option maxRecDepth 20000 in
theorem ggX9_reach_X9_isPart : GoodIn wsX9_reach wsX9_isPart := goodIn_r _ [12, 7, 8, 5, 9] (by decide +kernel) (by decide +kernel)
set_option maxRecDepth 20000 in
theorem gX9_reach_X9_isPart : GoodIn wsX9_reach (va_wsS RX9 281 yX9_isPart wsX9_isPart) := goodIn_app (goodIn_of _ (by decide +kernel)) ggX9_reach_X9_isPart
set_option maxRecDepth 20000 in
theorem ggX9_reach_X9_isPossible : GoodIn wsX9_reach wsX9_isPossible := goodIn_r _ [16, 17, 18, 19, 20, 5, 21, 22, 23, 24, 25, 26, 27, 28, 29, 30, 31, 32, 33, 34, 35, 36, 37, 38, 7, 8, 9, 39, 40, 41, 42, 43, 44, 45, 46, 47, 48, 49, 50, 51, 52, 53, 54, 55, 56, 57, 58, 59, 60, 61, 62, 63, 64, 65, 66, 67, 68, 69, 70, 71, 72, 73, 74, 75, 76, 77, 78, 79, 80, 81, 112, 113, 114, 115, 116, 117, 118, 119, 120, 121, 122, 123, 124, 125, 126, 127, 128, 129, 130, 131, 132, 133, 134, 135, 136, 137, 138, 139, 140, 141, 142, 143, 144, 145, 146, 147] (by decide +kernel) (by decide +kernel)
set_option maxRecDepth 20000 in
theorem gX9_reach_X9_isPossible : GoodIn wsX9_reach (wsV RX9 187 RX9 yX9_isPossible wsX9_isPossible) := goodIn_app (goodIn_of _ (by decide +kernel)) ggX9_reach_X9_isPossible
set_option maxRecDepth 20000 in
theorem ggX9_reach_X9_findLeast : GoodIn wsX9_reach wsX9_findLeast := goodIn_r _ [85, 26, 28, 86, 30, 87, 88, 62, 63, 64, 5, 65, 29, 39, 40, 41, 42, 43, 89, 90, 91, 92, 32, 31, 93, 94, 95, 96, 97, 98, 99, 100, 27, 101, 102, 103, 104, 34, 74, 75, 76, 77, 78, 79, 80, 81, 105, 106, 107, 112, 113, 114, 115, 116, 117, 118, 119, 120, 121, 122, 123, 124, 125, 126, 127, 128, 129, 130, 131, 132, 133, 134, 135, 136, 137, 138, 139, 140, 141, 142, 143, 144, 145, 146, 147] (by decide +kernel) (by decide +kernel)
set_option maxRecDepth 20000 in
theorem gX9_reach_X9_findLeast : GoodIn wsX9_reach (wsV RX9 291 RX9 yX9_findLeast wsX9_findLeast) := goodIn_app (goodIn_of _ (by decide +kernel)) ggX9_reach_X9_findLeast
set_option maxRecDepth 20000 in
theorem ggX9_reach_X9_found : GoodIn wsX9_reach wsX9_found := goodIn_r _ [111, 87, 88, 112, 113, 114, 115, 116, 117, 118, 119, 120, 121, 122, 123, 124, 125, 126, 127, 128, 129, 130, 131, 132, 133, 134, 135, 136, 137, 138, 139, 140, 141, 142, 143, 144, 145, 146, 147] (by decide +kernel) (by decide +kernel)
set_option maxRecDepth 20000 in
theorem gX9_reach_X9_found : GoodIn wsX9_reach (wsV RX9 294 RX9 yX9_found wsX9_found) := goodIn_app (goodIn_of _ (by decide +kernel)) ggX9_reach_X9_found
theorem dX9_reach_0 : decode cX9_reach 0 = .ok (.iload_n 1, 1) := by decide +kernel
theorem dX9_reach_1 : decode cX9_reach 1 = .ok (.invokestatic 196, 3) := by decide +kernel
theorem dX9_reach_4 : decode cX9_reach 4 = .ok (.ifCond .ne 7, 3) := by decide +kernel
theorem dX9_reach_7 : decode cX9_reach 7 = .ok (.ldc2_w 289, 3) := by decide +kernel
theorem dX9_reach_10 : decode cX9_reach 10 = .ok (.lreturn, 1) := by decide +kernel
theorem dX9_reach_11 : decode cX9_reach 11 = .ok (.iload_n 2, 1) := by decide +kernel
theorem dX9_reach_12 : decode cX9_reach 12 = .ok (.invokestatic 281, 3) := by decide +kernel
theorem dX9_reach_15 : decode cX9_reach 15 = .ok (.ifCond .eq 10, 3) := by decide +kernel
theorem dX9_reach_18 : decode cX9_reach 18 = .ok (.iload_n 3, 1) := by decide +kernel
theorem dX9_reach_19 : decode cX9_reach 19 = .ok (.invokestatic 281, 3) := by decide +kernel
theorem dX9_reach_22 : decode cX9_reach 22 = .ok (.ifCond .ne 7, 3) := by decide +kernel
theorem dX9_reach_25 : decode cX9_reach 25 = .ok (.ldc2_w 284, 3) := by decide +kernel
theorem dX9_reach_28 : decode cX9_reach 28 = .ok (.lreturn, 1) := by decide +kernel
theorem dX9_reach_29 : decode cX9_reach 29 = .ok (.aload_n 0, 1) := by decide +kernel
theorem dX9_reach_30 : decode cX9_reach 30 = .ok (.sipush 32767, 3) := by decide +kernel
theorem dX9_reach_33 : decode cX9_reach 33 = .ok (.invokevirtual 187, 3) := by decide +kernel
theorem dX9_reach_36 : decode cX9_reach 36 = .ok (.pop, 1) := by decide +kernel
theorem dX9_reach_37 : decode cX9_reach 37 = .ok (.aload_n 0, 1) := by decide +kernel
theorem dX9_reach_38 : decode cX9_reach 38 = .ok (.iconst 0, 1) := by decide +kernel
theorem dX9_reach_39 : decode cX9_reach 39 = .ok (.iload_n 1, 1) := by decide +kernel
theorem dX9_reach_40 : decode cX9_reach 40 = .ok (.iload_n 2, 1) := by decide +kernel
theorem dX9_reach_41 : decode cX9_reach 41 = .ok (.ifCond .ne 7, 3) := by decide +kernel
theorem dX9_reach_44 : decode cX9_reach 44 = .ok (.iconst 1, 1) := by decide +kernel
theorem dX9_reach_45 : decode cX9_reach 45 = .ok (.goto 4, 3) := by decide +kernel
theorem dX9_reach_48 : decode cX9_reach 48 = .ok (.iconst (-1), 1) := by decide +kernel
theorem dX9_reach_49 : decode cX9_reach 49 = .ok (.invokevirtual 291, 3) := by decide +kernel
theorem dX9_reach_52 : decode cX9_reach 52 = .ok (.aload_n 0, 1) := by decide +kernel
theorem dX9_reach_53 : decode cX9_reach 53 = .ok (.iload_n 3, 1) := by decide +kernel
theorem dX9_reach_54 : decode cX9_reach 54 = .ok (.invokevirtual 294, 3) := by decide +kernel
theorem dX9_reach_57 : decode cX9_reach 57 = .ok (.lreturn, 1) := by decide +kernel
set_option maxRecDepth 20000 in
theorem ggX9_connected_X9_isVariable : GoodIn wsX9_connected wsX9_isVariable := goodIn_r _ [4, 5, 6, 3, 7] (by decide +kernel) (by decide +kernel)
set_option maxRecDepth 20000 in
theorem gX9_connected_X9_isVariable : GoodIn wsX9_connected (va_wsS RX9 196 yX9_isVariable wsX9_isVariable) := goodIn_app (goodIn_of _ (by decide +kernel)) ggX9_connected_X9_isVariable
set_option maxRecDepth 20000 in
theorem ggX9_connected_X9_isThere : GoodIn wsX9_connected wsX9_isThere := goodIn_r _ [11, 5, 6, 3, 7, 12, 13, 14, 15, 16, 17, 18, 19, 20, 21, 22, 23, 24, 25, 26, 27, 28, 29, 30, 31, 32, 33, 34, 35, 36, 37, 38, 39, 40, 41, 42, 43, 44, 45, 46, 47, 48, 49, 50, 51, 52] (by decide +kernel) (by decide +kernel)
set_option maxRecDepth 20000 in
theorem gX9_connected_X9_isThere : GoodIn wsX9_connected (wsV RX9 113 RX9 yX9_isThere wsX9_isThere) := goodIn_app (goodIn_of _ (by decide +kernel)) ggX9_connected_X9_isThere
set_option maxRecDepth 20000 in
theorem ggX9_connected_X9_of : GoodIn wsX9_connected wsX9_of := goodIn_r _ [15, 16, 17, 18, 19, 20, 21, 22, 23, 24, 25, 26, 27, 28, 29, 30, 31, 32, 33, 34, 35, 36, 37, 38, 39, 40, 41, 42, 43, 44, 45, 46, 47, 48, 49, 50, 51, 52] (by decide +kernel) (by decide +kernel)
set_option maxRecDepth 20000 in
theorem gX9_connected_X9_of : GoodIn wsX9_connected (wsV RX9 80 RX9 yX9_of wsX9_of) := goodIn_app (goodIn_of _ (by decide +kernel)) ggX9_connected_X9_of
theorem dX9_connected_0 : decode cX9_connected 0 = .ok (.iload_n 1, 1) := by decide +kernel
theorem dX9_connected_1 : decode cX9_connected 1 = .ok (.invokestatic 196, 3) := by decide +kernel
theorem dX9_connected_4 : decode cX9_connected 4 = .ok (.ifCond .ne 5, 3) := by decide +kernel
theorem dX9_connected_7 : decode cX9_connected 7 = .ok (.iconst (-1), 1) := by decide +kernel
theorem dX9_connected_8 : decode cX9_connected 8 = .ok (.ireturn, 1) := by decide +kernel
theorem dX9_connected_9 : decode cX9_connected 9 = .ok (.iconst 1, 1) := by decide +kernel
theorem dX9_connected_10 : decode cX9_connected 10 = .ok (.iload_n 1, 1) := by decide +kernel
theorem dX9_connected_11 : decode cX9_connected 11 = .ok (.ishl, 1) := by decide +kernel
theorem dX9_connected_12 : decode cX9_connected 12 = .ok (.istore_n 2, 1) := by decide +kernel
theorem dX9_connected_13 : decode cX9_connected 13 = .ok (.iconst 0, 1) := by decide +kernel
theorem dX9_connected_14 : decode cX9_connected 14 = .ok (.istore_n 3, 1) := by decide +kernel
theorem dX9_connected_15 : decode cX9_connected 15 = .ok (.iload_n 3, 1) := by decide +kernel
theorem dX9_connected_16 : decode cX9_connected 16 = .ok (.bipush 6, 2) := by decide +kernel
theorem dX9_connected_18 : decode cX9_connected 18 = .ok (.if_icmp .ge 93, 3) := by decide +kernel
theorem dX9_connected_21 : decode cX9_connected 21 = .ok (.iconst 0, 1) := by decide +kernel
theorem dX9_connected_22 : decode cX9_connected 22 = .ok (.istore 4, 2) := by decide +kernel
theorem dX9_connected_24 : decode cX9_connected 24 = .ok (.iload 4, 2) := by decide +kernel
theorem dX9_connected_26 : decode cX9_connected 26 = .ok (.bipush 14, 2) := by decide +kernel
theorem dX9_connected_28 : decode cX9_connected 28 = .ok (.if_icmp .ge 77, 3) := by decide +kernel
theorem dX9_connected_31 : decode cX9_connected 31 = .ok (.iconst 0, 1) := by decide +kernel
theorem dX9_connected_32 : decode cX9_connected 32 = .ok (.istore 5, 2) := by decide +kernel
theorem dX9_connected_34 : decode cX9_connected 34 = .ok (.iconst 0, 1) := by decide +kernel
theorem dX9_connected_35 : decode cX9_connected 35 = .ok (.istore 6, 2) := by decide +kernel
theorem dX9_connected_37 : decode cX9_connected 37 = .ok (.iload 6, 2) := by decide +kernel
theorem dX9_connected_39 : decode cX9_connected 39 = .ok (.bipush 6, 2) := by decide +kernel
theorem dX9_connected_41 : decode cX9_connected 41 = .ok (.if_icmp .ge 42, 3) := by decide +kernel
theorem dX9_connected_44 : decode cX9_connected 44 = .ok (.aload_n 0, 1) := by decide +kernel
theorem dX9_connected_45 : decode cX9_connected 45 = .ok (.iload 4, 2) := by decide +kernel
theorem dX9_connected_47 : decode cX9_connected 47 = .ok (.invokevirtual 113, 3) := by decide +kernel
theorem dX9_connected_50 : decode cX9_connected 50 = .ok (.ifCond .eq 33, 3) := by decide +kernel
theorem dX9_connected_53 : decode cX9_connected 53 = .ok (.iload 5, 2) := by decide +kernel
theorem dX9_connected_55 : decode cX9_connected 55 = .ok (.aload_n 0, 1) := by decide +kernel
theorem dX9_connected_56 : decode cX9_connected 56 = .ok (.iload 4, 2) := by decide +kernel
theorem dX9_connected_58 : decode cX9_connected 58 = .ok (.iload 6, 2) := by decide +kernel
theorem dX9_connected_60 : decode cX9_connected 60 = .ok (.invokevirtual 80, 3) := by decide +kernel
theorem dX9_connected_63 : decode cX9_connected 63 = .ok (.ifCond .eq 10, 3) := by decide +kernel
theorem dX9_connected_66 : decode cX9_connected 66 = .ok (.iconst 1, 1) := by decide +kernel
theorem dX9_connected_67 : decode cX9_connected 67 = .ok (.iload 6, 2) := by decide +kernel
theorem dX9_connected_69 : decode cX9_connected 69 = .ok (.ishl, 1) := by decide +kernel
theorem dX9_connected_70 : decode cX9_connected 70 = .ok (.goto 4, 3) := by decide +kernel
theorem dX9_connected_73 : decode cX9_connected 73 = .ok (.iconst 0, 1) := by decide +kernel
theorem dX9_connected_74 : decode cX9_connected 74 = .ok (.ior, 1) := by decide +kernel
theorem dX9_connected_75 : decode cX9_connected 75 = .ok (.istore 5, 2) := by decide +kernel
theorem dX9_connected_77 : decode cX9_connected 77 = .ok (.iinc 6 1, 3) := by decide +kernel
theorem dX9_connected_80 : decode cX9_connected 80 = .ok (.goto (-43), 3) := by decide +kernel
theorem dX9_connected_83 : decode cX9_connected 83 = .ok (.iload_n 2, 1) := by decide +kernel
theorem dX9_connected_84 : decode cX9_connected 84 = .ok (.iload 5, 2) := by decide +kernel
theorem dX9_connected_86 : decode cX9_connected 86 = .ok (.iload_n 2, 1) := by decide +kernel
theorem dX9_connected_87 : decode cX9_connected 87 = .ok (.iand, 1) := by decide +kernel
theorem dX9_connected_88 : decode cX9_connected 88 = .ok (.ifCond .eq 8, 3) := by decide +kernel
theorem dX9_connected_91 : decode cX9_connected 91 = .ok (.iload 5, 2) := by decide +kernel
theorem dX9_connected_93 : decode cX9_connected 93 = .ok (.goto 4, 3) := by decide +kernel
theorem dX9_connected_96 : decode cX9_connected 96 = .ok (.iconst 0, 1) := by decide +kernel
theorem dX9_connected_97 : decode cX9_connected 97 = .ok (.ior, 1) := by decide +kernel
theorem dX9_connected_98 : decode cX9_connected 98 = .ok (.istore_n 2, 1) := by decide +kernel
theorem dX9_connected_99 : decode cX9_connected 99 = .ok (.iinc 4 1, 3) := by decide +kernel
theorem dX9_connected_102 : decode cX9_connected 102 = .ok (.goto (-78), 3) := by decide +kernel
theorem dX9_connected_105 : decode cX9_connected 105 = .ok (.iinc 3 1, 3) := by decide +kernel
theorem dX9_connected_108 : decode cX9_connected 108 = .ok (.goto (-93), 3) := by decide +kernel
theorem dX9_connected_111 : decode cX9_connected 111 = .ok (.iload_n 2, 1) := by decide +kernel
theorem dX9_connected_112 : decode cX9_connected 112 = .ok (.ireturn, 1) := by decide +kernel
set_option maxRecDepth 20000 in
theorem ggX9_blockers_X9_in : GoodIn wsX9_blockers wsX9_in := goodIn_r _ [7] (by decide +kernel) (by decide +kernel)
set_option maxRecDepth 20000 in
theorem gX9_blockers_X9_in : GoodIn wsX9_blockers (va_wsS RX9 76 yX9_in wsX9_in) := goodIn_app (goodIn_of _ (by decide +kernel)) ggX9_blockers_X9_in
set_option maxRecDepth 20000 in
theorem ggX9_blockers_X9_isConstant : GoodIn wsX9_blockers wsX9_isConstant := goodIn_r _ [10, 4, 5, 6, 7] (by decide +kernel) (by decide +kernel)
set_option maxRecDepth 20000 in
theorem gX9_blockers_X9_isConstant : GoodIn wsX9_blockers (va_wsS RX9 212 yX9_isConstant wsX9_isConstant) := goodIn_app (goodIn_of _ (by decide +kernel)) ggX9_blockers_X9_isConstant
set_option maxRecDepth 20000 in
theorem ggX9_blockers_X9_isAnything : GoodIn wsX9_blockers wsX9_isAnything := goodIn_r _ [13] (by decide +kernel) (by decide +kernel)
set_option maxRecDepth 20000 in
theorem gX9_blockers_X9_isAnything : GoodIn wsX9_blockers (va_wsS RX9 219 yX9_isAnything wsX9_isAnything) := goodIn_app (goodIn_of _ (by decide +kernel)) ggX9_blockers_X9_isAnything
set_option maxRecDepth 20000 in
theorem ggX9_blockers_X9_put : GoodIn wsX9_blockers wsX9_put := goodIn_r _ [17, 2, 89, 90, 91, 92, 93, 94, 95, 96, 97, 98, 99, 100, 101, 102, 103, 104, 105, 106, 107, 108, 109, 110, 111, 112, 113, 114, 115, 116, 117, 118, 119, 120, 121, 122, 123, 124] (by decide +kernel) (by decide +kernel)
set_option maxRecDepth 20000 in
theorem gX9_blockers_X9_put : GoodIn wsX9_blockers (wsV RX9 205 RX9 yX9_put wsX9_put) := goodIn_app (goodIn_of _ (by decide +kernel)) ggX9_blockers_X9_put
set_option maxRecDepth 20000 in
theorem ggX9_blockers_X9_isPossible : GoodIn wsX9_blockers wsX9_isPossible := goodIn_r _ [21, 3, 22, 23, 24, 6, 25, 26, 27, 28, 29, 30, 31, 32, 33, 34, 35, 36, 37, 38, 39, 40, 41, 42, 4, 5, 7, 43, 44, 45, 46, 2, 47, 48, 49, 50, 51, 52, 53, 54, 55, 56, 57, 58, 59, 60, 61, 62, 63, 64, 65, 66, 67, 68, 69, 70, 71, 72, 73, 74, 75, 76, 77, 78, 79, 80, 81, 82, 83, 84, 89, 90, 91, 92, 93, 94, 95, 96, 97, 98, 99, 100, 101, 102, 103, 104, 105, 106, 107, 108, 109, 110, 111, 112, 113, 114, 115, 116, 117, 118, 119, 120, 121, 122, 123, 124] (by decide +kernel) (by decide +kernel)
set_option maxRecDepth 20000 in
theorem gX9_blockers_X9_isPossible : GoodIn wsX9_blockers (wsV RX9 187 RX9 yX9_isPossible wsX9_isPossible) := goodIn_app (goodIn_of _ (by decide +kernel)) ggX9_blockers_X9_isPossible
set_option maxRecDepth 20000 in
theorem ggX9_blockers_X9_requiredOnes : GoodIn wsX9_blockers wsX9_requiredOnes := goodIn_r _ [88, 39, 40, 41, 6, 42, 4, 5, 7, 43, 44, 45, 46, 2, 89, 90, 91, 92, 93, 94, 95, 96, 97, 98, 99, 100, 101, 102, 103, 104, 105, 106, 107, 108, 109, 110, 111, 112, 113, 114, 115, 116, 117, 118, 119, 120, 121, 122, 123, 124] (by decide +kernel) (by decide +kernel)
set_option maxRecDepth 20000 in
theorem gX9_blockers_X9_requiredOnes : GoodIn wsX9_blockers (wsV RX9 305 RX9 yX9_requiredOnes wsX9_requiredOnes) := goodIn_app (goodIn_of _ (by decide +kernel)) ggX9_blockers_X9_requiredOnes
theorem dX9_blockers_0 : decode cX9_blockers 0 = .ok (.iload_n 1, 1) := by decide +kernel
theorem dX9_blockers_1 : decode cX9_blockers 1 = .ok (.iconst 0, 1) := by decide +kernel
theorem dX9_blockers_2 : decode cX9_blockers 2 = .ok (.iconst 2, 1) := by decide +kernel
theorem dX9_blockers_3 : decode cX9_blockers 3 = .ok (.invokestatic 76, 3) := by decide +kernel
theorem dX9_blockers_6 : decode cX9_blockers 6 = .ok (.ifCond .eq 10, 3) := by decide +kernel
theorem dX9_blockers_9 : decode cX9_blockers 9 = .ok (.iload_n 2, 1) := by decide +kernel
theorem dX9_blockers_10 : decode cX9_blockers 10 = .ok (.invokestatic 212, 3) := by decide +kernel
theorem dX9_blockers_13 : decode cX9_blockers 13 = .ok (.ifCond .ne 6, 3) := by decide +kernel
theorem dX9_blockers_16 : decode cX9_blockers 16 = .ok (.bipush (-2), 2) := by decide +kernel
theorem dX9_blockers_18 : decode cX9_blockers 18 = .ok (.ireturn, 1) := by decide +kernel
theorem dX9_blockers_19 : decode cX9_blockers 19 = .ok (.aload_n 0, 1) := by decide +kernel
theorem dX9_blockers_20 : decode cX9_blockers 20 = .ok (.getfield 20, 3) := by decide +kernel
theorem dX9_blockers_23 : decode cX9_blockers 23 = .ok (.invokestatic 219, 3) := by decide +kernel
theorem dX9_blockers_26 : decode cX9_blockers 26 = .ok (.ifCond .ne 6, 3) := by decide +kernel
theorem dX9_blockers_29 : decode cX9_blockers 29 = .ok (.bipush (-5), 2) := by decide +kernel
theorem dX9_blockers_31 : decode cX9_blockers 31 = .ok (.ireturn, 1) := by decide +kernel
theorem dX9_blockers_32 : decode cX9_blockers 32 = .ok (.aload_n 0, 1) := by decide +kernel
theorem dX9_blockers_33 : decode cX9_blockers 33 = .ok (.bipush 14, 2) := by decide +kernel
theorem dX9_blockers_35 : decode cX9_blockers 35 = .ok (.aload_n 0, 1) := by decide +kernel
theorem dX9_blockers_36 : decode cX9_blockers 36 = .ok (.getfield 20, 3) := by decide +kernel
theorem dX9_blockers_39 : decode cX9_blockers 39 = .ok (.iload_n 1, 1) := by decide +kernel
theorem dX9_blockers_40 : decode cX9_blockers 40 = .ok (.iload_n 2, 1) := by decide +kernel
theorem dX9_blockers_41 : decode cX9_blockers 41 = .ok (.iconst 0, 1) := by decide +kernel
theorem dX9_blockers_42 : decode cX9_blockers 42 = .ok (.iconst 1, 1) := by decide +kernel
theorem dX9_blockers_43 : decode cX9_blockers 43 = .ok (.invokevirtual 205, 3) := by decide +kernel
theorem dX9_blockers_46 : decode cX9_blockers 46 = .ok (.bipush (-6), 2) := by decide +kernel
theorem dX9_blockers_48 : decode cX9_blockers 48 = .ok (.istore_n 3, 1) := by decide +kernel
theorem dX9_blockers_49 : decode cX9_blockers 49 = .ok (.aload_n 0, 1) := by decide +kernel
theorem dX9_blockers_50 : decode cX9_blockers 50 = .ok (.sipush 32767, 3) := by decide +kernel
theorem dX9_blockers_53 : decode cX9_blockers 53 = .ok (.invokevirtual 187, 3) := by decide +kernel
theorem dX9_blockers_56 : decode cX9_blockers 56 = .ok (.ifCond .ne 60, 3) := by decide +kernel
theorem dX9_blockers_59 : decode cX9_blockers 59 = .ok (.aload_n 0, 1) := by decide +kernel
theorem dX9_blockers_60 : decode cX9_blockers 60 = .ok (.invokevirtual 305, 3) := by decide +kernel
theorem dX9_blockers_63 : decode cX9_blockers 63 = .ok (.istore_n 3, 1) := by decide +kernel
theorem dX9_blockers_64 : decode cX9_blockers 64 = .ok (.iconst 0, 1) := by decide +kernel
theorem dX9_blockers_65 : decode cX9_blockers 65 = .ok (.istore 4, 2) := by decide +kernel
theorem dX9_blockers_67 : decode cX9_blockers 67 = .ok (.iload 4, 2) := by decide +kernel
theorem dX9_blockers_69 : decode cX9_blockers 69 = .ok (.bipush 14, 2) := by decide +kernel
theorem dX9_blockers_71 : decode cX9_blockers 71 = .ok (.if_icmp .ge 45, 3) := by decide +kernel
theorem dX9_blockers_74 : decode cX9_blockers 74 = .ok (.iload_n 3, 1) := by decide +kernel
theorem dX9_blockers_75 : decode cX9_blockers 75 = .ok (.iconst 1, 1) := by decide +kernel
theorem dX9_blockers_76 : decode cX9_blockers 76 = .ok (.iload 4, 2) := by decide +kernel
theorem dX9_blockers_78 : decode cX9_blockers 78 = .ok (.ishl, 1) := by decide +kernel
theorem dX9_blockers_79 : decode cX9_blockers 79 = .ok (.iconst (-1), 1) := by decide +kernel
theorem dX9_blockers_80 : decode cX9_blockers 80 = .ok (.ixor, 1) := by decide +kernel
theorem dX9_blockers_81 : decode cX9_blockers 81 = .ok (.iand, 1) := by decide +kernel
theorem dX9_blockers_82 : decode cX9_blockers 82 = .ok (.istore 5, 2) := by decide +kernel
theorem dX9_blockers_84 : decode cX9_blockers 84 = .ok (.iload 5, 2) := by decide +kernel
theorem dX9_blockers_86 : decode cX9_blockers 86 = .ok (.iload_n 3, 1) := by decide +kernel
theorem dX9_blockers_87 : decode cX9_blockers 87 = .ok (.if_icmp .eq 21, 3) := by decide +kernel
theorem dX9_blockers_90 : decode cX9_blockers 90 = .ok (.aload_n 0, 1) := by decide +kernel
theorem dX9_blockers_91 : decode cX9_blockers 91 = .ok (.iload 5, 2) := by decide +kernel
theorem dX9_blockers_93 : decode cX9_blockers 93 = .ok (.sipush 16384, 3) := by decide +kernel
theorem dX9_blockers_96 : decode cX9_blockers 96 = .ok (.ior, 1) := by decide +kernel
theorem dX9_blockers_97 : decode cX9_blockers 97 = .ok (.invokevirtual 187, 3) := by decide +kernel
theorem dX9_blockers_100 : decode cX9_blockers 100 = .ok (.ifCond .ne 8, 3) := by decide +kernel
theorem dX9_blockers_103 : decode cX9_blockers 103 = .ok (.iload 5, 2) := by decide +kernel
theorem dX9_blockers_105 : decode cX9_blockers 105 = .ok (.goto 4, 3) := by decide +kernel
theorem dX9_blockers_108 : decode cX9_blockers 108 = .ok (.iload_n 3, 1) := by decide +kernel
theorem dX9_blockers_109 : decode cX9_blockers 109 = .ok (.istore_n 3, 1) := by decide +kernel
theorem dX9_blockers_110 : decode cX9_blockers 110 = .ok (.iinc 4 1, 3) := by decide +kernel
theorem dX9_blockers_113 : decode cX9_blockers 113 = .ok (.goto (-46), 3) := by decide +kernel
theorem dX9_blockers_116 : decode cX9_blockers 116 = .ok (.aload_n 0, 1) := by decide +kernel
theorem dX9_blockers_117 : decode cX9_blockers 117 = .ok (.getfield 7, 3) := by decide +kernel
theorem dX9_blockers_120 : decode cX9_blockers 120 = .ok (.sipush 164, 3) := by decide +kernel
theorem dX9_blockers_123 : decode cX9_blockers 123 = .ok (.iconst 0, 1) := by decide +kernel
theorem dX9_blockers_124 : decode cX9_blockers 124 = .ok (.iastore, 1) := by decide +kernel
theorem dX9_blockers_125 : decode cX9_blockers 125 = .ok (.aload_n 0, 1) := by decide +kernel
theorem dX9_blockers_126 : decode cX9_blockers 126 = .ok (.iconst 0, 1) := by decide +kernel
theorem dX9_blockers_127 : decode cX9_blockers 127 = .ok (.putfield 72, 3) := by decide +kernel
theorem dX9_blockers_130 : decode cX9_blockers 130 = .ok (.iload_n 3, 1) := by decide +kernel
theorem dX9_blockers_131 : decode cX9_blockers 131 = .ok (.ireturn, 1) := by decide +kernel
set_option maxRecDepth 20000 in
theorem ggX9_requiredOnes_X9_isThere : GoodIn wsX9_requiredOnes wsX9_isThere := goodIn_r _ [5, 6, 7, 4, 8, 9, 10, 11, 12, 13, 14, 15, 16, 17, 18, 19, 20, 21, 22, 23, 24, 25, 26, 27, 28, 29, 30, 31, 32, 33, 34, 35, 36, 37, 38, 39, 40, 41, 42, 43, 44, 45, 46, 47, 48, 49] (by decide +kernel) (by decide +kernel)
set_option maxRecDepth 20000 in
theorem gX9_requiredOnes_X9_isThere : GoodIn wsX9_requiredOnes (wsV RX9 113 RX9 yX9_isThere wsX9_isThere) := goodIn_app (goodIn_of _ (by decide +kernel)) ggX9_requiredOnes_X9_isThere
set_option maxRecDepth 20000 in
theorem ggX9_requiredOnes_X9_of : GoodIn wsX9_requiredOnes wsX9_of := goodIn_r _ [12, 13, 14, 15, 16, 17, 18, 19, 20, 21, 22, 23, 24, 25, 26, 27, 28, 29, 30, 31, 32, 33, 34, 35, 36, 37, 38, 39, 40, 41, 42, 43, 44, 45, 46, 47, 48, 49] (by decide +kernel) (by decide +kernel)
set_option maxRecDepth 20000 in
theorem gX9_requiredOnes_X9_of : GoodIn wsX9_requiredOnes (wsV RX9 80 RX9 yX9_of wsX9_of) := goodIn_app (goodIn_of _ (by decide +kernel)) ggX9_requiredOnes_X9_of
theorem dX9_requiredOnes_0 : decode cX9_requiredOnes 0 = .ok (.iconst 0, 1) := by decide +kernel
theorem dX9_requiredOnes_1 : decode cX9_requiredOnes 1 = .ok (.istore_n 1, 1) := by decide +kernel
theorem dX9_requiredOnes_2 : decode cX9_requiredOnes 2 = .ok (.iconst 0, 1) := by decide +kernel
theorem dX9_requiredOnes_3 : decode cX9_requiredOnes 3 = .ok (.istore_n 2, 1) := by decide +kernel
theorem dX9_requiredOnes_4 : decode cX9_requiredOnes 4 = .ok (.iload_n 2, 1) := by decide +kernel
theorem dX9_requiredOnes_5 : decode cX9_requiredOnes 5 = .ok (.bipush 14, 2) := by decide +kernel
theorem dX9_requiredOnes_7 : decode cX9_requiredOnes 7 = .ok (.if_icmp .ge 37, 3) := by decide +kernel
theorem dX9_requiredOnes_10 : decode cX9_requiredOnes 10 = .ok (.iload_n 1, 1) := by decide +kernel
theorem dX9_requiredOnes_11 : decode cX9_requiredOnes 11 = .ok (.aload_n 0, 1) := by decide +kernel
theorem dX9_requiredOnes_12 : decode cX9_requiredOnes 12 = .ok (.iload_n 2, 1) := by decide +kernel
theorem dX9_requiredOnes_13 : decode cX9_requiredOnes 13 = .ok (.invokevirtual 113, 3) := by decide +kernel
theorem dX9_requiredOnes_16 : decode cX9_requiredOnes 16 = .ok (.ifCond .eq 19, 3) := by decide +kernel
theorem dX9_requiredOnes_19 : decode cX9_requiredOnes 19 = .ok (.aload_n 0, 1) := by decide +kernel
theorem dX9_requiredOnes_20 : decode cX9_requiredOnes 20 = .ok (.iload_n 2, 1) := by decide +kernel
theorem dX9_requiredOnes_21 : decode cX9_requiredOnes 21 = .ok (.bipush 8, 2) := by decide +kernel
theorem dX9_requiredOnes_23 : decode cX9_requiredOnes 23 = .ok (.invokevirtual 80, 3) := by decide +kernel
theorem dX9_requiredOnes_26 : decode cX9_requiredOnes 26 = .ok (.ifCond .ne 9, 3) := by decide +kernel
theorem dX9_requiredOnes_29 : decode cX9_requiredOnes 29 = .ok (.iconst 1, 1) := by decide +kernel
theorem dX9_requiredOnes_30 : decode cX9_requiredOnes 30 = .ok (.iload_n 2, 1) := by decide +kernel
theorem dX9_requiredOnes_31 : decode cX9_requiredOnes 31 = .ok (.ishl, 1) := by decide +kernel
theorem dX9_requiredOnes_32 : decode cX9_requiredOnes 32 = .ok (.goto 4, 3) := by decide +kernel
theorem dX9_requiredOnes_35 : decode cX9_requiredOnes 35 = .ok (.iconst 0, 1) := by decide +kernel
theorem dX9_requiredOnes_36 : decode cX9_requiredOnes 36 = .ok (.ior, 1) := by decide +kernel
theorem dX9_requiredOnes_37 : decode cX9_requiredOnes 37 = .ok (.istore_n 1, 1) := by decide +kernel
theorem dX9_requiredOnes_38 : decode cX9_requiredOnes 38 = .ok (.iinc 2 1, 3) := by decide +kernel
theorem dX9_requiredOnes_41 : decode cX9_requiredOnes 41 = .ok (.goto (-37), 3) := by decide +kernel
theorem dX9_requiredOnes_44 : decode cX9_requiredOnes 44 = .ok (.iload_n 1, 1) := by decide +kernel
theorem dX9_requiredOnes_45 : decode cX9_requiredOnes 45 = .ok (.ireturn, 1) := by decide +kernel
set_option maxRecDepth 20000 in
theorem ggX9_isForced_X9_put : GoodIn wsX9_isForced wsX9_put := goodIn_r _ [8, 2, 104, 105, 106, 107, 108, 109, 110, 111, 112, 113, 114, 115, 116, 117, 118, 119, 120, 121, 122, 123, 124, 125, 126, 127, 128, 129, 130, 131, 132, 133, 134, 135, 136, 137, 138, 139] (by decide +kernel) (by decide +kernel)
set_option maxRecDepth 20000 in
theorem gX9_isForced_X9_put : GoodIn wsX9_isForced (wsV RX9 205 RX9 yX9_put wsX9_put) := goodIn_app (goodIn_of _ (by decide +kernel)) ggX9_isForced_X9_put
set_option maxRecDepth 20000 in
theorem ggX9_isForced_X9_solveAll : GoodIn wsX9_isForced wsX9_solveAll := goodIn_r _ [12, 13, 14, 15, 16, 17, 18, 19, 20, 7, 21, 22, 23, 24, 25, 26, 27, 28, 29, 30, 31, 32, 33, 34, 35, 36, 37, 38, 39, 40, 41, 42, 2, 43, 44, 45, 46, 47, 48, 49, 50, 51, 52, 53, 54, 55, 56, 57, 58, 59, 60, 61, 62, 63, 64, 65, 66, 67, 68, 69, 70, 71, 72, 73, 74, 75, 76, 77, 78, 79, 80, 81, 82, 83, 84, 85, 86, 87, 88, 89, 90, 91, 92, 93, 94, 95, 96, 97, 98, 99, 100, 101, 102, 103, 104, 105, 106, 107, 108, 109, 110, 111, 112, 113, 114, 115, 116, 117, 118, 119, 120, 121, 122, 123, 124, 125, 126, 127, 128, 129, 130, 131, 132, 133, 134, 135, 136, 137, 138, 139] (by decide +kernel) (by decide +kernel)
set_option maxRecDepth 20000 in
theorem gX9_isForced_X9_solveAll : GoodIn wsX9_isForced (wsV RX9 166 RX9 yX9_solveAll wsX9_solveAll) := goodIn_app (goodIn_of _ (by decide +kernel)) ggX9_isForced_X9_solveAll
theorem dX9_isForced_0 : decode cX9_isForced 0 = .ok (.iconst 0, 1) := by decide +kernel
theorem dX9_isForced_1 : decode cX9_isForced 1 = .ok (.istore_n 3, 1) := by decide +kernel
theorem dX9_isForced_2 : decode cX9_isForced 2 = .ok (.iload_n 3, 1) := by decide +kernel
theorem dX9_isForced_3 : decode cX9_isForced 3 = .ok (.bipush 6, 2) := by decide +kernel
theorem dX9_isForced_5 : decode cX9_isForced 5 = .ok (.if_icmp .ge 25, 3) := by decide +kernel
theorem dX9_isForced_8 : decode cX9_isForced 8 = .ok (.aload_n 0, 1) := by decide +kernel
theorem dX9_isForced_9 : decode cX9_isForced 9 = .ok (.getfield 63, 3) := by decide +kernel
theorem dX9_isForced_12 : decode cX9_isForced 12 = .ok (.iload_n 3, 1) := by decide +kernel
theorem dX9_isForced_13 : decode cX9_isForced 13 = .ok (.iload_n 3, 1) := by decide +kernel
theorem dX9_isForced_14 : decode cX9_isForced 14 = .ok (.iload_n 1, 1) := by decide +kernel
theorem dX9_isForced_15 : decode cX9_isForced 15 = .ok (.if_icmp .ne 7, 3) := by decide +kernel
theorem dX9_isForced_18 : decode cX9_isForced 18 = .ok (.iconst 1, 1) := by decide +kernel
theorem dX9_isForced_19 : decode cX9_isForced 19 = .ok (.goto 4, 3) := by decide +kernel
theorem dX9_isForced_22 : decode cX9_isForced 22 = .ok (.iconst 0, 1) := by decide +kernel
theorem dX9_isForced_23 : decode cX9_isForced 23 = .ok (.iastore, 1) := by decide +kernel
theorem dX9_isForced_24 : decode cX9_isForced 24 = .ok (.iinc 3 1, 3) := by decide +kernel
theorem dX9_isForced_27 : decode cX9_isForced 27 = .ok (.goto (-25), 3) := by decide +kernel
theorem dX9_isForced_30 : decode cX9_isForced 30 = .ok (.aload_n 0, 1) := by decide +kernel
theorem dX9_isForced_31 : decode cX9_isForced 31 = .ok (.bipush 14, 2) := by decide +kernel
theorem dX9_isForced_33 : decode cX9_isForced 33 = .ok (.aload_n 0, 1) := by decide +kernel
theorem dX9_isForced_34 : decode cX9_isForced 34 = .ok (.getfield 63, 3) := by decide +kernel
theorem dX9_isForced_37 : decode cX9_isForced 37 = .ok (.iconst 1, 1) := by decide +kernel
theorem dX9_isForced_38 : decode cX9_isForced 38 = .ok (.iload_n 2, 1) := by decide +kernel
theorem dX9_isForced_39 : decode cX9_isForced 39 = .ok (.iconst 0, 1) := by decide +kernel
theorem dX9_isForced_40 : decode cX9_isForced 40 = .ok (.iconst 1, 1) := by decide +kernel
theorem dX9_isForced_41 : decode cX9_isForced 41 = .ok (.invokevirtual 205, 3) := by decide +kernel
theorem dX9_isForced_44 : decode cX9_isForced 44 = .ok (.aload_n 0, 1) := by decide +kernel
theorem dX9_isForced_45 : decode cX9_isForced 45 = .ok (.sipush 32767, 3) := by decide +kernel
theorem dX9_isForced_48 : decode cX9_isForced 48 = .ok (.invokevirtual 166, 3) := by decide +kernel
theorem dX9_isForced_51 : decode cX9_isForced 51 = .ok (.istore_n 3, 1) := by decide +kernel
theorem dX9_isForced_52 : decode cX9_isForced 52 = .ok (.aload_n 0, 1) := by decide +kernel
theorem dX9_isForced_53 : decode cX9_isForced 53 = .ok (.getfield 7, 3) := by decide +kernel
theorem dX9_isForced_56 : decode cX9_isForced 56 = .ok (.sipush 164, 3) := by decide +kernel
theorem dX9_isForced_59 : decode cX9_isForced 59 = .ok (.iconst 0, 1) := by decide +kernel
theorem dX9_isForced_60 : decode cX9_isForced 60 = .ok (.iastore, 1) := by decide +kernel
theorem dX9_isForced_61 : decode cX9_isForced 61 = .ok (.aload_n 0, 1) := by decide +kernel
theorem dX9_isForced_62 : decode cX9_isForced 62 = .ok (.iconst 0, 1) := by decide +kernel
theorem dX9_isForced_63 : decode cX9_isForced 63 = .ok (.putfield 72, 3) := by decide +kernel
theorem dX9_isForced_66 : decode cX9_isForced 66 = .ok (.iload_n 3, 1) := by decide +kernel
theorem dX9_isForced_67 : decode cX9_isForced 67 = .ok (.ireturn, 1) := by decide +kernel
set_option maxRecDepth 20000 in
theorem ggX9_force_X9_isVariable : GoodIn wsX9_force wsX9_isVariable := goodIn_r _ [9, 10, 11, 8, 12] (by decide +kernel) (by decide +kernel)
set_option maxRecDepth 20000 in
theorem gX9_force_X9_isVariable : GoodIn wsX9_force (va_wsS RX9 196 yX9_isVariable wsX9_isVariable) := goodIn_app (goodIn_of _ (by decide +kernel)) ggX9_force_X9_isVariable
set_option maxRecDepth 20000 in
theorem ggX9_force_X9_in : GoodIn wsX9_force wsX9_in := goodIn_r _ [12] (by decide +kernel) (by decide +kernel)
set_option maxRecDepth 20000 in
theorem gX9_force_X9_in : GoodIn wsX9_force (va_wsS RX9 76 yX9_in wsX9_in) := goodIn_app (goodIn_of _ (by decide +kernel)) ggX9_force_X9_in
set_option maxRecDepth 20000 in
theorem ggX9_force_X9_isPart : GoodIn wsX9_force wsX9_isPart := goodIn_r _ [15, 10, 11, 8, 12] (by decide +kernel) (by decide +kernel)
set_option maxRecDepth 20000 in
theorem gX9_force_X9_isPart : GoodIn wsX9_force (va_wsS RX9 281 yX9_isPart wsX9_isPart) := goodIn_app (goodIn_of _ (by decide +kernel)) ggX9_force_X9_isPart
set_option maxRecDepth 20000 in
theorem ggX9_force_X9_isForced : GoodIn wsX9_force wsX9_isForced := goodIn_r _ [19, 20, 21, 22, 23, 24, 25, 8, 26, 27, 28, 29, 30, 4, 31, 32, 33, 5, 34, 35, 36, 37, 38, 39, 40, 41, 42, 43, 44, 45, 46, 47, 48, 49, 50, 51, 10, 11, 12, 52, 53, 54, 55, 56, 57, 58, 59, 60, 61, 62, 63, 64, 65, 66, 67, 68, 69, 70, 71, 72, 73, 74, 75, 76, 77, 78, 79, 80, 81, 82, 83, 84, 85, 86, 87, 88, 89, 90, 91, 92, 93, 94, 95, 96, 97, 98, 99, 100, 101, 102, 103, 104, 105, 106, 107, 108, 109, 110, 111, 112, 113, 114, 115, 116, 117, 118, 119, 120, 121, 122, 123, 124, 125, 126, 127, 128, 129, 130, 131, 132, 133, 134, 135, 136, 137, 138, 139, 140, 141, 142, 143, 144, 145, 146, 147, 148, 149, 150, 151, 152] (by decide +kernel) (by decide +kernel)
set_option maxRecDepth 20000 in
theorem gX9_force_X9_isForced : GoodIn wsX9_force (wsV RX9 308 RX9 yX9_isForced wsX9_isForced) := goodIn_app (goodIn_of _ (by decide +kernel)) ggX9_force_X9_isForced
theorem dX9_force_0 : decode cX9_force 0 = .ok (.iload_n 1, 1) := by decide +kernel
theorem dX9_force_1 : decode cX9_force 1 = .ok (.invokestatic 196, 3) := by decide +kernel
theorem dX9_force_4 : decode cX9_force 4 = .ok (.ifCond .ne 7, 3) := by decide +kernel
theorem dX9_force_7 : decode cX9_force 7 = .ok (.ldc2_w 289, 3) := by decide +kernel
theorem dX9_force_10 : decode cX9_force 10 = .ok (.lreturn, 1) := by decide +kernel
theorem dX9_force_11 : decode cX9_force 11 = .ok (.iload_n 2, 1) := by decide +kernel
theorem dX9_force_12 : decode cX9_force 12 = .ok (.sipush (-1000), 3) := by decide +kernel
theorem dX9_force_15 : decode cX9_force 15 = .ok (.sipush 1000, 3) := by decide +kernel
theorem dX9_force_18 : decode cX9_force 18 = .ok (.invokestatic 76, 3) := by decide +kernel
theorem dX9_force_21 : decode cX9_force 21 = .ok (.ifCond .eq 20, 3) := by decide +kernel
theorem dX9_force_24 : decode cX9_force 24 = .ok (.iload_n 3, 1) := by decide +kernel
theorem dX9_force_25 : decode cX9_force 25 = .ok (.iconst 1, 1) := by decide +kernel
theorem dX9_force_26 : decode cX9_force 26 = .ok (.iconst 3, 1) := by decide +kernel
theorem dX9_force_27 : decode cX9_force 27 = .ok (.invokestatic 76, 3) := by decide +kernel
theorem dX9_force_30 : decode cX9_force 30 = .ok (.ifCond .eq 11, 3) := by decide +kernel
theorem dX9_force_33 : decode cX9_force 33 = .ok (.iload 4, 2) := by decide +kernel
theorem dX9_force_35 : decode cX9_force 35 = .ok (.invokestatic 281, 3) := by decide +kernel
theorem dX9_force_38 : decode cX9_force 38 = .ok (.ifCond .ne 7, 3) := by decide +kernel
theorem dX9_force_41 : decode cX9_force 41 = .ok (.ldc2_w 284, 3) := by decide +kernel
theorem dX9_force_44 : decode cX9_force 44 = .ok (.lreturn, 1) := by decide +kernel
theorem dX9_force_45 : decode cX9_force 45 = .ok (.aload_n 0, 1) := by decide +kernel
theorem dX9_force_46 : decode cX9_force 46 = .ok (.iload_n 1, 1) := by decide +kernel
theorem dX9_force_47 : decode cX9_force 47 = .ok (.iload_n 2, 1) := by decide +kernel
theorem dX9_force_48 : decode cX9_force 48 = .ok (.invokevirtual 308, 3) := by decide +kernel
theorem dX9_force_51 : decode cX9_force 51 = .ok (.ifCond .ne 7, 3) := by decide +kernel
theorem dX9_force_54 : decode cX9_force 54 = .ok (.ldc2_w 311, 3) := by decide +kernel
theorem dX9_force_57 : decode cX9_force 57 = .ok (.lreturn, 1) := by decide +kernel
theorem dX9_force_58 : decode cX9_force 58 = .ok (.iload 4, 2) := by decide +kernel
theorem dX9_force_60 : decode cX9_force 60 = .ok (.ifCond .ne 12, 3) := by decide +kernel
theorem dX9_force_63 : decode cX9_force 63 = .ok (.aload_n 0, 1) := by decide +kernel
theorem dX9_force_64 : decode cX9_force 64 = .ok (.getfield 48, 3) := by decide +kernel
theorem dX9_force_67 : decode cX9_force 67 = .ok (.iload_n 3, 1) := by decide +kernel
theorem dX9_force_68 : decode cX9_force 68 = .ok (.laload, 1) := by decide +kernel
theorem dX9_force_69 : decode cX9_force 69 = .ok (.goto 9, 3) := by decide +kernel
theorem dX9_force_72 : decode cX9_force 72 = .ok (.aload_n 0, 1) := by decide +kernel
theorem dX9_force_73 : decode cX9_force 73 = .ok (.getfield 51, 3) := by decide +kernel
theorem dX9_force_76 : decode cX9_force 76 = .ok (.iload_n 3, 1) := by decide +kernel
theorem dX9_force_77 : decode cX9_force 77 = .ok (.laload, 1) := by decide +kernel
theorem dX9_force_78 : decode cX9_force 78 = .ok (.lreturn, 1) := by decide +kernel
theorem dX9_keepCosts_0 : decode cX9_keepCosts 0 = .ok (.iconst 1, 1) := by decide +kernel
theorem dX9_keepCosts_1 : decode cX9_keepCosts 1 = .ok (.istore_n 1, 1) := by decide +kernel
theorem dX9_keepCosts_2 : decode cX9_keepCosts 2 = .ok (.iload_n 1, 1) := by decide +kernel
theorem dX9_keepCosts_3 : decode cX9_keepCosts 3 = .ok (.iconst 3, 1) := by decide +kernel
theorem dX9_keepCosts_4 : decode cX9_keepCosts 4 = .ok (.if_icmp .gt 33, 3) := by decide +kernel
theorem dX9_keepCosts_7 : decode cX9_keepCosts 7 = .ok (.aload_n 0, 1) := by decide +kernel
theorem dX9_keepCosts_8 : decode cX9_keepCosts 8 = .ok (.getfield 66, 3) := by decide +kernel
theorem dX9_keepCosts_11 : decode cX9_keepCosts 11 = .ok (.iload_n 1, 1) := by decide +kernel
theorem dX9_keepCosts_12 : decode cX9_keepCosts 12 = .ok (.aload_n 0, 1) := by decide +kernel
theorem dX9_keepCosts_13 : decode cX9_keepCosts 13 = .ok (.getfield 48, 3) := by decide +kernel
theorem dX9_keepCosts_16 : decode cX9_keepCosts 16 = .ok (.iload_n 1, 1) := by decide +kernel
theorem dX9_keepCosts_17 : decode cX9_keepCosts 17 = .ok (.laload, 1) := by decide +kernel
theorem dX9_keepCosts_18 : decode cX9_keepCosts 18 = .ok (.lastore, 1) := by decide +kernel
theorem dX9_keepCosts_19 : decode cX9_keepCosts 19 = .ok (.aload_n 0, 1) := by decide +kernel
theorem dX9_keepCosts_20 : decode cX9_keepCosts 20 = .ok (.getfield 69, 3) := by decide +kernel
theorem dX9_keepCosts_23 : decode cX9_keepCosts 23 = .ok (.iload_n 1, 1) := by decide +kernel
theorem dX9_keepCosts_24 : decode cX9_keepCosts 24 = .ok (.aload_n 0, 1) := by decide +kernel
theorem dX9_keepCosts_25 : decode cX9_keepCosts 25 = .ok (.getfield 51, 3) := by decide +kernel
theorem dX9_keepCosts_28 : decode cX9_keepCosts 28 = .ok (.iload_n 1, 1) := by decide +kernel
theorem dX9_keepCosts_29 : decode cX9_keepCosts 29 = .ok (.laload, 1) := by decide +kernel
theorem dX9_keepCosts_30 : decode cX9_keepCosts 30 = .ok (.lastore, 1) := by decide +kernel
theorem dX9_keepCosts_31 : decode cX9_keepCosts 31 = .ok (.iinc 1 1, 3) := by decide +kernel
theorem dX9_keepCosts_34 : decode cX9_keepCosts 34 = .ok (.goto (-32), 3) := by decide +kernel
theorem dX9_keepCosts_37 : decode cX9_keepCosts 37 = .ok (.return_, 1) := by decide +kernel
theorem dX9_compare_0 : decode cX9_compare 0 = .ok (.iconst 1, 1) := by decide +kernel
theorem dX9_compare_1 : decode cX9_compare 1 = .ok (.istore_n 1, 1) := by decide +kernel
theorem dX9_compare_2 : decode cX9_compare 2 = .ok (.iload_n 1, 1) := by decide +kernel
theorem dX9_compare_3 : decode cX9_compare 3 = .ok (.iconst 3, 1) := by decide +kernel
theorem dX9_compare_4 : decode cX9_compare 4 = .ok (.if_icmp .gt 58, 3) := by decide +kernel
theorem dX9_compare_7 : decode cX9_compare 7 = .ok (.aload_n 0, 1) := by decide +kernel
theorem dX9_compare_8 : decode cX9_compare 8 = .ok (.getfield 48, 3) := by decide +kernel
theorem dX9_compare_11 : decode cX9_compare 11 = .ok (.iload_n 1, 1) := by decide +kernel
theorem dX9_compare_12 : decode cX9_compare 12 = .ok (.laload, 1) := by decide +kernel
theorem dX9_compare_13 : decode cX9_compare 13 = .ok (.aload_n 0, 1) := by decide +kernel
theorem dX9_compare_14 : decode cX9_compare 14 = .ok (.getfield 69, 3) := by decide +kernel
theorem dX9_compare_17 : decode cX9_compare 17 = .ok (.iload_n 1, 1) := by decide +kernel
theorem dX9_compare_18 : decode cX9_compare 18 = .ok (.laload, 1) := by decide +kernel
theorem dX9_compare_19 : decode cX9_compare 19 = .ok (.lmul, 1) := by decide +kernel
theorem dX9_compare_20 : decode cX9_compare 20 = .ok (.lstore_n 2, 1) := by decide +kernel
theorem dX9_compare_21 : decode cX9_compare 21 = .ok (.aload_n 0, 1) := by decide +kernel
theorem dX9_compare_22 : decode cX9_compare 22 = .ok (.getfield 66, 3) := by decide +kernel
theorem dX9_compare_25 : decode cX9_compare 25 = .ok (.iload_n 1, 1) := by decide +kernel
theorem dX9_compare_26 : decode cX9_compare 26 = .ok (.laload, 1) := by decide +kernel
theorem dX9_compare_27 : decode cX9_compare 27 = .ok (.aload_n 0, 1) := by decide +kernel
theorem dX9_compare_28 : decode cX9_compare 28 = .ok (.getfield 51, 3) := by decide +kernel
theorem dX9_compare_31 : decode cX9_compare 31 = .ok (.iload_n 1, 1) := by decide +kernel
theorem dX9_compare_32 : decode cX9_compare 32 = .ok (.laload, 1) := by decide +kernel
theorem dX9_compare_33 : decode cX9_compare 33 = .ok (.lmul, 1) := by decide +kernel
theorem dX9_compare_34 : decode cX9_compare 34 = .ok (.lstore 4, 2) := by decide +kernel
theorem dX9_compare_36 : decode cX9_compare 36 = .ok (.lload_n 2, 1) := by decide +kernel
theorem dX9_compare_37 : decode cX9_compare 37 = .ok (.lload 4, 2) := by decide +kernel
theorem dX9_compare_39 : decode cX9_compare 39 = .ok (.lcmp, 1) := by decide +kernel
theorem dX9_compare_40 : decode cX9_compare 40 = .ok (.ifCond .eq 16, 3) := by decide +kernel
theorem dX9_compare_43 : decode cX9_compare 43 = .ok (.lload_n 2, 1) := by decide +kernel
theorem dX9_compare_44 : decode cX9_compare 44 = .ok (.lload 4, 2) := by decide +kernel
theorem dX9_compare_46 : decode cX9_compare 46 = .ok (.lcmp, 1) := by decide +kernel
theorem dX9_compare_47 : decode cX9_compare 47 = .ok (.ifCond .ge 7, 3) := by decide +kernel
theorem dX9_compare_50 : decode cX9_compare 50 = .ok (.iconst (-1), 1) := by decide +kernel
theorem dX9_compare_51 : decode cX9_compare 51 = .ok (.goto 4, 3) := by decide +kernel
theorem dX9_compare_54 : decode cX9_compare 54 = .ok (.iconst 1, 1) := by decide +kernel
theorem dX9_compare_55 : decode cX9_compare 55 = .ok (.ireturn, 1) := by decide +kernel
theorem dX9_compare_56 : decode cX9_compare 56 = .ok (.iinc 1 1, 3) := by decide +kernel
theorem dX9_compare_59 : decode cX9_compare 59 = .ok (.goto (-57), 3) := by decide +kernel
theorem dX9_compare_62 : decode cX9_compare 62 = .ok (.iconst 0, 1) := by decide +kernel
theorem dX9_compare_63 : decode cX9_compare 63 = .ok (.ireturn, 1) := by decide +kernel
set_option maxRecDepth 20000 in
theorem ggX9_best_X9_isVariable : GoodIn wsX9_best wsX9_isVariable := goodIn_r _ [4, 5, 6, 3, 7] (by decide +kernel) (by decide +kernel)
set_option maxRecDepth 20000 in
theorem gX9_best_X9_isVariable : GoodIn wsX9_best (va_wsS RX9 196 yX9_isVariable wsX9_isVariable) := goodIn_app (goodIn_of _ (by decide +kernel)) ggX9_best_X9_isVariable
set_option maxRecDepth 20000 in
theorem ggX9_best_X9_in : GoodIn wsX9_best wsX9_in := goodIn_r _ [7] (by decide +kernel) (by decide +kernel)
set_option maxRecDepth 20000 in
theorem gX9_best_X9_in : GoodIn wsX9_best (va_wsS RX9 76 yX9_in wsX9_in) := goodIn_app (goodIn_of _ (by decide +kernel)) ggX9_best_X9_in
set_option maxRecDepth 20000 in
theorem ggX9_best_X9_isForced : GoodIn wsX9_best wsX9_isForced := goodIn_r _ [11, 12, 13, 14, 15, 16, 17, 3, 18, 19, 20, 21, 22, 23, 24, 25, 26, 27, 28, 29, 30, 31, 32, 33, 34, 35, 36, 37, 38, 39, 40, 41, 42, 43, 44, 45, 5, 6, 7, 46, 47, 48, 49, 50, 51, 52, 53, 54, 55, 56, 57, 58, 59, 60, 61, 62, 63, 64, 65, 66, 67, 68, 69, 70, 71, 72, 73, 74, 75, 76, 77, 78, 79, 80, 81, 82, 83, 84, 85, 86, 87, 88, 89, 90, 91, 92, 93, 94, 95, 96, 97, 98, 99, 100, 101, 102, 103, 104, 105, 106, 107, 108, 109, 110, 121, 122, 123, 124, 125, 126, 127, 128, 129, 130, 131, 132, 133, 134, 135, 136, 137, 138, 139, 140, 141, 142, 143, 144, 145, 146, 147, 148, 149, 150, 151, 152, 153, 154, 155, 156] (by decide +kernel) (by decide +kernel)
set_option maxRecDepth 20000 in
theorem gX9_best_X9_isForced : GoodIn wsX9_best (wsV RX9 308 RX9 yX9_isForced wsX9_isForced) := goodIn_app (goodIn_of _ (by decide +kernel)) ggX9_best_X9_isForced
set_option maxRecDepth 20000 in
theorem ggX9_best_X9_compare : GoodIn wsX9_best wsX9_compare := goodIn_r _ [114, 23, 115, 116, 27, 121, 122, 123, 124, 125, 126, 127, 128, 129, 130, 131, 132, 133, 134, 135, 136, 137, 138, 139, 140, 141, 142, 143, 144, 145, 146, 147, 148, 149, 150, 151, 152, 153, 154, 155, 156] (by decide +kernel) (by decide +kernel)
set_option maxRecDepth 20000 in
theorem gX9_best_X9_compare : GoodIn wsX9_best (wsV RX9 313 RX9 yX9_compare wsX9_compare) := goodIn_app (goodIn_of _ (by decide +kernel)) ggX9_best_X9_compare
set_option maxRecDepth 20000 in
theorem ggX9_best_X9_keepCosts : GoodIn wsX9_best wsX9_keepCosts := goodIn_r _ [120, 116, 23, 115, 27, 121, 122, 123, 124, 125, 126, 127, 128, 129, 130, 131, 132, 133, 134, 135, 136, 137, 138, 139, 140, 141, 142, 143, 144, 145, 146, 147, 148, 149, 150, 151, 152, 153, 154, 155, 156] (by decide +kernel) (by decide +kernel)
set_option maxRecDepth 20000 in
theorem gX9_best_X9_keepCosts : GoodIn wsX9_best (wsV RX9 316 RX9 yX9_keepCosts wsX9_keepCosts) := goodIn_app (goodIn_of _ (by decide +kernel)) ggX9_best_X9_keepCosts
theorem dX9_best_0 : decode cX9_best 0 = .ok (.iload_n 1, 1) := by decide +kernel
theorem dX9_best_1 : decode cX9_best 1 = .ok (.invokestatic 196, 3) := by decide +kernel
theorem dX9_best_4 : decode cX9_best 4 = .ok (.ifCond .ne 5, 3) := by decide +kernel
theorem dX9_best_7 : decode cX9_best 7 = .ok (.iconst (-1), 1) := by decide +kernel
theorem dX9_best_8 : decode cX9_best 8 = .ok (.ireturn, 1) := by decide +kernel
theorem dX9_best_9 : decode cX9_best 9 = .ok (.iload_n 2, 1) := by decide +kernel
theorem dX9_best_10 : decode cX9_best 10 = .ok (.sipush (-1000), 3) := by decide +kernel
theorem dX9_best_13 : decode cX9_best 13 = .ok (.sipush 1000, 3) := by decide +kernel
theorem dX9_best_16 : decode cX9_best 16 = .ok (.invokestatic 76, 3) := by decide +kernel
theorem dX9_best_19 : decode cX9_best 19 = .ok (.ifCond .eq 22, 3) := by decide +kernel
theorem dX9_best_22 : decode cX9_best 22 = .ok (.iload_n 3, 1) := by decide +kernel
theorem dX9_best_23 : decode cX9_best 23 = .ok (.iload_n 2, 1) := by decide +kernel
theorem dX9_best_24 : decode cX9_best 24 = .ok (.sipush 1000, 3) := by decide +kernel
theorem dX9_best_27 : decode cX9_best 27 = .ok (.invokestatic 76, 3) := by decide +kernel
theorem dX9_best_30 : decode cX9_best 30 = .ok (.ifCond .eq 11, 3) := by decide +kernel
theorem dX9_best_33 : decode cX9_best 33 = .ok (.iload_n 3, 1) := by decide +kernel
theorem dX9_best_34 : decode cX9_best 34 = .ok (.iload_n 2, 1) := by decide +kernel
theorem dX9_best_35 : decode cX9_best 35 = .ok (.bipush 15, 2) := by decide +kernel
theorem dX9_best_37 : decode cX9_best 37 = .ok (.iadd, 1) := by decide +kernel
theorem dX9_best_38 : decode cX9_best 38 = .ok (.if_icmp .le 6, 3) := by decide +kernel
theorem dX9_best_41 : decode cX9_best 41 = .ok (.bipush (-2), 2) := by decide +kernel
theorem dX9_best_43 : decode cX9_best 43 = .ok (.ireturn, 1) := by decide +kernel
theorem dX9_best_44 : decode cX9_best 44 = .ok (.bipush (-6), 2) := by decide +kernel
theorem dX9_best_46 : decode cX9_best 46 = .ok (.istore 4, 2) := by decide +kernel
theorem dX9_best_48 : decode cX9_best 48 = .ok (.iload_n 2, 1) := by decide +kernel
theorem dX9_best_49 : decode cX9_best 49 = .ok (.istore 5, 2) := by decide +kernel
theorem dX9_best_51 : decode cX9_best 51 = .ok (.iload 5, 2) := by decide +kernel
theorem dX9_best_53 : decode cX9_best 53 = .ok (.iload_n 3, 1) := by decide +kernel
theorem dX9_best_54 : decode cX9_best 54 = .ok (.if_icmp .gt 45, 3) := by decide +kernel
theorem dX9_best_57 : decode cX9_best 57 = .ok (.aload_n 0, 1) := by decide +kernel
theorem dX9_best_58 : decode cX9_best 58 = .ok (.iload_n 1, 1) := by decide +kernel
theorem dX9_best_59 : decode cX9_best 59 = .ok (.iload 5, 2) := by decide +kernel
theorem dX9_best_61 : decode cX9_best 61 = .ok (.invokevirtual 308, 3) := by decide +kernel
theorem dX9_best_64 : decode cX9_best 64 = .ok (.ifCond .eq 29, 3) := by decide +kernel
theorem dX9_best_67 : decode cX9_best 67 = .ok (.iload 4, 2) := by decide +kernel
theorem dX9_best_69 : decode cX9_best 69 = .ok (.bipush (-6), 2) := by decide +kernel
theorem dX9_best_71 : decode cX9_best 71 = .ok (.if_icmp .eq 10, 3) := by decide +kernel
theorem dX9_best_74 : decode cX9_best 74 = .ok (.aload_n 0, 1) := by decide +kernel
theorem dX9_best_75 : decode cX9_best 75 = .ok (.invokevirtual 313, 3) := by decide +kernel
theorem dX9_best_78 : decode cX9_best 78 = .ok (.ifCond .ge 15, 3) := by decide +kernel
theorem dX9_best_81 : decode cX9_best 81 = .ok (.iload 5, 2) := by decide +kernel
theorem dX9_best_83 : decode cX9_best 83 = .ok (.sipush 10000, 3) := by decide +kernel
theorem dX9_best_86 : decode cX9_best 86 = .ok (.iadd, 1) := by decide +kernel
theorem dX9_best_87 : decode cX9_best 87 = .ok (.istore 4, 2) := by decide +kernel
theorem dX9_best_89 : decode cX9_best 89 = .ok (.aload_n 0, 1) := by decide +kernel
theorem dX9_best_90 : decode cX9_best 90 = .ok (.invokevirtual 316, 3) := by decide +kernel
theorem dX9_best_93 : decode cX9_best 93 = .ok (.iinc 5 1, 3) := by decide +kernel
theorem dX9_best_96 : decode cX9_best 96 = .ok (.goto (-45), 3) := by decide +kernel
theorem dX9_best_99 : decode cX9_best 99 = .ok (.iload 4, 2) := by decide +kernel
theorem dX9_best_101 : decode cX9_best 101 = .ok (.ireturn, 1) := by decide +kernel
set_option maxRecDepth 20000 in
theorem ggX9_burdens_X9_solve : GoodIn wsX9_burdens wsX9_solve := goodIn_r _ [6, 1, 7, 8, 9, 5, 10, 11, 12, 13, 14, 15, 16, 17, 18, 19, 20, 21, 22, 23, 24, 25, 26, 27, 28, 29, 30, 31, 32, 33, 34, 35, 36, 37, 38, 39, 40, 41, 42, 43, 44, 45, 46, 47, 48, 49, 50, 51, 52, 53, 54, 55, 56, 57, 58, 59, 60, 61, 62, 63, 64, 65, 66, 67, 68, 69, 70, 71, 72, 73, 74, 75, 76, 77, 78, 79, 80, 81, 82, 83, 84, 85, 86, 87, 88, 89, 90, 91, 92, 93, 94, 95, 96, 97, 98, 99, 100, 101, 102, 113, 114, 115, 116, 117, 118, 119, 120, 121, 122, 123, 124, 125, 126, 127, 128, 129, 130, 131, 132, 133, 134, 135, 136, 137, 138, 139, 140, 141, 142, 143, 144, 145, 146, 147, 148] (by decide +kernel) (by decide +kernel)
set_option maxRecDepth 20000 in
theorem gX9_burdens_X9_solve : GoodIn wsX9_burdens (wsV RX9 286 RX9 yX9_solve wsX9_solve) := goodIn_app (goodIn_of _ (by decide +kernel)) ggX9_burdens_X9_solve
set_option maxRecDepth 20000 in
theorem ggX9_burdens_X9_keepCosts : GoodIn wsX9_burdens wsX9_keepCosts := goodIn_r _ [106, 107, 11, 108, 15, 113, 114, 115, 116, 117, 118, 119, 120, 121, 122, 123, 124, 125, 126, 127, 128, 129, 130, 131, 132, 133, 134, 135, 136, 137, 138, 139, 140, 141, 142, 143, 144, 145, 146, 147, 148] (by decide +kernel) (by decide +kernel)
set_option maxRecDepth 20000 in
theorem gX9_burdens_X9_keepCosts : GoodIn wsX9_burdens (wsV RX9 316 RX9 yX9_keepCosts wsX9_keepCosts) := goodIn_app (goodIn_of _ (by decide +kernel)) ggX9_burdens_X9_keepCosts
set_option maxRecDepth 20000 in
theorem ggX9_burdens_X9_isThere : GoodIn wsX9_burdens wsX9_isThere := goodIn_r _ [33, 34, 35, 5, 36, 37, 38, 39, 40, 41, 113, 114, 115, 116, 117, 118, 119, 120, 121, 122, 123, 124, 125, 126, 127, 128, 129, 130, 131, 132, 133, 134, 135, 136, 137, 138, 139, 140, 141, 142, 143, 144, 145, 146, 147, 148] (by decide +kernel) (by decide +kernel)
set_option maxRecDepth 20000 in
theorem gX9_burdens_X9_isThere : GoodIn wsX9_burdens (wsV RX9 113 RX9 yX9_isThere wsX9_isThere) := goodIn_app (goodIn_of _ (by decide +kernel)) ggX9_burdens_X9_isThere
set_option maxRecDepth 20000 in
theorem ggX9_burdens_X9_solveAll : GoodIn wsX9_burdens wsX9_solveAll := goodIn_r _ [10, 11, 12, 13, 14, 15, 16, 17, 18, 5, 19, 20, 21, 22, 23, 24, 25, 26, 27, 28, 29, 30, 31, 32, 33, 34, 35, 36, 37, 38, 39, 40, 41, 42, 43, 44, 45, 46, 47, 48, 49, 50, 51, 52, 53, 54, 55, 56, 57, 58, 59, 60, 61, 62, 63, 64, 65, 66, 67, 68, 69, 70, 71, 72, 73, 74, 75, 76, 77, 78, 79, 80, 81, 82, 83, 84, 85, 86, 87, 88, 89, 90, 91, 92, 93, 94, 95, 96, 97, 98, 99, 100, 101, 102, 113, 114, 115, 116, 117, 118, 119, 120, 121, 122, 123, 124, 125, 126, 127, 128, 129, 130, 131, 132, 133, 134, 135, 136, 137, 138, 139, 140, 141, 142, 143, 144, 145, 146, 147, 148] (by decide +kernel) (by decide +kernel)
set_option maxRecDepth 20000 in
theorem gX9_burdens_X9_solveAll : GoodIn wsX9_burdens (wsV RX9 166 RX9 yX9_solveAll wsX9_solveAll) := goodIn_app (goodIn_of _ (by decide +kernel)) ggX9_burdens_X9_solveAll
set_option maxRecDepth 20000 in
theorem ggX9_burdens_X9_compare : GoodIn wsX9_burdens wsX9_compare := goodIn_r _ [112, 11, 108, 107, 15, 113, 114, 115, 116, 117, 118, 119, 120, 121, 122, 123, 124, 125, 126, 127, 128, 129, 130, 131, 132, 133, 134, 135, 136, 137, 138, 139, 140, 141, 142, 143, 144, 145, 146, 147, 148] (by decide +kernel) (by decide +kernel)
set_option maxRecDepth 20000 in
theorem gX9_burdens_X9_compare : GoodIn wsX9_burdens (wsV RX9 313 RX9 yX9_compare wsX9_compare) := goodIn_app (goodIn_of _ (by decide +kernel)) ggX9_burdens_X9_compare
theorem dX9_burdens_0 : decode cX9_burdens 0 = .ok (.aload_n 0, 1) := by decide +kernel
theorem dX9_burdens_1 : decode cX9_burdens 1 = .ok (.invokevirtual 286, 3) := by decide +kernel
theorem dX9_burdens_4 : decode cX9_burdens 4 = .ok (.aload_n 0, 1) := by decide +kernel
theorem dX9_burdens_5 : decode cX9_burdens 5 = .ok (.invokevirtual 316, 3) := by decide +kernel
theorem dX9_burdens_8 : decode cX9_burdens 8 = .ok (.iconst 0, 1) := by decide +kernel
theorem dX9_burdens_9 : decode cX9_burdens 9 = .ok (.istore_n 1, 1) := by decide +kernel
theorem dX9_burdens_10 : decode cX9_burdens 10 = .ok (.iconst 0, 1) := by decide +kernel
theorem dX9_burdens_11 : decode cX9_burdens 11 = .ok (.istore_n 2, 1) := by decide +kernel
theorem dX9_burdens_12 : decode cX9_burdens 12 = .ok (.iload_n 2, 1) := by decide +kernel
theorem dX9_burdens_13 : decode cX9_burdens 13 = .ok (.bipush 14, 2) := by decide +kernel
theorem dX9_burdens_15 : decode cX9_burdens 15 = .ok (.if_icmp .ge 48, 3) := by decide +kernel
theorem dX9_burdens_18 : decode cX9_burdens 18 = .ok (.aload_n 0, 1) := by decide +kernel
theorem dX9_burdens_19 : decode cX9_burdens 19 = .ok (.iload_n 2, 1) := by decide +kernel
theorem dX9_burdens_20 : decode cX9_burdens 20 = .ok (.invokevirtual 113, 3) := by decide +kernel
theorem dX9_burdens_23 : decode cX9_burdens 23 = .ok (.ifCond .eq 34, 3) := by decide +kernel
theorem dX9_burdens_26 : decode cX9_burdens 26 = .ok (.aload_n 0, 1) := by decide +kernel
theorem dX9_burdens_27 : decode cX9_burdens 27 = .ok (.sipush 32767, 3) := by decide +kernel
theorem dX9_burdens_30 : decode cX9_burdens 30 = .ok (.iconst 1, 1) := by decide +kernel
theorem dX9_burdens_31 : decode cX9_burdens 31 = .ok (.iload_n 2, 1) := by decide +kernel
theorem dX9_burdens_32 : decode cX9_burdens 32 = .ok (.ishl, 1) := by decide +kernel
theorem dX9_burdens_33 : decode cX9_burdens 33 = .ok (.iconst (-1), 1) := by decide +kernel
theorem dX9_burdens_34 : decode cX9_burdens 34 = .ok (.ixor, 1) := by decide +kernel
theorem dX9_burdens_35 : decode cX9_burdens 35 = .ok (.iand, 1) := by decide +kernel
theorem dX9_burdens_36 : decode cX9_burdens 36 = .ok (.invokevirtual 166, 3) := by decide +kernel
theorem dX9_burdens_39 : decode cX9_burdens 39 = .ok (.pop, 1) := by decide +kernel
theorem dX9_burdens_40 : decode cX9_burdens 40 = .ok (.iload_n 1, 1) := by decide +kernel
theorem dX9_burdens_41 : decode cX9_burdens 41 = .ok (.aload_n 0, 1) := by decide +kernel
theorem dX9_burdens_42 : decode cX9_burdens 42 = .ok (.invokevirtual 313, 3) := by decide +kernel
theorem dX9_burdens_45 : decode cX9_burdens 45 = .ok (.ifCond .ge 9, 3) := by decide +kernel
theorem dX9_burdens_48 : decode cX9_burdens 48 = .ok (.iconst 1, 1) := by decide +kernel
theorem dX9_burdens_49 : decode cX9_burdens 49 = .ok (.iload_n 2, 1) := by decide +kernel
theorem dX9_burdens_50 : decode cX9_burdens 50 = .ok (.ishl, 1) := by decide +kernel
theorem dX9_burdens_51 : decode cX9_burdens 51 = .ok (.goto 4, 3) := by decide +kernel
theorem dX9_burdens_54 : decode cX9_burdens 54 = .ok (.iconst 0, 1) := by decide +kernel
theorem dX9_burdens_55 : decode cX9_burdens 55 = .ok (.ior, 1) := by decide +kernel
theorem dX9_burdens_56 : decode cX9_burdens 56 = .ok (.istore_n 1, 1) := by decide +kernel
theorem dX9_burdens_57 : decode cX9_burdens 57 = .ok (.iinc 2 1, 3) := by decide +kernel
theorem dX9_burdens_60 : decode cX9_burdens 60 = .ok (.goto (-48), 3) := by decide +kernel
theorem dX9_burdens_63 : decode cX9_burdens 63 = .ok (.aload_n 0, 1) := by decide +kernel
theorem dX9_burdens_64 : decode cX9_burdens 64 = .ok (.iconst 0, 1) := by decide +kernel
theorem dX9_burdens_65 : decode cX9_burdens 65 = .ok (.putfield 72, 3) := by decide +kernel
theorem dX9_burdens_68 : decode cX9_burdens 68 = .ok (.iload_n 1, 1) := by decide +kernel
theorem dX9_burdens_69 : decode cX9_burdens 69 = .ok (.ireturn, 1) := by decide +kernel
set_option maxRecDepth 20000 in
theorem ggX9_stepsOf_X9_of : GoodIn wsX9_stepsOf wsX9_of := goodIn_r _ [7, 1, 108, 109, 110, 111, 112, 113, 114, 115, 116, 117, 118, 119, 120, 121, 122, 123, 124, 125, 126, 127, 128, 129, 130, 131, 132, 133, 134, 135, 136, 137, 138, 139, 140, 141, 142, 143] (by decide +kernel) (by decide +kernel)
set_option maxRecDepth 20000 in
theorem gX9_stepsOf_X9_of : GoodIn wsX9_stepsOf (wsV RX9 80 RX9 yX9_of wsX9_of) := goodIn_app (goodIn_of _ (by decide +kernel)) ggX9_stepsOf_X9_of
set_option maxRecDepth 20000 in
theorem ggX9_stepsOf_X9_isConstant : GoodIn wsX9_stepsOf wsX9_isConstant := goodIn_r _ [10, 11, 12, 6, 13] (by decide +kernel) (by decide +kernel)
set_option maxRecDepth 20000 in
theorem gX9_stepsOf_X9_isConstant : GoodIn wsX9_stepsOf (va_wsS RX9 212 yX9_isConstant wsX9_isConstant) := goodIn_app (goodIn_of _ (by decide +kernel)) ggX9_stepsOf_X9_isConstant
set_option maxRecDepth 20000 in
theorem ggX9_stepsOf_X9_solveAll : GoodIn wsX9_stepsOf wsX9_solveAll := goodIn_r _ [17, 18, 19, 20, 21, 22, 23, 24, 25, 6, 26, 27, 28, 29, 30, 31, 32, 33, 34, 35, 36, 37, 38, 39, 40, 11, 12, 13, 3, 4, 5, 7, 1, 41, 42, 43, 44, 45, 46, 47, 48, 49, 50, 51, 52, 53, 54, 55, 56, 57, 58, 59, 60, 61, 62, 63, 64, 65, 66, 67, 68, 69, 70, 71, 72, 73, 74, 75, 76, 77, 78, 79, 80, 81, 82, 83, 84, 85, 86, 87, 88, 89, 90, 91, 92, 93, 94, 95, 96, 97, 98, 99, 100, 101, 108, 109, 110, 111, 112, 113, 114, 115, 116, 117, 118, 119, 120, 121, 122, 123, 124, 125, 126, 127, 128, 129, 130, 131, 132, 133, 134, 135, 136, 137, 138, 139, 140, 141, 142, 143] (by decide +kernel) (by decide +kernel)
set_option maxRecDepth 20000 in
theorem gX9_stepsOf_X9_solveAll : GoodIn wsX9_stepsOf (wsV RX9 166 RX9 yX9_solveAll wsX9_solveAll) := goodIn_app (goodIn_of _ (by decide +kernel)) ggX9_stepsOf_X9_solveAll
set_option maxRecDepth 20000 in
theorem ggX9_stepsOf_X9_compare : GoodIn wsX9_stepsOf wsX9_compare := goodIn_r _ [105, 18, 106, 107, 22, 108, 109, 110, 111, 112, 113, 114, 115, 116, 117, 118, 119, 120, 121, 122, 123, 124, 125, 126, 127, 128, 129, 130, 131, 132, 133, 134, 135, 136, 137, 138, 139, 140, 141, 142, 143] (by decide +kernel) (by decide +kernel)
set_option maxRecDepth 20000 in
theorem gX9_stepsOf_X9_compare : GoodIn wsX9_stepsOf (wsV RX9 313 RX9 yX9_compare wsX9_compare) := goodIn_app (goodIn_of _ (by decide +kernel)) ggX9_stepsOf_X9_compare
theorem dX9_stepsOf_0 : decode cX9_stepsOf 0 = .ok (.aload_n 0, 1) := by decide +kernel
theorem dX9_stepsOf_1 : decode cX9_stepsOf 1 = .ok (.iload_n 1, 1) := by decide +kernel
theorem dX9_stepsOf_2 : decode cX9_stepsOf 2 = .ok (.bipush 7, 2) := by decide +kernel
theorem dX9_stepsOf_4 : decode cX9_stepsOf 4 = .ok (.invokevirtual 80, 3) := by decide +kernel
theorem dX9_stepsOf_7 : decode cX9_stepsOf 7 = .ok (.istore_n 3, 1) := by decide +kernel
theorem dX9_stepsOf_8 : decode cX9_stepsOf 8 = .ok (.iconst 0, 1) := by decide +kernel
theorem dX9_stepsOf_9 : decode cX9_stepsOf 9 = .ok (.istore 4, 2) := by decide +kernel
theorem dX9_stepsOf_11 : decode cX9_stepsOf 11 = .ok (.iconst 1, 1) := by decide +kernel
theorem dX9_stepsOf_12 : decode cX9_stepsOf 12 = .ok (.istore 5, 2) := by decide +kernel
theorem dX9_stepsOf_14 : decode cX9_stepsOf 14 = .ok (.iload 5, 2) := by decide +kernel
theorem dX9_stepsOf_16 : decode cX9_stepsOf 16 = .ok (.ifCond .eq 86, 3) := by decide +kernel
theorem dX9_stepsOf_19 : decode cX9_stepsOf 19 = .ok (.iload 4, 2) := by decide +kernel
theorem dX9_stepsOf_21 : decode cX9_stepsOf 21 = .ok (.bipush 30, 2) := by decide +kernel
theorem dX9_stepsOf_23 : decode cX9_stepsOf 23 = .ok (.if_icmp .ge 79, 3) := by decide +kernel
theorem dX9_stepsOf_26 : decode cX9_stepsOf 26 = .ok (.iload_n 3, 1) := by decide +kernel
theorem dX9_stepsOf_27 : decode cX9_stepsOf 27 = .ok (.iload_n 2, 1) := by decide +kernel
theorem dX9_stepsOf_28 : decode cX9_stepsOf 28 = .ok (.iload 4, 2) := by decide +kernel
theorem dX9_stepsOf_30 : decode cX9_stepsOf 30 = .ok (.iconst 1, 1) := by decide +kernel
theorem dX9_stepsOf_31 : decode cX9_stepsOf 31 = .ok (.iadd, 1) := by decide +kernel
theorem dX9_stepsOf_32 : decode cX9_stepsOf 32 = .ok (.imul, 1) := by decide +kernel
theorem dX9_stepsOf_33 : decode cX9_stepsOf 33 = .ok (.iadd, 1) := by decide +kernel
theorem dX9_stepsOf_34 : decode cX9_stepsOf 34 = .ok (.invokestatic 212, 3) := by decide +kernel
theorem dX9_stepsOf_37 : decode cX9_stepsOf 37 = .ok (.ifCond .eq 65, 3) := by decide +kernel
theorem dX9_stepsOf_40 : decode cX9_stepsOf 40 = .ok (.aload_n 0, 1) := by decide +kernel
theorem dX9_stepsOf_41 : decode cX9_stepsOf 41 = .ok (.getfield 7, 3) := by decide +kernel
theorem dX9_stepsOf_44 : decode cX9_stepsOf 44 = .ok (.bipush 11, 2) := by decide +kernel
theorem dX9_stepsOf_46 : decode cX9_stepsOf 46 = .ok (.iload_n 1, 1) := by decide +kernel
theorem dX9_stepsOf_47 : decode cX9_stepsOf 47 = .ok (.imul, 1) := by decide +kernel
theorem dX9_stepsOf_48 : decode cX9_stepsOf 48 = .ok (.bipush 7, 2) := by decide +kernel
theorem dX9_stepsOf_50 : decode cX9_stepsOf 50 = .ok (.iadd, 1) := by decide +kernel
theorem dX9_stepsOf_51 : decode cX9_stepsOf 51 = .ok (.iload_n 3, 1) := by decide +kernel
theorem dX9_stepsOf_52 : decode cX9_stepsOf 52 = .ok (.iload_n 2, 1) := by decide +kernel
theorem dX9_stepsOf_53 : decode cX9_stepsOf 53 = .ok (.iload 4, 2) := by decide +kernel
theorem dX9_stepsOf_55 : decode cX9_stepsOf 55 = .ok (.iconst 1, 1) := by decide +kernel
theorem dX9_stepsOf_56 : decode cX9_stepsOf 56 = .ok (.iadd, 1) := by decide +kernel
theorem dX9_stepsOf_57 : decode cX9_stepsOf 57 = .ok (.imul, 1) := by decide +kernel
theorem dX9_stepsOf_58 : decode cX9_stepsOf 58 = .ok (.iadd, 1) := by decide +kernel
theorem dX9_stepsOf_59 : decode cX9_stepsOf 59 = .ok (.iastore, 1) := by decide +kernel
theorem dX9_stepsOf_60 : decode cX9_stepsOf 60 = .ok (.aload_n 0, 1) := by decide +kernel
theorem dX9_stepsOf_61 : decode cX9_stepsOf 61 = .ok (.sipush 32767, 3) := by decide +kernel
theorem dX9_stepsOf_64 : decode cX9_stepsOf 64 = .ok (.invokevirtual 166, 3) := by decide +kernel
theorem dX9_stepsOf_67 : decode cX9_stepsOf 67 = .ok (.ifCond .eq 14, 3) := by decide +kernel
theorem dX9_stepsOf_70 : decode cX9_stepsOf 70 = .ok (.aload_n 0, 1) := by decide +kernel
theorem dX9_stepsOf_71 : decode cX9_stepsOf 71 = .ok (.invokevirtual 313, 3) := by decide +kernel
theorem dX9_stepsOf_74 : decode cX9_stepsOf 74 = .ok (.ifCond .ne 7, 3) := by decide +kernel
theorem dX9_stepsOf_77 : decode cX9_stepsOf 77 = .ok (.iconst 1, 1) := by decide +kernel
theorem dX9_stepsOf_78 : decode cX9_stepsOf 78 = .ok (.goto 4, 3) := by decide +kernel
theorem dX9_stepsOf_81 : decode cX9_stepsOf 81 = .ok (.iconst 0, 1) := by decide +kernel
theorem dX9_stepsOf_82 : decode cX9_stepsOf 82 = .ok (.istore 5, 2) := by decide +kernel
theorem dX9_stepsOf_84 : decode cX9_stepsOf 84 = .ok (.iload 4, 2) := by decide +kernel
theorem dX9_stepsOf_86 : decode cX9_stepsOf 86 = .ok (.iload 5, 2) := by decide +kernel
theorem dX9_stepsOf_88 : decode cX9_stepsOf 88 = .ok (.ifCond .eq 7, 3) := by decide +kernel
theorem dX9_stepsOf_91 : decode cX9_stepsOf 91 = .ok (.iconst 1, 1) := by decide +kernel
theorem dX9_stepsOf_92 : decode cX9_stepsOf 92 = .ok (.goto 4, 3) := by decide +kernel
theorem dX9_stepsOf_95 : decode cX9_stepsOf 95 = .ok (.iconst 0, 1) := by decide +kernel
theorem dX9_stepsOf_96 : decode cX9_stepsOf 96 = .ok (.iadd, 1) := by decide +kernel
theorem dX9_stepsOf_97 : decode cX9_stepsOf 97 = .ok (.istore 4, 2) := by decide +kernel
theorem dX9_stepsOf_99 : decode cX9_stepsOf 99 = .ok (.goto (-85), 3) := by decide +kernel
theorem dX9_stepsOf_102 : decode cX9_stepsOf 102 = .ok (.aload_n 0, 1) := by decide +kernel
theorem dX9_stepsOf_103 : decode cX9_stepsOf 103 = .ok (.getfield 7, 3) := by decide +kernel
theorem dX9_stepsOf_106 : decode cX9_stepsOf 106 = .ok (.bipush 11, 2) := by decide +kernel
theorem dX9_stepsOf_108 : decode cX9_stepsOf 108 = .ok (.iload_n 1, 1) := by decide +kernel
theorem dX9_stepsOf_109 : decode cX9_stepsOf 109 = .ok (.imul, 1) := by decide +kernel
theorem dX9_stepsOf_110 : decode cX9_stepsOf 110 = .ok (.bipush 7, 2) := by decide +kernel
theorem dX9_stepsOf_112 : decode cX9_stepsOf 112 = .ok (.iadd, 1) := by decide +kernel
theorem dX9_stepsOf_113 : decode cX9_stepsOf 113 = .ok (.iload_n 3, 1) := by decide +kernel
theorem dX9_stepsOf_114 : decode cX9_stepsOf 114 = .ok (.iastore, 1) := by decide +kernel
theorem dX9_stepsOf_115 : decode cX9_stepsOf 115 = .ok (.aload_n 0, 1) := by decide +kernel
theorem dX9_stepsOf_116 : decode cX9_stepsOf 116 = .ok (.iconst 0, 1) := by decide +kernel
theorem dX9_stepsOf_117 : decode cX9_stepsOf 117 = .ok (.putfield 72, 3) := by decide +kernel
theorem dX9_stepsOf_120 : decode cX9_stepsOf 120 = .ok (.iload 4, 2) := by decide +kernel
theorem dX9_stepsOf_122 : decode cX9_stepsOf 122 = .ok (.ireturn, 1) := by decide +kernel
set_option maxRecDepth 20000 in
theorem ggX9_play_X9_isOne : GoodIn wsX9_play wsX9_isOne := goodIn_r _ [5, 6, 7, 4, 8, 9, 10, 11, 12, 13, 127, 128, 129, 130, 131, 132, 133, 134, 135, 136, 137, 138, 139, 140, 141, 142, 143, 144, 145, 146, 147, 148, 149, 150, 151, 152, 153, 154, 155, 156, 157, 158, 159, 160, 161, 162] (by decide +kernel) (by decide +kernel)
set_option maxRecDepth 20000 in
theorem gX9_play_X9_isOne : GoodIn wsX9_play (wsV RX9 227 RX9 yX9_isOne wsX9_isOne) := goodIn_app (goodIn_of _ (by decide +kernel)) ggX9_play_X9_isOne
set_option maxRecDepth 20000 in
theorem ggX9_play_X9_isPart : GoodIn wsX9_play wsX9_isPart := goodIn_r _ [16, 6, 7, 4, 8] (by decide +kernel) (by decide +kernel)
set_option maxRecDepth 20000 in
theorem gX9_play_X9_isPart : GoodIn wsX9_play (va_wsS RX9 281 yX9_isPart wsX9_isPart) := goodIn_app (goodIn_of _ (by decide +kernel)) ggX9_play_X9_isPart
set_option maxRecDepth 20000 in
theorem ggX9_play_X9_solve : GoodIn wsX9_play wsX9_solve := goodIn_r _ [20, 21, 22, 23, 24, 4, 25, 26, 27, 28, 29, 30, 31, 32, 33, 34, 35, 36, 37, 38, 39, 40, 41, 42, 43, 44, 45, 46, 47, 48, 6, 7, 8, 9, 10, 11, 12, 13, 49, 50, 51, 52, 53, 54, 55, 56, 57, 58, 59, 60, 61, 62, 63, 64, 65, 66, 67, 68, 69, 70, 71, 72, 73, 74, 75, 76, 77, 78, 79, 80, 81, 82, 83, 84, 85, 86, 87, 88, 89, 90, 91, 92, 93, 94, 95, 96, 97, 98, 99, 100, 101, 102, 103, 104, 105, 106, 107, 108, 109, 127, 128, 129, 130, 131, 132, 133, 134, 135, 136, 137, 138, 139, 140, 141, 142, 143, 144, 145, 146, 147, 148, 149, 150, 151, 152, 153, 154, 155, 156, 157, 158, 159, 160, 161, 162] (by decide +kernel) (by decide +kernel)
set_option maxRecDepth 20000 in
theorem gX9_play_X9_solve : GoodIn wsX9_play (wsV RX9 286 RX9 yX9_solve wsX9_solve) := goodIn_app (goodIn_of _ (by decide +kernel)) ggX9_play_X9_solve
set_option maxRecDepth 20000 in
theorem ggX9_play_X9_keepCosts : GoodIn wsX9_play wsX9_keepCosts := goodIn_r _ [113, 114, 26, 115, 30, 127, 128, 129, 130, 131, 132, 133, 134, 135, 136, 137, 138, 139, 140, 141, 142, 143, 144, 145, 146, 147, 148, 149, 150, 151, 152, 153, 154, 155, 156, 157, 158, 159, 160, 161, 162] (by decide +kernel) (by decide +kernel)
set_option maxRecDepth 20000 in
theorem gX9_play_X9_keepCosts : GoodIn wsX9_play (wsV RX9 316 RX9 yX9_keepCosts wsX9_keepCosts) := goodIn_app (goodIn_of _ (by decide +kernel)) ggX9_play_X9_keepCosts
set_option maxRecDepth 20000 in
theorem ggX9_play_X9_of : GoodIn wsX9_play wsX9_of := goodIn_r _ [12, 13, 127, 128, 129, 130, 131, 132, 133, 134, 135, 136, 137, 138, 139, 140, 141, 142, 143, 144, 145, 146, 147, 148, 149, 150, 151, 152, 153, 154, 155, 156, 157, 158, 159, 160, 161, 162] (by decide +kernel) (by decide +kernel)
set_option maxRecDepth 20000 in
theorem gX9_play_X9_of : GoodIn wsX9_play (wsV RX9 80 RX9 yX9_of wsX9_of) := goodIn_app (goodIn_of _ (by decide +kernel)) ggX9_play_X9_of
set_option maxRecDepth 20000 in
theorem ggX9_play_X9_stepsOf : GoodIn wsX9_play wsX9_stepsOf := goodIn_r _ [119, 13, 21, 9, 10, 11, 4, 12, 120, 121, 122, 6, 7, 8, 22, 23, 24, 25, 26, 27, 28, 29, 30, 31, 32, 33, 34, 35, 36, 37, 38, 39, 40, 41, 42, 43, 44, 45, 46, 47, 48, 49, 50, 51, 52, 53, 54, 55, 56, 57, 58, 59, 60, 61, 62, 63, 64, 65, 66, 67, 68, 69, 70, 71, 72, 73, 74, 75, 76, 77, 78, 79, 80, 81, 82, 83, 84, 85, 86, 87, 88, 89, 90, 91, 92, 93, 94, 95, 96, 97, 98, 99, 100, 101, 102, 103, 104, 105, 106, 107, 108, 109, 123, 124, 125, 126, 115, 114, 127, 128, 129, 130, 131, 132, 133, 134, 135, 136, 137, 138, 139, 140, 141, 142, 143, 144, 145, 146, 147, 148, 149, 150, 151, 152, 153, 154, 155, 156, 157, 158, 159, 160, 161, 162] (by decide +kernel) (by decide +kernel)
set_option maxRecDepth 20000 in
theorem gX9_play_X9_stepsOf : GoodIn wsX9_play (wsV RX9 319 RX9 yX9_stepsOf wsX9_stepsOf) := goodIn_app (goodIn_of _ (by decide +kernel)) ggX9_play_X9_stepsOf
theorem dX9_play_0 : decode cX9_play 0 = .ok (.aload_n 0, 1) := by decide +kernel
theorem dX9_play_1 : decode cX9_play 1 = .ok (.iload_n 1, 1) := by decide +kernel
theorem dX9_play_2 : decode cX9_play 2 = .ok (.invokevirtual 227, 3) := by decide +kernel
theorem dX9_play_5 : decode cX9_play 5 = .ok (.ifCond .ne 5, 3) := by decide +kernel
theorem dX9_play_8 : decode cX9_play 8 = .ok (.iconst (-1), 1) := by decide +kernel
theorem dX9_play_9 : decode cX9_play 9 = .ok (.ireturn, 1) := by decide +kernel
theorem dX9_play_10 : decode cX9_play 10 = .ok (.iload_n 2, 1) := by decide +kernel
theorem dX9_play_11 : decode cX9_play 11 = .ok (.invokestatic 281, 3) := by decide +kernel
theorem dX9_play_14 : decode cX9_play 14 = .ok (.ifCond .ne 6, 3) := by decide +kernel
theorem dX9_play_17 : decode cX9_play 17 = .ok (.bipush (-2), 2) := by decide +kernel
theorem dX9_play_19 : decode cX9_play 19 = .ok (.ireturn, 1) := by decide +kernel
theorem dX9_play_20 : decode cX9_play 20 = .ok (.aload_n 0, 1) := by decide +kernel
theorem dX9_play_21 : decode cX9_play 21 = .ok (.invokevirtual 286, 3) := by decide +kernel
theorem dX9_play_24 : decode cX9_play 24 = .ok (.aload_n 0, 1) := by decide +kernel
theorem dX9_play_25 : decode cX9_play 25 = .ok (.invokevirtual 316, 3) := by decide +kernel
theorem dX9_play_28 : decode cX9_play 28 = .ok (.iload_n 2, 1) := by decide +kernel
theorem dX9_play_29 : decode cX9_play 29 = .ok (.ifCond .ne 7, 3) := by decide +kernel
theorem dX9_play_32 : decode cX9_play 32 = .ok (.iconst (-1), 1) := by decide +kernel
theorem dX9_play_33 : decode cX9_play 33 = .ok (.goto 4, 3) := by decide +kernel
theorem dX9_play_36 : decode cX9_play 36 = .ok (.iconst 1, 1) := by decide +kernel
theorem dX9_play_37 : decode cX9_play 37 = .ok (.istore_n 3, 1) := by decide +kernel
theorem dX9_play_38 : decode cX9_play 38 = .ok (.aload_n 0, 1) := by decide +kernel
theorem dX9_play_39 : decode cX9_play 39 = .ok (.iload_n 1, 1) := by decide +kernel
theorem dX9_play_40 : decode cX9_play 40 = .ok (.bipush 7, 2) := by decide +kernel
theorem dX9_play_42 : decode cX9_play 42 = .ok (.invokevirtual 80, 3) := by decide +kernel
theorem dX9_play_45 : decode cX9_play 45 = .ok (.iload_n 3, 1) := by decide +kernel
theorem dX9_play_46 : decode cX9_play 46 = .ok (.aload_n 0, 1) := by decide +kernel
theorem dX9_play_47 : decode cX9_play 47 = .ok (.iload_n 1, 1) := by decide +kernel
theorem dX9_play_48 : decode cX9_play 48 = .ok (.iload_n 3, 1) := by decide +kernel
theorem dX9_play_49 : decode cX9_play 49 = .ok (.invokevirtual 319, 3) := by decide +kernel
theorem dX9_play_52 : decode cX9_play 52 = .ok (.imul, 1) := by decide +kernel
theorem dX9_play_53 : decode cX9_play 53 = .ok (.iadd, 1) := by decide +kernel
theorem dX9_play_54 : decode cX9_play 54 = .ok (.sipush 1000, 3) := by decide +kernel
theorem dX9_play_57 : decode cX9_play 57 = .ok (.iadd, 1) := by decide +kernel
theorem dX9_play_58 : decode cX9_play 58 = .ok (.ireturn, 1) := by decide +kernel
set_option maxRecDepth 20000 in
theorem ggX9_requiredMany_X9_requiredOnes : GoodIn wsX9_requiredMany wsX9_requiredOnes := goodIn_r _ [5, 6, 7, 8, 4, 9, 10, 11, 12, 13, 14, 15, 16, 17, 18, 19, 20, 21, 22, 23, 24, 25, 26, 27, 28, 29, 30, 31, 32, 33, 34, 35, 36, 37, 38, 39, 40, 41, 42, 43, 44, 45, 46, 47, 48, 49, 50, 51, 52, 53] (by decide +kernel) (by decide +kernel)
set_option maxRecDepth 20000 in
theorem gX9_requiredMany_X9_requiredOnes : GoodIn wsX9_requiredMany (wsV RX9 305 RX9 yX9_requiredOnes wsX9_requiredOnes) := goodIn_app (goodIn_of _ (by decide +kernel)) ggX9_requiredMany_X9_requiredOnes
theorem dX9_requiredMany_0 : decode cX9_requiredMany 0 = .ok (.iconst 0, 1) := by decide +kernel
theorem dX9_requiredMany_1 : decode cX9_requiredMany 1 = .ok (.istore_n 1, 1) := by decide +kernel
theorem dX9_requiredMany_2 : decode cX9_requiredMany 2 = .ok (.iconst 0, 1) := by decide +kernel
theorem dX9_requiredMany_3 : decode cX9_requiredMany 3 = .ok (.istore_n 2, 1) := by decide +kernel
theorem dX9_requiredMany_4 : decode cX9_requiredMany 4 = .ok (.iload_n 2, 1) := by decide +kernel
theorem dX9_requiredMany_5 : decode cX9_requiredMany 5 = .ok (.bipush 14, 2) := by decide +kernel
theorem dX9_requiredMany_7 : decode cX9_requiredMany 7 = .ok (.if_icmp .ge 20, 3) := by decide +kernel
theorem dX9_requiredMany_10 : decode cX9_requiredMany 10 = .ok (.iload_n 1, 1) := by decide +kernel
theorem dX9_requiredMany_11 : decode cX9_requiredMany 11 = .ok (.aload_n 0, 1) := by decide +kernel
theorem dX9_requiredMany_12 : decode cX9_requiredMany 12 = .ok (.invokevirtual 305, 3) := by decide +kernel
theorem dX9_requiredMany_15 : decode cX9_requiredMany 15 = .ok (.iload_n 2, 1) := by decide +kernel
theorem dX9_requiredMany_16 : decode cX9_requiredMany 16 = .ok (.ishr, 1) := by decide +kernel
theorem dX9_requiredMany_17 : decode cX9_requiredMany 17 = .ok (.iconst 1, 1) := by decide +kernel
theorem dX9_requiredMany_18 : decode cX9_requiredMany 18 = .ok (.iand, 1) := by decide +kernel
theorem dX9_requiredMany_19 : decode cX9_requiredMany 19 = .ok (.iadd, 1) := by decide +kernel
theorem dX9_requiredMany_20 : decode cX9_requiredMany 20 = .ok (.istore_n 1, 1) := by decide +kernel
theorem dX9_requiredMany_21 : decode cX9_requiredMany 21 = .ok (.iinc 2 1, 3) := by decide +kernel
theorem dX9_requiredMany_24 : decode cX9_requiredMany 24 = .ok (.goto (-20), 3) := by decide +kernel
theorem dX9_requiredMany_27 : decode cX9_requiredMany 27 = .ok (.iload_n 1, 1) := by decide +kernel
theorem dX9_requiredMany_28 : decode cX9_requiredMany 28 = .ok (.ireturn, 1) := by decide +kernel
set_option maxRecDepth 20000 in
theorem ggX9_count_X9_constraintsThere : GoodIn wsX9_count wsX9_constraintsThere := goodIn_r _ [8, 9, 10, 11, 7, 12, 13, 29, 30, 31, 32, 33, 34, 35, 36, 37, 38, 39, 40, 41, 42, 43, 44, 45, 46, 47, 48, 49, 50, 51, 52, 53, 54, 55, 56, 57, 58, 59, 60, 61, 62, 63, 64] (by decide +kernel) (by decide +kernel)
set_option maxRecDepth 20000 in
theorem gX9_count_X9_constraintsThere : GoodIn wsX9_count (wsV RX9 199 RX9 yX9_constraintsThere wsX9_constraintsThere) := goodIn_app (goodIn_of _ (by decide +kernel)) ggX9_count_X9_constraintsThere
set_option maxRecDepth 20000 in
theorem ggX9_count_X9_requiredMany : GoodIn wsX9_count wsX9_requiredMany := goodIn_r _ [17, 18, 19, 20, 7, 21, 22, 23, 24, 25, 26, 27, 28, 9, 10, 11, 12, 13, 29, 30, 31, 32, 33, 34, 35, 36, 37, 38, 39, 40, 41, 42, 43, 44, 45, 46, 47, 48, 49, 50, 51, 52, 53, 54, 55, 56, 57, 58, 59, 60, 61, 62, 63, 64] (by decide +kernel) (by decide +kernel)
set_option maxRecDepth 20000 in
theorem gX9_count_X9_requiredMany : GoodIn wsX9_count (wsV RX9 322 RX9 yX9_requiredMany wsX9_requiredMany) := goodIn_app (goodIn_of _ (by decide +kernel)) ggX9_count_X9_requiredMany
theorem dX9_count_0 : decode cX9_count 0 = .ok (.iload_n 1, 1) := by decide +kernel
theorem dX9_count_1 : decode cX9_count 1 = .ok (.tableswitch 60 0 4 #[35, 40, 45, 50, 55], 35) := by decide +kernel
theorem dX9_count_36 : decode cX9_count 36 = .ok (.aload_n 0, 1) := by decide +kernel
theorem dX9_count_37 : decode cX9_count 37 = .ok (.invokevirtual 199, 3) := by decide +kernel
theorem dX9_count_40 : decode cX9_count 40 = .ok (.ireturn, 1) := by decide +kernel
theorem dX9_count_41 : decode cX9_count 41 = .ok (.aload_n 0, 1) := by decide +kernel
theorem dX9_count_42 : decode cX9_count 42 = .ok (.getfield 230, 3) := by decide +kernel
theorem dX9_count_45 : decode cX9_count 45 = .ok (.ireturn, 1) := by decide +kernel
theorem dX9_count_46 : decode cX9_count 46 = .ok (.aload_n 0, 1) := by decide +kernel
theorem dX9_count_47 : decode cX9_count 47 = .ok (.getfield 181, 3) := by decide +kernel
theorem dX9_count_50 : decode cX9_count 50 = .ok (.ireturn, 1) := by decide +kernel
theorem dX9_count_51 : decode cX9_count 51 = .ok (.aload_n 0, 1) := by decide +kernel
theorem dX9_count_52 : decode cX9_count 52 = .ok (.getfield 184, 3) := by decide +kernel
theorem dX9_count_55 : decode cX9_count 55 = .ok (.ireturn, 1) := by decide +kernel
theorem dX9_count_56 : decode cX9_count 56 = .ok (.aload_n 0, 1) := by decide +kernel
theorem dX9_count_57 : decode cX9_count 57 = .ok (.invokevirtual 322, 3) := by decide +kernel
theorem dX9_count_60 : decode cX9_count 60 = .ok (.ireturn, 1) := by decide +kernel
theorem dX9_count_61 : decode cX9_count 61 = .ok (.bipush (-2), 2) := by decide +kernel
theorem dX9_count_63 : decode cX9_count 63 = .ok (.ireturn, 1) := by decide +kernel
set_option maxRecDepth 20000 in
theorem ggX9_save_X9_isPart : GoodIn wsX9_save wsX9_isPart := goodIn_r _ [7, 8, 9, 6, 10] (by decide +kernel) (by decide +kernel)
set_option maxRecDepth 20000 in
theorem gX9_save_X9_isPart : GoodIn wsX9_save (va_wsS RX9 281 yX9_isPart wsX9_isPart) := goodIn_app (goodIn_of _ (by decide +kernel)) ggX9_save_X9_isPart
set_option maxRecDepth 20000 in
theorem ggX9_save_X9_constraintsThere : GoodIn wsX9_save wsX9_constraintsThere := goodIn_r _ [14, 15, 16, 17, 6, 18, 2, 19, 20, 21, 22, 23, 24, 25, 26, 27, 28, 29, 30, 31, 32, 33, 34, 35, 36, 37, 38, 39, 40, 41, 42, 43, 44, 45, 46, 47, 48, 49, 50, 51, 52, 53, 54] (by decide +kernel) (by decide +kernel)
set_option maxRecDepth 20000 in
theorem gX9_save_X9_constraintsThere : GoodIn wsX9_save (wsV RX9 199 RX9 yX9_constraintsThere wsX9_constraintsThere) := goodIn_app (goodIn_of _ (by decide +kernel)) ggX9_save_X9_constraintsThere
theorem dX9_save_0 : decode cX9_save 0 = .ok (.iload_n 1, 1) := by decide +kernel
theorem dX9_save_1 : decode cX9_save 1 = .ok (.invokestatic 281, 3) := by decide +kernel
theorem dX9_save_4 : decode cX9_save 4 = .ok (.ifCond .ne 6, 3) := by decide +kernel
theorem dX9_save_7 : decode cX9_save 7 = .ok (.bipush (-2), 2) := by decide +kernel
theorem dX9_save_9 : decode cX9_save 9 = .ok (.ireturn, 1) := by decide +kernel
theorem dX9_save_10 : decode cX9_save 10 = .ok (.iconst 0, 1) := by decide +kernel
theorem dX9_save_11 : decode cX9_save 11 = .ok (.istore_n 2, 1) := by decide +kernel
theorem dX9_save_12 : decode cX9_save 12 = .ok (.iload_n 2, 1) := by decide +kernel
theorem dX9_save_13 : decode cX9_save 13 = .ok (.sipush 154, 3) := by decide +kernel
theorem dX9_save_16 : decode cX9_save 16 = .ok (.if_icmp .ge 27, 3) := by decide +kernel
theorem dX9_save_19 : decode cX9_save 19 = .ok (.aload_n 0, 1) := by decide +kernel
theorem dX9_save_20 : decode cX9_save 20 = .ok (.getfield 13, 3) := by decide +kernel
theorem dX9_save_23 : decode cX9_save 23 = .ok (.sipush 154, 3) := by decide +kernel
theorem dX9_save_26 : decode cX9_save 26 = .ok (.iload_n 1, 1) := by decide +kernel
theorem dX9_save_27 : decode cX9_save 27 = .ok (.imul, 1) := by decide +kernel
theorem dX9_save_28 : decode cX9_save 28 = .ok (.iload_n 2, 1) := by decide +kernel
theorem dX9_save_29 : decode cX9_save 29 = .ok (.iadd, 1) := by decide +kernel
theorem dX9_save_30 : decode cX9_save 30 = .ok (.aload_n 0, 1) := by decide +kernel
theorem dX9_save_31 : decode cX9_save 31 = .ok (.getfield 7, 3) := by decide +kernel
theorem dX9_save_34 : decode cX9_save 34 = .ok (.iload_n 2, 1) := by decide +kernel
theorem dX9_save_35 : decode cX9_save 35 = .ok (.iaload, 1) := by decide +kernel
theorem dX9_save_36 : decode cX9_save 36 = .ok (.iastore, 1) := by decide +kernel
theorem dX9_save_37 : decode cX9_save 37 = .ok (.iinc 2 1, 3) := by decide +kernel
theorem dX9_save_40 : decode cX9_save 40 = .ok (.goto (-28), 3) := by decide +kernel
theorem dX9_save_43 : decode cX9_save 43 = .ok (.aload_n 0, 1) := by decide +kernel
theorem dX9_save_44 : decode cX9_save 44 = .ok (.getfield 16, 3) := by decide +kernel
theorem dX9_save_47 : decode cX9_save 47 = .ok (.iload_n 1, 1) := by decide +kernel
theorem dX9_save_48 : decode cX9_save 48 = .ok (.iconst 1, 1) := by decide +kernel
theorem dX9_save_49 : decode cX9_save 49 = .ok (.bastore, 1) := by decide +kernel
theorem dX9_save_50 : decode cX9_save 50 = .ok (.aload_n 0, 1) := by decide +kernel
theorem dX9_save_51 : decode cX9_save 51 = .ok (.invokevirtual 199, 3) := by decide +kernel
theorem dX9_save_54 : decode cX9_save 54 = .ok (.ireturn, 1) := by decide +kernel
set_option maxRecDepth 20000 in
theorem ggX9_restore_X9_isPart : GoodIn wsX9_restore wsX9_isPart := goodIn_r _ [10, 11, 12, 9, 13] (by decide +kernel) (by decide +kernel)
set_option maxRecDepth 20000 in
theorem gX9_restore_X9_isPart : GoodIn wsX9_restore (va_wsS RX9 281 yX9_isPart wsX9_isPart) := goodIn_app (goodIn_of _ (by decide +kernel)) ggX9_restore_X9_isPart
set_option maxRecDepth 20000 in
theorem ggX9_restore_X9_constraintsThere : GoodIn wsX9_restore wsX9_constraintsThere := goodIn_r _ [17, 18, 19, 20, 9, 21, 2, 22, 23, 24, 25, 26, 27, 28, 29, 30, 31, 32, 33, 34, 35, 36, 37, 38, 39, 40, 41, 42, 43, 44, 45, 46, 47, 48, 49, 50, 51, 52, 53, 54, 55, 56, 57] (by decide +kernel) (by decide +kernel)
set_option maxRecDepth 20000 in
theorem gX9_restore_X9_constraintsThere : GoodIn wsX9_restore (wsV RX9 199 RX9 yX9_constraintsThere wsX9_constraintsThere) := goodIn_app (goodIn_of _ (by decide +kernel)) ggX9_restore_X9_constraintsThere
theorem dX9_restore_0 : decode cX9_restore 0 = .ok (.iload_n 1, 1) := by decide +kernel
theorem dX9_restore_1 : decode cX9_restore 1 = .ok (.invokestatic 281, 3) := by decide +kernel
theorem dX9_restore_4 : decode cX9_restore 4 = .ok (.ifCond .ne 6, 3) := by decide +kernel
theorem dX9_restore_7 : decode cX9_restore 7 = .ok (.bipush (-2), 2) := by decide +kernel
theorem dX9_restore_9 : decode cX9_restore 9 = .ok (.ireturn, 1) := by decide +kernel
theorem dX9_restore_10 : decode cX9_restore 10 = .ok (.aload_n 0, 1) := by decide +kernel
theorem dX9_restore_11 : decode cX9_restore 11 = .ok (.getfield 16, 3) := by decide +kernel
theorem dX9_restore_14 : decode cX9_restore 14 = .ok (.iload_n 1, 1) := by decide +kernel
theorem dX9_restore_15 : decode cX9_restore 15 = .ok (.baload, 1) := by decide +kernel
theorem dX9_restore_16 : decode cX9_restore 16 = .ok (.ifCond .ne 6, 3) := by decide +kernel
theorem dX9_restore_19 : decode cX9_restore 19 = .ok (.bipush (-5), 2) := by decide +kernel
theorem dX9_restore_21 : decode cX9_restore 21 = .ok (.ireturn, 1) := by decide +kernel
theorem dX9_restore_22 : decode cX9_restore 22 = .ok (.iconst 0, 1) := by decide +kernel
theorem dX9_restore_23 : decode cX9_restore 23 = .ok (.istore_n 2, 1) := by decide +kernel
theorem dX9_restore_24 : decode cX9_restore 24 = .ok (.iload_n 2, 1) := by decide +kernel
theorem dX9_restore_25 : decode cX9_restore 25 = .ok (.sipush 154, 3) := by decide +kernel
theorem dX9_restore_28 : decode cX9_restore 28 = .ok (.if_icmp .ge 27, 3) := by decide +kernel
theorem dX9_restore_31 : decode cX9_restore 31 = .ok (.aload_n 0, 1) := by decide +kernel
theorem dX9_restore_32 : decode cX9_restore 32 = .ok (.getfield 7, 3) := by decide +kernel
theorem dX9_restore_35 : decode cX9_restore 35 = .ok (.iload_n 2, 1) := by decide +kernel
theorem dX9_restore_36 : decode cX9_restore 36 = .ok (.aload_n 0, 1) := by decide +kernel
theorem dX9_restore_37 : decode cX9_restore 37 = .ok (.getfield 13, 3) := by decide +kernel
theorem dX9_restore_40 : decode cX9_restore 40 = .ok (.sipush 154, 3) := by decide +kernel
theorem dX9_restore_43 : decode cX9_restore 43 = .ok (.iload_n 1, 1) := by decide +kernel
theorem dX9_restore_44 : decode cX9_restore 44 = .ok (.imul, 1) := by decide +kernel
theorem dX9_restore_45 : decode cX9_restore 45 = .ok (.iload_n 2, 1) := by decide +kernel
theorem dX9_restore_46 : decode cX9_restore 46 = .ok (.iadd, 1) := by decide +kernel
theorem dX9_restore_47 : decode cX9_restore 47 = .ok (.iaload, 1) := by decide +kernel
theorem dX9_restore_48 : decode cX9_restore 48 = .ok (.iastore, 1) := by decide +kernel
theorem dX9_restore_49 : decode cX9_restore 49 = .ok (.iinc 2 1, 3) := by decide +kernel
theorem dX9_restore_52 : decode cX9_restore 52 = .ok (.goto (-28), 3) := by decide +kernel
theorem dX9_restore_55 : decode cX9_restore 55 = .ok (.aload_n 0, 1) := by decide +kernel
theorem dX9_restore_56 : decode cX9_restore 56 = .ok (.iconst 0, 1) := by decide +kernel
theorem dX9_restore_57 : decode cX9_restore 57 = .ok (.putfield 181, 3) := by decide +kernel
theorem dX9_restore_60 : decode cX9_restore 60 = .ok (.aload_n 0, 1) := by decide +kernel
theorem dX9_restore_61 : decode cX9_restore 61 = .ok (.iconst 0, 1) := by decide +kernel
theorem dX9_restore_62 : decode cX9_restore 62 = .ok (.putfield 184, 3) := by decide +kernel
theorem dX9_restore_65 : decode cX9_restore 65 = .ok (.aload_n 0, 1) := by decide +kernel
theorem dX9_restore_66 : decode cX9_restore 66 = .ok (.iconst 0, 1) := by decide +kernel
theorem dX9_restore_67 : decode cX9_restore 67 = .ok (.putfield 72, 3) := by decide +kernel
theorem dX9_restore_70 : decode cX9_restore 70 = .ok (.aload_n 0, 1) := by decide +kernel
theorem dX9_restore_71 : decode cX9_restore 71 = .ok (.invokevirtual 199, 3) := by decide +kernel
theorem dX9_restore_74 : decode cX9_restore 74 = .ok (.ireturn, 1) := by decide +kernel
