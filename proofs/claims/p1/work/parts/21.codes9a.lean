theorem dX9_in_0 : decode cX9_in 0 = .ok (.iload_n 0, 1) := by decide +kernel
theorem dX9_in_1 : decode cX9_in 1 = .ok (.iload_n 1, 1) := by decide +kernel
theorem dX9_in_2 : decode cX9_in 2 = .ok (.if_icmp .lt 12, 3) := by decide +kernel
theorem dX9_in_5 : decode cX9_in 5 = .ok (.iload_n 0, 1) := by decide +kernel
theorem dX9_in_6 : decode cX9_in 6 = .ok (.iload_n 2, 1) := by decide +kernel
theorem dX9_in_7 : decode cX9_in 7 = .ok (.if_icmp .gt 7, 3) := by decide +kernel
theorem dX9_in_10 : decode cX9_in 10 = .ok (.iconst 1, 1) := by decide +kernel
theorem dX9_in_11 : decode cX9_in 11 = .ok (.goto 4, 3) := by decide +kernel
theorem dX9_in_14 : decode cX9_in 14 = .ok (.iconst 0, 1) := by decide +kernel
theorem dX9_in_15 : decode cX9_in 15 = .ok (.ireturn, 1) := by decide +kernel
theorem dX9_of_0 : decode cX9_of 0 = .ok (.aload_n 0, 1) := by decide +kernel
theorem dX9_of_1 : decode cX9_of 1 = .ok (.getfield 7, 3) := by decide +kernel
theorem dX9_of_4 : decode cX9_of 4 = .ok (.bipush 11, 2) := by decide +kernel
theorem dX9_of_6 : decode cX9_of 6 = .ok (.iload_n 1, 1) := by decide +kernel
theorem dX9_of_7 : decode cX9_of 7 = .ok (.imul, 1) := by decide +kernel
theorem dX9_of_8 : decode cX9_of 8 = .ok (.iload_n 2, 1) := by decide +kernel
theorem dX9_of_9 : decode cX9_of 9 = .ok (.iadd, 1) := by decide +kernel
theorem dX9_of_10 : decode cX9_of 10 = .ok (.iaload, 1) := by decide +kernel
theorem dX9_of_11 : decode cX9_of 11 = .ok (.ireturn, 1) := by decide +kernel
set_option maxRecDepth 20000 in
theorem ggX9_isThere_X9_in : GoodIn wsX9_isThere wsX9_in := goodIn_r _ [4] (by decide +kernel) (by decide +kernel)
set_option maxRecDepth 20000 in
theorem gX9_isThere_X9_in : GoodIn wsX9_isThere (va_wsS RX9 76 yX9_in wsX9_in) := goodIn_app (goodIn_of _ (by decide +kernel)) ggX9_isThere_X9_in
set_option maxRecDepth 20000 in
theorem ggX9_isThere_X9_of : GoodIn wsX9_isThere wsX9_of := goodIn_r _ [8, 9, 10, 11, 12, 13, 14, 15, 16, 17, 18, 19, 20, 21, 22, 23, 24, 25, 26, 27, 28, 29, 30, 31, 32, 33, 34, 35, 36, 37, 38, 39, 40, 41, 42, 43, 44, 45] (by decide +kernel) (by decide +kernel)
set_option maxRecDepth 20000 in
theorem gX9_isThere_X9_of : GoodIn wsX9_isThere (wsV RX9 80 RX9 yX9_of wsX9_of) := goodIn_app (goodIn_of _ (by decide +kernel)) ggX9_isThere_X9_of
theorem dX9_isThere_0 : decode cX9_isThere 0 = .ok (.iload_n 1, 1) := by decide +kernel
theorem dX9_isThere_1 : decode cX9_isThere 1 = .ok (.iconst 0, 1) := by decide +kernel
theorem dX9_isThere_2 : decode cX9_isThere 2 = .ok (.bipush 14, 2) := by decide +kernel
theorem dX9_isThere_4 : decode cX9_isThere 4 = .ok (.invokestatic 76, 3) := by decide +kernel
theorem dX9_isThere_7 : decode cX9_isThere 7 = .ok (.ifCond .eq 18, 3) := by decide +kernel
theorem dX9_isThere_10 : decode cX9_isThere 10 = .ok (.aload_n 0, 1) := by decide +kernel
theorem dX9_isThere_11 : decode cX9_isThere 11 = .ok (.iload_n 1, 1) := by decide +kernel
theorem dX9_isThere_12 : decode cX9_isThere 12 = .ok (.bipush 10, 2) := by decide +kernel
theorem dX9_isThere_14 : decode cX9_isThere 14 = .ok (.invokevirtual 80, 3) := by decide +kernel
theorem dX9_isThere_17 : decode cX9_isThere 17 = .ok (.iconst 1, 1) := by decide +kernel
theorem dX9_isThere_18 : decode cX9_isThere 18 = .ok (.if_icmp .ne 7, 3) := by decide +kernel
theorem dX9_isThere_21 : decode cX9_isThere 21 = .ok (.iconst 1, 1) := by decide +kernel
theorem dX9_isThere_22 : decode cX9_isThere 22 = .ok (.goto 4, 3) := by decide +kernel
theorem dX9_isThere_25 : decode cX9_isThere 25 = .ok (.iconst 0, 1) := by decide +kernel
theorem dX9_isThere_26 : decode cX9_isThere 26 = .ok (.ireturn, 1) := by decide +kernel
set_option maxRecDepth 20000 in
theorem ggX9_isOne_X9_in : GoodIn wsX9_isOne wsX9_in := goodIn_r _ [4] (by decide +kernel) (by decide +kernel)
set_option maxRecDepth 20000 in
theorem gX9_isOne_X9_in : GoodIn wsX9_isOne (va_wsS RX9 76 yX9_in wsX9_in) := goodIn_app (goodIn_of _ (by decide +kernel)) ggX9_isOne_X9_in
set_option maxRecDepth 20000 in
theorem ggX9_isOne_X9_of : GoodIn wsX9_isOne wsX9_of := goodIn_r _ [8, 9, 10, 11, 12, 13, 14, 15, 16, 17, 18, 19, 20, 21, 22, 23, 24, 25, 26, 27, 28, 29, 30, 31, 32, 33, 34, 35, 36, 37, 38, 39, 40, 41, 42, 43, 44, 45] (by decide +kernel) (by decide +kernel)
set_option maxRecDepth 20000 in
theorem gX9_isOne_X9_of : GoodIn wsX9_isOne (wsV RX9 80 RX9 yX9_of wsX9_of) := goodIn_app (goodIn_of _ (by decide +kernel)) ggX9_isOne_X9_of
theorem dX9_isOne_0 : decode cX9_isOne 0 = .ok (.iload_n 1, 1) := by decide +kernel
theorem dX9_isOne_1 : decode cX9_isOne 1 = .ok (.iconst 0, 1) := by decide +kernel
theorem dX9_isOne_2 : decode cX9_isOne 2 = .ok (.bipush 13, 2) := by decide +kernel
theorem dX9_isOne_4 : decode cX9_isOne 4 = .ok (.invokestatic 76, 3) := by decide +kernel
theorem dX9_isOne_7 : decode cX9_isOne 7 = .ok (.ifCond .eq 18, 3) := by decide +kernel
theorem dX9_isOne_10 : decode cX9_isOne 10 = .ok (.aload_n 0, 1) := by decide +kernel
theorem dX9_isOne_11 : decode cX9_isOne 11 = .ok (.iload_n 1, 1) := by decide +kernel
theorem dX9_isOne_12 : decode cX9_isOne 12 = .ok (.bipush 10, 2) := by decide +kernel
theorem dX9_isOne_14 : decode cX9_isOne 14 = .ok (.invokevirtual 80, 3) := by decide +kernel
theorem dX9_isOne_17 : decode cX9_isOne 17 = .ok (.iconst 1, 1) := by decide +kernel
theorem dX9_isOne_18 : decode cX9_isOne 18 = .ok (.if_icmp .ne 7, 3) := by decide +kernel
theorem dX9_isOne_21 : decode cX9_isOne 21 = .ok (.iconst 1, 1) := by decide +kernel
theorem dX9_isOne_22 : decode cX9_isOne 22 = .ok (.goto 4, 3) := by decide +kernel
theorem dX9_isOne_25 : decode cX9_isOne 25 = .ok (.iconst 0, 1) := by decide +kernel
theorem dX9_isOne_26 : decode cX9_isOne 26 = .ok (.ireturn, 1) := by decide +kernel
set_option maxRecDepth 20000 in
theorem ggX9_isVariable_X9_in : GoodIn wsX9_isVariable wsX9_in := goodIn_r _ [4] (by decide +kernel) (by decide +kernel)
set_option maxRecDepth 20000 in
theorem gX9_isVariable_X9_in : GoodIn wsX9_isVariable (va_wsS RX9 76 yX9_in wsX9_in) := goodIn_app (goodIn_of _ (by decide +kernel)) ggX9_isVariable_X9_in
theorem dX9_isVariable_0 : decode cX9_isVariable 0 = .ok (.iload_n 0, 1) := by decide +kernel
theorem dX9_isVariable_1 : decode cX9_isVariable 1 = .ok (.iconst 0, 1) := by decide +kernel
theorem dX9_isVariable_2 : decode cX9_isVariable 2 = .ok (.iconst 5, 1) := by decide +kernel
theorem dX9_isVariable_3 : decode cX9_isVariable 3 = .ok (.invokestatic 76, 3) := by decide +kernel
theorem dX9_isVariable_6 : decode cX9_isVariable 6 = .ok (.ireturn, 1) := by decide +kernel
set_option maxRecDepth 20000 in
theorem ggX9_isPart_X9_in : GoodIn wsX9_isPart wsX9_in := goodIn_r _ [4] (by decide +kernel) (by decide +kernel)
set_option maxRecDepth 20000 in
theorem gX9_isPart_X9_in : GoodIn wsX9_isPart (va_wsS RX9 76 yX9_in wsX9_in) := goodIn_app (goodIn_of _ (by decide +kernel)) ggX9_isPart_X9_in
theorem dX9_isPart_0 : decode cX9_isPart 0 = .ok (.iload_n 0, 1) := by decide +kernel
theorem dX9_isPart_1 : decode cX9_isPart 1 = .ok (.iconst 0, 1) := by decide +kernel
theorem dX9_isPart_2 : decode cX9_isPart 2 = .ok (.iconst 1, 1) := by decide +kernel
theorem dX9_isPart_3 : decode cX9_isPart 3 = .ok (.invokestatic 76, 3) := by decide +kernel
theorem dX9_isPart_6 : decode cX9_isPart 6 = .ok (.ireturn, 1) := by decide +kernel
set_option maxRecDepth 20000 in
theorem ggX9_isConstant_X9_in : GoodIn wsX9_isConstant wsX9_in := goodIn_r _ [4] (by decide +kernel) (by decide +kernel)
set_option maxRecDepth 20000 in
theorem gX9_isConstant_X9_in : GoodIn wsX9_isConstant (va_wsS RX9 76 yX9_in wsX9_in) := goodIn_app (goodIn_of _ (by decide +kernel)) ggX9_isConstant_X9_in
theorem dX9_isConstant_0 : decode cX9_isConstant 0 = .ok (.iload_n 0, 1) := by decide +kernel
theorem dX9_isConstant_1 : decode cX9_isConstant 1 = .ok (.sipush (-200), 3) := by decide +kernel
theorem dX9_isConstant_4 : decode cX9_isConstant 4 = .ok (.sipush 200, 3) := by decide +kernel
theorem dX9_isConstant_7 : decode cX9_isConstant 7 = .ok (.invokestatic 76, 3) := by decide +kernel
theorem dX9_isConstant_10 : decode cX9_isConstant 10 = .ok (.ireturn, 1) := by decide +kernel
set_option maxRecDepth 20000 in
theorem ggX9_isStrength_X9_in : GoodIn wsX9_isStrength wsX9_in := goodIn_r _ [4] (by decide +kernel) (by decide +kernel)
set_option maxRecDepth 20000 in
theorem gX9_isStrength_X9_in : GoodIn wsX9_isStrength (va_wsS RX9 76 yX9_in wsX9_in) := goodIn_app (goodIn_of _ (by decide +kernel)) ggX9_isStrength_X9_in
theorem dX9_isStrength_0 : decode cX9_isStrength 0 = .ok (.iload_n 0, 1) := by decide +kernel
theorem dX9_isStrength_1 : decode cX9_isStrength 1 = .ok (.iconst 0, 1) := by decide +kernel
theorem dX9_isStrength_2 : decode cX9_isStrength 2 = .ok (.iconst 3, 1) := by decide +kernel
theorem dX9_isStrength_3 : decode cX9_isStrength 3 = .ok (.invokestatic 76, 3) := by decide +kernel
theorem dX9_isStrength_6 : decode cX9_isStrength 6 = .ok (.ifCond .eq 16, 3) := by decide +kernel
theorem dX9_isStrength_9 : decode cX9_isStrength 9 = .ok (.iload_n 1, 1) := by decide +kernel
theorem dX9_isStrength_10 : decode cX9_isStrength 10 = .ok (.iconst 1, 1) := by decide +kernel
theorem dX9_isStrength_11 : decode cX9_isStrength 11 = .ok (.iconst 5, 1) := by decide +kernel
theorem dX9_isStrength_12 : decode cX9_isStrength 12 = .ok (.invokestatic 76, 3) := by decide +kernel
theorem dX9_isStrength_15 : decode cX9_isStrength 15 = .ok (.ifCond .eq 7, 3) := by decide +kernel
theorem dX9_isStrength_18 : decode cX9_isStrength 18 = .ok (.iconst 1, 1) := by decide +kernel
theorem dX9_isStrength_19 : decode cX9_isStrength 19 = .ok (.goto 4, 3) := by decide +kernel
theorem dX9_isStrength_22 : decode cX9_isStrength 22 = .ok (.iconst 0, 1) := by decide +kernel
theorem dX9_isStrength_23 : decode cX9_isStrength 23 = .ok (.ireturn, 1) := by decide +kernel
theorem dX9_isAnything_0 : decode cX9_isAnything 0 = .ok (.iconst 0, 1) := by decide +kernel
theorem dX9_isAnything_1 : decode cX9_isAnything 1 = .ok (.istore_n 1, 1) := by decide +kernel
theorem dX9_isAnything_2 : decode cX9_isAnything 2 = .ok (.iconst 0, 1) := by decide +kernel
theorem dX9_isAnything_3 : decode cX9_isAnything 3 = .ok (.istore_n 2, 1) := by decide +kernel
theorem dX9_isAnything_4 : decode cX9_isAnything 4 = .ok (.iload_n 2, 1) := by decide +kernel
theorem dX9_isAnything_5 : decode cX9_isAnything 5 = .ok (.bipush 6, 2) := by decide +kernel
theorem dX9_isAnything_7 : decode cX9_isAnything 7 = .ok (.if_icmp .ge 25, 3) := by decide +kernel
theorem dX9_isAnything_10 : decode cX9_isAnything 10 = .ok (.iload_n 1, 1) := by decide +kernel
theorem dX9_isAnything_11 : decode cX9_isAnything 11 = .ok (.ifCond .ne 9, 3) := by decide +kernel
theorem dX9_isAnything_14 : decode cX9_isAnything 14 = .ok (.aload_n 0, 1) := by decide +kernel
theorem dX9_isAnything_15 : decode cX9_isAnything 15 = .ok (.iload_n 2, 1) := by decide +kernel
theorem dX9_isAnything_16 : decode cX9_isAnything 16 = .ok (.iaload, 1) := by decide +kernel
theorem dX9_isAnything_17 : decode cX9_isAnything 17 = .ok (.ifCond .eq 7, 3) := by decide +kernel
theorem dX9_isAnything_20 : decode cX9_isAnything 20 = .ok (.iconst 1, 1) := by decide +kernel
theorem dX9_isAnything_21 : decode cX9_isAnything 21 = .ok (.goto 4, 3) := by decide +kernel
theorem dX9_isAnything_24 : decode cX9_isAnything 24 = .ok (.iconst 0, 1) := by decide +kernel
theorem dX9_isAnything_25 : decode cX9_isAnything 25 = .ok (.istore_n 1, 1) := by decide +kernel
theorem dX9_isAnything_26 : decode cX9_isAnything 26 = .ok (.iinc 2 1, 3) := by decide +kernel
theorem dX9_isAnything_29 : decode cX9_isAnything 29 = .ok (.goto (-25), 3) := by decide +kernel
theorem dX9_isAnything_32 : decode cX9_isAnything 32 = .ok (.iload_n 1, 1) := by decide +kernel
theorem dX9_isAnything_33 : decode cX9_isAnything 33 = .ok (.ireturn, 1) := by decide +kernel
set_option maxRecDepth 20000 in
theorem ggX9_constraintsThere_X9_of : GoodIn wsX9_constraintsThere wsX9_of := goodIn_r _ [5, 6, 7, 8, 9, 10, 11, 12, 13, 14, 15, 16, 17, 18, 19, 20, 21, 22, 23, 24, 25, 26, 27, 28, 29, 30, 31, 32, 33, 34, 35, 36, 37, 38, 39, 40, 41, 42] (by decide +kernel) (by decide +kernel)
set_option maxRecDepth 20000 in
theorem gX9_constraintsThere_X9_of : GoodIn wsX9_constraintsThere (wsV RX9 80 RX9 yX9_of wsX9_of) := goodIn_app (goodIn_of _ (by decide +kernel)) ggX9_constraintsThere_X9_of
theorem dX9_constraintsThere_0 : decode cX9_constraintsThere 0 = .ok (.iconst 0, 1) := by decide +kernel
theorem dX9_constraintsThere_1 : decode cX9_constraintsThere 1 = .ok (.istore_n 1, 1) := by decide +kernel
theorem dX9_constraintsThere_2 : decode cX9_constraintsThere 2 = .ok (.iconst 0, 1) := by decide +kernel
theorem dX9_constraintsThere_3 : decode cX9_constraintsThere 3 = .ok (.istore_n 2, 1) := by decide +kernel
theorem dX9_constraintsThere_4 : decode cX9_constraintsThere 4 = .ok (.iload_n 2, 1) := by decide +kernel
theorem dX9_constraintsThere_5 : decode cX9_constraintsThere 5 = .ok (.bipush 14, 2) := by decide +kernel
theorem dX9_constraintsThere_7 : decode cX9_constraintsThere 7 = .ok (.if_icmp .ge 19, 3) := by decide +kernel
theorem dX9_constraintsThere_10 : decode cX9_constraintsThere 10 = .ok (.iload_n 1, 1) := by decide +kernel
theorem dX9_constraintsThere_11 : decode cX9_constraintsThere 11 = .ok (.aload_n 0, 1) := by decide +kernel
theorem dX9_constraintsThere_12 : decode cX9_constraintsThere 12 = .ok (.iload_n 2, 1) := by decide +kernel
theorem dX9_constraintsThere_13 : decode cX9_constraintsThere 13 = .ok (.bipush 10, 2) := by decide +kernel
theorem dX9_constraintsThere_15 : decode cX9_constraintsThere 15 = .ok (.invokevirtual 80, 3) := by decide +kernel
theorem dX9_constraintsThere_18 : decode cX9_constraintsThere 18 = .ok (.iadd, 1) := by decide +kernel
theorem dX9_constraintsThere_19 : decode cX9_constraintsThere 19 = .ok (.istore_n 1, 1) := by decide +kernel
theorem dX9_constraintsThere_20 : decode cX9_constraintsThere 20 = .ok (.iinc 2 1, 3) := by decide +kernel
theorem dX9_constraintsThere_23 : decode cX9_constraintsThere 23 = .ok (.goto (-19), 3) := by decide +kernel
theorem dX9_constraintsThere_26 : decode cX9_constraintsThere 26 = .ok (.iload_n 1, 1) := by decide +kernel
theorem dX9_constraintsThere_27 : decode cX9_constraintsThere 27 = .ok (.ireturn, 1) := by decide +kernel
theorem dX9_ahead_0 : decode cX9_ahead 0 = .ok (.bipush 12, 2) := by decide +kernel
theorem dX9_ahead_2 : decode cX9_ahead 2 = .ok (.iconst 2, 1) := by decide +kernel
theorem dX9_ahead_3 : decode cX9_ahead 3 = .ok (.iload_n 0, 1) := by decide +kernel
theorem dX9_ahead_4 : decode cX9_ahead 4 = .ok (.imul, 1) := by decide +kernel
theorem dX9_ahead_5 : decode cX9_ahead 5 = .ok (.iadd, 1) := by decide +kernel
theorem dX9_ahead_6 : decode cX9_ahead 6 = .ok (.ireturn, 1) := by decide +kernel
theorem dX9_lack_0 : decode cX9_lack 0 = .ok (.bipush 13, 2) := by decide +kernel
theorem dX9_lack_2 : decode cX9_lack 2 = .ok (.iconst 2, 1) := by decide +kernel
theorem dX9_lack_3 : decode cX9_lack 3 = .ok (.iload_n 0, 1) := by decide +kernel
theorem dX9_lack_4 : decode cX9_lack 4 = .ok (.imul, 1) := by decide +kernel
theorem dX9_lack_5 : decode cX9_lack 5 = .ok (.iadd, 1) := by decide +kernel
theorem dX9_lack_6 : decode cX9_lack 6 = .ok (.ireturn, 1) := by decide +kernel
theorem dX9_beginRows_0 : decode cX9_beginRows 0 = .ok (.iconst 0, 1) := by decide +kernel
theorem dX9_beginRows_1 : decode cX9_beginRows 1 = .ok (.istore_n 1, 1) := by decide +kernel
theorem dX9_beginRows_2 : decode cX9_beginRows 2 = .ok (.iload_n 1, 1) := by decide +kernel
theorem dX9_beginRows_3 : decode cX9_beginRows 3 = .ok (.sipush 814, 3) := by decide +kernel
theorem dX9_beginRows_6 : decode cX9_beginRows 6 = .ok (.if_icmp .ge 16, 3) := by decide +kernel
theorem dX9_beginRows_9 : decode cX9_beginRows 9 = .ok (.aload_n 0, 1) := by decide +kernel
theorem dX9_beginRows_10 : decode cX9_beginRows 10 = .ok (.getfield 35, 3) := by decide +kernel
theorem dX9_beginRows_13 : decode cX9_beginRows 13 = .ok (.iload_n 1, 1) := by decide +kernel
theorem dX9_beginRows_14 : decode cX9_beginRows 14 = .ok (.lconst 0, 1) := by decide +kernel
theorem dX9_beginRows_15 : decode cX9_beginRows 15 = .ok (.lastore, 1) := by decide +kernel
theorem dX9_beginRows_16 : decode cX9_beginRows 16 = .ok (.iinc 1 1, 3) := by decide +kernel
theorem dX9_beginRows_19 : decode cX9_beginRows 19 = .ok (.goto (-17), 3) := by decide +kernel
theorem dX9_beginRows_22 : decode cX9_beginRows 22 = .ok (.iconst 0, 1) := by decide +kernel
theorem dX9_beginRows_23 : decode cX9_beginRows 23 = .ok (.istore_n 1, 1) := by decide +kernel
theorem dX9_beginRows_24 : decode cX9_beginRows 24 = .ok (.iload_n 1, 1) := by decide +kernel
theorem dX9_beginRows_25 : decode cX9_beginRows 25 = .ok (.bipush 42, 2) := by decide +kernel
theorem dX9_beginRows_27 : decode cX9_beginRows 27 = .ok (.if_icmp .ge 16, 3) := by decide +kernel
theorem dX9_beginRows_30 : decode cX9_beginRows 30 = .ok (.aload_n 0, 1) := by decide +kernel
theorem dX9_beginRows_31 : decode cX9_beginRows 31 = .ok (.getfield 45, 3) := by decide +kernel
theorem dX9_beginRows_34 : decode cX9_beginRows 34 = .ok (.iload_n 1, 1) := by decide +kernel
theorem dX9_beginRows_35 : decode cX9_beginRows 35 = .ok (.iconst 0, 1) := by decide +kernel
theorem dX9_beginRows_36 : decode cX9_beginRows 36 = .ok (.bastore, 1) := by decide +kernel
theorem dX9_beginRows_37 : decode cX9_beginRows 37 = .ok (.iinc 1 1, 3) := by decide +kernel
theorem dX9_beginRows_40 : decode cX9_beginRows 40 = .ok (.goto (-16), 3) := by decide +kernel
theorem dX9_beginRows_43 : decode cX9_beginRows 43 = .ok (.aload_n 0, 1) := by decide +kernel
theorem dX9_beginRows_44 : decode cX9_beginRows 44 = .ok (.iconst 0, 1) := by decide +kernel
theorem dX9_beginRows_45 : decode cX9_beginRows 45 = .ok (.putfield 84, 3) := by decide +kernel
theorem dX9_beginRows_48 : decode cX9_beginRows 48 = .ok (.aload_n 0, 1) := by decide +kernel
theorem dX9_beginRows_49 : decode cX9_beginRows 49 = .ok (.bipush 6, 2) := by decide +kernel
theorem dX9_beginRows_51 : decode cX9_beginRows 51 = .ok (.putfield 88, 3) := by decide +kernel
theorem dX9_beginRows_54 : decode cX9_beginRows 54 = .ok (.aload_n 0, 1) := by decide +kernel
theorem dX9_beginRows_55 : decode cX9_beginRows 55 = .ok (.lconst 1, 1) := by decide +kernel
theorem dX9_beginRows_56 : decode cX9_beginRows 56 = .ok (.putfield 91, 3) := by decide +kernel
theorem dX9_beginRows_59 : decode cX9_beginRows 59 = .ok (.iconst 0, 1) := by decide +kernel
theorem dX9_beginRows_60 : decode cX9_beginRows 60 = .ok (.istore_n 1, 1) := by decide +kernel
theorem dX9_beginRows_61 : decode cX9_beginRows 61 = .ok (.iload_n 1, 1) := by decide +kernel
theorem dX9_beginRows_62 : decode cX9_beginRows 62 = .ok (.bipush 6, 2) := by decide +kernel
theorem dX9_beginRows_64 : decode cX9_beginRows 64 = .ok (.if_icmp .ge 75, 3) := by decide +kernel
theorem dX9_beginRows_67 : decode cX9_beginRows 67 = .ok (.aload_n 0, 1) := by decide +kernel
theorem dX9_beginRows_68 : decode cX9_beginRows 68 = .ok (.getfield 42, 3) := by decide +kernel
theorem dX9_beginRows_71 : decode cX9_beginRows 71 = .ok (.iload_n 1, 1) := by decide +kernel
theorem dX9_beginRows_72 : decode cX9_beginRows 72 = .ok (.iconst 1, 1) := by decide +kernel
theorem dX9_beginRows_73 : decode cX9_beginRows 73 = .ok (.iadd, 1) := by decide +kernel
theorem dX9_beginRows_74 : decode cX9_beginRows 74 = .ok (.iload_n 1, 1) := by decide +kernel
theorem dX9_beginRows_75 : decode cX9_beginRows 75 = .ok (.iastore, 1) := by decide +kernel
theorem dX9_beginRows_76 : decode cX9_beginRows 76 = .ok (.aload_n 0, 1) := by decide +kernel
theorem dX9_beginRows_77 : decode cX9_beginRows 77 = .ok (.getfield 39, 3) := by decide +kernel
theorem dX9_beginRows_80 : decode cX9_beginRows 80 = .ok (.aload_n 0, 1) := by decide +kernel
theorem dX9_beginRows_81 : decode cX9_beginRows 81 = .ok (.getfield 84, 3) := by decide +kernel
theorem dX9_beginRows_84 : decode cX9_beginRows 84 = .ok (.bipush 6, 2) := by decide +kernel
theorem dX9_beginRows_86 : decode cX9_beginRows 86 = .ok (.iload_n 1, 1) := by decide +kernel
theorem dX9_beginRows_87 : decode cX9_beginRows 87 = .ok (.iadd, 1) := by decide +kernel
theorem dX9_beginRows_88 : decode cX9_beginRows 88 = .ok (.iastore, 1) := by decide +kernel
theorem dX9_beginRows_89 : decode cX9_beginRows 89 = .ok (.aload_n 0, 1) := by decide +kernel
theorem dX9_beginRows_90 : decode cX9_beginRows 90 = .ok (.getfield 35, 3) := by decide +kernel
theorem dX9_beginRows_93 : decode cX9_beginRows 93 = .ok (.bipush 22, 2) := by decide +kernel
theorem dX9_beginRows_95 : decode cX9_beginRows 95 = .ok (.aload_n 0, 1) := by decide +kernel
theorem dX9_beginRows_96 : decode cX9_beginRows 96 = .ok (.getfield 84, 3) := by decide +kernel
theorem dX9_beginRows_99 : decode cX9_beginRows 99 = .ok (.imul, 1) := by decide +kernel
theorem dX9_beginRows_100 : decode cX9_beginRows 100 = .ok (.ldc2_w 95, 3) := by decide +kernel
theorem dX9_beginRows_103 : decode cX9_beginRows 103 = .ok (.lastore, 1) := by decide +kernel
theorem dX9_beginRows_104 : decode cX9_beginRows 104 = .ok (.aload_n 0, 1) := by decide +kernel
theorem dX9_beginRows_105 : decode cX9_beginRows 105 = .ok (.getfield 35, 3) := by decide +kernel
theorem dX9_beginRows_108 : decode cX9_beginRows 108 = .ok (.bipush 22, 2) := by decide +kernel
theorem dX9_beginRows_110 : decode cX9_beginRows 110 = .ok (.aload_n 0, 1) := by decide +kernel
theorem dX9_beginRows_111 : decode cX9_beginRows 111 = .ok (.getfield 84, 3) := by decide +kernel
theorem dX9_beginRows_114 : decode cX9_beginRows 114 = .ok (.imul, 1) := by decide +kernel
theorem dX9_beginRows_115 : decode cX9_beginRows 115 = .ok (.iload_n 1, 1) := by decide +kernel
theorem dX9_beginRows_116 : decode cX9_beginRows 116 = .ok (.iadd, 1) := by decide +kernel
theorem dX9_beginRows_117 : decode cX9_beginRows 117 = .ok (.iconst 1, 1) := by decide +kernel
theorem dX9_beginRows_118 : decode cX9_beginRows 118 = .ok (.iadd, 1) := by decide +kernel
theorem dX9_beginRows_119 : decode cX9_beginRows 119 = .ok (.ldc2_w 97, 3) := by decide +kernel
theorem dX9_beginRows_122 : decode cX9_beginRows 122 = .ok (.lastore, 1) := by decide +kernel
theorem dX9_beginRows_123 : decode cX9_beginRows 123 = .ok (.aload_n 0, 1) := by decide +kernel
theorem dX9_beginRows_124 : decode cX9_beginRows 124 = .ok (.dup, 1) := by decide +kernel
theorem dX9_beginRows_125 : decode cX9_beginRows 125 = .ok (.getfield 84, 3) := by decide +kernel
theorem dX9_beginRows_128 : decode cX9_beginRows 128 = .ok (.iconst 1, 1) := by decide +kernel
theorem dX9_beginRows_129 : decode cX9_beginRows 129 = .ok (.iadd, 1) := by decide +kernel
theorem dX9_beginRows_130 : decode cX9_beginRows 130 = .ok (.putfield 84, 3) := by decide +kernel
theorem dX9_beginRows_133 : decode cX9_beginRows 133 = .ok (.iinc 1 1, 3) := by decide +kernel
theorem dX9_beginRows_136 : decode cX9_beginRows 136 = .ok (.goto (-75), 3) := by decide +kernel
theorem dX9_beginRows_139 : decode cX9_beginRows 139 = .ok (.return_, 1) := by decide +kernel
set_option maxRecDepth 20000 in
theorem ggX9_addRow_X9_of : GoodIn wsX9_addRow wsX9_of := goodIn_r _ [8, 9, 10, 11, 12, 13, 14, 15, 16, 17, 18, 19, 20, 21, 22, 23, 24, 25, 26, 27, 28, 29, 30, 31, 32, 33, 34, 35, 36, 37, 38, 39, 40, 41, 42, 43, 44, 45] (by decide +kernel) (by decide +kernel)
set_option maxRecDepth 20000 in
theorem gX9_addRow_X9_of : GoodIn wsX9_addRow (wsV RX9 80 RX9 yX9_of wsX9_of) := goodIn_app (goodIn_of _ (by decide +kernel)) ggX9_addRow_X9_of
theorem dX9_addRow_0 : decode cX9_addRow 0 = .ok (.iconst 0, 1) := by decide +kernel
theorem dX9_addRow_1 : decode cX9_addRow 1 = .ok (.istore 4, 2) := by decide +kernel
theorem dX9_addRow_3 : decode cX9_addRow 3 = .ok (.iconst 0, 1) := by decide +kernel
theorem dX9_addRow_4 : decode cX9_addRow 4 = .ok (.istore 5, 2) := by decide +kernel
theorem dX9_addRow_6 : decode cX9_addRow 6 = .ok (.iload 5, 2) := by decide +kernel
theorem dX9_addRow_8 : decode cX9_addRow 8 = .ok (.bipush 6, 2) := by decide +kernel
theorem dX9_addRow_10 : decode cX9_addRow 10 = .ok (.if_icmp .ge 48, 3) := by decide +kernel
theorem dX9_addRow_13 : decode cX9_addRow 13 = .ok (.iload 4, 2) := by decide +kernel
theorem dX9_addRow_15 : decode cX9_addRow 15 = .ok (.aload_n 0, 1) := by decide +kernel
theorem dX9_addRow_16 : decode cX9_addRow 16 = .ok (.iload_n 1, 1) := by decide +kernel
theorem dX9_addRow_17 : decode cX9_addRow 17 = .ok (.iload 5, 2) := by decide +kernel
theorem dX9_addRow_19 : decode cX9_addRow 19 = .ok (.invokevirtual 80, 3) := by decide +kernel
theorem dX9_addRow_22 : decode cX9_addRow 22 = .ok (.iadd, 1) := by decide +kernel
theorem dX9_addRow_23 : decode cX9_addRow 23 = .ok (.istore 4, 2) := by decide +kernel
theorem dX9_addRow_25 : decode cX9_addRow 25 = .ok (.aload_n 0, 1) := by decide +kernel
theorem dX9_addRow_26 : decode cX9_addRow 26 = .ok (.getfield 35, 3) := by decide +kernel
theorem dX9_addRow_29 : decode cX9_addRow 29 = .ok (.bipush 22, 2) := by decide +kernel
theorem dX9_addRow_31 : decode cX9_addRow 31 = .ok (.aload_n 0, 1) := by decide +kernel
theorem dX9_addRow_32 : decode cX9_addRow 32 = .ok (.getfield 84, 3) := by decide +kernel
theorem dX9_addRow_35 : decode cX9_addRow 35 = .ok (.imul, 1) := by decide +kernel
theorem dX9_addRow_36 : decode cX9_addRow 36 = .ok (.iload 5, 2) := by decide +kernel
theorem dX9_addRow_38 : decode cX9_addRow 38 = .ok (.iadd, 1) := by decide +kernel
theorem dX9_addRow_39 : decode cX9_addRow 39 = .ok (.iconst 1, 1) := by decide +kernel
theorem dX9_addRow_40 : decode cX9_addRow 40 = .ok (.iadd, 1) := by decide +kernel
theorem dX9_addRow_41 : decode cX9_addRow 41 = .ok (.iload_n 3, 1) := by decide +kernel
theorem dX9_addRow_42 : decode cX9_addRow 42 = .ok (.aload_n 0, 1) := by decide +kernel
theorem dX9_addRow_43 : decode cX9_addRow 43 = .ok (.iload_n 1, 1) := by decide +kernel
theorem dX9_addRow_44 : decode cX9_addRow 44 = .ok (.iload 5, 2) := by decide +kernel
theorem dX9_addRow_46 : decode cX9_addRow 46 = .ok (.invokevirtual 80, 3) := by decide +kernel
theorem dX9_addRow_49 : decode cX9_addRow 49 = .ok (.imul, 1) := by decide +kernel
theorem dX9_addRow_50 : decode cX9_addRow 50 = .ok (.i2l, 1) := by decide +kernel
theorem dX9_addRow_51 : decode cX9_addRow 51 = .ok (.lastore, 1) := by decide +kernel
theorem dX9_addRow_52 : decode cX9_addRow 52 = .ok (.iinc 5 1, 3) := by decide +kernel
theorem dX9_addRow_55 : decode cX9_addRow 55 = .ok (.goto (-49), 3) := by decide +kernel
theorem dX9_addRow_58 : decode cX9_addRow 58 = .ok (.aload_n 0, 1) := by decide +kernel
theorem dX9_addRow_59 : decode cX9_addRow 59 = .ok (.getfield 35, 3) := by decide +kernel
theorem dX9_addRow_62 : decode cX9_addRow 62 = .ok (.bipush 22, 2) := by decide +kernel
theorem dX9_addRow_64 : decode cX9_addRow 64 = .ok (.aload_n 0, 1) := by decide +kernel
theorem dX9_addRow_65 : decode cX9_addRow 65 = .ok (.getfield 84, 3) := by decide +kernel
theorem dX9_addRow_68 : decode cX9_addRow 68 = .ok (.imul, 1) := by decide +kernel
theorem dX9_addRow_69 : decode cX9_addRow 69 = .ok (.iload_n 3, 1) := by decide +kernel
theorem dX9_addRow_70 : decode cX9_addRow 70 = .ok (.sipush (-1000), 3) := by decide +kernel
theorem dX9_addRow_73 : decode cX9_addRow 73 = .ok (.iload 4, 2) := by decide +kernel
theorem dX9_addRow_75 : decode cX9_addRow 75 = .ok (.imul, 1) := by decide +kernel
theorem dX9_addRow_76 : decode cX9_addRow 76 = .ok (.aload_n 0, 1) := by decide +kernel
theorem dX9_addRow_77 : decode cX9_addRow 77 = .ok (.iload_n 1, 1) := by decide +kernel
theorem dX9_addRow_78 : decode cX9_addRow 78 = .ok (.bipush 7, 2) := by decide +kernel
theorem dX9_addRow_80 : decode cX9_addRow 80 = .ok (.invokevirtual 80, 3) := by decide +kernel
theorem dX9_addRow_83 : decode cX9_addRow 83 = .ok (.isub, 1) := by decide +kernel
theorem dX9_addRow_84 : decode cX9_addRow 84 = .ok (.imul, 1) := by decide +kernel
theorem dX9_addRow_85 : decode cX9_addRow 85 = .ok (.i2l, 1) := by decide +kernel
theorem dX9_addRow_86 : decode cX9_addRow 86 = .ok (.lastore, 1) := by decide +kernel
theorem dX9_addRow_87 : decode cX9_addRow 87 = .ok (.aload_n 0, 1) := by decide +kernel
theorem dX9_addRow_88 : decode cX9_addRow 88 = .ok (.getfield 39, 3) := by decide +kernel
theorem dX9_addRow_91 : decode cX9_addRow 91 = .ok (.aload_n 0, 1) := by decide +kernel
theorem dX9_addRow_92 : decode cX9_addRow 92 = .ok (.getfield 84, 3) := by decide +kernel
theorem dX9_addRow_95 : decode cX9_addRow 95 = .ok (.iload_n 2, 1) := by decide +kernel
theorem dX9_addRow_96 : decode cX9_addRow 96 = .ok (.iastore, 1) := by decide +kernel
theorem dX9_addRow_97 : decode cX9_addRow 97 = .ok (.aload_n 0, 1) := by decide +kernel
theorem dX9_addRow_98 : decode cX9_addRow 98 = .ok (.dup, 1) := by decide +kernel
theorem dX9_addRow_99 : decode cX9_addRow 99 = .ok (.getfield 84, 3) := by decide +kernel
theorem dX9_addRow_102 : decode cX9_addRow 102 = .ok (.iconst 1, 1) := by decide +kernel
theorem dX9_addRow_103 : decode cX9_addRow 103 = .ok (.iadd, 1) := by decide +kernel
theorem dX9_addRow_104 : decode cX9_addRow 104 = .ok (.putfield 84, 3) := by decide +kernel
theorem dX9_addRow_107 : decode cX9_addRow 107 = .ok (.return_, 1) := by decide +kernel
set_option maxRecDepth 20000 in
theorem ggX9_addConstraint_X9_of : GoodIn wsX9_addConstraint wsX9_of := goodIn_r _ [9, 10, 22, 23, 24, 25, 26, 27, 28, 29, 30, 31, 32, 33, 34, 35, 36, 37, 38, 39, 40, 41, 42, 43, 44, 45, 46, 47, 48, 49, 50, 51, 52, 53, 54, 55, 56, 57] (by decide +kernel) (by decide +kernel)
set_option maxRecDepth 20000 in
theorem gX9_addConstraint_X9_of : GoodIn wsX9_addConstraint (wsV RX9 80 RX9 yX9_of wsX9_of) := goodIn_app (goodIn_of _ (by decide +kernel)) ggX9_addConstraint_X9_of
set_option maxRecDepth 20000 in
theorem ggX9_addConstraint_X9_ahead : GoodIn wsX9_addConstraint wsX9_ahead := goodIn_r _ [13] (by decide +kernel) (by decide +kernel)
set_option maxRecDepth 20000 in
theorem gX9_addConstraint_X9_ahead : GoodIn wsX9_addConstraint (va_wsS RX9 99 yX9_ahead wsX9_ahead) := goodIn_app (goodIn_of _ (by decide +kernel)) ggX9_addConstraint_X9_ahead
set_option maxRecDepth 20000 in
theorem ggX9_addConstraint_X9_addRow : GoodIn wsX9_addConstraint wsX9_addRow := goodIn_r _ [17, 3, 4, 18, 5, 6, 7, 8, 9, 10, 22, 23, 24, 25, 26, 27, 28, 29, 30, 31, 32, 33, 34, 35, 36, 37, 38, 39, 40, 41, 42, 43, 44, 45, 46, 47, 48, 49, 50, 51, 52, 53, 54, 55, 56, 57] (by decide +kernel) (by decide +kernel)
set_option maxRecDepth 20000 in
theorem gX9_addConstraint_X9_addRow : GoodIn wsX9_addConstraint (wsV RX9 103 RX9 yX9_addRow wsX9_addRow) := goodIn_app (goodIn_of _ (by decide +kernel)) ggX9_addConstraint_X9_addRow
set_option maxRecDepth 20000 in
theorem ggX9_addConstraint_X9_lack : GoodIn wsX9_addConstraint wsX9_lack := goodIn_r _ [21] (by decide +kernel) (by decide +kernel)
set_option maxRecDepth 20000 in
theorem gX9_addConstraint_X9_lack : GoodIn wsX9_addConstraint (va_wsS RX9 107 yX9_lack wsX9_lack) := goodIn_app (goodIn_of _ (by decide +kernel)) ggX9_addConstraint_X9_lack
theorem dX9_addConstraint_0 : decode cX9_addConstraint 0 = .ok (.aload_n 0, 1) := by decide +kernel
theorem dX9_addConstraint_1 : decode cX9_addConstraint 1 = .ok (.iload_n 1, 1) := by decide +kernel
theorem dX9_addConstraint_2 : decode cX9_addConstraint 2 = .ok (.bipush 6, 2) := by decide +kernel
theorem dX9_addConstraint_4 : decode cX9_addConstraint 4 = .ok (.invokevirtual 80, 3) := by decide +kernel
theorem dX9_addConstraint_7 : decode cX9_addConstraint 7 = .ok (.ifCond .ne 7, 3) := by decide +kernel
theorem dX9_addConstraint_10 : decode cX9_addConstraint 10 = .ok (.iconst (-1), 1) := by decide +kernel
theorem dX9_addConstraint_11 : decode cX9_addConstraint 11 = .ok (.goto 4, 3) := by decide +kernel
theorem dX9_addConstraint_14 : decode cX9_addConstraint 14 = .ok (.iconst 1, 1) := by decide +kernel
theorem dX9_addConstraint_15 : decode cX9_addConstraint 15 = .ok (.istore_n 2, 1) := by decide +kernel
theorem dX9_addConstraint_16 : decode cX9_addConstraint 16 = .ok (.aload_n 0, 1) := by decide +kernel
theorem dX9_addConstraint_17 : decode cX9_addConstraint 17 = .ok (.iload_n 1, 1) := by decide +kernel
theorem dX9_addConstraint_18 : decode cX9_addConstraint 18 = .ok (.iload_n 1, 1) := by decide +kernel
theorem dX9_addConstraint_19 : decode cX9_addConstraint 19 = .ok (.invokestatic 99, 3) := by decide +kernel
theorem dX9_addConstraint_22 : decode cX9_addConstraint 22 = .ok (.iload_n 2, 1) := by decide +kernel
theorem dX9_addConstraint_23 : decode cX9_addConstraint 23 = .ok (.invokevirtual 103, 3) := by decide +kernel
theorem dX9_addConstraint_26 : decode cX9_addConstraint 26 = .ok (.aload_n 0, 1) := by decide +kernel
theorem dX9_addConstraint_27 : decode cX9_addConstraint 27 = .ok (.iload_n 1, 1) := by decide +kernel
theorem dX9_addConstraint_28 : decode cX9_addConstraint 28 = .ok (.bipush 8, 2) := by decide +kernel
theorem dX9_addConstraint_30 : decode cX9_addConstraint 30 = .ok (.invokevirtual 80, 3) := by decide +kernel
theorem dX9_addConstraint_33 : decode cX9_addConstraint 33 = .ok (.ifCond .eq 49, 3) := by decide +kernel
theorem dX9_addConstraint_36 : decode cX9_addConstraint 36 = .ok (.aload_n 0, 1) := by decide +kernel
theorem dX9_addConstraint_37 : decode cX9_addConstraint 37 = .ok (.dup, 1) := by decide +kernel
theorem dX9_addConstraint_38 : decode cX9_addConstraint 38 = .ok (.getfield 88, 3) := by decide +kernel
theorem dX9_addConstraint_41 : decode cX9_addConstraint 41 = .ok (.iconst 1, 1) := by decide +kernel
theorem dX9_addConstraint_42 : decode cX9_addConstraint 42 = .ok (.iadd, 1) := by decide +kernel
theorem dX9_addConstraint_43 : decode cX9_addConstraint 43 = .ok (.putfield 88, 3) := by decide +kernel
theorem dX9_addConstraint_46 : decode cX9_addConstraint 46 = .ok (.aload_n 0, 1) := by decide +kernel
theorem dX9_addConstraint_47 : decode cX9_addConstraint 47 = .ok (.getfield 42, 3) := by decide +kernel
theorem dX9_addConstraint_50 : decode cX9_addConstraint 50 = .ok (.aload_n 0, 1) := by decide +kernel
theorem dX9_addConstraint_51 : decode cX9_addConstraint 51 = .ok (.getfield 88, 3) := by decide +kernel
theorem dX9_addConstraint_54 : decode cX9_addConstraint 54 = .ok (.iload_n 1, 1) := by decide +kernel
theorem dX9_addConstraint_55 : decode cX9_addConstraint 55 = .ok (.invokestatic 107, 3) := by decide +kernel
theorem dX9_addConstraint_58 : decode cX9_addConstraint 58 = .ok (.iastore, 1) := by decide +kernel
theorem dX9_addConstraint_59 : decode cX9_addConstraint 59 = .ok (.aload_n 0, 1) := by decide +kernel
theorem dX9_addConstraint_60 : decode cX9_addConstraint 60 = .ok (.getfield 35, 3) := by decide +kernel
theorem dX9_addConstraint_63 : decode cX9_addConstraint 63 = .ok (.bipush 22, 2) := by decide +kernel
theorem dX9_addConstraint_65 : decode cX9_addConstraint 65 = .ok (.aload_n 0, 1) := by decide +kernel
theorem dX9_addConstraint_66 : decode cX9_addConstraint 66 = .ok (.getfield 84, 3) := by decide +kernel
theorem dX9_addConstraint_69 : decode cX9_addConstraint 69 = .ok (.iconst 1, 1) := by decide +kernel
theorem dX9_addConstraint_70 : decode cX9_addConstraint 70 = .ok (.isub, 1) := by decide +kernel
theorem dX9_addConstraint_71 : decode cX9_addConstraint 71 = .ok (.imul, 1) := by decide +kernel
theorem dX9_addConstraint_72 : decode cX9_addConstraint 72 = .ok (.aload_n 0, 1) := by decide +kernel
theorem dX9_addConstraint_73 : decode cX9_addConstraint 73 = .ok (.getfield 88, 3) := by decide +kernel
theorem dX9_addConstraint_76 : decode cX9_addConstraint 76 = .ok (.iadd, 1) := by decide +kernel
theorem dX9_addConstraint_77 : decode cX9_addConstraint 77 = .ok (.lconst 1, 1) := by decide +kernel
theorem dX9_addConstraint_78 : decode cX9_addConstraint 78 = .ok (.lastore, 1) := by decide +kernel
theorem dX9_addConstraint_79 : decode cX9_addConstraint 79 = .ok (.goto 25, 3) := by decide +kernel
theorem dX9_addConstraint_82 : decode cX9_addConstraint 82 = .ok (.aload_n 0, 1) := by decide +kernel
theorem dX9_addConstraint_83 : decode cX9_addConstraint 83 = .ok (.iload_n 1, 1) := by decide +kernel
theorem dX9_addConstraint_84 : decode cX9_addConstraint 84 = .ok (.bipush 6, 2) := by decide +kernel
theorem dX9_addConstraint_86 : decode cX9_addConstraint 86 = .ok (.invokevirtual 80, 3) := by decide +kernel
theorem dX9_addConstraint_89 : decode cX9_addConstraint 89 = .ok (.iconst 1, 1) := by decide +kernel
theorem dX9_addConstraint_90 : decode cX9_addConstraint 90 = .ok (.if_icmp .ne 14, 3) := by decide +kernel
theorem dX9_addConstraint_93 : decode cX9_addConstraint 93 = .ok (.aload_n 0, 1) := by decide +kernel
theorem dX9_addConstraint_94 : decode cX9_addConstraint 94 = .ok (.iload_n 1, 1) := by decide +kernel
theorem dX9_addConstraint_95 : decode cX9_addConstraint 95 = .ok (.iload_n 1, 1) := by decide +kernel
theorem dX9_addConstraint_96 : decode cX9_addConstraint 96 = .ok (.invokestatic 107, 3) := by decide +kernel
theorem dX9_addConstraint_99 : decode cX9_addConstraint 99 = .ok (.iload_n 2, 1) := by decide +kernel
theorem dX9_addConstraint_100 : decode cX9_addConstraint 100 = .ok (.ineg, 1) := by decide +kernel
theorem dX9_addConstraint_101 : decode cX9_addConstraint 101 = .ok (.invokevirtual 103, 3) := by decide +kernel
theorem dX9_addConstraint_104 : decode cX9_addConstraint 104 = .ok (.return_, 1) := by decide +kernel
set_option maxRecDepth 20000 in
theorem ggX9_layRows_X9_beginRows : GoodIn wsX9_layRows wsX9_beginRows := goodIn_r _ [5, 6, 7, 8, 9, 10, 11, 12, 13, 14, 41, 42, 43, 44, 45, 46, 47, 48, 49, 50, 51, 52, 53, 54, 55, 56, 57, 58, 59, 60, 61, 62, 63, 64, 65, 66, 67, 68, 69, 70, 71, 72, 73, 74, 75, 76] (by decide +kernel) (by decide +kernel)
set_option maxRecDepth 20000 in
theorem gX9_layRows_X9_beginRows : GoodIn wsX9_layRows (wsV RX9 110 RX9 yX9_beginRows wsX9_beginRows) := goodIn_app (goodIn_of _ (by decide +kernel)) ggX9_layRows_X9_beginRows
set_option maxRecDepth 20000 in
theorem ggX9_layRows_X9_isThere : GoodIn wsX9_layRows wsX9_isThere := goodIn_r _ [18, 19, 20, 4, 21, 22, 23, 24, 25, 26, 41, 42, 43, 44, 45, 46, 47, 48, 49, 50, 51, 52, 53, 54, 55, 56, 57, 58, 59, 60, 61, 62, 63, 64, 65, 66, 67, 68, 69, 70, 71, 72, 73, 74, 75, 76] (by decide +kernel) (by decide +kernel)
set_option maxRecDepth 20000 in
theorem gX9_layRows_X9_isThere : GoodIn wsX9_layRows (wsV RX9 113 RX9 yX9_isThere wsX9_isThere) := goodIn_app (goodIn_of _ (by decide +kernel)) ggX9_layRows_X9_isThere
set_option maxRecDepth 20000 in
theorem ggX9_layRows_X9_of : GoodIn wsX9_layRows wsX9_of := goodIn_r _ [25, 26, 41, 42, 43, 44, 45, 46, 47, 48, 49, 50, 51, 52, 53, 54, 55, 56, 57, 58, 59, 60, 61, 62, 63, 64, 65, 66, 67, 68, 69, 70, 71, 72, 73, 74, 75, 76] (by decide +kernel) (by decide +kernel)
set_option maxRecDepth 20000 in
theorem gX9_layRows_X9_of : GoodIn wsX9_layRows (wsV RX9 80 RX9 yX9_of wsX9_of) := goodIn_app (goodIn_of _ (by decide +kernel)) ggX9_layRows_X9_of
set_option maxRecDepth 20000 in
theorem ggX9_layRows_X9_addConstraint : GoodIn wsX9_layRows wsX9_addConstraint := goodIn_r _ [30, 9, 11, 6, 8, 22, 23, 24, 4, 25, 26, 31, 32, 33, 34, 35, 36, 37, 12, 38, 39, 40, 41, 42, 43, 44, 45, 46, 47, 48, 49, 50, 51, 52, 53, 54, 55, 56, 57, 58, 59, 60, 61, 62, 63, 64, 65, 66, 67, 68, 69, 70, 71, 72, 73, 74, 75, 76] (by decide +kernel) (by decide +kernel)
set_option maxRecDepth 20000 in
theorem gX9_layRows_X9_addConstraint : GoodIn wsX9_layRows (wsV RX9 117 RX9 yX9_addConstraint wsX9_addConstraint) := goodIn_app (goodIn_of _ (by decide +kernel)) ggX9_layRows_X9_addConstraint
theorem dX9_layRows_0 : decode cX9_layRows 0 = .ok (.aload_n 0, 1) := by decide +kernel
theorem dX9_layRows_1 : decode cX9_layRows 1 = .ok (.invokevirtual 110, 3) := by decide +kernel
theorem dX9_layRows_4 : decode cX9_layRows 4 = .ok (.iconst 0, 1) := by decide +kernel
theorem dX9_layRows_5 : decode cX9_layRows 5 = .ok (.istore_n 3, 1) := by decide +kernel
theorem dX9_layRows_6 : decode cX9_layRows 6 = .ok (.iload_n 3, 1) := by decide +kernel
theorem dX9_layRows_7 : decode cX9_layRows 7 = .ok (.bipush 14, 2) := by decide +kernel
theorem dX9_layRows_9 : decode cX9_layRows 9 = .ok (.if_icmp .gt 45, 3) := by decide +kernel
theorem dX9_layRows_12 : decode cX9_layRows 12 = .ok (.aload_n 0, 1) := by decide +kernel
theorem dX9_layRows_13 : decode cX9_layRows 13 = .ok (.iload_n 3, 1) := by decide +kernel
theorem dX9_layRows_14 : decode cX9_layRows 14 = .ok (.invokevirtual 113, 3) := by decide +kernel
theorem dX9_layRows_17 : decode cX9_layRows 17 = .ok (.ifCond .eq 31, 3) := by decide +kernel
theorem dX9_layRows_20 : decode cX9_layRows 20 = .ok (.iload_n 1, 1) := by decide +kernel
theorem dX9_layRows_21 : decode cX9_layRows 21 = .ok (.iload_n 3, 1) := by decide +kernel
theorem dX9_layRows_22 : decode cX9_layRows 22 = .ok (.ishr, 1) := by decide +kernel
theorem dX9_layRows_23 : decode cX9_layRows 23 = .ok (.iconst 1, 1) := by decide +kernel
theorem dX9_layRows_24 : decode cX9_layRows 24 = .ok (.iand, 1) := by decide +kernel
theorem dX9_layRows_25 : decode cX9_layRows 25 = .ok (.iconst 1, 1) := by decide +kernel
theorem dX9_layRows_26 : decode cX9_layRows 26 = .ok (.if_icmp .ne 22, 3) := by decide +kernel
theorem dX9_layRows_29 : decode cX9_layRows 29 = .ok (.iload_n 2, 1) := by decide +kernel
theorem dX9_layRows_30 : decode cX9_layRows 30 = .ok (.ifCond .eq 13, 3) := by decide +kernel
theorem dX9_layRows_33 : decode cX9_layRows 33 = .ok (.aload_n 0, 1) := by decide +kernel
theorem dX9_layRows_34 : decode cX9_layRows 34 = .ok (.iload_n 3, 1) := by decide +kernel
theorem dX9_layRows_35 : decode cX9_layRows 35 = .ok (.bipush 8, 2) := by decide +kernel
theorem dX9_layRows_37 : decode cX9_layRows 37 = .ok (.invokevirtual 80, 3) := by decide +kernel
theorem dX9_layRows_40 : decode cX9_layRows 40 = .ok (.ifCond .ne 8, 3) := by decide +kernel
theorem dX9_layRows_43 : decode cX9_layRows 43 = .ok (.aload_n 0, 1) := by decide +kernel
theorem dX9_layRows_44 : decode cX9_layRows 44 = .ok (.iload_n 3, 1) := by decide +kernel
theorem dX9_layRows_45 : decode cX9_layRows 45 = .ok (.invokevirtual 117, 3) := by decide +kernel
theorem dX9_layRows_48 : decode cX9_layRows 48 = .ok (.iinc 3 1, 3) := by decide +kernel
theorem dX9_layRows_51 : decode cX9_layRows 51 = .ok (.goto (-45), 3) := by decide +kernel
theorem dX9_layRows_54 : decode cX9_layRows 54 = .ok (.return_, 1) := by decide +kernel
set_option maxRecDepth 20000 in
theorem ggX9_swap_X9_turnAll : GoodIn wsX9_swap wsX9_turnAll := goodIn_r _ [11, 4, 2, 3, 1, 12, 13, 14, 15, 16, 17, 18, 19, 20, 21, 22, 23, 24, 25, 26, 27, 28, 29, 30, 31, 32, 33, 34, 35, 36, 37, 38, 39, 40, 41, 42, 43, 44, 45, 46, 47] (by decide +kernel) (by decide +kernel)
set_option maxRecDepth 20000 in
theorem gX9_swap_X9_turnAll : GoodIn wsX9_swap (wsV RX9 121 RX9 yX9_turnAll wsX9_turnAll) := goodIn_app (goodIn_of _ (by decide +kernel)) ggX9_swap_X9_turnAll
theorem dX9_swap_0 : decode cX9_swap 0 = .ok (.aload_n 0, 1) := by decide +kernel
theorem dX9_swap_1 : decode cX9_swap 1 = .ok (.getfield 35, 3) := by decide +kernel
theorem dX9_swap_4 : decode cX9_swap 4 = .ok (.bipush 22, 2) := by decide +kernel
theorem dX9_swap_6 : decode cX9_swap 6 = .ok (.iload_n 1, 1) := by decide +kernel
theorem dX9_swap_7 : decode cX9_swap 7 = .ok (.imul, 1) := by decide +kernel
theorem dX9_swap_8 : decode cX9_swap 8 = .ok (.iload_n 2, 1) := by decide +kernel
theorem dX9_swap_9 : decode cX9_swap 9 = .ok (.iadd, 1) := by decide +kernel
theorem dX9_swap_10 : decode cX9_swap 10 = .ok (.laload, 1) := by decide +kernel
theorem dX9_swap_11 : decode cX9_swap 11 = .ok (.lstore_n 3, 1) := by decide +kernel
theorem dX9_swap_12 : decode cX9_swap 12 = .ok (.iconst 0, 1) := by decide +kernel
theorem dX9_swap_13 : decode cX9_swap 13 = .ok (.istore 5, 2) := by decide +kernel
theorem dX9_swap_15 : decode cX9_swap 15 = .ok (.iload 5, 2) := by decide +kernel
theorem dX9_swap_17 : decode cX9_swap 17 = .ok (.aload_n 0, 1) := by decide +kernel
theorem dX9_swap_18 : decode cX9_swap 18 = .ok (.getfield 84, 3) := by decide +kernel
theorem dX9_swap_21 : decode cX9_swap 21 = .ok (.if_icmp .gt 102, 3) := by decide +kernel
theorem dX9_swap_24 : decode cX9_swap 24 = .ok (.aload_n 0, 1) := by decide +kernel
theorem dX9_swap_25 : decode cX9_swap 25 = .ok (.getfield 35, 3) := by decide +kernel
theorem dX9_swap_28 : decode cX9_swap 28 = .ok (.bipush 22, 2) := by decide +kernel
theorem dX9_swap_30 : decode cX9_swap 30 = .ok (.iload 5, 2) := by decide +kernel
theorem dX9_swap_32 : decode cX9_swap 32 = .ok (.imul, 1) := by decide +kernel
theorem dX9_swap_33 : decode cX9_swap 33 = .ok (.iload_n 2, 1) := by decide +kernel
theorem dX9_swap_34 : decode cX9_swap 34 = .ok (.iadd, 1) := by decide +kernel
theorem dX9_swap_35 : decode cX9_swap 35 = .ok (.laload, 1) := by decide +kernel
theorem dX9_swap_36 : decode cX9_swap 36 = .ok (.lstore 6, 2) := by decide +kernel
theorem dX9_swap_38 : decode cX9_swap 38 = .ok (.iconst 0, 1) := by decide +kernel
theorem dX9_swap_39 : decode cX9_swap 39 = .ok (.istore 8, 2) := by decide +kernel
theorem dX9_swap_41 : decode cX9_swap 41 = .ok (.iload 8, 2) := by decide +kernel
theorem dX9_swap_43 : decode cX9_swap 43 = .ok (.aload_n 0, 1) := by decide +kernel
theorem dX9_swap_44 : decode cX9_swap 44 = .ok (.getfield 88, 3) := by decide +kernel
theorem dX9_swap_47 : decode cX9_swap 47 = .ok (.if_icmp .gt 70, 3) := by decide +kernel
theorem dX9_swap_50 : decode cX9_swap 50 = .ok (.iload 5, 2) := by decide +kernel
theorem dX9_swap_52 : decode cX9_swap 52 = .ok (.iload_n 1, 1) := by decide +kernel
theorem dX9_swap_53 : decode cX9_swap 53 = .ok (.if_icmp .eq 64, 3) := by decide +kernel
theorem dX9_swap_56 : decode cX9_swap 56 = .ok (.iload 8, 2) := by decide +kernel
theorem dX9_swap_58 : decode cX9_swap 58 = .ok (.iload_n 2, 1) := by decide +kernel
theorem dX9_swap_59 : decode cX9_swap 59 = .ok (.if_icmp .eq 52, 3) := by decide +kernel
theorem dX9_swap_62 : decode cX9_swap 62 = .ok (.aload_n 0, 1) := by decide +kernel
theorem dX9_swap_63 : decode cX9_swap 63 = .ok (.getfield 35, 3) := by decide +kernel
theorem dX9_swap_66 : decode cX9_swap 66 = .ok (.bipush 22, 2) := by decide +kernel
theorem dX9_swap_68 : decode cX9_swap 68 = .ok (.iload 5, 2) := by decide +kernel
theorem dX9_swap_70 : decode cX9_swap 70 = .ok (.imul, 1) := by decide +kernel
theorem dX9_swap_71 : decode cX9_swap 71 = .ok (.iload 8, 2) := by decide +kernel
theorem dX9_swap_73 : decode cX9_swap 73 = .ok (.iadd, 1) := by decide +kernel
theorem dX9_swap_74 : decode cX9_swap 74 = .ok (.aload_n 0, 1) := by decide +kernel
theorem dX9_swap_75 : decode cX9_swap 75 = .ok (.getfield 35, 3) := by decide +kernel
theorem dX9_swap_78 : decode cX9_swap 78 = .ok (.bipush 22, 2) := by decide +kernel
theorem dX9_swap_80 : decode cX9_swap 80 = .ok (.iload 5, 2) := by decide +kernel
theorem dX9_swap_82 : decode cX9_swap 82 = .ok (.imul, 1) := by decide +kernel
theorem dX9_swap_83 : decode cX9_swap 83 = .ok (.iload 8, 2) := by decide +kernel
theorem dX9_swap_85 : decode cX9_swap 85 = .ok (.iadd, 1) := by decide +kernel
theorem dX9_swap_86 : decode cX9_swap 86 = .ok (.laload, 1) := by decide +kernel
theorem dX9_swap_87 : decode cX9_swap 87 = .ok (.lload_n 3, 1) := by decide +kernel
theorem dX9_swap_88 : decode cX9_swap 88 = .ok (.lmul, 1) := by decide +kernel
theorem dX9_swap_89 : decode cX9_swap 89 = .ok (.lload 6, 2) := by decide +kernel
theorem dX9_swap_91 : decode cX9_swap 91 = .ok (.aload_n 0, 1) := by decide +kernel
theorem dX9_swap_92 : decode cX9_swap 92 = .ok (.getfield 35, 3) := by decide +kernel
theorem dX9_swap_95 : decode cX9_swap 95 = .ok (.bipush 22, 2) := by decide +kernel
theorem dX9_swap_97 : decode cX9_swap 97 = .ok (.iload_n 1, 1) := by decide +kernel
theorem dX9_swap_98 : decode cX9_swap 98 = .ok (.imul, 1) := by decide +kernel
theorem dX9_swap_99 : decode cX9_swap 99 = .ok (.iload 8, 2) := by decide +kernel
theorem dX9_swap_101 : decode cX9_swap 101 = .ok (.iadd, 1) := by decide +kernel
theorem dX9_swap_102 : decode cX9_swap 102 = .ok (.laload, 1) := by decide +kernel
theorem dX9_swap_103 : decode cX9_swap 103 = .ok (.lmul, 1) := by decide +kernel
theorem dX9_swap_104 : decode cX9_swap 104 = .ok (.lsub, 1) := by decide +kernel
theorem dX9_swap_105 : decode cX9_swap 105 = .ok (.aload_n 0, 1) := by decide +kernel
theorem dX9_swap_106 : decode cX9_swap 106 = .ok (.getfield 91, 3) := by decide +kernel
theorem dX9_swap_109 : decode cX9_swap 109 = .ok (.ldiv, 1) := by decide +kernel
theorem dX9_swap_110 : decode cX9_swap 110 = .ok (.lastore, 1) := by decide +kernel
theorem dX9_swap_111 : decode cX9_swap 111 = .ok (.iinc 8 1, 3) := by decide +kernel
theorem dX9_swap_114 : decode cX9_swap 114 = .ok (.goto (-73), 3) := by decide +kernel
theorem dX9_swap_117 : decode cX9_swap 117 = .ok (.iinc 5 1, 3) := by decide +kernel
theorem dX9_swap_120 : decode cX9_swap 120 = .ok (.goto (-105), 3) := by decide +kernel
theorem dX9_swap_123 : decode cX9_swap 123 = .ok (.iconst 0, 1) := by decide +kernel
theorem dX9_swap_124 : decode cX9_swap 124 = .ok (.istore 5, 2) := by decide +kernel
theorem dX9_swap_126 : decode cX9_swap 126 = .ok (.iload 5, 2) := by decide +kernel
theorem dX9_swap_128 : decode cX9_swap 128 = .ok (.aload_n 0, 1) := by decide +kernel
theorem dX9_swap_129 : decode cX9_swap 129 = .ok (.getfield 88, 3) := by decide +kernel
theorem dX9_swap_132 : decode cX9_swap 132 = .ok (.if_icmp .gt 47, 3) := by decide +kernel
theorem dX9_swap_135 : decode cX9_swap 135 = .ok (.aload_n 0, 1) := by decide +kernel
theorem dX9_swap_136 : decode cX9_swap 136 = .ok (.getfield 35, 3) := by decide +kernel
theorem dX9_swap_139 : decode cX9_swap 139 = .ok (.bipush 22, 2) := by decide +kernel
theorem dX9_swap_141 : decode cX9_swap 141 = .ok (.iload_n 1, 1) := by decide +kernel
theorem dX9_swap_142 : decode cX9_swap 142 = .ok (.imul, 1) := by decide +kernel
theorem dX9_swap_143 : decode cX9_swap 143 = .ok (.iload 5, 2) := by decide +kernel
theorem dX9_swap_145 : decode cX9_swap 145 = .ok (.iadd, 1) := by decide +kernel
theorem dX9_swap_146 : decode cX9_swap 146 = .ok (.iload 5, 2) := by decide +kernel
theorem dX9_swap_148 : decode cX9_swap 148 = .ok (.iload_n 2, 1) := by decide +kernel
theorem dX9_swap_149 : decode cX9_swap 149 = .ok (.if_icmp .ne 10, 3) := by decide +kernel
theorem dX9_swap_152 : decode cX9_swap 152 = .ok (.aload_n 0, 1) := by decide +kernel
theorem dX9_swap_153 : decode cX9_swap 153 = .ok (.getfield 91, 3) := by decide +kernel
theorem dX9_swap_156 : decode cX9_swap 156 = .ok (.goto 16, 3) := by decide +kernel
theorem dX9_swap_159 : decode cX9_swap 159 = .ok (.aload_n 0, 1) := by decide +kernel
theorem dX9_swap_160 : decode cX9_swap 160 = .ok (.getfield 35, 3) := by decide +kernel
theorem dX9_swap_163 : decode cX9_swap 163 = .ok (.bipush 22, 2) := by decide +kernel
theorem dX9_swap_165 : decode cX9_swap 165 = .ok (.iload_n 1, 1) := by decide +kernel
theorem dX9_swap_166 : decode cX9_swap 166 = .ok (.imul, 1) := by decide +kernel
theorem dX9_swap_167 : decode cX9_swap 167 = .ok (.iload 5, 2) := by decide +kernel
theorem dX9_swap_169 : decode cX9_swap 169 = .ok (.iadd, 1) := by decide +kernel
theorem dX9_swap_170 : decode cX9_swap 170 = .ok (.laload, 1) := by decide +kernel
theorem dX9_swap_171 : decode cX9_swap 171 = .ok (.lneg, 1) := by decide +kernel
theorem dX9_swap_172 : decode cX9_swap 172 = .ok (.lastore, 1) := by decide +kernel
theorem dX9_swap_173 : decode cX9_swap 173 = .ok (.iinc 5 1, 3) := by decide +kernel
theorem dX9_swap_176 : decode cX9_swap 176 = .ok (.goto (-50), 3) := by decide +kernel
theorem dX9_swap_179 : decode cX9_swap 179 = .ok (.aload_n 0, 1) := by decide +kernel
theorem dX9_swap_180 : decode cX9_swap 180 = .ok (.lload_n 3, 1) := by decide +kernel
theorem dX9_swap_181 : decode cX9_swap 181 = .ok (.putfield 91, 3) := by decide +kernel
theorem dX9_swap_184 : decode cX9_swap 184 = .ok (.aload_n 0, 1) := by decide +kernel
theorem dX9_swap_185 : decode cX9_swap 185 = .ok (.getfield 91, 3) := by decide +kernel
theorem dX9_swap_188 : decode cX9_swap 188 = .ok (.lconst 0, 1) := by decide +kernel
theorem dX9_swap_189 : decode cX9_swap 189 = .ok (.lcmp, 1) := by decide +kernel
theorem dX9_swap_190 : decode cX9_swap 190 = .ok (.ifCond .ge 7, 3) := by decide +kernel
theorem dX9_swap_193 : decode cX9_swap 193 = .ok (.aload_n 0, 1) := by decide +kernel
theorem dX9_swap_194 : decode cX9_swap 194 = .ok (.invokevirtual 121, 3) := by decide +kernel
theorem dX9_swap_197 : decode cX9_swap 197 = .ok (.aload_n 0, 1) := by decide +kernel
theorem dX9_swap_198 : decode cX9_swap 198 = .ok (.getfield 39, 3) := by decide +kernel
theorem dX9_swap_201 : decode cX9_swap 201 = .ok (.iload_n 1, 1) := by decide +kernel
theorem dX9_swap_202 : decode cX9_swap 202 = .ok (.iaload, 1) := by decide +kernel
theorem dX9_swap_203 : decode cX9_swap 203 = .ok (.istore 5, 2) := by decide +kernel
theorem dX9_swap_205 : decode cX9_swap 205 = .ok (.aload_n 0, 1) := by decide +kernel
theorem dX9_swap_206 : decode cX9_swap 206 = .ok (.getfield 39, 3) := by decide +kernel
theorem dX9_swap_209 : decode cX9_swap 209 = .ok (.iload_n 1, 1) := by decide +kernel
theorem dX9_swap_210 : decode cX9_swap 210 = .ok (.aload_n 0, 1) := by decide +kernel
theorem dX9_swap_211 : decode cX9_swap 211 = .ok (.getfield 42, 3) := by decide +kernel
theorem dX9_swap_214 : decode cX9_swap 214 = .ok (.iload_n 2, 1) := by decide +kernel
theorem dX9_swap_215 : decode cX9_swap 215 = .ok (.iaload, 1) := by decide +kernel
theorem dX9_swap_216 : decode cX9_swap 216 = .ok (.iastore, 1) := by decide +kernel
theorem dX9_swap_217 : decode cX9_swap 217 = .ok (.aload_n 0, 1) := by decide +kernel
theorem dX9_swap_218 : decode cX9_swap 218 = .ok (.getfield 42, 3) := by decide +kernel
theorem dX9_swap_221 : decode cX9_swap 221 = .ok (.iload_n 2, 1) := by decide +kernel
theorem dX9_swap_222 : decode cX9_swap 222 = .ok (.iload 5, 2) := by decide +kernel
theorem dX9_swap_224 : decode cX9_swap 224 = .ok (.iastore, 1) := by decide +kernel
theorem dX9_swap_225 : decode cX9_swap 225 = .ok (.return_, 1) := by decide +kernel
theorem dX9_turnAll_0 : decode cX9_turnAll 0 = .ok (.aload_n 0, 1) := by decide +kernel
theorem dX9_turnAll_1 : decode cX9_turnAll 1 = .ok (.aload_n 0, 1) := by decide +kernel
theorem dX9_turnAll_2 : decode cX9_turnAll 2 = .ok (.getfield 91, 3) := by decide +kernel
theorem dX9_turnAll_5 : decode cX9_turnAll 5 = .ok (.lneg, 1) := by decide +kernel
theorem dX9_turnAll_6 : decode cX9_turnAll 6 = .ok (.putfield 91, 3) := by decide +kernel
theorem dX9_turnAll_9 : decode cX9_turnAll 9 = .ok (.iconst 0, 1) := by decide +kernel
theorem dX9_turnAll_10 : decode cX9_turnAll 10 = .ok (.istore_n 1, 1) := by decide +kernel
theorem dX9_turnAll_11 : decode cX9_turnAll 11 = .ok (.iload_n 1, 1) := by decide +kernel
theorem dX9_turnAll_12 : decode cX9_turnAll 12 = .ok (.aload_n 0, 1) := by decide +kernel
theorem dX9_turnAll_13 : decode cX9_turnAll 13 = .ok (.getfield 84, 3) := by decide +kernel
theorem dX9_turnAll_16 : decode cX9_turnAll 16 = .ok (.if_icmp .gt 48, 3) := by decide +kernel
theorem dX9_turnAll_19 : decode cX9_turnAll 19 = .ok (.iconst 0, 1) := by decide +kernel
theorem dX9_turnAll_20 : decode cX9_turnAll 20 = .ok (.istore_n 2, 1) := by decide +kernel
theorem dX9_turnAll_21 : decode cX9_turnAll 21 = .ok (.iload_n 2, 1) := by decide +kernel
theorem dX9_turnAll_22 : decode cX9_turnAll 22 = .ok (.aload_n 0, 1) := by decide +kernel
theorem dX9_turnAll_23 : decode cX9_turnAll 23 = .ok (.getfield 88, 3) := by decide +kernel
theorem dX9_turnAll_26 : decode cX9_turnAll 26 = .ok (.if_icmp .gt 32, 3) := by decide +kernel
theorem dX9_turnAll_29 : decode cX9_turnAll 29 = .ok (.aload_n 0, 1) := by decide +kernel
theorem dX9_turnAll_30 : decode cX9_turnAll 30 = .ok (.getfield 35, 3) := by decide +kernel
theorem dX9_turnAll_33 : decode cX9_turnAll 33 = .ok (.bipush 22, 2) := by decide +kernel
theorem dX9_turnAll_35 : decode cX9_turnAll 35 = .ok (.iload_n 1, 1) := by decide +kernel
theorem dX9_turnAll_36 : decode cX9_turnAll 36 = .ok (.imul, 1) := by decide +kernel
theorem dX9_turnAll_37 : decode cX9_turnAll 37 = .ok (.iload_n 2, 1) := by decide +kernel
theorem dX9_turnAll_38 : decode cX9_turnAll 38 = .ok (.iadd, 1) := by decide +kernel
theorem dX9_turnAll_39 : decode cX9_turnAll 39 = .ok (.aload_n 0, 1) := by decide +kernel
theorem dX9_turnAll_40 : decode cX9_turnAll 40 = .ok (.getfield 35, 3) := by decide +kernel
theorem dX9_turnAll_43 : decode cX9_turnAll 43 = .ok (.bipush 22, 2) := by decide +kernel
theorem dX9_turnAll_45 : decode cX9_turnAll 45 = .ok (.iload_n 1, 1) := by decide +kernel
theorem dX9_turnAll_46 : decode cX9_turnAll 46 = .ok (.imul, 1) := by decide +kernel
theorem dX9_turnAll_47 : decode cX9_turnAll 47 = .ok (.iload_n 2, 1) := by decide +kernel
theorem dX9_turnAll_48 : decode cX9_turnAll 48 = .ok (.iadd, 1) := by decide +kernel
theorem dX9_turnAll_49 : decode cX9_turnAll 49 = .ok (.laload, 1) := by decide +kernel
theorem dX9_turnAll_50 : decode cX9_turnAll 50 = .ok (.lneg, 1) := by decide +kernel
theorem dX9_turnAll_51 : decode cX9_turnAll 51 = .ok (.lastore, 1) := by decide +kernel
theorem dX9_turnAll_52 : decode cX9_turnAll 52 = .ok (.iinc 2 1, 3) := by decide +kernel
theorem dX9_turnAll_55 : decode cX9_turnAll 55 = .ok (.goto (-34), 3) := by decide +kernel
theorem dX9_turnAll_58 : decode cX9_turnAll 58 = .ok (.iinc 1 1, 3) := by decide +kernel
theorem dX9_turnAll_61 : decode cX9_turnAll 61 = .ok (.goto (-50), 3) := by decide +kernel
theorem dX9_turnAll_64 : decode cX9_turnAll 64 = .ok (.return_, 1) := by decide +kernel
theorem dX9_clearCost_0 : decode cX9_clearCost 0 = .ok (.iconst 0, 1) := by decide +kernel
theorem dX9_clearCost_1 : decode cX9_clearCost 1 = .ok (.istore_n 1, 1) := by decide +kernel
theorem dX9_clearCost_2 : decode cX9_clearCost 2 = .ok (.iload_n 1, 1) := by decide +kernel
theorem dX9_clearCost_3 : decode cX9_clearCost 3 = .ok (.aload_n 0, 1) := by decide +kernel
theorem dX9_clearCost_4 : decode cX9_clearCost 4 = .ok (.getfield 88, 3) := by decide +kernel
theorem dX9_clearCost_7 : decode cX9_clearCost 7 = .ok (.if_icmp .gt 24, 3) := by decide +kernel
theorem dX9_clearCost_10 : decode cX9_clearCost 10 = .ok (.aload_n 0, 1) := by decide +kernel
theorem dX9_clearCost_11 : decode cX9_clearCost 11 = .ok (.getfield 35, 3) := by decide +kernel
theorem dX9_clearCost_14 : decode cX9_clearCost 14 = .ok (.bipush 22, 2) := by decide +kernel
theorem dX9_clearCost_16 : decode cX9_clearCost 16 = .ok (.aload_n 0, 1) := by decide +kernel
theorem dX9_clearCost_17 : decode cX9_clearCost 17 = .ok (.getfield 84, 3) := by decide +kernel
theorem dX9_clearCost_20 : decode cX9_clearCost 20 = .ok (.imul, 1) := by decide +kernel
theorem dX9_clearCost_21 : decode cX9_clearCost 21 = .ok (.iload_n 1, 1) := by decide +kernel
theorem dX9_clearCost_22 : decode cX9_clearCost 22 = .ok (.iadd, 1) := by decide +kernel
theorem dX9_clearCost_23 : decode cX9_clearCost 23 = .ok (.lconst 0, 1) := by decide +kernel
theorem dX9_clearCost_24 : decode cX9_clearCost 24 = .ok (.lastore, 1) := by decide +kernel
theorem dX9_clearCost_25 : decode cX9_clearCost 25 = .ok (.iinc 1 1, 3) := by decide +kernel
theorem dX9_clearCost_28 : decode cX9_clearCost 28 = .ok (.goto (-26), 3) := by decide +kernel
theorem dX9_clearCost_31 : decode cX9_clearCost 31 = .ok (.return_, 1) := by decide +kernel
theorem dX9_worstRow_0 : decode cX9_worstRow 0 = .ok (.bipush (-6), 2) := by decide +kernel
theorem dX9_worstRow_2 : decode cX9_worstRow 2 = .ok (.istore_n 1, 1) := by decide +kernel
theorem dX9_worstRow_3 : decode cX9_worstRow 3 = .ok (.iconst 0, 1) := by decide +kernel
theorem dX9_worstRow_4 : decode cX9_worstRow 4 = .ok (.istore_n 2, 1) := by decide +kernel
theorem dX9_worstRow_5 : decode cX9_worstRow 5 = .ok (.iload_n 2, 1) := by decide +kernel
theorem dX9_worstRow_6 : decode cX9_worstRow 6 = .ok (.aload_n 0, 1) := by decide +kernel
theorem dX9_worstRow_7 : decode cX9_worstRow 7 = .ok (.getfield 84, 3) := by decide +kernel
theorem dX9_worstRow_10 : decode cX9_worstRow 10 = .ok (.if_icmp .ge 58, 3) := by decide +kernel
theorem dX9_worstRow_13 : decode cX9_worstRow 13 = .ok (.aload_n 0, 1) := by decide +kernel
theorem dX9_worstRow_14 : decode cX9_worstRow 14 = .ok (.getfield 35, 3) := by decide +kernel
theorem dX9_worstRow_17 : decode cX9_worstRow 17 = .ok (.bipush 22, 2) := by decide +kernel
theorem dX9_worstRow_19 : decode cX9_worstRow 19 = .ok (.iload_n 2, 1) := by decide +kernel
theorem dX9_worstRow_20 : decode cX9_worstRow 20 = .ok (.imul, 1) := by decide +kernel
theorem dX9_worstRow_21 : decode cX9_worstRow 21 = .ok (.laload, 1) := by decide +kernel
theorem dX9_worstRow_22 : decode cX9_worstRow 22 = .ok (.lconst 0, 1) := by decide +kernel
theorem dX9_worstRow_23 : decode cX9_worstRow 23 = .ok (.lcmp, 1) := by decide +kernel
theorem dX9_worstRow_24 : decode cX9_worstRow 24 = .ok (.ifCond .ge 26, 3) := by decide +kernel
theorem dX9_worstRow_27 : decode cX9_worstRow 27 = .ok (.iload_n 1, 1) := by decide +kernel
theorem dX9_worstRow_28 : decode cX9_worstRow 28 = .ok (.ifCond .lt 18, 3) := by decide +kernel
theorem dX9_worstRow_31 : decode cX9_worstRow 31 = .ok (.aload_n 0, 1) := by decide +kernel
theorem dX9_worstRow_32 : decode cX9_worstRow 32 = .ok (.getfield 39, 3) := by decide +kernel
theorem dX9_worstRow_35 : decode cX9_worstRow 35 = .ok (.iload_n 2, 1) := by decide +kernel
theorem dX9_worstRow_36 : decode cX9_worstRow 36 = .ok (.iaload, 1) := by decide +kernel
theorem dX9_worstRow_37 : decode cX9_worstRow 37 = .ok (.aload_n 0, 1) := by decide +kernel
theorem dX9_worstRow_38 : decode cX9_worstRow 38 = .ok (.getfield 39, 3) := by decide +kernel
theorem dX9_worstRow_41 : decode cX9_worstRow 41 = .ok (.iload_n 1, 1) := by decide +kernel
theorem dX9_worstRow_42 : decode cX9_worstRow 42 = .ok (.iaload, 1) := by decide +kernel
theorem dX9_worstRow_43 : decode cX9_worstRow 43 = .ok (.if_icmp .ge 7, 3) := by decide +kernel
theorem dX9_worstRow_46 : decode cX9_worstRow 46 = .ok (.iconst 1, 1) := by decide +kernel
theorem dX9_worstRow_47 : decode cX9_worstRow 47 = .ok (.goto 4, 3) := by decide +kernel
theorem dX9_worstRow_50 : decode cX9_worstRow 50 = .ok (.iconst 0, 1) := by decide +kernel
theorem dX9_worstRow_51 : decode cX9_worstRow 51 = .ok (.istore_n 3, 1) := by decide +kernel
theorem dX9_worstRow_52 : decode cX9_worstRow 52 = .ok (.iload_n 3, 1) := by decide +kernel
theorem dX9_worstRow_53 : decode cX9_worstRow 53 = .ok (.ifCond .eq 7, 3) := by decide +kernel
theorem dX9_worstRow_56 : decode cX9_worstRow 56 = .ok (.iload_n 2, 1) := by decide +kernel
theorem dX9_worstRow_57 : decode cX9_worstRow 57 = .ok (.goto 4, 3) := by decide +kernel
theorem dX9_worstRow_60 : decode cX9_worstRow 60 = .ok (.iload_n 1, 1) := by decide +kernel
theorem dX9_worstRow_61 : decode cX9_worstRow 61 = .ok (.istore_n 1, 1) := by decide +kernel
theorem dX9_worstRow_62 : decode cX9_worstRow 62 = .ok (.iinc 2 1, 3) := by decide +kernel
theorem dX9_worstRow_65 : decode cX9_worstRow 65 = .ok (.goto (-60), 3) := by decide +kernel
theorem dX9_worstRow_68 : decode cX9_worstRow 68 = .ok (.iload_n 1, 1) := by decide +kernel
theorem dX9_worstRow_69 : decode cX9_worstRow 69 = .ok (.ireturn, 1) := by decide +kernel
theorem dX9_helper_0 : decode cX9_helper 0 = .ok (.bipush (-6), 2) := by decide +kernel
theorem dX9_helper_2 : decode cX9_helper 2 = .ok (.istore_n 2, 1) := by decide +kernel
theorem dX9_helper_3 : decode cX9_helper 3 = .ok (.iconst 1, 1) := by decide +kernel
theorem dX9_helper_4 : decode cX9_helper 4 = .ok (.istore_n 3, 1) := by decide +kernel
theorem dX9_helper_5 : decode cX9_helper 5 = .ok (.iload_n 3, 1) := by decide +kernel
theorem dX9_helper_6 : decode cX9_helper 6 = .ok (.aload_n 0, 1) := by decide +kernel
theorem dX9_helper_7 : decode cX9_helper 7 = .ok (.getfield 88, 3) := by decide +kernel
theorem dX9_helper_10 : decode cX9_helper 10 = .ok (.if_icmp .gt 62, 3) := by decide +kernel
theorem dX9_helper_13 : decode cX9_helper 13 = .ok (.aload_n 0, 1) := by decide +kernel
theorem dX9_helper_14 : decode cX9_helper 14 = .ok (.getfield 35, 3) := by decide +kernel
theorem dX9_helper_17 : decode cX9_helper 17 = .ok (.bipush 22, 2) := by decide +kernel
theorem dX9_helper_19 : decode cX9_helper 19 = .ok (.iload_n 1, 1) := by decide +kernel
theorem dX9_helper_20 : decode cX9_helper 20 = .ok (.imul, 1) := by decide +kernel
theorem dX9_helper_21 : decode cX9_helper 21 = .ok (.iload_n 3, 1) := by decide +kernel
theorem dX9_helper_22 : decode cX9_helper 22 = .ok (.iadd, 1) := by decide +kernel
theorem dX9_helper_23 : decode cX9_helper 23 = .ok (.laload, 1) := by decide +kernel
theorem dX9_helper_24 : decode cX9_helper 24 = .ok (.lconst 0, 1) := by decide +kernel
theorem dX9_helper_25 : decode cX9_helper 25 = .ok (.lcmp, 1) := by decide +kernel
theorem dX9_helper_26 : decode cX9_helper 26 = .ok (.ifCond .le 26, 3) := by decide +kernel
theorem dX9_helper_29 : decode cX9_helper 29 = .ok (.iload_n 2, 1) := by decide +kernel
theorem dX9_helper_30 : decode cX9_helper 30 = .ok (.ifCond .lt 18, 3) := by decide +kernel
theorem dX9_helper_33 : decode cX9_helper 33 = .ok (.aload_n 0, 1) := by decide +kernel
theorem dX9_helper_34 : decode cX9_helper 34 = .ok (.getfield 42, 3) := by decide +kernel
theorem dX9_helper_37 : decode cX9_helper 37 = .ok (.iload_n 3, 1) := by decide +kernel
theorem dX9_helper_38 : decode cX9_helper 38 = .ok (.iaload, 1) := by decide +kernel
theorem dX9_helper_39 : decode cX9_helper 39 = .ok (.aload_n 0, 1) := by decide +kernel
theorem dX9_helper_40 : decode cX9_helper 40 = .ok (.getfield 42, 3) := by decide +kernel
theorem dX9_helper_43 : decode cX9_helper 43 = .ok (.iload_n 2, 1) := by decide +kernel
theorem dX9_helper_44 : decode cX9_helper 44 = .ok (.iaload, 1) := by decide +kernel
theorem dX9_helper_45 : decode cX9_helper 45 = .ok (.if_icmp .ge 7, 3) := by decide +kernel
theorem dX9_helper_48 : decode cX9_helper 48 = .ok (.iconst 1, 1) := by decide +kernel
theorem dX9_helper_49 : decode cX9_helper 49 = .ok (.goto 4, 3) := by decide +kernel
theorem dX9_helper_52 : decode cX9_helper 52 = .ok (.iconst 0, 1) := by decide +kernel
theorem dX9_helper_53 : decode cX9_helper 53 = .ok (.istore 4, 2) := by decide +kernel
theorem dX9_helper_55 : decode cX9_helper 55 = .ok (.iload 4, 2) := by decide +kernel
theorem dX9_helper_57 : decode cX9_helper 57 = .ok (.ifCond .eq 7, 3) := by decide +kernel
theorem dX9_helper_60 : decode cX9_helper 60 = .ok (.iload_n 3, 1) := by decide +kernel
theorem dX9_helper_61 : decode cX9_helper 61 = .ok (.goto 4, 3) := by decide +kernel
theorem dX9_helper_64 : decode cX9_helper 64 = .ok (.iload_n 2, 1) := by decide +kernel
theorem dX9_helper_65 : decode cX9_helper 65 = .ok (.istore_n 2, 1) := by decide +kernel
theorem dX9_helper_66 : decode cX9_helper 66 = .ok (.iinc 3 1, 3) := by decide +kernel
theorem dX9_helper_69 : decode cX9_helper 69 = .ok (.goto (-64), 3) := by decide +kernel
theorem dX9_helper_72 : decode cX9_helper 72 = .ok (.iload_n 2, 1) := by decide +kernel
theorem dX9_helper_73 : decode cX9_helper 73 = .ok (.ireturn, 1) := by decide +kernel
