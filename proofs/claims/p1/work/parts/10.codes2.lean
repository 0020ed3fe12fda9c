theorem dX1_init_0 : decode cX1_init 0 = .ok (.aload_n 0, 1) := by decide +kernel
theorem dX1_init_1 : decode cX1_init 1 = .ok (.invokespecial 3, 3) := by decide +kernel
theorem dX1_init_4 : decode cX1_init 4 = .ok (.aload_n 0, 1) := by decide +kernel
theorem dX1_init_5 : decode cX1_init 5 = .ok (.aload_n 1, 1) := by decide +kernel
theorem dX1_init_6 : decode cX1_init 6 = .ok (.putfield 9, 3) := by decide +kernel
theorem dX1_init_9 : decode cX1_init 9 = .ok (.aload_n 0, 1) := by decide +kernel
theorem dX1_init_10 : decode cX1_init 10 = .ok (.iload_n 2, 1) := by decide +kernel
theorem dX1_init_11 : decode cX1_init 11 = .ok (.putfield 15, 3) := by decide +kernel
theorem dX1_init_14 : decode cX1_init 14 = .ok (.aload_n 0, 1) := by decide +kernel
theorem dX1_init_15 : decode cX1_init 15 = .ok (.iload_n 3, 1) := by decide +kernel
theorem dX1_init_16 : decode cX1_init 16 = .ok (.putfield 19, 3) := by decide +kernel
theorem dX1_init_19 : decode cX1_init 19 = .ok (.aload_n 0, 1) := by decide +kernel
theorem dX1_init_20 : decode cX1_init 20 = .ok (.iload 4, 2) := by decide +kernel
theorem dX1_init_22 : decode cX1_init 22 = .ok (.putfield 22, 3) := by decide +kernel
theorem dX1_init_25 : decode cX1_init 25 = .ok (.aload_n 0, 1) := by decide +kernel
theorem dX1_init_26 : decode cX1_init 26 = .ok (.iload 5, 2) := by decide +kernel
theorem dX1_init_28 : decode cX1_init 28 = .ok (.putfield 25, 3) := by decide +kernel
theorem dX1_init_31 : decode cX1_init 31 = .ok (.return_, 1) := by decide +kernel
set_option maxRecDepth 20000 in
theorem ggX1_withConstant_X1_init : GoodIn wsX1_withConstant wsX1_init := goodIn_r _ [10, 11, 12, 13, 4, 5, 14, 6, 7, 15, 16, 17, 18, 19] (by decide +kernel) (by decide +kernel)
set_option maxRecDepth 20000 in
theorem gX1_withConstant_X1_init : GoodIn wsX1_withConstant (wsX1_init) := ggX1_withConstant_X1_init
theorem dX1_withConstant_0 : decode cX1_withConstant 0 = .ok (.new 10, 3) := by decide +kernel
theorem dX1_withConstant_3 : decode cX1_withConstant 3 = .ok (.dup, 1) := by decide +kernel
theorem dX1_withConstant_4 : decode cX1_withConstant 4 = .ok (.aload_n 0, 1) := by decide +kernel
theorem dX1_withConstant_5 : decode cX1_withConstant 5 = .ok (.getfield 9, 3) := by decide +kernel
theorem dX1_withConstant_8 : decode cX1_withConstant 8 = .ok (.aload_n 0, 1) := by decide +kernel
theorem dX1_withConstant_9 : decode cX1_withConstant 9 = .ok (.getfield 15, 3) := by decide +kernel
theorem dX1_withConstant_12 : decode cX1_withConstant 12 = .ok (.iload_n 1, 1) := by decide +kernel
theorem dX1_withConstant_13 : decode cX1_withConstant 13 = .ok (.aload_n 0, 1) := by decide +kernel
theorem dX1_withConstant_14 : decode cX1_withConstant 14 = .ok (.getfield 22, 3) := by decide +kernel
theorem dX1_withConstant_17 : decode cX1_withConstant 17 = .ok (.aload_n 0, 1) := by decide +kernel
theorem dX1_withConstant_18 : decode cX1_withConstant 18 = .ok (.getfield 25, 3) := by decide +kernel
theorem dX1_withConstant_21 : decode cX1_withConstant 21 = .ok (.invokespecial 28, 3) := by decide +kernel
theorem dX1_withConstant_24 : decode cX1_withConstant 24 = .ok (.areturn, 1) := by decide +kernel
set_option maxRecDepth 20000 in
theorem ggX1_withStrength_X1_init : GoodIn wsX1_withStrength wsX1_init := goodIn_r _ [9, 10, 11, 12, 4, 5, 6, 13, 14, 15, 16, 17, 18, 19] (by decide +kernel) (by decide +kernel)
set_option maxRecDepth 20000 in
theorem gX1_withStrength_X1_init : GoodIn wsX1_withStrength (wsX1_init) := ggX1_withStrength_X1_init
theorem dX1_withStrength_0 : decode cX1_withStrength 0 = .ok (.new 10, 3) := by decide +kernel
theorem dX1_withStrength_3 : decode cX1_withStrength 3 = .ok (.dup, 1) := by decide +kernel
theorem dX1_withStrength_4 : decode cX1_withStrength 4 = .ok (.aload_n 0, 1) := by decide +kernel
theorem dX1_withStrength_5 : decode cX1_withStrength 5 = .ok (.getfield 9, 3) := by decide +kernel
theorem dX1_withStrength_8 : decode cX1_withStrength 8 = .ok (.aload_n 0, 1) := by decide +kernel
theorem dX1_withStrength_9 : decode cX1_withStrength 9 = .ok (.getfield 15, 3) := by decide +kernel
theorem dX1_withStrength_12 : decode cX1_withStrength 12 = .ok (.aload_n 0, 1) := by decide +kernel
theorem dX1_withStrength_13 : decode cX1_withStrength 13 = .ok (.getfield 19, 3) := by decide +kernel
theorem dX1_withStrength_16 : decode cX1_withStrength 16 = .ok (.iload_n 1, 1) := by decide +kernel
theorem dX1_withStrength_17 : decode cX1_withStrength 17 = .ok (.iload_n 2, 1) := by decide +kernel
theorem dX1_withStrength_18 : decode cX1_withStrength 18 = .ok (.invokespecial 28, 3) := by decide +kernel
theorem dX1_withStrength_21 : decode cX1_withStrength 21 = .ok (.areturn, 1) := by decide +kernel
theorem dX1_coefficient_0 : decode cX1_coefficient 0 = .ok (.iload_n 1, 1) := by decide +kernel
theorem dX1_coefficient_1 : decode cX1_coefficient 1 = .ok (.ifCond .lt 12, 3) := by decide +kernel
theorem dX1_coefficient_4 : decode cX1_coefficient 4 = .ok (.iload_n 1, 1) := by decide +kernel
theorem dX1_coefficient_5 : decode cX1_coefficient 5 = .ok (.aload_n 0, 1) := by decide +kernel
theorem dX1_coefficient_6 : decode cX1_coefficient 6 = .ok (.getfield 9, 3) := by decide +kernel
theorem dX1_coefficient_9 : decode cX1_coefficient 9 = .ok (.arraylength, 1) := by decide +kernel
theorem dX1_coefficient_10 : decode cX1_coefficient 10 = .ok (.if_icmp .lt 7, 3) := by decide +kernel
theorem dX1_coefficient_13 : decode cX1_coefficient 13 = .ok (.iconst 0, 1) := by decide +kernel
theorem dX1_coefficient_14 : decode cX1_coefficient 14 = .ok (.goto 9, 3) := by decide +kernel
theorem dX1_coefficient_17 : decode cX1_coefficient 17 = .ok (.aload_n 0, 1) := by decide +kernel
theorem dX1_coefficient_18 : decode cX1_coefficient 18 = .ok (.getfield 9, 3) := by decide +kernel
theorem dX1_coefficient_21 : decode cX1_coefficient 21 = .ok (.iload_n 1, 1) := by decide +kernel
theorem dX1_coefficient_22 : decode cX1_coefficient 22 = .ok (.iaload, 1) := by decide +kernel
theorem dX1_coefficient_23 : decode cX1_coefficient 23 = .ok (.ireturn, 1) := by decide +kernel
theorem dX1_variables_0 : decode cX1_variables 0 = .ok (.iconst 0, 1) := by decide +kernel
theorem dX1_variables_1 : decode cX1_variables 1 = .ok (.istore_n 1, 1) := by decide +kernel
theorem dX1_variables_2 : decode cX1_variables 2 = .ok (.iconst 0, 1) := by decide +kernel
theorem dX1_variables_3 : decode cX1_variables 3 = .ok (.istore_n 2, 1) := by decide +kernel
theorem dX1_variables_4 : decode cX1_variables 4 = .ok (.iload_n 2, 1) := by decide +kernel
theorem dX1_variables_5 : decode cX1_variables 5 = .ok (.aload_n 0, 1) := by decide +kernel
theorem dX1_variables_6 : decode cX1_variables 6 = .ok (.getfield 9, 3) := by decide +kernel
theorem dX1_variables_9 : decode cX1_variables 9 = .ok (.arraylength, 1) := by decide +kernel
theorem dX1_variables_10 : decode cX1_variables 10 = .ok (.if_icmp .ge 24, 3) := by decide +kernel
theorem dX1_variables_13 : decode cX1_variables 13 = .ok (.aload_n 0, 1) := by decide +kernel
theorem dX1_variables_14 : decode cX1_variables 14 = .ok (.getfield 9, 3) := by decide +kernel
theorem dX1_variables_17 : decode cX1_variables 17 = .ok (.iload_n 2, 1) := by decide +kernel
theorem dX1_variables_18 : decode cX1_variables 18 = .ok (.iaload, 1) := by decide +kernel
theorem dX1_variables_19 : decode cX1_variables 19 = .ok (.ifCond .eq 9, 3) := by decide +kernel
theorem dX1_variables_22 : decode cX1_variables 22 = .ok (.iload_n 1, 1) := by decide +kernel
theorem dX1_variables_23 : decode cX1_variables 23 = .ok (.iconst 1, 1) := by decide +kernel
theorem dX1_variables_24 : decode cX1_variables 24 = .ok (.iload_n 2, 1) := by decide +kernel
theorem dX1_variables_25 : decode cX1_variables 25 = .ok (.ishl, 1) := by decide +kernel
theorem dX1_variables_26 : decode cX1_variables 26 = .ok (.ior, 1) := by decide +kernel
theorem dX1_variables_27 : decode cX1_variables 27 = .ok (.istore_n 1, 1) := by decide +kernel
theorem dX1_variables_28 : decode cX1_variables 28 = .ok (.iinc 2 1, 3) := by decide +kernel
theorem dX1_variables_31 : decode cX1_variables 31 = .ok (.goto (-27), 3) := by decide +kernel
theorem dX1_variables_34 : decode cX1_variables 34 = .ok (.iload_n 1, 1) := by decide +kernel
theorem dX1_variables_35 : decode cX1_variables 35 = .ok (.ireturn, 1) := by decide +kernel
theorem dX1_costAbove_0 : decode cX1_costAbove 0 = .ok (.aload_n 0, 1) := by decide +kernel
theorem dX1_costAbove_1 : decode cX1_costAbove 1 = .ok (.getfield 15, 3) := by decide +kernel
theorem dX1_costAbove_4 : decode cX1_costAbove 4 = .ok (.iconst 2, 1) := by decide +kernel
theorem dX1_costAbove_5 : decode cX1_costAbove 5 = .ok (.if_icmp .ne 7, 3) := by decide +kernel
theorem dX1_costAbove_8 : decode cX1_costAbove 8 = .ok (.iconst 0, 1) := by decide +kernel
theorem dX1_costAbove_9 : decode cX1_costAbove 9 = .ok (.goto 7, 3) := by decide +kernel
theorem dX1_costAbove_12 : decode cX1_costAbove 12 = .ok (.aload_n 0, 1) := by decide +kernel
theorem dX1_costAbove_13 : decode cX1_costAbove 13 = .ok (.getfield 25, 3) := by decide +kernel
theorem dX1_costAbove_16 : decode cX1_costAbove 16 = .ok (.ireturn, 1) := by decide +kernel
theorem dX1_costBelow_0 : decode cX1_costBelow 0 = .ok (.aload_n 0, 1) := by decide +kernel
theorem dX1_costBelow_1 : decode cX1_costBelow 1 = .ok (.getfield 15, 3) := by decide +kernel
theorem dX1_costBelow_4 : decode cX1_costBelow 4 = .ok (.ifCond .ne 7, 3) := by decide +kernel
theorem dX1_costBelow_7 : decode cX1_costBelow 7 = .ok (.iconst 0, 1) := by decide +kernel
theorem dX1_costBelow_8 : decode cX1_costBelow 8 = .ok (.goto 7, 3) := by decide +kernel
theorem dX1_costBelow_11 : decode cX1_costBelow 11 = .ok (.aload_n 0, 1) := by decide +kernel
theorem dX1_costBelow_12 : decode cX1_costBelow 12 = .ok (.getfield 25, 3) := by decide +kernel
theorem dX1_costBelow_15 : decode cX1_costBelow 15 = .ok (.ireturn, 1) := by decide +kernel
set_option maxRecDepth 20000 in
theorem ggX1_writeTo_X6_clear : GoodIn wsX1_writeTo wsX6_clear := goodIn_r _ [14, 15, 37, 38] (by decide +kernel) (by decide +kernel)
set_option maxRecDepth 20000 in
theorem gX1_writeTo_X6_clear : GoodIn wsX1_writeTo (wsV RX1 31 RX6 yX6_clear wsX6_clear) := goodIn_app (goodIn_of _ (by decide +kernel)) ggX1_writeTo_X6_clear
set_option maxRecDepth 20000 in
theorem ggX1_writeTo_X1_writeTerm : GoodIn wsX1_writeTo wsX1_writeTerm := goodIn_r _ [19, 4, 5, 6, 7, 20, 21, 22, 13, 23, 15, 24, 25, 26, 27, 28, 37, 38] (by decide +kernel) (by decide +kernel)
set_option maxRecDepth 20000 in
theorem gX1_writeTo_X1_writeTerm : GoodIn wsX1_writeTo (va_wsS RX1 36 yX1_writeTerm wsX1_writeTerm) := goodIn_app (goodIn_of _ (by decide +kernel)) ggX1_writeTo_X1_writeTerm
set_option maxRecDepth 20000 in
theorem ggX1_writeTo_X6_append : GoodIn wsX1_writeTo wsX6_append := goodIn_r _ [23, 15, 24, 37, 38] (by decide +kernel) (by decide +kernel)
set_option maxRecDepth 20000 in
theorem gX1_writeTo_X6_append : GoodIn wsX1_writeTo (wsV RX1 40 RX6 yX6_append wsX6_append) := goodIn_app (goodIn_of _ (by decide +kernel)) ggX1_writeTo_X6_append
set_option maxRecDepth 20000 in
theorem ggX1_writeTo_X1_writeNumber : GoodIn wsX1_writeTo wsX1_writeNumber := goodIn_r _ [31, 20, 21, 22, 13, 23, 15, 24, 37, 38] (by decide +kernel) (by decide +kernel)
set_option maxRecDepth 20000 in
theorem gX1_writeTo_X1_writeNumber : GoodIn wsX1_writeTo (va_wsS RX1 50 yX1_writeNumber wsX1_writeNumber) := goodIn_app (goodIn_of _ (by decide +kernel)) ggX1_writeTo_X1_writeNumber
theorem dX1_writeTo_0 : decode cX1_writeTo 0 = .ok (.aload_n 1, 1) := by decide +kernel
theorem dX1_writeTo_1 : decode cX1_writeTo 1 = .ok (.invokevirtual 31, 3) := by decide +kernel
theorem dX1_writeTo_4 : decode cX1_writeTo 4 = .ok (.iconst 0, 1) := by decide +kernel
theorem dX1_writeTo_5 : decode cX1_writeTo 5 = .ok (.istore_n 2, 1) := by decide +kernel
theorem dX1_writeTo_6 : decode cX1_writeTo 6 = .ok (.iload_n 2, 1) := by decide +kernel
theorem dX1_writeTo_7 : decode cX1_writeTo 7 = .ok (.aload_n 0, 1) := by decide +kernel
theorem dX1_writeTo_8 : decode cX1_writeTo 8 = .ok (.getfield 9, 3) := by decide +kernel
theorem dX1_writeTo_11 : decode cX1_writeTo 11 = .ok (.arraylength, 1) := by decide +kernel
theorem dX1_writeTo_12 : decode cX1_writeTo 12 = .ok (.if_icmp .ge 33, 3) := by decide +kernel
theorem dX1_writeTo_15 : decode cX1_writeTo 15 = .ok (.aload_n 0, 1) := by decide +kernel
theorem dX1_writeTo_16 : decode cX1_writeTo 16 = .ok (.getfield 9, 3) := by decide +kernel
theorem dX1_writeTo_19 : decode cX1_writeTo 19 = .ok (.iload_n 2, 1) := by decide +kernel
theorem dX1_writeTo_20 : decode cX1_writeTo 20 = .ok (.iaload, 1) := by decide +kernel
theorem dX1_writeTo_21 : decode cX1_writeTo 21 = .ok (.ifCond .eq 18, 3) := by decide +kernel
theorem dX1_writeTo_24 : decode cX1_writeTo 24 = .ok (.aload_n 1, 1) := by decide +kernel
theorem dX1_writeTo_25 : decode cX1_writeTo 25 = .ok (.aload_n 0, 1) := by decide +kernel
theorem dX1_writeTo_26 : decode cX1_writeTo 26 = .ok (.getfield 9, 3) := by decide +kernel
theorem dX1_writeTo_29 : decode cX1_writeTo 29 = .ok (.iload_n 2, 1) := by decide +kernel
theorem dX1_writeTo_30 : decode cX1_writeTo 30 = .ok (.iaload, 1) := by decide +kernel
theorem dX1_writeTo_31 : decode cX1_writeTo 31 = .ok (.bipush 97, 2) := by decide +kernel
theorem dX1_writeTo_33 : decode cX1_writeTo 33 = .ok (.iload_n 2, 1) := by decide +kernel
theorem dX1_writeTo_34 : decode cX1_writeTo 34 = .ok (.iadd, 1) := by decide +kernel
theorem dX1_writeTo_35 : decode cX1_writeTo 35 = .ok (.i2c, 1) := by decide +kernel
theorem dX1_writeTo_36 : decode cX1_writeTo 36 = .ok (.invokestatic 36, 3) := by decide +kernel
theorem dX1_writeTo_39 : decode cX1_writeTo 39 = .ok (.iinc 2 1, 3) := by decide +kernel
theorem dX1_writeTo_42 : decode cX1_writeTo 42 = .ok (.goto (-36), 3) := by decide +kernel
theorem dX1_writeTo_45 : decode cX1_writeTo 45 = .ok (.aload_n 1, 1) := by decide +kernel
theorem dX1_writeTo_46 : decode cX1_writeTo 46 = .ok (.aload_n 0, 1) := by decide +kernel
theorem dX1_writeTo_47 : decode cX1_writeTo 47 = .ok (.getfield 15, 3) := by decide +kernel
theorem dX1_writeTo_50 : decode cX1_writeTo 50 = .ok (.ifCond .ne 8, 3) := by decide +kernel
theorem dX1_writeTo_53 : decode cX1_writeTo 53 = .ok (.bipush 60, 2) := by decide +kernel
theorem dX1_writeTo_55 : decode cX1_writeTo 55 = .ok (.goto 18, 3) := by decide +kernel
theorem dX1_writeTo_58 : decode cX1_writeTo 58 = .ok (.aload_n 0, 1) := by decide +kernel
theorem dX1_writeTo_59 : decode cX1_writeTo 59 = .ok (.getfield 15, 3) := by decide +kernel
theorem dX1_writeTo_62 : decode cX1_writeTo 62 = .ok (.iconst 1, 1) := by decide +kernel
theorem dX1_writeTo_63 : decode cX1_writeTo 63 = .ok (.if_icmp .ne 8, 3) := by decide +kernel
theorem dX1_writeTo_66 : decode cX1_writeTo 66 = .ok (.bipush 61, 2) := by decide +kernel
theorem dX1_writeTo_68 : decode cX1_writeTo 68 = .ok (.goto 5, 3) := by decide +kernel
theorem dX1_writeTo_71 : decode cX1_writeTo 71 = .ok (.bipush 62, 2) := by decide +kernel
theorem dX1_writeTo_73 : decode cX1_writeTo 73 = .ok (.invokevirtual 40, 3) := by decide +kernel
theorem dX1_writeTo_76 : decode cX1_writeTo 76 = .ok (.aload_n 0, 1) := by decide +kernel
theorem dX1_writeTo_77 : decode cX1_writeTo 77 = .ok (.getfield 19, 3) := by decide +kernel
theorem dX1_writeTo_80 : decode cX1_writeTo 80 = .ok (.ifCond .ge 9, 3) := by decide +kernel
theorem dX1_writeTo_83 : decode cX1_writeTo 83 = .ok (.aload_n 1, 1) := by decide +kernel
theorem dX1_writeTo_84 : decode cX1_writeTo 84 = .ok (.bipush 45, 2) := by decide +kernel
theorem dX1_writeTo_86 : decode cX1_writeTo 86 = .ok (.invokevirtual 40, 3) := by decide +kernel
theorem dX1_writeTo_89 : decode cX1_writeTo 89 = .ok (.aload_n 1, 1) := by decide +kernel
theorem dX1_writeTo_90 : decode cX1_writeTo 90 = .ok (.aload_n 0, 1) := by decide +kernel
theorem dX1_writeTo_91 : decode cX1_writeTo 91 = .ok (.getfield 19, 3) := by decide +kernel
theorem dX1_writeTo_94 : decode cX1_writeTo 94 = .ok (.invokestatic 44, 3) := by decide +kernel
theorem dX1_writeTo_97 : decode cX1_writeTo 97 = .ok (.invokestatic 50, 3) := by decide +kernel
theorem dX1_writeTo_100 : decode cX1_writeTo 100 = .ok (.aload_n 0, 1) := by decide +kernel
theorem dX1_writeTo_101 : decode cX1_writeTo 101 = .ok (.getfield 22, 3) := by decide +kernel
theorem dX1_writeTo_104 : decode cX1_writeTo 104 = .ok (.ifCond .eq 61, 3) := by decide +kernel
theorem dX1_writeTo_107 : decode cX1_writeTo 107 = .ok (.aload_n 1, 1) := by decide +kernel
theorem dX1_writeTo_108 : decode cX1_writeTo 108 = .ok (.bipush 64, 2) := by decide +kernel
theorem dX1_writeTo_110 : decode cX1_writeTo 110 = .ok (.invokevirtual 40, 3) := by decide +kernel
theorem dX1_writeTo_113 : decode cX1_writeTo 113 = .ok (.aload_n 1, 1) := by decide +kernel
theorem dX1_writeTo_114 : decode cX1_writeTo 114 = .ok (.aload_n 0, 1) := by decide +kernel
theorem dX1_writeTo_115 : decode cX1_writeTo 115 = .ok (.getfield 22, 3) := by decide +kernel
theorem dX1_writeTo_118 : decode cX1_writeTo 118 = .ok (.iconst 1, 1) := by decide +kernel
theorem dX1_writeTo_119 : decode cX1_writeTo 119 = .ok (.if_icmp .ne 8, 3) := by decide +kernel
theorem dX1_writeTo_122 : decode cX1_writeTo 122 = .ok (.bipush 115, 2) := by decide +kernel
theorem dX1_writeTo_124 : decode cX1_writeTo 124 = .ok (.goto 18, 3) := by decide +kernel
theorem dX1_writeTo_127 : decode cX1_writeTo 127 = .ok (.aload_n 0, 1) := by decide +kernel
theorem dX1_writeTo_128 : decode cX1_writeTo 128 = .ok (.getfield 22, 3) := by decide +kernel
theorem dX1_writeTo_131 : decode cX1_writeTo 131 = .ok (.iconst 2, 1) := by decide +kernel
theorem dX1_writeTo_132 : decode cX1_writeTo 132 = .ok (.if_icmp .ne 8, 3) := by decide +kernel
theorem dX1_writeTo_135 : decode cX1_writeTo 135 = .ok (.bipush 109, 2) := by decide +kernel
theorem dX1_writeTo_137 : decode cX1_writeTo 137 = .ok (.goto 5, 3) := by decide +kernel
theorem dX1_writeTo_140 : decode cX1_writeTo 140 = .ok (.bipush 119, 2) := by decide +kernel
theorem dX1_writeTo_142 : decode cX1_writeTo 142 = .ok (.invokevirtual 40, 3) := by decide +kernel
theorem dX1_writeTo_145 : decode cX1_writeTo 145 = .ok (.aload_n 0, 1) := by decide +kernel
theorem dX1_writeTo_146 : decode cX1_writeTo 146 = .ok (.getfield 25, 3) := by decide +kernel
theorem dX1_writeTo_149 : decode cX1_writeTo 149 = .ok (.iconst 1, 1) := by decide +kernel
theorem dX1_writeTo_150 : decode cX1_writeTo 150 = .ok (.if_icmp .eq 15, 3) := by decide +kernel
theorem dX1_writeTo_153 : decode cX1_writeTo 153 = .ok (.aload_n 1, 1) := by decide +kernel
theorem dX1_writeTo_154 : decode cX1_writeTo 154 = .ok (.bipush 48, 2) := by decide +kernel
theorem dX1_writeTo_156 : decode cX1_writeTo 156 = .ok (.aload_n 0, 1) := by decide +kernel
theorem dX1_writeTo_157 : decode cX1_writeTo 157 = .ok (.getfield 25, 3) := by decide +kernel
theorem dX1_writeTo_160 : decode cX1_writeTo 160 = .ok (.iadd, 1) := by decide +kernel
theorem dX1_writeTo_161 : decode cX1_writeTo 161 = .ok (.i2c, 1) := by decide +kernel
theorem dX1_writeTo_162 : decode cX1_writeTo 162 = .ok (.invokevirtual 40, 3) := by decide +kernel
theorem dX1_writeTo_165 : decode cX1_writeTo 165 = .ok (.return_, 1) := by decide +kernel
set_option maxRecDepth 20000 in
theorem ggX1_writeTerm_X6_append : GoodIn wsX1_writeTerm wsX6_append := goodIn_r _ [9, 10, 11, 16, 17] (by decide +kernel) (by decide +kernel)
set_option maxRecDepth 20000 in
theorem gX1_writeTerm_X6_append : GoodIn wsX1_writeTerm (wsV RX1 40 RX6 yX6_append wsX6_append) := goodIn_app (goodIn_of _ (by decide +kernel)) ggX1_writeTerm_X6_append
set_option maxRecDepth 20000 in
theorem ggX1_writeTerm_X6_size : GoodIn wsX1_writeTerm wsX6_size := goodIn_r _ [15, 10, 16, 17] (by decide +kernel) (by decide +kernel)
set_option maxRecDepth 20000 in
theorem gX1_writeTerm_X6_size : GoodIn wsX1_writeTerm (wsV RX1 54 RX6 yX6_size wsX6_size) := goodIn_app (goodIn_of _ (by decide +kernel)) ggX1_writeTerm_X6_size
theorem dX1_writeTerm_0 : decode cX1_writeTerm 0 = .ok (.iload_n 1, 1) := by decide +kernel
theorem dX1_writeTerm_1 : decode cX1_writeTerm 1 = .ok (.ifCond .ge 12, 3) := by decide +kernel
theorem dX1_writeTerm_4 : decode cX1_writeTerm 4 = .ok (.aload_n 0, 1) := by decide +kernel
theorem dX1_writeTerm_5 : decode cX1_writeTerm 5 = .ok (.bipush 45, 2) := by decide +kernel
theorem dX1_writeTerm_7 : decode cX1_writeTerm 7 = .ok (.invokevirtual 40, 3) := by decide +kernel
theorem dX1_writeTerm_10 : decode cX1_writeTerm 10 = .ok (.goto 16, 3) := by decide +kernel
theorem dX1_writeTerm_13 : decode cX1_writeTerm 13 = .ok (.aload_n 0, 1) := by decide +kernel
theorem dX1_writeTerm_14 : decode cX1_writeTerm 14 = .ok (.invokevirtual 54, 3) := by decide +kernel
theorem dX1_writeTerm_17 : decode cX1_writeTerm 17 = .ok (.ifCond .le 9, 3) := by decide +kernel
theorem dX1_writeTerm_20 : decode cX1_writeTerm 20 = .ok (.aload_n 0, 1) := by decide +kernel
theorem dX1_writeTerm_21 : decode cX1_writeTerm 21 = .ok (.bipush 43, 2) := by decide +kernel
theorem dX1_writeTerm_23 : decode cX1_writeTerm 23 = .ok (.invokevirtual 40, 3) := by decide +kernel
theorem dX1_writeTerm_26 : decode cX1_writeTerm 26 = .ok (.iload_n 1, 1) := by decide +kernel
theorem dX1_writeTerm_27 : decode cX1_writeTerm 27 = .ok (.invokestatic 44, 3) := by decide +kernel
theorem dX1_writeTerm_30 : decode cX1_writeTerm 30 = .ok (.iconst 1, 1) := by decide +kernel
theorem dX1_writeTerm_31 : decode cX1_writeTerm 31 = .ok (.if_icmp .eq 15, 3) := by decide +kernel
theorem dX1_writeTerm_34 : decode cX1_writeTerm 34 = .ok (.aload_n 0, 1) := by decide +kernel
theorem dX1_writeTerm_35 : decode cX1_writeTerm 35 = .ok (.bipush 48, 2) := by decide +kernel
theorem dX1_writeTerm_37 : decode cX1_writeTerm 37 = .ok (.iload_n 1, 1) := by decide +kernel
theorem dX1_writeTerm_38 : decode cX1_writeTerm 38 = .ok (.invokestatic 44, 3) := by decide +kernel
theorem dX1_writeTerm_41 : decode cX1_writeTerm 41 = .ok (.iadd, 1) := by decide +kernel
theorem dX1_writeTerm_42 : decode cX1_writeTerm 42 = .ok (.i2c, 1) := by decide +kernel
theorem dX1_writeTerm_43 : decode cX1_writeTerm 43 = .ok (.invokevirtual 40, 3) := by decide +kernel
theorem dX1_writeTerm_46 : decode cX1_writeTerm 46 = .ok (.aload_n 0, 1) := by decide +kernel
theorem dX1_writeTerm_47 : decode cX1_writeTerm 47 = .ok (.iload_n 2, 1) := by decide +kernel
theorem dX1_writeTerm_48 : decode cX1_writeTerm 48 = .ok (.invokevirtual 40, 3) := by decide +kernel
theorem dX1_writeTerm_51 : decode cX1_writeTerm 51 = .ok (.return_, 1) := by decide +kernel
set_option maxRecDepth 20000 in
theorem ggX1_writeNumber_X6_append : GoodIn wsX1_writeNumber wsX6_append := goodIn_r _ [5, 6, 7, 8, 9] (by decide +kernel) (by decide +kernel)
set_option maxRecDepth 20000 in
theorem gX1_writeNumber_X6_append : GoodIn wsX1_writeNumber (wsV RX1 40 RX6 yX6_append wsX6_append) := goodIn_app (goodIn_of _ (by decide +kernel)) ggX1_writeNumber_X6_append
theorem dX1_writeNumber_0 : decode cX1_writeNumber 0 = .ok (.iload_n 1, 1) := by decide +kernel
theorem dX1_writeNumber_1 : decode cX1_writeNumber 1 = .ok (.bipush 100, 2) := by decide +kernel
theorem dX1_writeNumber_3 : decode cX1_writeNumber 3 = .ok (.if_icmp .lt 15, 3) := by decide +kernel
theorem dX1_writeNumber_6 : decode cX1_writeNumber 6 = .ok (.aload_n 0, 1) := by decide +kernel
theorem dX1_writeNumber_7 : decode cX1_writeNumber 7 = .ok (.bipush 48, 2) := by decide +kernel
theorem dX1_writeNumber_9 : decode cX1_writeNumber 9 = .ok (.iload_n 1, 1) := by decide +kernel
theorem dX1_writeNumber_10 : decode cX1_writeNumber 10 = .ok (.bipush 100, 2) := by decide +kernel
theorem dX1_writeNumber_12 : decode cX1_writeNumber 12 = .ok (.idiv, 1) := by decide +kernel
theorem dX1_writeNumber_13 : decode cX1_writeNumber 13 = .ok (.iadd, 1) := by decide +kernel
theorem dX1_writeNumber_14 : decode cX1_writeNumber 14 = .ok (.i2c, 1) := by decide +kernel
theorem dX1_writeNumber_15 : decode cX1_writeNumber 15 = .ok (.invokevirtual 40, 3) := by decide +kernel
theorem dX1_writeNumber_18 : decode cX1_writeNumber 18 = .ok (.iload_n 1, 1) := by decide +kernel
theorem dX1_writeNumber_19 : decode cX1_writeNumber 19 = .ok (.bipush 10, 2) := by decide +kernel
theorem dX1_writeNumber_21 : decode cX1_writeNumber 21 = .ok (.if_icmp .lt 18, 3) := by decide +kernel
theorem dX1_writeNumber_24 : decode cX1_writeNumber 24 = .ok (.aload_n 0, 1) := by decide +kernel
theorem dX1_writeNumber_25 : decode cX1_writeNumber 25 = .ok (.bipush 48, 2) := by decide +kernel
theorem dX1_writeNumber_27 : decode cX1_writeNumber 27 = .ok (.iload_n 1, 1) := by decide +kernel
theorem dX1_writeNumber_28 : decode cX1_writeNumber 28 = .ok (.bipush 10, 2) := by decide +kernel
theorem dX1_writeNumber_30 : decode cX1_writeNumber 30 = .ok (.idiv, 1) := by decide +kernel
theorem dX1_writeNumber_31 : decode cX1_writeNumber 31 = .ok (.bipush 10, 2) := by decide +kernel
theorem dX1_writeNumber_33 : decode cX1_writeNumber 33 = .ok (.irem, 1) := by decide +kernel
theorem dX1_writeNumber_34 : decode cX1_writeNumber 34 = .ok (.iadd, 1) := by decide +kernel
theorem dX1_writeNumber_35 : decode cX1_writeNumber 35 = .ok (.i2c, 1) := by decide +kernel
theorem dX1_writeNumber_36 : decode cX1_writeNumber 36 = .ok (.invokevirtual 40, 3) := by decide +kernel
theorem dX1_writeNumber_39 : decode cX1_writeNumber 39 = .ok (.aload_n 0, 1) := by decide +kernel
theorem dX1_writeNumber_40 : decode cX1_writeNumber 40 = .ok (.bipush 48, 2) := by decide +kernel
theorem dX1_writeNumber_42 : decode cX1_writeNumber 42 = .ok (.iload_n 1, 1) := by decide +kernel
theorem dX1_writeNumber_43 : decode cX1_writeNumber 43 = .ok (.bipush 10, 2) := by decide +kernel
theorem dX1_writeNumber_45 : decode cX1_writeNumber 45 = .ok (.irem, 1) := by decide +kernel
theorem dX1_writeNumber_46 : decode cX1_writeNumber 46 = .ok (.iadd, 1) := by decide +kernel
theorem dX1_writeNumber_47 : decode cX1_writeNumber 47 = .ok (.i2c, 1) := by decide +kernel
theorem dX1_writeNumber_48 : decode cX1_writeNumber 48 = .ok (.invokevirtual 40, 3) := by decide +kernel
theorem dX1_writeNumber_51 : decode cX1_writeNumber 51 = .ok (.return_, 1) := by decide +kernel
theorem dX2_init_0 : decode cX2_init 0 = .ok (.aload_n 0, 1) := by decide +kernel
theorem dX2_init_1 : decode cX2_init 1 = .ok (.invokespecial 3, 3) := by decide +kernel
theorem dX2_init_4 : decode cX2_init 4 = .ok (.aload_n 0, 1) := by decide +kernel
theorem dX2_init_5 : decode cX2_init 5 = .ok (.iconst 4, 1) := by decide +kernel
theorem dX2_init_6 : decode cX2_init 6 = .ok (.newarray .long, 2) := by decide +kernel
theorem dX2_init_8 : decode cX2_init 8 = .ok (.putfield 9, 3) := by decide +kernel
theorem dX2_init_11 : decode cX2_init 11 = .ok (.aload_n 0, 1) := by decide +kernel
theorem dX2_init_12 : decode cX2_init 12 = .ok (.lconst 1, 1) := by decide +kernel
theorem dX2_init_13 : decode cX2_init 13 = .ok (.putfield 15, 3) := by decide +kernel
theorem dX2_init_16 : decode cX2_init 16 = .ok (.return_, 1) := by decide +kernel
theorem dX2_clear_0 : decode cX2_clear 0 = .ok (.iconst 0, 1) := by decide +kernel
theorem dX2_clear_1 : decode cX2_clear 1 = .ok (.istore_n 3, 1) := by decide +kernel
theorem dX2_clear_2 : decode cX2_clear 2 = .ok (.iload_n 3, 1) := by decide +kernel
theorem dX2_clear_3 : decode cX2_clear 3 = .ok (.iconst 3, 1) := by decide +kernel
theorem dX2_clear_4 : decode cX2_clear 4 = .ok (.if_icmp .gt 16, 3) := by decide +kernel
theorem dX2_clear_7 : decode cX2_clear 7 = .ok (.aload_n 0, 1) := by decide +kernel
theorem dX2_clear_8 : decode cX2_clear 8 = .ok (.getfield 9, 3) := by decide +kernel
theorem dX2_clear_11 : decode cX2_clear 11 = .ok (.iload_n 3, 1) := by decide +kernel
theorem dX2_clear_12 : decode cX2_clear 12 = .ok (.lconst 0, 1) := by decide +kernel
theorem dX2_clear_13 : decode cX2_clear 13 = .ok (.lastore, 1) := by decide +kernel
theorem dX2_clear_14 : decode cX2_clear 14 = .ok (.iinc 3 1, 3) := by decide +kernel
theorem dX2_clear_17 : decode cX2_clear 17 = .ok (.goto (-15), 3) := by decide +kernel
theorem dX2_clear_20 : decode cX2_clear 20 = .ok (.aload_n 0, 1) := by decide +kernel
theorem dX2_clear_21 : decode cX2_clear 21 = .ok (.lload_n 1, 1) := by decide +kernel
theorem dX2_clear_22 : decode cX2_clear 22 = .ok (.putfield 15, 3) := by decide +kernel
theorem dX2_clear_25 : decode cX2_clear 25 = .ok (.return_, 1) := by decide +kernel
theorem dX2_increase_0 : decode cX2_increase 0 = .ok (.iload_n 1, 1) := by decide +kernel
theorem dX2_increase_1 : decode cX2_increase 1 = .ok (.ifCond .lt 18, 3) := by decide +kernel
theorem dX2_increase_4 : decode cX2_increase 4 = .ok (.iload_n 1, 1) := by decide +kernel
theorem dX2_increase_5 : decode cX2_increase 5 = .ok (.iconst 3, 1) := by decide +kernel
theorem dX2_increase_6 : decode cX2_increase 6 = .ok (.if_icmp .gt 13, 3) := by decide +kernel
theorem dX2_increase_9 : decode cX2_increase 9 = .ok (.aload_n 0, 1) := by decide +kernel
theorem dX2_increase_10 : decode cX2_increase 10 = .ok (.getfield 9, 3) := by decide +kernel
theorem dX2_increase_13 : decode cX2_increase 13 = .ok (.iload_n 1, 1) := by decide +kernel
theorem dX2_increase_14 : decode cX2_increase 14 = .ok (.dup2, 1) := by decide +kernel
theorem dX2_increase_15 : decode cX2_increase 15 = .ok (.laload, 1) := by decide +kernel
theorem dX2_increase_16 : decode cX2_increase 16 = .ok (.lload_n 2, 1) := by decide +kernel
theorem dX2_increase_17 : decode cX2_increase 17 = .ok (.ladd, 1) := by decide +kernel
theorem dX2_increase_18 : decode cX2_increase 18 = .ok (.lastore, 1) := by decide +kernel
theorem dX2_increase_19 : decode cX2_increase 19 = .ok (.return_, 1) := by decide +kernel
theorem dX2_copy_0 : decode cX2_copy 0 = .ok (.iconst 0, 1) := by decide +kernel
theorem dX2_copy_1 : decode cX2_copy 1 = .ok (.istore_n 2, 1) := by decide +kernel
theorem dX2_copy_2 : decode cX2_copy 2 = .ok (.iload_n 2, 1) := by decide +kernel
theorem dX2_copy_3 : decode cX2_copy 3 = .ok (.iconst 3, 1) := by decide +kernel
theorem dX2_copy_4 : decode cX2_copy 4 = .ok (.if_icmp .gt 21, 3) := by decide +kernel
theorem dX2_copy_7 : decode cX2_copy 7 = .ok (.aload_n 0, 1) := by decide +kernel
theorem dX2_copy_8 : decode cX2_copy 8 = .ok (.getfield 9, 3) := by decide +kernel
theorem dX2_copy_11 : decode cX2_copy 11 = .ok (.iload_n 2, 1) := by decide +kernel
theorem dX2_copy_12 : decode cX2_copy 12 = .ok (.aload_n 1, 1) := by decide +kernel
theorem dX2_copy_13 : decode cX2_copy 13 = .ok (.getfield 9, 3) := by decide +kernel
theorem dX2_copy_16 : decode cX2_copy 16 = .ok (.iload_n 2, 1) := by decide +kernel
theorem dX2_copy_17 : decode cX2_copy 17 = .ok (.laload, 1) := by decide +kernel
theorem dX2_copy_18 : decode cX2_copy 18 = .ok (.lastore, 1) := by decide +kernel
theorem dX2_copy_19 : decode cX2_copy 19 = .ok (.iinc 2 1, 3) := by decide +kernel
theorem dX2_copy_22 : decode cX2_copy 22 = .ok (.goto (-20), 3) := by decide +kernel
theorem dX2_copy_25 : decode cX2_copy 25 = .ok (.aload_n 0, 1) := by decide +kernel
theorem dX2_copy_26 : decode cX2_copy 26 = .ok (.aload_n 1, 1) := by decide +kernel
theorem dX2_copy_27 : decode cX2_copy 27 = .ok (.getfield 15, 3) := by decide +kernel
theorem dX2_copy_30 : decode cX2_copy 30 = .ok (.putfield 15, 3) := by decide +kernel
theorem dX2_copy_33 : decode cX2_copy 33 = .ok (.return_, 1) := by decide +kernel
theorem dX2_isFeasible_0 : decode cX2_isFeasible 0 = .ok (.aload_n 0, 1) := by decide +kernel
theorem dX2_isFeasible_1 : decode cX2_isFeasible 1 = .ok (.getfield 9, 3) := by decide +kernel
theorem dX2_isFeasible_4 : decode cX2_isFeasible 4 = .ok (.iconst 0, 1) := by decide +kernel
theorem dX2_isFeasible_5 : decode cX2_isFeasible 5 = .ok (.laload, 1) := by decide +kernel
theorem dX2_isFeasible_6 : decode cX2_isFeasible 6 = .ok (.lconst 0, 1) := by decide +kernel
theorem dX2_isFeasible_7 : decode cX2_isFeasible 7 = .ok (.lcmp, 1) := by decide +kernel
theorem dX2_isFeasible_8 : decode cX2_isFeasible 8 = .ok (.ifCond .ne 7, 3) := by decide +kernel
theorem dX2_isFeasible_11 : decode cX2_isFeasible 11 = .ok (.iconst 1, 1) := by decide +kernel
theorem dX2_isFeasible_12 : decode cX2_isFeasible 12 = .ok (.goto 4, 3) := by decide +kernel
theorem dX2_isFeasible_15 : decode cX2_isFeasible 15 = .ok (.iconst 0, 1) := by decide +kernel
theorem dX2_isFeasible_16 : decode cX2_isFeasible 16 = .ok (.ireturn, 1) := by decide +kernel
set_option maxRecDepth 20000 in
theorem ggX2_part_X8_partOf : GoodIn wsX2_part wsX8_partOf := goodIn_r _ [5, 6, 7, 8, 9] (by decide +kernel) (by decide +kernel)
set_option maxRecDepth 20000 in
theorem gX2_part_X8_partOf_n19 : GoodIn wsX2_part (wsX8_partOf) := ggX2_part_X8_partOf
theorem dX2_part_0 : decode cX2_part 0 = .ok (.iload_n 1, 1) := by decide +kernel
theorem dX2_part_1 : decode cX2_part 1 = .ok (.ifCond .lt 8, 3) := by decide +kernel
theorem dX2_part_4 : decode cX2_part 4 = .ok (.iload_n 1, 1) := by decide +kernel
theorem dX2_part_5 : decode cX2_part 5 = .ok (.iconst 3, 1) := by decide +kernel
theorem dX2_part_6 : decode cX2_part 6 = .ok (.if_icmp .le 7, 3) := by decide +kernel
theorem dX2_part_9 : decode cX2_part 9 = .ok (.lconst 0, 1) := by decide +kernel
theorem dX2_part_10 : decode cX2_part 10 = .ok (.goto 17, 3) := by decide +kernel
theorem dX2_part_13 : decode cX2_part 13 = .ok (.aload_n 0, 1) := by decide +kernel
theorem dX2_part_14 : decode cX2_part 14 = .ok (.getfield 9, 3) := by decide +kernel
theorem dX2_part_17 : decode cX2_part 17 = .ok (.iload_n 1, 1) := by decide +kernel
theorem dX2_part_18 : decode cX2_part 18 = .ok (.laload, 1) := by decide +kernel
theorem dX2_part_19 : decode cX2_part 19 = .ok (.aload_n 0, 1) := by decide +kernel
theorem dX2_part_20 : decode cX2_part 20 = .ok (.getfield 15, 3) := by decide +kernel
theorem dX2_part_23 : decode cX2_part 23 = .ok (.iload_n 2, 1) := by decide +kernel
theorem dX2_part_24 : decode cX2_part 24 = .ok (.invokestatic 19, 3) := by decide +kernel
theorem dX2_part_27 : decode cX2_part 27 = .ok (.lreturn, 1) := by decide +kernel
set_option maxRecDepth 20000 in
theorem ggX2_compareWith_J13_compare_74951 : GoodIn wsX2_compareWith wsJ13_compare_74951 := goodIn_r _ [6] (by decide +kernel) (by decide +kernel)
set_option maxRecDepth 20000 in
theorem gX2_compareWith_J13_compare_74951 : GoodIn wsX2_compareWith (va_wsS RX2 23 yJ13_compare_74951 wsJ13_compare_74951) := goodIn_app (goodIn_of _ (by decide +kernel)) ggX2_compareWith_J13_compare_74951
theorem dX2_compareWith_0 : decode cX2_compareWith 0 = .ok (.iconst 1, 1) := by decide +kernel
theorem dX2_compareWith_1 : decode cX2_compareWith 1 = .ok (.istore_n 2, 1) := by decide +kernel
theorem dX2_compareWith_2 : decode cX2_compareWith 2 = .ok (.iload_n 2, 1) := by decide +kernel
theorem dX2_compareWith_3 : decode cX2_compareWith 3 = .ok (.iconst 3, 1) := by decide +kernel
theorem dX2_compareWith_4 : decode cX2_compareWith 4 = .ok (.if_icmp .gt 41, 3) := by decide +kernel
theorem dX2_compareWith_7 : decode cX2_compareWith 7 = .ok (.aload_n 0, 1) := by decide +kernel
theorem dX2_compareWith_8 : decode cX2_compareWith 8 = .ok (.getfield 9, 3) := by decide +kernel
theorem dX2_compareWith_11 : decode cX2_compareWith 11 = .ok (.iload_n 2, 1) := by decide +kernel
theorem dX2_compareWith_12 : decode cX2_compareWith 12 = .ok (.laload, 1) := by decide +kernel
theorem dX2_compareWith_13 : decode cX2_compareWith 13 = .ok (.aload_n 1, 1) := by decide +kernel
theorem dX2_compareWith_14 : decode cX2_compareWith 14 = .ok (.getfield 15, 3) := by decide +kernel
theorem dX2_compareWith_17 : decode cX2_compareWith 17 = .ok (.lmul, 1) := by decide +kernel
theorem dX2_compareWith_18 : decode cX2_compareWith 18 = .ok (.aload_n 1, 1) := by decide +kernel
theorem dX2_compareWith_19 : decode cX2_compareWith 19 = .ok (.getfield 9, 3) := by decide +kernel
theorem dX2_compareWith_22 : decode cX2_compareWith 22 = .ok (.iload_n 2, 1) := by decide +kernel
theorem dX2_compareWith_23 : decode cX2_compareWith 23 = .ok (.laload, 1) := by decide +kernel
theorem dX2_compareWith_24 : decode cX2_compareWith 24 = .ok (.aload_n 0, 1) := by decide +kernel
theorem dX2_compareWith_25 : decode cX2_compareWith 25 = .ok (.getfield 15, 3) := by decide +kernel
theorem dX2_compareWith_28 : decode cX2_compareWith 28 = .ok (.lmul, 1) := by decide +kernel
theorem dX2_compareWith_29 : decode cX2_compareWith 29 = .ok (.invokestatic 23, 3) := by decide +kernel
theorem dX2_compareWith_32 : decode cX2_compareWith 32 = .ok (.istore_n 3, 1) := by decide +kernel
theorem dX2_compareWith_33 : decode cX2_compareWith 33 = .ok (.iload_n 3, 1) := by decide +kernel
theorem dX2_compareWith_34 : decode cX2_compareWith 34 = .ok (.ifCond .eq 5, 3) := by decide +kernel
theorem dX2_compareWith_37 : decode cX2_compareWith 37 = .ok (.iload_n 3, 1) := by decide +kernel
theorem dX2_compareWith_38 : decode cX2_compareWith 38 = .ok (.ireturn, 1) := by decide +kernel
theorem dX2_compareWith_39 : decode cX2_compareWith 39 = .ok (.iinc 2 1, 3) := by decide +kernel
theorem dX2_compareWith_42 : decode cX2_compareWith 42 = .ok (.goto (-40), 3) := by decide +kernel
theorem dX2_compareWith_45 : decode cX2_compareWith 45 = .ok (.iconst 0, 1) := by decide +kernel
theorem dX2_compareWith_46 : decode cX2_compareWith 46 = .ok (.ireturn, 1) := by decide +kernel
theorem dX4_init_0 : decode cX4_init 0 = .ok (.aload_n 0, 1) := by decide +kernel
theorem dX4_init_1 : decode cX4_init 1 = .ok (.invokespecial 3, 3) := by decide +kernel
theorem dX4_init_4 : decode cX4_init 4 = .ok (.aload_n 0, 1) := by decide +kernel
theorem dX4_init_5 : decode cX4_init 5 = .ok (.bipush 20, 2) := by decide +kernel
theorem dX4_init_7 : decode cX4_init 7 = .ok (.anewarray 9, 3) := by decide +kernel
theorem dX4_init_10 : decode cX4_init 10 = .ok (.putfield 11, 3) := by decide +kernel
theorem dX4_init_13 : decode cX4_init 13 = .ok (.aload_n 0, 1) := by decide +kernel
theorem dX4_init_14 : decode cX4_init 14 = .ok (.iconst 0, 1) := by decide +kernel
theorem dX4_init_15 : decode cX4_init 15 = .ok (.putfield 17, 3) := by decide +kernel
theorem dX4_init_18 : decode cX4_init 18 = .ok (.aload_n 0, 1) := by decide +kernel
theorem dX4_init_19 : decode cX4_init 19 = .ok (.iconst 0, 1) := by decide +kernel
theorem dX4_init_20 : decode cX4_init 20 = .ok (.putfield 21, 3) := by decide +kernel
theorem dX4_init_23 : decode cX4_init 23 = .ok (.return_, 1) := by decide +kernel
theorem dX4_done_0 : decode cX4_done 0 = .ok (.aload_n 0, 1) := by decide +kernel
theorem dX4_done_1 : decode cX4_done 1 = .ok (.getfield 17, 3) := by decide +kernel
theorem dX4_done_4 : decode cX4_done 4 = .ok (.ireturn, 1) := by decide +kernel
theorem dX4_undone_0 : decode cX4_undone 0 = .ok (.aload_n 0, 1) := by decide +kernel
theorem dX4_undone_1 : decode cX4_undone 1 = .ok (.getfield 21, 3) := by decide +kernel
theorem dX4_undone_4 : decode cX4_undone 4 = .ok (.ireturn, 1) := by decide +kernel
theorem dX4_clear_0 : decode cX4_clear 0 = .ok (.aload_n 0, 1) := by decide +kernel
theorem dX4_clear_1 : decode cX4_clear 1 = .ok (.iconst 0, 1) := by decide +kernel
theorem dX4_clear_2 : decode cX4_clear 2 = .ok (.putfield 17, 3) := by decide +kernel
theorem dX4_clear_5 : decode cX4_clear 5 = .ok (.aload_n 0, 1) := by decide +kernel
theorem dX4_clear_6 : decode cX4_clear 6 = .ok (.iconst 0, 1) := by decide +kernel
theorem dX4_clear_7 : decode cX4_clear 7 = .ok (.putfield 21, 3) := by decide +kernel
theorem dX4_clear_10 : decode cX4_clear 10 = .ok (.return_, 1) := by decide +kernel
theorem dX4_append_0 : decode cX4_append 0 = .ok (.aload_n 0, 1) := by decide +kernel
theorem dX4_append_1 : decode cX4_append 1 = .ok (.getfield 17, 3) := by decide +kernel
theorem dX4_append_4 : decode cX4_append 4 = .ok (.bipush 20, 2) := by decide +kernel
theorem dX4_append_6 : decode cX4_append 6 = .ok (.if_icmp .lt 37, 3) := by decide +kernel
theorem dX4_append_9 : decode cX4_append 9 = .ok (.iconst 1, 1) := by decide +kernel
theorem dX4_append_10 : decode cX4_append 10 = .ok (.istore_n 2, 1) := by decide +kernel
theorem dX4_append_11 : decode cX4_append 11 = .ok (.iload_n 2, 1) := by decide +kernel
theorem dX4_append_12 : decode cX4_append 12 = .ok (.bipush 20, 2) := by decide +kernel
theorem dX4_append_14 : decode cX4_append 14 = .ok (.if_icmp .ge 23, 3) := by decide +kernel
theorem dX4_append_17 : decode cX4_append 17 = .ok (.aload_n 0, 1) := by decide +kernel
theorem dX4_append_18 : decode cX4_append 18 = .ok (.getfield 11, 3) := by decide +kernel
theorem dX4_append_21 : decode cX4_append 21 = .ok (.iload_n 2, 1) := by decide +kernel
theorem dX4_append_22 : decode cX4_append 22 = .ok (.iconst 1, 1) := by decide +kernel
theorem dX4_append_23 : decode cX4_append 23 = .ok (.isub, 1) := by decide +kernel
theorem dX4_append_24 : decode cX4_append 24 = .ok (.aload_n 0, 1) := by decide +kernel
theorem dX4_append_25 : decode cX4_append 25 = .ok (.getfield 11, 3) := by decide +kernel
theorem dX4_append_28 : decode cX4_append 28 = .ok (.iload_n 2, 1) := by decide +kernel
theorem dX4_append_29 : decode cX4_append 29 = .ok (.aaload, 1) := by decide +kernel
theorem dX4_append_30 : decode cX4_append 30 = .ok (.aastore, 1) := by decide +kernel
theorem dX4_append_31 : decode cX4_append 31 = .ok (.iinc 2 1, 3) := by decide +kernel
theorem dX4_append_34 : decode cX4_append 34 = .ok (.goto (-23), 3) := by decide +kernel
theorem dX4_append_37 : decode cX4_append 37 = .ok (.aload_n 0, 1) := by decide +kernel
theorem dX4_append_38 : decode cX4_append 38 = .ok (.bipush 19, 2) := by decide +kernel
theorem dX4_append_40 : decode cX4_append 40 = .ok (.putfield 17, 3) := by decide +kernel
theorem dX4_append_43 : decode cX4_append 43 = .ok (.aload_n 0, 1) := by decide +kernel
theorem dX4_append_44 : decode cX4_append 44 = .ok (.getfield 17, 3) := by decide +kernel
theorem dX4_append_47 : decode cX4_append 47 = .ok (.ifCond .lt 28, 3) := by decide +kernel
theorem dX4_append_50 : decode cX4_append 50 = .ok (.aload_n 0, 1) := by decide +kernel
theorem dX4_append_51 : decode cX4_append 51 = .ok (.getfield 11, 3) := by decide +kernel
theorem dX4_append_54 : decode cX4_append 54 = .ok (.aload_n 0, 1) := by decide +kernel
theorem dX4_append_55 : decode cX4_append 55 = .ok (.getfield 17, 3) := by decide +kernel
theorem dX4_append_58 : decode cX4_append 58 = .ok (.aload_n 1, 1) := by decide +kernel
theorem dX4_append_59 : decode cX4_append 59 = .ok (.aastore, 1) := by decide +kernel
theorem dX4_append_60 : decode cX4_append 60 = .ok (.aload_n 0, 1) := by decide +kernel
theorem dX4_append_61 : decode cX4_append 61 = .ok (.dup, 1) := by decide +kernel
theorem dX4_append_62 : decode cX4_append 62 = .ok (.getfield 17, 3) := by decide +kernel
theorem dX4_append_65 : decode cX4_append 65 = .ok (.iconst 1, 1) := by decide +kernel
theorem dX4_append_66 : decode cX4_append 66 = .ok (.iadd, 1) := by decide +kernel
theorem dX4_append_67 : decode cX4_append 67 = .ok (.putfield 17, 3) := by decide +kernel
theorem dX4_append_70 : decode cX4_append 70 = .ok (.aload_n 0, 1) := by decide +kernel
theorem dX4_append_71 : decode cX4_append 71 = .ok (.iconst 0, 1) := by decide +kernel
theorem dX4_append_72 : decode cX4_append 72 = .ok (.putfield 21, 3) := by decide +kernel
theorem dX4_append_75 : decode cX4_append 75 = .ok (.return_, 1) := by decide +kernel
theorem dX4_back_0 : decode cX4_back 0 = .ok (.aload_n 0, 1) := by decide +kernel
theorem dX4_back_1 : decode cX4_back 1 = .ok (.getfield 17, 3) := by decide +kernel
theorem dX4_back_4 : decode cX4_back 4 = .ok (.ifCond .le 12, 3) := by decide +kernel
theorem dX4_back_7 : decode cX4_back 7 = .ok (.aload_n 0, 1) := by decide +kernel
theorem dX4_back_8 : decode cX4_back 8 = .ok (.getfield 17, 3) := by decide +kernel
theorem dX4_back_11 : decode cX4_back 11 = .ok (.bipush 20, 2) := by decide +kernel
theorem dX4_back_13 : decode cX4_back 13 = .ok (.if_icmp .le 5, 3) := by decide +kernel
theorem dX4_back_16 : decode cX4_back 16 = .ok (.aconst_null, 1) := by decide +kernel
theorem dX4_back_17 : decode cX4_back 17 = .ok (.areturn, 1) := by decide +kernel
theorem dX4_back_18 : decode cX4_back 18 = .ok (.aload_n 0, 1) := by decide +kernel
theorem dX4_back_19 : decode cX4_back 19 = .ok (.dup, 1) := by decide +kernel
theorem dX4_back_20 : decode cX4_back 20 = .ok (.getfield 17, 3) := by decide +kernel
theorem dX4_back_23 : decode cX4_back 23 = .ok (.iconst 1, 1) := by decide +kernel
theorem dX4_back_24 : decode cX4_back 24 = .ok (.isub, 1) := by decide +kernel
theorem dX4_back_25 : decode cX4_back 25 = .ok (.putfield 17, 3) := by decide +kernel
theorem dX4_back_28 : decode cX4_back 28 = .ok (.aload_n 0, 1) := by decide +kernel
theorem dX4_back_29 : decode cX4_back 29 = .ok (.dup, 1) := by decide +kernel
theorem dX4_back_30 : decode cX4_back 30 = .ok (.getfield 21, 3) := by decide +kernel
theorem dX4_back_33 : decode cX4_back 33 = .ok (.iconst 1, 1) := by decide +kernel
theorem dX4_back_34 : decode cX4_back 34 = .ok (.iadd, 1) := by decide +kernel
theorem dX4_back_35 : decode cX4_back 35 = .ok (.putfield 21, 3) := by decide +kernel
theorem dX4_back_38 : decode cX4_back 38 = .ok (.aload_n 0, 1) := by decide +kernel
theorem dX4_back_39 : decode cX4_back 39 = .ok (.getfield 11, 3) := by decide +kernel
theorem dX4_back_42 : decode cX4_back 42 = .ok (.aload_n 0, 1) := by decide +kernel
theorem dX4_back_43 : decode cX4_back 43 = .ok (.getfield 17, 3) := by decide +kernel
theorem dX4_back_46 : decode cX4_back 46 = .ok (.aaload, 1) := by decide +kernel
theorem dX4_back_47 : decode cX4_back 47 = .ok (.areturn, 1) := by decide +kernel
theorem dX4_forth_0 : decode cX4_forth 0 = .ok (.aload_n 0, 1) := by decide +kernel
theorem dX4_forth_1 : decode cX4_forth 1 = .ok (.getfield 21, 3) := by decide +kernel
theorem dX4_forth_4 : decode cX4_forth 4 = .ok (.ifCond .le 19, 3) := by decide +kernel
theorem dX4_forth_7 : decode cX4_forth 7 = .ok (.aload_n 0, 1) := by decide +kernel
theorem dX4_forth_8 : decode cX4_forth 8 = .ok (.getfield 17, 3) := by decide +kernel
theorem dX4_forth_11 : decode cX4_forth 11 = .ok (.ifCond .lt 12, 3) := by decide +kernel
theorem dX4_forth_14 : decode cX4_forth 14 = .ok (.aload_n 0, 1) := by decide +kernel
theorem dX4_forth_15 : decode cX4_forth 15 = .ok (.getfield 17, 3) := by decide +kernel
theorem dX4_forth_18 : decode cX4_forth 18 = .ok (.bipush 20, 2) := by decide +kernel
theorem dX4_forth_20 : decode cX4_forth 20 = .ok (.if_icmp .lt 5, 3) := by decide +kernel
theorem dX4_forth_23 : decode cX4_forth 23 = .ok (.aconst_null, 1) := by decide +kernel
theorem dX4_forth_24 : decode cX4_forth 24 = .ok (.areturn, 1) := by decide +kernel
theorem dX4_forth_25 : decode cX4_forth 25 = .ok (.aload_n 0, 1) := by decide +kernel
theorem dX4_forth_26 : decode cX4_forth 26 = .ok (.getfield 11, 3) := by decide +kernel
theorem dX4_forth_29 : decode cX4_forth 29 = .ok (.aload_n 0, 1) := by decide +kernel
theorem dX4_forth_30 : decode cX4_forth 30 = .ok (.getfield 17, 3) := by decide +kernel
theorem dX4_forth_33 : decode cX4_forth 33 = .ok (.aaload, 1) := by decide +kernel
theorem dX4_forth_34 : decode cX4_forth 34 = .ok (.astore_n 1, 1) := by decide +kernel
theorem dX4_forth_35 : decode cX4_forth 35 = .ok (.aload_n 0, 1) := by decide +kernel
theorem dX4_forth_36 : decode cX4_forth 36 = .ok (.dup, 1) := by decide +kernel
theorem dX4_forth_37 : decode cX4_forth 37 = .ok (.getfield 17, 3) := by decide +kernel
theorem dX4_forth_40 : decode cX4_forth 40 = .ok (.iconst 1, 1) := by decide +kernel
theorem dX4_forth_41 : decode cX4_forth 41 = .ok (.iadd, 1) := by decide +kernel
theorem dX4_forth_42 : decode cX4_forth 42 = .ok (.putfield 17, 3) := by decide +kernel
theorem dX4_forth_45 : decode cX4_forth 45 = .ok (.aload_n 0, 1) := by decide +kernel
theorem dX4_forth_46 : decode cX4_forth 46 = .ok (.dup, 1) := by decide +kernel
theorem dX4_forth_47 : decode cX4_forth 47 = .ok (.getfield 21, 3) := by decide +kernel
theorem dX4_forth_50 : decode cX4_forth 50 = .ok (.iconst 1, 1) := by decide +kernel
theorem dX4_forth_51 : decode cX4_forth 51 = .ok (.isub, 1) := by decide +kernel
theorem dX4_forth_52 : decode cX4_forth 52 = .ok (.putfield 21, 3) := by decide +kernel
theorem dX4_forth_55 : decode cX4_forth 55 = .ok (.aload_n 1, 1) := by decide +kernel
theorem dX4_forth_56 : decode cX4_forth 56 = .ok (.areturn, 1) := by decide +kernel
theorem dX5_init_0 : decode cX5_init 0 = .ok (.aload_n 0, 1) := by decide +kernel
theorem dX5_init_1 : decode cX5_init 1 = .ok (.invokespecial 3, 3) := by decide +kernel
theorem dX5_init_4 : decode cX5_init 4 = .ok (.aload_n 0, 1) := by decide +kernel
theorem dX5_init_5 : decode cX5_init 5 = .ok (.bipush 14, 2) := by decide +kernel
theorem dX5_init_7 : decode cX5_init 7 = .ok (.anewarray 9, 3) := by decide +kernel
theorem dX5_init_10 : decode cX5_init 10 = .ok (.putfield 11, 3) := by decide +kernel
theorem dX5_init_13 : decode cX5_init 13 = .ok (.return_, 1) := by decide +kernel
theorem dX5_at_0 : decode cX5_at 0 = .ok (.iload_n 1, 1) := by decide +kernel
theorem dX5_at_1 : decode cX5_at 1 = .ok (.ifCond .lt 9, 3) := by decide +kernel
theorem dX5_at_4 : decode cX5_at 4 = .ok (.iload_n 1, 1) := by decide +kernel
theorem dX5_at_5 : decode cX5_at 5 = .ok (.bipush 14, 2) := by decide +kernel
theorem dX5_at_7 : decode cX5_at 7 = .ok (.if_icmp .lt 7, 3) := by decide +kernel
theorem dX5_at_10 : decode cX5_at 10 = .ok (.aconst_null, 1) := by decide +kernel
theorem dX5_at_11 : decode cX5_at 11 = .ok (.goto 9, 3) := by decide +kernel
theorem dX5_at_14 : decode cX5_at 14 = .ok (.aload_n 0, 1) := by decide +kernel
theorem dX5_at_15 : decode cX5_at 15 = .ok (.getfield 11, 3) := by decide +kernel
theorem dX5_at_18 : decode cX5_at 18 = .ok (.iload_n 1, 1) := by decide +kernel
theorem dX5_at_19 : decode cX5_at 19 = .ok (.aaload, 1) := by decide +kernel
theorem dX5_at_20 : decode cX5_at 20 = .ok (.areturn, 1) := by decide +kernel
theorem dX5_put_0 : decode cX5_put 0 = .ok (.iload_n 1, 1) := by decide +kernel
theorem dX5_put_1 : decode cX5_put 1 = .ok (.ifCond .lt 16, 3) := by decide +kernel
theorem dX5_put_4 : decode cX5_put 4 = .ok (.iload_n 1, 1) := by decide +kernel
theorem dX5_put_5 : decode cX5_put 5 = .ok (.bipush 14, 2) := by decide +kernel
theorem dX5_put_7 : decode cX5_put 7 = .ok (.if_icmp .ge 10, 3) := by decide +kernel
theorem dX5_put_10 : decode cX5_put 10 = .ok (.aload_n 0, 1) := by decide +kernel
theorem dX5_put_11 : decode cX5_put 11 = .ok (.getfield 11, 3) := by decide +kernel
theorem dX5_put_14 : decode cX5_put 14 = .ok (.iload_n 1, 1) := by decide +kernel
theorem dX5_put_15 : decode cX5_put 15 = .ok (.aload_n 2, 1) := by decide +kernel
theorem dX5_put_16 : decode cX5_put 16 = .ok (.aastore, 1) := by decide +kernel
theorem dX5_put_17 : decode cX5_put 17 = .ok (.return_, 1) := by decide +kernel
theorem dX5_lowestFree_0 : decode cX5_lowestFree 0 = .ok (.iconst 0, 1) := by decide +kernel
theorem dX5_lowestFree_1 : decode cX5_lowestFree 1 = .ok (.istore_n 1, 1) := by decide +kernel
theorem dX5_lowestFree_2 : decode cX5_lowestFree 2 = .ok (.iload_n 1, 1) := by decide +kernel
theorem dX5_lowestFree_3 : decode cX5_lowestFree 3 = .ok (.bipush 14, 2) := by decide +kernel
theorem dX5_lowestFree_5 : decode cX5_lowestFree 5 = .ok (.if_icmp .ge 20, 3) := by decide +kernel
theorem dX5_lowestFree_8 : decode cX5_lowestFree 8 = .ok (.aload_n 0, 1) := by decide +kernel
theorem dX5_lowestFree_9 : decode cX5_lowestFree 9 = .ok (.getfield 11, 3) := by decide +kernel
theorem dX5_lowestFree_12 : decode cX5_lowestFree 12 = .ok (.iload_n 1, 1) := by decide +kernel
theorem dX5_lowestFree_13 : decode cX5_lowestFree 13 = .ok (.aaload, 1) := by decide +kernel
theorem dX5_lowestFree_14 : decode cX5_lowestFree 14 = .ok (.ifnonnull 5, 3) := by decide +kernel
theorem dX5_lowestFree_17 : decode cX5_lowestFree 17 = .ok (.iload_n 1, 1) := by decide +kernel
theorem dX5_lowestFree_18 : decode cX5_lowestFree 18 = .ok (.ireturn, 1) := by decide +kernel
theorem dX5_lowestFree_19 : decode cX5_lowestFree 19 = .ok (.iinc 1 1, 3) := by decide +kernel
theorem dX5_lowestFree_22 : decode cX5_lowestFree 22 = .ok (.goto (-20), 3) := by decide +kernel
theorem dX5_lowestFree_25 : decode cX5_lowestFree 25 = .ok (.bipush (-6), 2) := by decide +kernel
theorem dX5_lowestFree_27 : decode cX5_lowestFree 27 = .ok (.ireturn, 1) := by decide +kernel
theorem dX5_mask_0 : decode cX5_mask 0 = .ok (.iconst 0, 1) := by decide +kernel
theorem dX5_mask_1 : decode cX5_mask 1 = .ok (.istore_n 1, 1) := by decide +kernel
theorem dX5_mask_2 : decode cX5_mask 2 = .ok (.iconst 0, 1) := by decide +kernel
theorem dX5_mask_3 : decode cX5_mask 3 = .ok (.istore_n 2, 1) := by decide +kernel
theorem dX5_mask_4 : decode cX5_mask 4 = .ok (.iload_n 2, 1) := by decide +kernel
theorem dX5_mask_5 : decode cX5_mask 5 = .ok (.bipush 14, 2) := by decide +kernel
theorem dX5_mask_7 : decode cX5_mask 7 = .ok (.if_icmp .ge 24, 3) := by decide +kernel
theorem dX5_mask_10 : decode cX5_mask 10 = .ok (.aload_n 0, 1) := by decide +kernel
theorem dX5_mask_11 : decode cX5_mask 11 = .ok (.getfield 11, 3) := by decide +kernel
theorem dX5_mask_14 : decode cX5_mask 14 = .ok (.iload_n 2, 1) := by decide +kernel
theorem dX5_mask_15 : decode cX5_mask 15 = .ok (.aaload, 1) := by decide +kernel
theorem dX5_mask_16 : decode cX5_mask 16 = .ok (.ifnull 9, 3) := by decide +kernel
theorem dX5_mask_19 : decode cX5_mask 19 = .ok (.iload_n 1, 1) := by decide +kernel
theorem dX5_mask_20 : decode cX5_mask 20 = .ok (.iconst 1, 1) := by decide +kernel
theorem dX5_mask_21 : decode cX5_mask 21 = .ok (.iload_n 2, 1) := by decide +kernel
theorem dX5_mask_22 : decode cX5_mask 22 = .ok (.ishl, 1) := by decide +kernel
theorem dX5_mask_23 : decode cX5_mask 23 = .ok (.ior, 1) := by decide +kernel
theorem dX5_mask_24 : decode cX5_mask 24 = .ok (.istore_n 1, 1) := by decide +kernel
theorem dX5_mask_25 : decode cX5_mask 25 = .ok (.iinc 2 1, 3) := by decide +kernel
theorem dX5_mask_28 : decode cX5_mask 28 = .ok (.goto (-24), 3) := by decide +kernel
theorem dX5_mask_31 : decode cX5_mask 31 = .ok (.iload_n 1, 1) := by decide +kernel
theorem dX5_mask_32 : decode cX5_mask 32 = .ok (.ireturn, 1) := by decide +kernel
set_option maxRecDepth 20000 in
theorem ggX5_size_X5_mask : GoodIn wsX5_size wsX5_mask := goodIn_r _ [5, 6, 14] (by decide +kernel) (by decide +kernel)
set_option maxRecDepth 20000 in
theorem gX5_size_X5_mask : GoodIn wsX5_size (wsV RX5 17 RX5 yX5_mask wsX5_mask) := goodIn_app (goodIn_of _ (by decide +kernel)) ggX5_size_X5_mask
set_option maxRecDepth 20000 in
theorem ggX5_size_J6_bitCount_0f7a4 : GoodIn wsX5_size wsJ6_bitCount_0f7a4 := goodIn_r _ [10, 11, 12, 13] (by decide +kernel) (by decide +kernel)
set_option maxRecDepth 20000 in
theorem gX5_size_J6_bitCount_0f7a4 : GoodIn wsX5_size (va_wsS RX5 21 yJ6_bitCount_0f7a4 wsJ6_bitCount_0f7a4) := goodIn_app (goodIn_of _ (by decide +kernel)) ggX5_size_J6_bitCount_0f7a4
theorem dX5_size_0 : decode cX5_size 0 = .ok (.aload_n 0, 1) := by decide +kernel
theorem dX5_size_1 : decode cX5_size 1 = .ok (.invokevirtual 17, 3) := by decide +kernel
theorem dX5_size_4 : decode cX5_size 4 = .ok (.invokestatic 21, 3) := by decide +kernel
theorem dX5_size_7 : decode cX5_size 7 = .ok (.ireturn, 1) := by decide +kernel
theorem dX5_requiredOnes_0 : decode cX5_requiredOnes 0 = .ok (.iconst 0, 1) := by decide +kernel
theorem dX5_requiredOnes_1 : decode cX5_requiredOnes 1 = .ok (.istore_n 1, 1) := by decide +kernel
theorem dX5_requiredOnes_2 : decode cX5_requiredOnes 2 = .ok (.iconst 0, 1) := by decide +kernel
theorem dX5_requiredOnes_3 : decode cX5_requiredOnes 3 = .ok (.istore_n 2, 1) := by decide +kernel
theorem dX5_requiredOnes_4 : decode cX5_requiredOnes 4 = .ok (.iload_n 2, 1) := by decide +kernel
theorem dX5_requiredOnes_5 : decode cX5_requiredOnes 5 = .ok (.bipush 14, 2) := by decide +kernel
theorem dX5_requiredOnes_7 : decode cX5_requiredOnes 7 = .ok (.if_icmp .ge 30, 3) := by decide +kernel
theorem dX5_requiredOnes_10 : decode cX5_requiredOnes 10 = .ok (.aload_n 0, 1) := by decide +kernel
theorem dX5_requiredOnes_11 : decode cX5_requiredOnes 11 = .ok (.getfield 11, 3) := by decide +kernel
theorem dX5_requiredOnes_14 : decode cX5_requiredOnes 14 = .ok (.iload_n 2, 1) := by decide +kernel
theorem dX5_requiredOnes_15 : decode cX5_requiredOnes 15 = .ok (.aaload, 1) := by decide +kernel
theorem dX5_requiredOnes_16 : decode cX5_requiredOnes 16 = .ok (.astore_n 3, 1) := by decide +kernel
theorem dX5_requiredOnes_17 : decode cX5_requiredOnes 17 = .ok (.aload_n 3, 1) := by decide +kernel
theorem dX5_requiredOnes_18 : decode cX5_requiredOnes 18 = .ok (.ifnull 13, 3) := by decide +kernel
theorem dX5_requiredOnes_21 : decode cX5_requiredOnes 21 = .ok (.aload_n 3, 1) := by decide +kernel
theorem dX5_requiredOnes_22 : decode cX5_requiredOnes 22 = .ok (.getfield 27, 3) := by decide +kernel
theorem dX5_requiredOnes_25 : decode cX5_requiredOnes 25 = .ok (.ifCond .ne 6, 3) := by decide +kernel
theorem dX5_requiredOnes_28 : decode cX5_requiredOnes 28 = .ok (.iinc 1 1, 3) := by decide +kernel
theorem dX5_requiredOnes_31 : decode cX5_requiredOnes 31 = .ok (.iinc 2 1, 3) := by decide +kernel
theorem dX5_requiredOnes_34 : decode cX5_requiredOnes 34 = .ok (.goto (-30), 3) := by decide +kernel
theorem dX5_requiredOnes_37 : decode cX5_requiredOnes 37 = .ok (.iload_n 1, 1) := by decide +kernel
theorem dX5_requiredOnes_38 : decode cX5_requiredOnes 38 = .ok (.ireturn, 1) := by decide +kernel
theorem dX6_init_0 : decode cX6_init 0 = .ok (.aload_n 0, 1) := by decide +kernel
theorem dX6_init_1 : decode cX6_init 1 = .ok (.invokespecial 3, 3) := by decide +kernel
theorem dX6_init_4 : decode cX6_init 4 = .ok (.aload_n 0, 1) := by decide +kernel
theorem dX6_init_5 : decode cX6_init 5 = .ok (.bipush 40, 2) := by decide +kernel
theorem dX6_init_7 : decode cX6_init 7 = .ok (.newarray .char, 2) := by decide +kernel
theorem dX6_init_9 : decode cX6_init 9 = .ok (.putfield 9, 3) := by decide +kernel
theorem dX6_init_12 : decode cX6_init 12 = .ok (.aload_n 0, 1) := by decide +kernel
theorem dX6_init_13 : decode cX6_init 13 = .ok (.iconst 0, 1) := by decide +kernel
theorem dX6_init_14 : decode cX6_init 14 = .ok (.putfield 15, 3) := by decide +kernel
theorem dX6_init_17 : decode cX6_init 17 = .ok (.return_, 1) := by decide +kernel
theorem dX6_size_0 : decode cX6_size 0 = .ok (.aload_n 0, 1) := by decide +kernel
theorem dX6_size_1 : decode cX6_size 1 = .ok (.getfield 15, 3) := by decide +kernel
theorem dX6_size_4 : decode cX6_size 4 = .ok (.ireturn, 1) := by decide +kernel
theorem dX6_isFull_0 : decode cX6_isFull 0 = .ok (.aload_n 0, 1) := by decide +kernel
theorem dX6_isFull_1 : decode cX6_isFull 1 = .ok (.getfield 15, 3) := by decide +kernel
theorem dX6_isFull_4 : decode cX6_isFull 4 = .ok (.bipush 40, 2) := by decide +kernel
theorem dX6_isFull_6 : decode cX6_isFull 6 = .ok (.if_icmp .lt 7, 3) := by decide +kernel
theorem dX6_isFull_9 : decode cX6_isFull 9 = .ok (.iconst 1, 1) := by decide +kernel
theorem dX6_isFull_10 : decode cX6_isFull 10 = .ok (.goto 4, 3) := by decide +kernel
theorem dX6_isFull_13 : decode cX6_isFull 13 = .ok (.iconst 0, 1) := by decide +kernel
theorem dX6_isFull_14 : decode cX6_isFull 14 = .ok (.ireturn, 1) := by decide +kernel
theorem dX6_clear_0 : decode cX6_clear 0 = .ok (.aload_n 0, 1) := by decide +kernel
theorem dX6_clear_1 : decode cX6_clear 1 = .ok (.iconst 0, 1) := by decide +kernel
theorem dX6_clear_2 : decode cX6_clear 2 = .ok (.putfield 15, 3) := by decide +kernel
theorem dX6_clear_5 : decode cX6_clear 5 = .ok (.return_, 1) := by decide +kernel
theorem dX6_append_0 : decode cX6_append 0 = .ok (.aload_n 0, 1) := by decide +kernel
theorem dX6_append_1 : decode cX6_append 1 = .ok (.getfield 15, 3) := by decide +kernel
theorem dX6_append_4 : decode cX6_append 4 = .ok (.ifCond .lt 32, 3) := by decide +kernel
theorem dX6_append_7 : decode cX6_append 7 = .ok (.aload_n 0, 1) := by decide +kernel
theorem dX6_append_8 : decode cX6_append 8 = .ok (.getfield 15, 3) := by decide +kernel
theorem dX6_append_11 : decode cX6_append 11 = .ok (.bipush 40, 2) := by decide +kernel
theorem dX6_append_13 : decode cX6_append 13 = .ok (.if_icmp .ge 23, 3) := by decide +kernel
theorem dX6_append_16 : decode cX6_append 16 = .ok (.aload_n 0, 1) := by decide +kernel
theorem dX6_append_17 : decode cX6_append 17 = .ok (.getfield 9, 3) := by decide +kernel
theorem dX6_append_20 : decode cX6_append 20 = .ok (.aload_n 0, 1) := by decide +kernel
theorem dX6_append_21 : decode cX6_append 21 = .ok (.getfield 15, 3) := by decide +kernel
theorem dX6_append_24 : decode cX6_append 24 = .ok (.iload_n 1, 1) := by decide +kernel
theorem dX6_append_25 : decode cX6_append 25 = .ok (.castore, 1) := by decide +kernel
theorem dX6_append_26 : decode cX6_append 26 = .ok (.aload_n 0, 1) := by decide +kernel
theorem dX6_append_27 : decode cX6_append 27 = .ok (.dup, 1) := by decide +kernel
theorem dX6_append_28 : decode cX6_append 28 = .ok (.getfield 15, 3) := by decide +kernel
theorem dX6_append_31 : decode cX6_append 31 = .ok (.iconst 1, 1) := by decide +kernel
theorem dX6_append_32 : decode cX6_append 32 = .ok (.iadd, 1) := by decide +kernel
theorem dX6_append_33 : decode cX6_append 33 = .ok (.putfield 15, 3) := by decide +kernel
theorem dX6_append_36 : decode cX6_append 36 = .ok (.return_, 1) := by decide +kernel
theorem dX6_at_0 : decode cX6_at 0 = .ok (.iload_n 1, 1) := by decide +kernel
theorem dX6_at_1 : decode cX6_at 1 = .ok (.ifCond .lt 17, 3) := by decide +kernel
theorem dX6_at_4 : decode cX6_at 4 = .ok (.iload_n 1, 1) := by decide +kernel
theorem dX6_at_5 : decode cX6_at 5 = .ok (.aload_n 0, 1) := by decide +kernel
theorem dX6_at_6 : decode cX6_at 6 = .ok (.getfield 15, 3) := by decide +kernel
theorem dX6_at_9 : decode cX6_at 9 = .ok (.if_icmp .ge 9, 3) := by decide +kernel
theorem dX6_at_12 : decode cX6_at 12 = .ok (.iload_n 1, 1) := by decide +kernel
theorem dX6_at_13 : decode cX6_at 13 = .ok (.bipush 40, 2) := by decide +kernel
theorem dX6_at_15 : decode cX6_at 15 = .ok (.if_icmp .lt 7, 3) := by decide +kernel
theorem dX6_at_18 : decode cX6_at 18 = .ok (.iconst 0, 1) := by decide +kernel
theorem dX6_at_19 : decode cX6_at 19 = .ok (.goto 9, 3) := by decide +kernel
theorem dX6_at_22 : decode cX6_at 22 = .ok (.aload_n 0, 1) := by decide +kernel
theorem dX6_at_23 : decode cX6_at 23 = .ok (.getfield 9, 3) := by decide +kernel
theorem dX6_at_26 : decode cX6_at 26 = .ok (.iload_n 1, 1) := by decide +kernel
theorem dX6_at_27 : decode cX6_at 27 = .ok (.caload, 1) := by decide +kernel
theorem dX6_at_28 : decode cX6_at 28 = .ok (.ireturn, 1) := by decide +kernel
