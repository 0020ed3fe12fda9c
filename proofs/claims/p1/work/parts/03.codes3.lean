theorem dJ6_bitCount_0f7a4_0 : decode cJ6_bitCount_0f7a4 0 = .ok (.iload_n 0, 1) := by decide +kernel
theorem dJ6_bitCount_0f7a4_1 : decode cJ6_bitCount_0f7a4 1 = .ok (.iload_n 0, 1) := by decide +kernel
theorem dJ6_bitCount_0f7a4_2 : decode cJ6_bitCount_0f7a4 2 = .ok (.iconst 1, 1) := by decide +kernel
theorem dJ6_bitCount_0f7a4_3 : decode cJ6_bitCount_0f7a4 3 = .ok (.iushr, 1) := by decide +kernel
theorem dJ6_bitCount_0f7a4_4 : decode cJ6_bitCount_0f7a4 4 = .ok (.ldc_w 265, 3) := by decide +kernel
theorem dJ6_bitCount_0f7a4_7 : decode cJ6_bitCount_0f7a4 7 = .ok (.iand, 1) := by decide +kernel
theorem dJ6_bitCount_0f7a4_8 : decode cJ6_bitCount_0f7a4 8 = .ok (.isub, 1) := by decide +kernel
theorem dJ6_bitCount_0f7a4_9 : decode cJ6_bitCount_0f7a4 9 = .ok (.istore_n 0, 1) := by decide +kernel
theorem dJ6_bitCount_0f7a4_10 : decode cJ6_bitCount_0f7a4 10 = .ok (.iload_n 0, 1) := by decide +kernel
theorem dJ6_bitCount_0f7a4_11 : decode cJ6_bitCount_0f7a4 11 = .ok (.ldc_w 266, 3) := by decide +kernel
theorem dJ6_bitCount_0f7a4_14 : decode cJ6_bitCount_0f7a4 14 = .ok (.iand, 1) := by decide +kernel
theorem dJ6_bitCount_0f7a4_15 : decode cJ6_bitCount_0f7a4 15 = .ok (.iload_n 0, 1) := by decide +kernel
theorem dJ6_bitCount_0f7a4_16 : decode cJ6_bitCount_0f7a4 16 = .ok (.iconst 2, 1) := by decide +kernel
theorem dJ6_bitCount_0f7a4_17 : decode cJ6_bitCount_0f7a4 17 = .ok (.iushr, 1) := by decide +kernel
theorem dJ6_bitCount_0f7a4_18 : decode cJ6_bitCount_0f7a4 18 = .ok (.ldc_w 266, 3) := by decide +kernel
theorem dJ6_bitCount_0f7a4_21 : decode cJ6_bitCount_0f7a4 21 = .ok (.iand, 1) := by decide +kernel
theorem dJ6_bitCount_0f7a4_22 : decode cJ6_bitCount_0f7a4 22 = .ok (.iadd, 1) := by decide +kernel
theorem dJ6_bitCount_0f7a4_23 : decode cJ6_bitCount_0f7a4 23 = .ok (.istore_n 0, 1) := by decide +kernel
theorem dJ6_bitCount_0f7a4_24 : decode cJ6_bitCount_0f7a4 24 = .ok (.iload_n 0, 1) := by decide +kernel
theorem dJ6_bitCount_0f7a4_25 : decode cJ6_bitCount_0f7a4 25 = .ok (.iload_n 0, 1) := by decide +kernel
theorem dJ6_bitCount_0f7a4_26 : decode cJ6_bitCount_0f7a4 26 = .ok (.iconst 4, 1) := by decide +kernel
theorem dJ6_bitCount_0f7a4_27 : decode cJ6_bitCount_0f7a4 27 = .ok (.iushr, 1) := by decide +kernel
theorem dJ6_bitCount_0f7a4_28 : decode cJ6_bitCount_0f7a4 28 = .ok (.iadd, 1) := by decide +kernel
theorem dJ6_bitCount_0f7a4_29 : decode cJ6_bitCount_0f7a4 29 = .ok (.ldc_w 267, 3) := by decide +kernel
theorem dJ6_bitCount_0f7a4_32 : decode cJ6_bitCount_0f7a4 32 = .ok (.iand, 1) := by decide +kernel
theorem dJ6_bitCount_0f7a4_33 : decode cJ6_bitCount_0f7a4 33 = .ok (.istore_n 0, 1) := by decide +kernel
theorem dJ6_bitCount_0f7a4_34 : decode cJ6_bitCount_0f7a4 34 = .ok (.iload_n 0, 1) := by decide +kernel
theorem dJ6_bitCount_0f7a4_35 : decode cJ6_bitCount_0f7a4 35 = .ok (.iload_n 0, 1) := by decide +kernel
theorem dJ6_bitCount_0f7a4_36 : decode cJ6_bitCount_0f7a4 36 = .ok (.bipush 8, 2) := by decide +kernel
theorem dJ6_bitCount_0f7a4_38 : decode cJ6_bitCount_0f7a4 38 = .ok (.iushr, 1) := by decide +kernel
theorem dJ6_bitCount_0f7a4_39 : decode cJ6_bitCount_0f7a4 39 = .ok (.iadd, 1) := by decide +kernel
theorem dJ6_bitCount_0f7a4_40 : decode cJ6_bitCount_0f7a4 40 = .ok (.istore_n 0, 1) := by decide +kernel
theorem dJ6_bitCount_0f7a4_41 : decode cJ6_bitCount_0f7a4 41 = .ok (.iload_n 0, 1) := by decide +kernel
theorem dJ6_bitCount_0f7a4_42 : decode cJ6_bitCount_0f7a4 42 = .ok (.iload_n 0, 1) := by decide +kernel
theorem dJ6_bitCount_0f7a4_43 : decode cJ6_bitCount_0f7a4 43 = .ok (.bipush 16, 2) := by decide +kernel
theorem dJ6_bitCount_0f7a4_45 : decode cJ6_bitCount_0f7a4 45 = .ok (.iushr, 1) := by decide +kernel
theorem dJ6_bitCount_0f7a4_46 : decode cJ6_bitCount_0f7a4 46 = .ok (.iadd, 1) := by decide +kernel
theorem dJ6_bitCount_0f7a4_47 : decode cJ6_bitCount_0f7a4 47 = .ok (.istore_n 0, 1) := by decide +kernel
theorem dJ6_bitCount_0f7a4_48 : decode cJ6_bitCount_0f7a4 48 = .ok (.iload_n 0, 1) := by decide +kernel
theorem dJ6_bitCount_0f7a4_49 : decode cJ6_bitCount_0f7a4 49 = .ok (.bipush 63, 2) := by decide +kernel
theorem dJ6_bitCount_0f7a4_51 : decode cJ6_bitCount_0f7a4 51 = .ok (.iand, 1) := by decide +kernel
theorem dJ6_bitCount_0f7a4_52 : decode cJ6_bitCount_0f7a4 52 = .ok (.ireturn, 1) := by decide +kernel
theorem dJ13_compare_74951_0 : decode cJ13_compare_74951 0 = .ok (.lload_n 0, 1) := by decide +kernel
theorem dJ13_compare_74951_1 : decode cJ13_compare_74951 1 = .ok (.lload_n 2, 1) := by decide +kernel
theorem dJ13_compare_74951_2 : decode cJ13_compare_74951 2 = .ok (.lcmp, 1) := by decide +kernel
theorem dJ13_compare_74951_3 : decode cJ13_compare_74951 3 = .ok (.ifCond .ge 7, 3) := by decide +kernel
theorem dJ13_compare_74951_6 : decode cJ13_compare_74951 6 = .ok (.iconst (-1), 1) := by decide +kernel
theorem dJ13_compare_74951_7 : decode cJ13_compare_74951 7 = .ok (.goto 14, 3) := by decide +kernel
theorem dJ13_compare_74951_10 : decode cJ13_compare_74951 10 = .ok (.lload_n 0, 1) := by decide +kernel
theorem dJ13_compare_74951_11 : decode cJ13_compare_74951 11 = .ok (.lload_n 2, 1) := by decide +kernel
theorem dJ13_compare_74951_12 : decode cJ13_compare_74951 12 = .ok (.lcmp, 1) := by decide +kernel
theorem dJ13_compare_74951_13 : decode cJ13_compare_74951 13 = .ok (.ifCond .ne 7, 3) := by decide +kernel
theorem dJ13_compare_74951_16 : decode cJ13_compare_74951 16 = .ok (.iconst 0, 1) := by decide +kernel
theorem dJ13_compare_74951_17 : decode cJ13_compare_74951 17 = .ok (.goto 4, 3) := by decide +kernel
theorem dJ13_compare_74951_20 : decode cJ13_compare_74951 20 = .ok (.iconst 1, 1) := by decide +kernel
theorem dJ13_compare_74951_21 : decode cJ13_compare_74951 21 = .ok (.ireturn, 1) := by decide +kernel
theorem dJ9_abs_0f7a4_0 : decode cJ9_abs_0f7a4 0 = .ok (.iload_n 0, 1) := by decide +kernel
theorem dJ9_abs_0f7a4_1 : decode cJ9_abs_0f7a4 1 = .ok (.ifCond .ge 8, 3) := by decide +kernel
theorem dJ9_abs_0f7a4_4 : decode cJ9_abs_0f7a4 4 = .ok (.iload_n 0, 1) := by decide +kernel
theorem dJ9_abs_0f7a4_5 : decode cJ9_abs_0f7a4 5 = .ok (.ineg, 1) := by decide +kernel
theorem dJ9_abs_0f7a4_6 : decode cJ9_abs_0f7a4 6 = .ok (.goto 4, 3) := by decide +kernel
theorem dJ9_abs_0f7a4_9 : decode cJ9_abs_0f7a4 9 = .ok (.iload_n 0, 1) := by decide +kernel
theorem dJ9_abs_0f7a4_10 : decode cJ9_abs_0f7a4 10 = .ok (.ireturn, 1) := by decide +kernel
theorem dJ9_abs_067f4_0 : decode cJ9_abs_067f4 0 = .ok (.lload_n 0, 1) := by decide +kernel
theorem dJ9_abs_067f4_1 : decode cJ9_abs_067f4 1 = .ok (.lconst 0, 1) := by decide +kernel
theorem dJ9_abs_067f4_2 : decode cJ9_abs_067f4 2 = .ok (.lcmp, 1) := by decide +kernel
theorem dJ9_abs_067f4_3 : decode cJ9_abs_067f4 3 = .ok (.ifCond .ge 8, 3) := by decide +kernel
theorem dJ9_abs_067f4_6 : decode cJ9_abs_067f4 6 = .ok (.lload_n 0, 1) := by decide +kernel
theorem dJ9_abs_067f4_7 : decode cJ9_abs_067f4 7 = .ok (.lneg, 1) := by decide +kernel
theorem dJ9_abs_067f4_8 : decode cJ9_abs_067f4 8 = .ok (.goto 4, 3) := by decide +kernel
theorem dJ9_abs_067f4_11 : decode cJ9_abs_067f4 11 = .ok (.lload_n 0, 1) := by decide +kernel
theorem dJ9_abs_067f4_12 : decode cJ9_abs_067f4 12 = .ok (.lreturn, 1) := by decide +kernel
set_option maxRecDepth 20000 in
theorem ggX3_init_X3_startLimit : GoodIn wsX3_init wsX3_startLimit := goodIn_r _ [24, 6, 9, 11, 13, 14, 15, 25, 26, 27, 28, 29, 30, 31, 32, 33, 34, 35, 36] (by decide +kernel) (by decide +kernel)
set_option maxRecDepth 20000 in
theorem gX3_init_X3_startLimit : GoodIn wsX3_init (wsV RX3 53 RX3 yX3_startLimit wsX3_startLimit) := goodIn_app (goodIn_of _ (by decide +kernel)) ggX3_init_X3_startLimit
theorem dX3_init_0 : decode cX3_init 0 = .ok (.aload_n 0, 1) := by decide +kernel
theorem dX3_init_1 : decode cX3_init 1 = .ok (.invokespecial 5, 3) := by decide +kernel
theorem dX3_init_4 : decode cX3_init 4 = .ok (.aload_n 0, 1) := by decide +kernel
theorem dX3_init_5 : decode cX3_init 5 = .ok (.bipush 27, 2) := by decide +kernel
theorem dX3_init_7 : decode cX3_init 7 = .ok (.bipush 7, 2) := by decide +kernel
theorem dX3_init_9 : decode cX3_init 9 = .ok (.multianewarray 11 2, 4) := by decide +kernel
theorem dX3_init_13 : decode cX3_init 13 = .ok (.putfield 13, 3) := by decide +kernel
theorem dX3_init_16 : decode cX3_init 16 = .ok (.aload_n 0, 1) := by decide +kernel
theorem dX3_init_17 : decode cX3_init 17 = .ok (.lconst 1, 1) := by decide +kernel
theorem dX3_init_18 : decode cX3_init 18 = .ok (.putfield 16, 3) := by decide +kernel
theorem dX3_init_21 : decode cX3_init 21 = .ok (.aload_n 0, 1) := by decide +kernel
theorem dX3_init_22 : decode cX3_init 22 = .ok (.bipush 27, 2) := by decide +kernel
theorem dX3_init_24 : decode cX3_init 24 = .ok (.newarray .boolean, 2) := by decide +kernel
theorem dX3_init_26 : decode cX3_init 26 = .ok (.putfield 20, 3) := by decide +kernel
theorem dX3_init_29 : decode cX3_init 29 = .ok (.aload_n 0, 1) := by decide +kernel
theorem dX3_init_30 : decode cX3_init 30 = .ok (.bipush 27, 2) := by decide +kernel
theorem dX3_init_32 : decode cX3_init 32 = .ok (.newarray .int, 2) := by decide +kernel
theorem dX3_init_34 : decode cX3_init 34 = .ok (.putfield 24, 3) := by decide +kernel
theorem dX3_init_37 : decode cX3_init 37 = .ok (.aload_n 0, 1) := by decide +kernel
theorem dX3_init_38 : decode cX3_init 38 = .ok (.bipush 27, 2) := by decide +kernel
theorem dX3_init_40 : decode cX3_init 40 = .ok (.newarray .int, 2) := by decide +kernel
theorem dX3_init_42 : decode cX3_init 42 = .ok (.putfield 28, 3) := by decide +kernel
theorem dX3_init_45 : decode cX3_init 45 = .ok (.aload_n 0, 1) := by decide +kernel
theorem dX3_init_46 : decode cX3_init 46 = .ok (.bipush 27, 2) := by decide +kernel
theorem dX3_init_48 : decode cX3_init 48 = .ok (.newarray .int, 2) := by decide +kernel
theorem dX3_init_50 : decode cX3_init 50 = .ok (.putfield 31, 3) := by decide +kernel
theorem dX3_init_53 : decode cX3_init 53 = .ok (.aload_n 0, 1) := by decide +kernel
theorem dX3_init_54 : decode cX3_init 54 = .ok (.bipush 27, 2) := by decide +kernel
theorem dX3_init_56 : decode cX3_init 56 = .ok (.newarray .int, 2) := by decide +kernel
theorem dX3_init_58 : decode cX3_init 58 = .ok (.putfield 34, 3) := by decide +kernel
theorem dX3_init_61 : decode cX3_init 61 = .ok (.aload_n 0, 1) := by decide +kernel
theorem dX3_init_62 : decode cX3_init 62 = .ok (.bipush 27, 2) := by decide +kernel
theorem dX3_init_64 : decode cX3_init 64 = .ok (.newarray .int, 2) := by decide +kernel
theorem dX3_init_66 : decode cX3_init 66 = .ok (.putfield 37, 3) := by decide +kernel
theorem dX3_init_69 : decode cX3_init 69 = .ok (.aload_n 0, 1) := by decide +kernel
theorem dX3_init_70 : decode cX3_init 70 = .ok (.bipush 27, 2) := by decide +kernel
theorem dX3_init_72 : decode cX3_init 72 = .ok (.newarray .int, 2) := by decide +kernel
theorem dX3_init_74 : decode cX3_init 74 = .ok (.putfield 40, 3) := by decide +kernel
theorem dX3_init_77 : decode cX3_init 77 = .ok (.aload_n 0, 1) := by decide +kernel
theorem dX3_init_78 : decode cX3_init 78 = .ok (.bipush 6, 2) := by decide +kernel
theorem dX3_init_80 : decode cX3_init 80 = .ok (.newarray .int, 2) := by decide +kernel
theorem dX3_init_82 : decode cX3_init 82 = .ok (.putfield 43, 3) := by decide +kernel
theorem dX3_init_85 : decode cX3_init 85 = .ok (.aload_n 0, 1) := by decide +kernel
theorem dX3_init_86 : decode cX3_init 86 = .ok (.iconst 5, 1) := by decide +kernel
theorem dX3_init_87 : decode cX3_init 87 = .ok (.bipush 6, 2) := by decide +kernel
theorem dX3_init_89 : decode cX3_init 89 = .ok (.multianewarray 11 2, 4) := by decide +kernel
theorem dX3_init_93 : decode cX3_init 93 = .ok (.putfield 46, 3) := by decide +kernel
theorem dX3_init_96 : decode cX3_init 96 = .ok (.aload_n 0, 1) := by decide +kernel
theorem dX3_init_97 : decode cX3_init 97 = .ok (.iconst 4, 1) := by decide +kernel
theorem dX3_init_98 : decode cX3_init 98 = .ok (.putfield 49, 3) := by decide +kernel
theorem dX3_init_101 : decode cX3_init 101 = .ok (.iconst 0, 1) := by decide +kernel
theorem dX3_init_102 : decode cX3_init 102 = .ok (.istore_n 1, 1) := by decide +kernel
theorem dX3_init_103 : decode cX3_init 103 = .ok (.iload_n 1, 1) := by decide +kernel
theorem dX3_init_104 : decode cX3_init 104 = .ok (.bipush 27, 2) := by decide +kernel
theorem dX3_init_106 : decode cX3_init 106 = .ok (.if_icmp .ge 16, 3) := by decide +kernel
theorem dX3_init_109 : decode cX3_init 109 = .ok (.aload_n 0, 1) := by decide +kernel
theorem dX3_init_110 : decode cX3_init 110 = .ok (.getfield 40, 3) := by decide +kernel
theorem dX3_init_113 : decode cX3_init 113 = .ok (.iload_n 1, 1) := by decide +kernel
theorem dX3_init_114 : decode cX3_init 114 = .ok (.iconst (-1), 1) := by decide +kernel
theorem dX3_init_115 : decode cX3_init 115 = .ok (.iastore, 1) := by decide +kernel
theorem dX3_init_116 : decode cX3_init 116 = .ok (.iinc 1 1, 3) := by decide +kernel
theorem dX3_init_119 : decode cX3_init 119 = .ok (.goto (-16), 3) := by decide +kernel
theorem dX3_init_122 : decode cX3_init 122 = .ok (.iconst 0, 1) := by decide +kernel
theorem dX3_init_123 : decode cX3_init 123 = .ok (.istore_n 1, 1) := by decide +kernel
theorem dX3_init_124 : decode cX3_init 124 = .ok (.iload_n 1, 1) := by decide +kernel
theorem dX3_init_125 : decode cX3_init 125 = .ok (.bipush 6, 2) := by decide +kernel
theorem dX3_init_127 : decode cX3_init 127 = .ok (.if_icmp .ge 40, 3) := by decide +kernel
theorem dX3_init_130 : decode cX3_init 130 = .ok (.aload_n 0, 1) := by decide +kernel
theorem dX3_init_131 : decode cX3_init 131 = .ok (.getfield 43, 3) := by decide +kernel
theorem dX3_init_134 : decode cX3_init 134 = .ok (.iload_n 1, 1) := by decide +kernel
theorem dX3_init_135 : decode cX3_init 135 = .ok (.iconst (-1), 1) := by decide +kernel
theorem dX3_init_136 : decode cX3_init 136 = .ok (.iastore, 1) := by decide +kernel
theorem dX3_init_137 : decode cX3_init 137 = .ok (.aload_n 0, 1) := by decide +kernel
theorem dX3_init_138 : decode cX3_init 138 = .ok (.bipush 15, 2) := by decide +kernel
theorem dX3_init_140 : decode cX3_init 140 = .ok (.iload_n 1, 1) := by decide +kernel
theorem dX3_init_141 : decode cX3_init 141 = .ok (.iadd, 1) := by decide +kernel
theorem dX3_init_142 : decode cX3_init 142 = .ok (.iload_n 1, 1) := by decide +kernel
theorem dX3_init_143 : decode cX3_init 143 = .ok (.sipush 1000, 3) := by decide +kernel
theorem dX3_init_146 : decode cX3_init 146 = .ok (.invokevirtual 53, 3) := by decide +kernel
theorem dX3_init_149 : decode cX3_init 149 = .ok (.aload_n 0, 1) := by decide +kernel
theorem dX3_init_150 : decode cX3_init 150 = .ok (.bipush 21, 2) := by decide +kernel
theorem dX3_init_152 : decode cX3_init 152 = .ok (.iload_n 1, 1) := by decide +kernel
theorem dX3_init_153 : decode cX3_init 153 = .ok (.iadd, 1) := by decide +kernel
theorem dX3_init_154 : decode cX3_init 154 = .ok (.iload_n 1, 1) := by decide +kernel
theorem dX3_init_155 : decode cX3_init 155 = .ok (.sipush (-1000), 3) := by decide +kernel
theorem dX3_init_158 : decode cX3_init 158 = .ok (.invokevirtual 53, 3) := by decide +kernel
theorem dX3_init_161 : decode cX3_init 161 = .ok (.iinc 1 1, 3) := by decide +kernel
theorem dX3_init_164 : decode cX3_init 164 = .ok (.goto (-40), 3) := by decide +kernel
theorem dX3_init_167 : decode cX3_init 167 = .ok (.return_, 1) := by decide +kernel
theorem dX3_startLimit_0 : decode cX3_startLimit 0 = .ok (.aload_n 0, 1) := by decide +kernel
theorem dX3_startLimit_1 : decode cX3_startLimit 1 = .ok (.getfield 13, 3) := by decide +kernel
theorem dX3_startLimit_4 : decode cX3_startLimit 4 = .ok (.iload_n 1, 1) := by decide +kernel
theorem dX3_startLimit_5 : decode cX3_startLimit 5 = .ok (.aaload, 1) := by decide +kernel
theorem dX3_startLimit_6 : decode cX3_startLimit 6 = .ok (.iload_n 2, 1) := by decide +kernel
theorem dX3_startLimit_7 : decode cX3_startLimit 7 = .ok (.lconst 1, 1) := by decide +kernel
theorem dX3_startLimit_8 : decode cX3_startLimit 8 = .ok (.lastore, 1) := by decide +kernel
theorem dX3_startLimit_9 : decode cX3_startLimit 9 = .ok (.aload_n 0, 1) := by decide +kernel
theorem dX3_startLimit_10 : decode cX3_startLimit 10 = .ok (.getfield 13, 3) := by decide +kernel
theorem dX3_startLimit_13 : decode cX3_startLimit 13 = .ok (.iload_n 1, 1) := by decide +kernel
theorem dX3_startLimit_14 : decode cX3_startLimit 14 = .ok (.aaload, 1) := by decide +kernel
theorem dX3_startLimit_15 : decode cX3_startLimit 15 = .ok (.bipush 6, 2) := by decide +kernel
theorem dX3_startLimit_17 : decode cX3_startLimit 17 = .ok (.iload_n 3, 1) := by decide +kernel
theorem dX3_startLimit_18 : decode cX3_startLimit 18 = .ok (.ineg, 1) := by decide +kernel
theorem dX3_startLimit_19 : decode cX3_startLimit 19 = .ok (.i2l, 1) := by decide +kernel
theorem dX3_startLimit_20 : decode cX3_startLimit 20 = .ok (.lastore, 1) := by decide +kernel
theorem dX3_startLimit_21 : decode cX3_startLimit 21 = .ok (.aload_n 0, 1) := by decide +kernel
theorem dX3_startLimit_22 : decode cX3_startLimit 22 = .ok (.getfield 20, 3) := by decide +kernel
theorem dX3_startLimit_25 : decode cX3_startLimit 25 = .ok (.iload_n 1, 1) := by decide +kernel
theorem dX3_startLimit_26 : decode cX3_startLimit 26 = .ok (.iconst 1, 1) := by decide +kernel
theorem dX3_startLimit_27 : decode cX3_startLimit 27 = .ok (.bastore, 1) := by decide +kernel
theorem dX3_startLimit_28 : decode cX3_startLimit 28 = .ok (.aload_n 0, 1) := by decide +kernel
theorem dX3_startLimit_29 : decode cX3_startLimit 29 = .ok (.getfield 24, 3) := by decide +kernel
theorem dX3_startLimit_32 : decode cX3_startLimit 32 = .ok (.iload_n 1, 1) := by decide +kernel
theorem dX3_startLimit_33 : decode cX3_startLimit 33 = .ok (.iload_n 3, 1) := by decide +kernel
theorem dX3_startLimit_34 : decode cX3_startLimit 34 = .ok (.iastore, 1) := by decide +kernel
theorem dX3_startLimit_35 : decode cX3_startLimit 35 = .ok (.aload_n 0, 1) := by decide +kernel
theorem dX3_startLimit_36 : decode cX3_startLimit 36 = .ok (.getfield 31, 3) := by decide +kernel
theorem dX3_startLimit_39 : decode cX3_startLimit 39 = .ok (.iload_n 1, 1) := by decide +kernel
theorem dX3_startLimit_40 : decode cX3_startLimit 40 = .ok (.iload_n 3, 1) := by decide +kernel
theorem dX3_startLimit_41 : decode cX3_startLimit 41 = .ok (.ifCond .le 7, 3) := by decide +kernel
theorem dX3_startLimit_44 : decode cX3_startLimit 44 = .ok (.iconst 1, 1) := by decide +kernel
theorem dX3_startLimit_45 : decode cX3_startLimit 45 = .ok (.goto 4, 3) := by decide +kernel
theorem dX3_startLimit_48 : decode cX3_startLimit 48 = .ok (.iconst 0, 1) := by decide +kernel
theorem dX3_startLimit_49 : decode cX3_startLimit 49 = .ok (.iastore, 1) := by decide +kernel
theorem dX3_startLimit_50 : decode cX3_startLimit 50 = .ok (.aload_n 0, 1) := by decide +kernel
theorem dX3_startLimit_51 : decode cX3_startLimit 51 = .ok (.getfield 34, 3) := by decide +kernel
theorem dX3_startLimit_54 : decode cX3_startLimit 54 = .ok (.iload_n 1, 1) := by decide +kernel
theorem dX3_startLimit_55 : decode cX3_startLimit 55 = .ok (.iload_n 3, 1) := by decide +kernel
theorem dX3_startLimit_56 : decode cX3_startLimit 56 = .ok (.ifCond .le 7, 3) := by decide +kernel
theorem dX3_startLimit_59 : decode cX3_startLimit 59 = .ok (.iconst 0, 1) := by decide +kernel
theorem dX3_startLimit_60 : decode cX3_startLimit 60 = .ok (.goto 4, 3) := by decide +kernel
theorem dX3_startLimit_63 : decode cX3_startLimit 63 = .ok (.iconst 1, 1) := by decide +kernel
theorem dX3_startLimit_64 : decode cX3_startLimit 64 = .ok (.iastore, 1) := by decide +kernel
theorem dX3_startLimit_65 : decode cX3_startLimit 65 = .ok (.aload_n 0, 1) := by decide +kernel
theorem dX3_startLimit_66 : decode cX3_startLimit 66 = .ok (.getfield 37, 3) := by decide +kernel
theorem dX3_startLimit_69 : decode cX3_startLimit 69 = .ok (.iload_n 1, 1) := by decide +kernel
theorem dX3_startLimit_70 : decode cX3_startLimit 70 = .ok (.iload_n 3, 1) := by decide +kernel
theorem dX3_startLimit_71 : decode cX3_startLimit 71 = .ok (.ifCond .le 7, 3) := by decide +kernel
theorem dX3_startLimit_74 : decode cX3_startLimit 74 = .ok (.iconst (-1), 1) := by decide +kernel
theorem dX3_startLimit_75 : decode cX3_startLimit 75 = .ok (.goto 4, 3) := by decide +kernel
theorem dX3_startLimit_78 : decode cX3_startLimit 78 = .ok (.iconst 1, 1) := by decide +kernel
theorem dX3_startLimit_79 : decode cX3_startLimit 79 = .ok (.iastore, 1) := by decide +kernel
theorem dX3_startLimit_80 : decode cX3_startLimit 80 = .ok (.return_, 1) := by decide +kernel
set_option maxRecDepth 20000 in
theorem ggX3_place_X3_lift : GoodIn wsX3_place wsX3_lift := goodIn_r _ [6, 7, 8, 9, 47, 48, 49, 50, 51, 52, 53, 54, 55, 56, 57, 58] (by decide +kernel) (by decide +kernel)
set_option maxRecDepth 20000 in
theorem gX3_place_X3_lift : GoodIn wsX3_place (wsV RX3 57 RX3 yX3_lift wsX3_lift) := goodIn_app (goodIn_of _ (by decide +kernel)) ggX3_place_X3_lift
set_option maxRecDepth 20000 in
theorem ggX3_place_X3_placeWith : GoodIn wsX3_place wsX3_placeWith := goodIn_r _ [13, 14, 15, 9, 16, 17, 18, 19, 20, 21, 2, 3, 4, 5, 6, 7, 8, 22, 23, 24, 25, 26, 27, 28, 29, 30, 31, 32, 33, 34, 35, 36, 37, 38, 39, 40, 41, 47, 48, 49, 50, 51, 52, 53, 54, 55, 56, 57, 58, 42, 43, 44, 45, 46] (by decide +kernel) (by decide +kernel)
set_option maxRecDepth 20000 in
theorem gX3_place_X3_placeWith : GoodIn wsX3_place (wsV RX3 66 RX3 yX3_placeWith wsX3_placeWith) := goodIn_app (goodIn_of _ (by decide +kernel)) ggX3_place_X3_placeWith
theorem dX3_place_0 : decode cX3_place 0 = .ok (.aload_n 2, 1) := by decide +kernel
theorem dX3_place_1 : decode cX3_place 1 = .ok (.ifnonnull 11, 3) := by decide +kernel
theorem dX3_place_4 : decode cX3_place 4 = .ok (.aload_n 0, 1) := by decide +kernel
theorem dX3_place_5 : decode cX3_place 5 = .ok (.iload_n 1, 1) := by decide +kernel
theorem dX3_place_6 : decode cX3_place 6 = .ok (.invokevirtual 57, 3) := by decide +kernel
theorem dX3_place_9 : decode cX3_place 9 = .ok (.goto 13, 3) := by decide +kernel
theorem dX3_place_12 : decode cX3_place 12 = .ok (.aload_n 0, 1) := by decide +kernel
theorem dX3_place_13 : decode cX3_place 13 = .ok (.iload_n 1, 1) := by decide +kernel
theorem dX3_place_14 : decode cX3_place 14 = .ok (.aload_n 2, 1) := by decide +kernel
theorem dX3_place_15 : decode cX3_place 15 = .ok (.aload_n 2, 1) := by decide +kernel
theorem dX3_place_16 : decode cX3_place 16 = .ok (.getfield 61, 3) := by decide +kernel
theorem dX3_place_19 : decode cX3_place 19 = .ok (.invokevirtual 66, 3) := by decide +kernel
theorem dX3_place_22 : decode cX3_place 22 = .ok (.return_, 1) := by decide +kernel
set_option maxRecDepth 20000 in
theorem ggX3_placeWith_X3_lift : GoodIn wsX3_placeWith wsX3_lift := goodIn_r _ [14, 15, 16, 3, 37, 38, 39, 40, 41, 42, 43, 44, 45, 46, 47, 48] (by decide +kernel) (by decide +kernel)
set_option maxRecDepth 20000 in
theorem gX3_placeWith_X3_lift : GoodIn wsX3_placeWith (wsV RX3 57 RX3 yX3_lift wsX3_lift) := goodIn_app (goodIn_of _ (by decide +kernel)) ggX3_placeWith_X3_lift
set_option maxRecDepth 20000 in
theorem ggX3_placeWith_X1_coefficient : GoodIn wsX3_placeWith wsX1_coefficient := goodIn_r _ [21, 22, 49, 50, 51, 52, 53] (by decide +kernel) (by decide +kernel)
set_option maxRecDepth 20000 in
theorem gX3_placeWith_X1_coefficient : GoodIn wsX3_placeWith (wsV RX3 70 RX1 yX1_coefficient wsX1_coefficient) := goodIn_app (goodIn_of _ (by decide +kernel)) ggX3_placeWith_X1_coefficient
set_option maxRecDepth 20000 in
theorem ggX3_placeWith_X3_addVariable : GoodIn wsX3_placeWith wsX3_addVariable := goodIn_r _ [26, 1, 2, 37, 38, 39, 40, 41, 42, 43, 44, 45, 46, 47, 48] (by decide +kernel) (by decide +kernel)
set_option maxRecDepth 20000 in
theorem gX3_placeWith_X3_addVariable : GoodIn wsX3_placeWith (wsV RX3 74 RX3 yX3_addVariable wsX3_addVariable) := goodIn_app (goodIn_of _ (by decide +kernel)) ggX3_placeWith_X3_addVariable
set_option maxRecDepth 20000 in
theorem ggX3_placeWith_X1_costAbove : GoodIn wsX3_placeWith wsX1_costAbove := goodIn_r _ [30, 31, 32, 49, 50, 51, 52, 53] (by decide +kernel) (by decide +kernel)
set_option maxRecDepth 20000 in
theorem gX3_placeWith_X1_costAbove : GoodIn wsX3_placeWith (wsV RX3 81 RX1 yX1_costAbove wsX1_costAbove) := goodIn_app (goodIn_of _ (by decide +kernel)) ggX3_placeWith_X1_costAbove
set_option maxRecDepth 20000 in
theorem ggX3_placeWith_X1_costBelow : GoodIn wsX3_placeWith wsX1_costBelow := goodIn_r _ [36, 31, 32, 49, 50, 51, 52, 53] (by decide +kernel) (by decide +kernel)
set_option maxRecDepth 20000 in
theorem gX3_placeWith_X1_costBelow : GoodIn wsX3_placeWith (wsV RX3 84 RX1 yX1_costBelow wsX1_costBelow) := goodIn_app (goodIn_of _ (by decide +kernel)) ggX3_placeWith_X1_costBelow
theorem dX3_placeWith_0 : decode cX3_placeWith 0 = .ok (.aload_n 0, 1) := by decide +kernel
theorem dX3_placeWith_1 : decode cX3_placeWith 1 = .ok (.iload_n 1, 1) := by decide +kernel
theorem dX3_placeWith_2 : decode cX3_placeWith 2 = .ok (.invokevirtual 57, 3) := by decide +kernel
theorem dX3_placeWith_5 : decode cX3_placeWith 5 = .ok (.iload_n 1, 1) := by decide +kernel
theorem dX3_placeWith_6 : decode cX3_placeWith 6 = .ok (.ifCond .lt 13, 3) := by decide +kernel
theorem dX3_placeWith_9 : decode cX3_placeWith 9 = .ok (.iload_n 1, 1) := by decide +kernel
theorem dX3_placeWith_10 : decode cX3_placeWith 10 = .ok (.bipush 14, 2) := by decide +kernel
theorem dX3_placeWith_12 : decode cX3_placeWith 12 = .ok (.if_icmp .gt 7, 3) := by decide +kernel
theorem dX3_placeWith_15 : decode cX3_placeWith 15 = .ok (.aload_n 2, 1) := by decide +kernel
theorem dX3_placeWith_16 : decode cX3_placeWith 16 = .ok (.ifnonnull 4, 3) := by decide +kernel
theorem dX3_placeWith_19 : decode cX3_placeWith 19 = .ok (.return_, 1) := by decide +kernel
theorem dX3_placeWith_20 : decode cX3_placeWith 20 = .ok (.aload_n 0, 1) := by decide +kernel
theorem dX3_placeWith_21 : decode cX3_placeWith 21 = .ok (.getfield 13, 3) := by decide +kernel
theorem dX3_placeWith_24 : decode cX3_placeWith 24 = .ok (.iload_n 1, 1) := by decide +kernel
theorem dX3_placeWith_25 : decode cX3_placeWith 25 = .ok (.aaload, 1) := by decide +kernel
theorem dX3_placeWith_26 : decode cX3_placeWith 26 = .ok (.astore 4, 2) := by decide +kernel
theorem dX3_placeWith_28 : decode cX3_placeWith 28 = .ok (.iconst 0, 1) := by decide +kernel
theorem dX3_placeWith_29 : decode cX3_placeWith 29 = .ok (.istore 5, 2) := by decide +kernel
theorem dX3_placeWith_31 : decode cX3_placeWith 31 = .ok (.iload 5, 2) := by decide +kernel
theorem dX3_placeWith_33 : decode cX3_placeWith 33 = .ok (.bipush 6, 2) := by decide +kernel
theorem dX3_placeWith_35 : decode cX3_placeWith 35 = .ok (.if_icmp .gt 15, 3) := by decide +kernel
theorem dX3_placeWith_38 : decode cX3_placeWith 38 = .ok (.aload 4, 2) := by decide +kernel
theorem dX3_placeWith_40 : decode cX3_placeWith 40 = .ok (.iload 5, 2) := by decide +kernel
theorem dX3_placeWith_42 : decode cX3_placeWith 42 = .ok (.lconst 0, 1) := by decide +kernel
theorem dX3_placeWith_43 : decode cX3_placeWith 43 = .ok (.lastore, 1) := by decide +kernel
theorem dX3_placeWith_44 : decode cX3_placeWith 44 = .ok (.iinc 5 1, 3) := by decide +kernel
theorem dX3_placeWith_47 : decode cX3_placeWith 47 = .ok (.goto (-16), 3) := by decide +kernel
theorem dX3_placeWith_50 : decode cX3_placeWith 50 = .ok (.aload 4, 2) := by decide +kernel
theorem dX3_placeWith_52 : decode cX3_placeWith 52 = .ok (.bipush 6, 2) := by decide +kernel
theorem dX3_placeWith_54 : decode cX3_placeWith 54 = .ok (.aload_n 0, 1) := by decide +kernel
theorem dX3_placeWith_55 : decode cX3_placeWith 55 = .ok (.getfield 16, 3) := by decide +kernel
theorem dX3_placeWith_58 : decode cX3_placeWith 58 = .ok (.lneg, 1) := by decide +kernel
theorem dX3_placeWith_59 : decode cX3_placeWith 59 = .ok (.iload_n 3, 1) := by decide +kernel
theorem dX3_placeWith_60 : decode cX3_placeWith 60 = .ok (.i2l, 1) := by decide +kernel
theorem dX3_placeWith_61 : decode cX3_placeWith 61 = .ok (.lmul, 1) := by decide +kernel
theorem dX3_placeWith_62 : decode cX3_placeWith 62 = .ok (.lastore, 1) := by decide +kernel
theorem dX3_placeWith_63 : decode cX3_placeWith 63 = .ok (.iconst 0, 1) := by decide +kernel
theorem dX3_placeWith_64 : decode cX3_placeWith 64 = .ok (.istore 5, 2) := by decide +kernel
theorem dX3_placeWith_66 : decode cX3_placeWith 66 = .ok (.iload 5, 2) := by decide +kernel
theorem dX3_placeWith_68 : decode cX3_placeWith 68 = .ok (.bipush 6, 2) := by decide +kernel
theorem dX3_placeWith_70 : decode cX3_placeWith 70 = .ok (.if_icmp .ge 23, 3) := by decide +kernel
theorem dX3_placeWith_73 : decode cX3_placeWith 73 = .ok (.aload_n 0, 1) := by decide +kernel
theorem dX3_placeWith_74 : decode cX3_placeWith 74 = .ok (.aload 4, 2) := by decide +kernel
theorem dX3_placeWith_76 : decode cX3_placeWith 76 = .ok (.aload_n 2, 1) := by decide +kernel
theorem dX3_placeWith_77 : decode cX3_placeWith 77 = .ok (.iload 5, 2) := by decide +kernel
theorem dX3_placeWith_79 : decode cX3_placeWith 79 = .ok (.invokevirtual 70, 3) := by decide +kernel
theorem dX3_placeWith_82 : decode cX3_placeWith 82 = .ok (.iload 5, 2) := by decide +kernel
theorem dX3_placeWith_84 : decode cX3_placeWith 84 = .ok (.invokevirtual 74, 3) := by decide +kernel
theorem dX3_placeWith_87 : decode cX3_placeWith 87 = .ok (.iinc 5 1, 3) := by decide +kernel
theorem dX3_placeWith_90 : decode cX3_placeWith 90 = .ok (.goto (-24), 3) := by decide +kernel
theorem dX3_placeWith_93 : decode cX3_placeWith 93 = .ok (.aload_n 0, 1) := by decide +kernel
theorem dX3_placeWith_94 : decode cX3_placeWith 94 = .ok (.getfield 20, 3) := by decide +kernel
theorem dX3_placeWith_97 : decode cX3_placeWith 97 = .ok (.iload_n 1, 1) := by decide +kernel
theorem dX3_placeWith_98 : decode cX3_placeWith 98 = .ok (.iconst 1, 1) := by decide +kernel
theorem dX3_placeWith_99 : decode cX3_placeWith 99 = .ok (.bastore, 1) := by decide +kernel
theorem dX3_placeWith_100 : decode cX3_placeWith 100 = .ok (.aload_n 0, 1) := by decide +kernel
theorem dX3_placeWith_101 : decode cX3_placeWith 101 = .ok (.getfield 24, 3) := by decide +kernel
theorem dX3_placeWith_104 : decode cX3_placeWith 104 = .ok (.iload_n 1, 1) := by decide +kernel
theorem dX3_placeWith_105 : decode cX3_placeWith 105 = .ok (.iload_n 3, 1) := by decide +kernel
theorem dX3_placeWith_106 : decode cX3_placeWith 106 = .ok (.iastore, 1) := by decide +kernel
theorem dX3_placeWith_107 : decode cX3_placeWith 107 = .ok (.aload_n 0, 1) := by decide +kernel
theorem dX3_placeWith_108 : decode cX3_placeWith 108 = .ok (.getfield 28, 3) := by decide +kernel
theorem dX3_placeWith_111 : decode cX3_placeWith 111 = .ok (.iload_n 1, 1) := by decide +kernel
theorem dX3_placeWith_112 : decode cX3_placeWith 112 = .ok (.aload_n 2, 1) := by decide +kernel
theorem dX3_placeWith_113 : decode cX3_placeWith 113 = .ok (.getfield 78, 3) := by decide +kernel
theorem dX3_placeWith_116 : decode cX3_placeWith 116 = .ok (.iastore, 1) := by decide +kernel
theorem dX3_placeWith_117 : decode cX3_placeWith 117 = .ok (.aload_n 0, 1) := by decide +kernel
theorem dX3_placeWith_118 : decode cX3_placeWith 118 = .ok (.getfield 31, 3) := by decide +kernel
theorem dX3_placeWith_121 : decode cX3_placeWith 121 = .ok (.iload_n 1, 1) := by decide +kernel
theorem dX3_placeWith_122 : decode cX3_placeWith 122 = .ok (.aload_n 2, 1) := by decide +kernel
theorem dX3_placeWith_123 : decode cX3_placeWith 123 = .ok (.invokevirtual 81, 3) := by decide +kernel
theorem dX3_placeWith_126 : decode cX3_placeWith 126 = .ok (.iastore, 1) := by decide +kernel
theorem dX3_placeWith_127 : decode cX3_placeWith 127 = .ok (.aload_n 0, 1) := by decide +kernel
theorem dX3_placeWith_128 : decode cX3_placeWith 128 = .ok (.getfield 34, 3) := by decide +kernel
theorem dX3_placeWith_131 : decode cX3_placeWith 131 = .ok (.iload_n 1, 1) := by decide +kernel
theorem dX3_placeWith_132 : decode cX3_placeWith 132 = .ok (.aload_n 2, 1) := by decide +kernel
theorem dX3_placeWith_133 : decode cX3_placeWith 133 = .ok (.invokevirtual 84, 3) := by decide +kernel
theorem dX3_placeWith_136 : decode cX3_placeWith 136 = .ok (.iastore, 1) := by decide +kernel
theorem dX3_placeWith_137 : decode cX3_placeWith 137 = .ok (.aload_n 0, 1) := by decide +kernel
theorem dX3_placeWith_138 : decode cX3_placeWith 138 = .ok (.getfield 37, 3) := by decide +kernel
theorem dX3_placeWith_141 : decode cX3_placeWith 141 = .ok (.iload_n 1, 1) := by decide +kernel
theorem dX3_placeWith_142 : decode cX3_placeWith 142 = .ok (.aload 4, 2) := by decide +kernel
theorem dX3_placeWith_144 : decode cX3_placeWith 144 = .ok (.bipush 6, 2) := by decide +kernel
theorem dX3_placeWith_146 : decode cX3_placeWith 146 = .ok (.laload, 1) := by decide +kernel
theorem dX3_placeWith_147 : decode cX3_placeWith 147 = .ok (.lconst 0, 1) := by decide +kernel
theorem dX3_placeWith_148 : decode cX3_placeWith 148 = .ok (.lcmp, 1) := by decide +kernel
theorem dX3_placeWith_149 : decode cX3_placeWith 149 = .ok (.ifCond .ge 7, 3) := by decide +kernel
theorem dX3_placeWith_152 : decode cX3_placeWith 152 = .ok (.iconst (-1), 1) := by decide +kernel
theorem dX3_placeWith_153 : decode cX3_placeWith 153 = .ok (.goto 4, 3) := by decide +kernel
theorem dX3_placeWith_156 : decode cX3_placeWith 156 = .ok (.iconst 1, 1) := by decide +kernel
theorem dX3_placeWith_157 : decode cX3_placeWith 157 = .ok (.iastore, 1) := by decide +kernel
theorem dX3_placeWith_158 : decode cX3_placeWith 158 = .ok (.return_, 1) := by decide +kernel
theorem dX3_addVariable_0 : decode cX3_addVariable 0 = .ok (.iload_n 2, 1) := by decide +kernel
theorem dX3_addVariable_1 : decode cX3_addVariable 1 = .ok (.ifCond .eq 20, 3) := by decide +kernel
theorem dX3_addVariable_4 : decode cX3_addVariable 4 = .ok (.iload_n 3, 1) := by decide +kernel
theorem dX3_addVariable_5 : decode cX3_addVariable 5 = .ok (.ifCond .lt 16, 3) := by decide +kernel
theorem dX3_addVariable_8 : decode cX3_addVariable 8 = .ok (.iload_n 3, 1) := by decide +kernel
theorem dX3_addVariable_9 : decode cX3_addVariable 9 = .ok (.bipush 6, 2) := by decide +kernel
theorem dX3_addVariable_11 : decode cX3_addVariable 11 = .ok (.if_icmp .ge 10, 3) := by decide +kernel
theorem dX3_addVariable_14 : decode cX3_addVariable 14 = .ok (.aload_n 1, 1) := by decide +kernel
theorem dX3_addVariable_15 : decode cX3_addVariable 15 = .ok (.arraylength, 1) := by decide +kernel
theorem dX3_addVariable_16 : decode cX3_addVariable 16 = .ok (.bipush 6, 2) := by decide +kernel
theorem dX3_addVariable_18 : decode cX3_addVariable 18 = .ok (.if_icmp .gt 4, 3) := by decide +kernel
theorem dX3_addVariable_21 : decode cX3_addVariable 21 = .ok (.return_, 1) := by decide +kernel
theorem dX3_addVariable_22 : decode cX3_addVariable 22 = .ok (.aload_n 0, 1) := by decide +kernel
theorem dX3_addVariable_23 : decode cX3_addVariable 23 = .ok (.getfield 13, 3) := by decide +kernel
theorem dX3_addVariable_26 : decode cX3_addVariable 26 = .ok (.bipush 15, 2) := by decide +kernel
theorem dX3_addVariable_28 : decode cX3_addVariable 28 = .ok (.iload_n 3, 1) := by decide +kernel
theorem dX3_addVariable_29 : decode cX3_addVariable 29 = .ok (.iadd, 1) := by decide +kernel
theorem dX3_addVariable_30 : decode cX3_addVariable 30 = .ok (.aaload, 1) := by decide +kernel
theorem dX3_addVariable_31 : decode cX3_addVariable 31 = .ok (.astore 4, 2) := by decide +kernel
theorem dX3_addVariable_33 : decode cX3_addVariable 33 = .ok (.iconst 0, 1) := by decide +kernel
theorem dX3_addVariable_34 : decode cX3_addVariable 34 = .ok (.istore 5, 2) := by decide +kernel
theorem dX3_addVariable_36 : decode cX3_addVariable 36 = .ok (.iload 5, 2) := by decide +kernel
theorem dX3_addVariable_38 : decode cX3_addVariable 38 = .ok (.bipush 6, 2) := by decide +kernel
theorem dX3_addVariable_40 : decode cX3_addVariable 40 = .ok (.if_icmp .gt 24, 3) := by decide +kernel
theorem dX3_addVariable_43 : decode cX3_addVariable 43 = .ok (.aload_n 1, 1) := by decide +kernel
theorem dX3_addVariable_44 : decode cX3_addVariable 44 = .ok (.iload 5, 2) := by decide +kernel
theorem dX3_addVariable_46 : decode cX3_addVariable 46 = .ok (.dup2, 1) := by decide +kernel
theorem dX3_addVariable_47 : decode cX3_addVariable 47 = .ok (.laload, 1) := by decide +kernel
theorem dX3_addVariable_48 : decode cX3_addVariable 48 = .ok (.iload_n 2, 1) := by decide +kernel
theorem dX3_addVariable_49 : decode cX3_addVariable 49 = .ok (.i2l, 1) := by decide +kernel
theorem dX3_addVariable_50 : decode cX3_addVariable 50 = .ok (.aload 4, 2) := by decide +kernel
theorem dX3_addVariable_52 : decode cX3_addVariable 52 = .ok (.iload 5, 2) := by decide +kernel
theorem dX3_addVariable_54 : decode cX3_addVariable 54 = .ok (.laload, 1) := by decide +kernel
theorem dX3_addVariable_55 : decode cX3_addVariable 55 = .ok (.lmul, 1) := by decide +kernel
theorem dX3_addVariable_56 : decode cX3_addVariable 56 = .ok (.ladd, 1) := by decide +kernel
theorem dX3_addVariable_57 : decode cX3_addVariable 57 = .ok (.lastore, 1) := by decide +kernel
theorem dX3_addVariable_58 : decode cX3_addVariable 58 = .ok (.iinc 5 1, 3) := by decide +kernel
theorem dX3_addVariable_61 : decode cX3_addVariable 61 = .ok (.goto (-25), 3) := by decide +kernel
theorem dX3_addVariable_64 : decode cX3_addVariable 64 = .ok (.aload_n 1, 1) := by decide +kernel
theorem dX3_addVariable_65 : decode cX3_addVariable 65 = .ok (.bipush 6, 2) := by decide +kernel
theorem dX3_addVariable_67 : decode cX3_addVariable 67 = .ok (.dup2, 1) := by decide +kernel
theorem dX3_addVariable_68 : decode cX3_addVariable 68 = .ok (.laload, 1) := by decide +kernel
theorem dX3_addVariable_69 : decode cX3_addVariable 69 = .ok (.iload_n 2, 1) := by decide +kernel
theorem dX3_addVariable_70 : decode cX3_addVariable 70 = .ok (.sipush 1000, 3) := by decide +kernel
theorem dX3_addVariable_73 : decode cX3_addVariable 73 = .ok (.imul, 1) := by decide +kernel
theorem dX3_addVariable_74 : decode cX3_addVariable 74 = .ok (.i2l, 1) := by decide +kernel
theorem dX3_addVariable_75 : decode cX3_addVariable 75 = .ok (.aload_n 0, 1) := by decide +kernel
theorem dX3_addVariable_76 : decode cX3_addVariable 76 = .ok (.getfield 16, 3) := by decide +kernel
theorem dX3_addVariable_79 : decode cX3_addVariable 79 = .ok (.lmul, 1) := by decide +kernel
theorem dX3_addVariable_80 : decode cX3_addVariable 80 = .ok (.ladd, 1) := by decide +kernel
theorem dX3_addVariable_81 : decode cX3_addVariable 81 = .ok (.lastore, 1) := by decide +kernel
theorem dX3_addVariable_82 : decode cX3_addVariable 82 = .ok (.return_, 1) := by decide +kernel
theorem dX3_lift_0 : decode cX3_lift 0 = .ok (.iload_n 1, 1) := by decide +kernel
theorem dX3_lift_1 : decode cX3_lift 1 = .ok (.ifCond .lt 9, 3) := by decide +kernel
theorem dX3_lift_4 : decode cX3_lift 4 = .ok (.iload_n 1, 1) := by decide +kernel
theorem dX3_lift_5 : decode cX3_lift 5 = .ok (.bipush 14, 2) := by decide +kernel
theorem dX3_lift_7 : decode cX3_lift 7 = .ok (.if_icmp .le 4, 3) := by decide +kernel
theorem dX3_lift_10 : decode cX3_lift 10 = .ok (.return_, 1) := by decide +kernel
theorem dX3_lift_11 : decode cX3_lift 11 = .ok (.aload_n 0, 1) := by decide +kernel
theorem dX3_lift_12 : decode cX3_lift 12 = .ok (.getfield 40, 3) := by decide +kernel
theorem dX3_lift_15 : decode cX3_lift 15 = .ok (.iload_n 1, 1) := by decide +kernel
theorem dX3_lift_16 : decode cX3_lift 16 = .ok (.iaload, 1) := by decide +kernel
theorem dX3_lift_17 : decode cX3_lift 17 = .ok (.istore_n 2, 1) := by decide +kernel
theorem dX3_lift_18 : decode cX3_lift 18 = .ok (.iload_n 2, 1) := by decide +kernel
theorem dX3_lift_19 : decode cX3_lift 19 = .ok (.ifCond .lt 16, 3) := by decide +kernel
theorem dX3_lift_22 : decode cX3_lift 22 = .ok (.iload_n 2, 1) := by decide +kernel
theorem dX3_lift_23 : decode cX3_lift 23 = .ok (.bipush 6, 2) := by decide +kernel
theorem dX3_lift_25 : decode cX3_lift 25 = .ok (.if_icmp .ge 10, 3) := by decide +kernel
theorem dX3_lift_28 : decode cX3_lift 28 = .ok (.aload_n 0, 1) := by decide +kernel
theorem dX3_lift_29 : decode cX3_lift 29 = .ok (.getfield 43, 3) := by decide +kernel
theorem dX3_lift_32 : decode cX3_lift 32 = .ok (.iload_n 2, 1) := by decide +kernel
theorem dX3_lift_33 : decode cX3_lift 33 = .ok (.iconst (-1), 1) := by decide +kernel
theorem dX3_lift_34 : decode cX3_lift 34 = .ok (.iastore, 1) := by decide +kernel
theorem dX3_lift_35 : decode cX3_lift 35 = .ok (.aload_n 0, 1) := by decide +kernel
theorem dX3_lift_36 : decode cX3_lift 36 = .ok (.getfield 40, 3) := by decide +kernel
theorem dX3_lift_39 : decode cX3_lift 39 = .ok (.iload_n 1, 1) := by decide +kernel
theorem dX3_lift_40 : decode cX3_lift 40 = .ok (.iconst (-1), 1) := by decide +kernel
theorem dX3_lift_41 : decode cX3_lift 41 = .ok (.iastore, 1) := by decide +kernel
theorem dX3_lift_42 : decode cX3_lift 42 = .ok (.aload_n 0, 1) := by decide +kernel
theorem dX3_lift_43 : decode cX3_lift 43 = .ok (.getfield 20, 3) := by decide +kernel
theorem dX3_lift_46 : decode cX3_lift 46 = .ok (.iload_n 1, 1) := by decide +kernel
theorem dX3_lift_47 : decode cX3_lift 47 = .ok (.iconst 0, 1) := by decide +kernel
theorem dX3_lift_48 : decode cX3_lift 48 = .ok (.bastore, 1) := by decide +kernel
theorem dX3_lift_49 : decode cX3_lift 49 = .ok (.return_, 1) := by decide +kernel
set_option maxRecDepth 20000 in
theorem ggX3_isFeasible_X3_descend : GoodIn wsX3_isFeasible wsX3_descend := goodIn_r _ [7, 8, 9, 10, 11, 12, 6, 13, 14, 1, 15, 2, 16, 17, 18, 19, 20, 21, 22, 23, 24, 25, 26, 27, 28, 29, 30, 31, 32, 33, 34, 35, 36, 37, 38, 39, 40, 41, 42, 43, 44, 45, 46, 47, 48, 49, 50, 51, 52, 53, 58, 59, 60, 61, 62, 63, 64, 65, 66, 67, 68, 69] (by decide +kernel) (by decide +kernel)
set_option maxRecDepth 20000 in
theorem gX3_isFeasible_X3_descend : GoodIn wsX3_isFeasible (wsV RX3 86 RX3 yX3_descend wsX3_descend) := goodIn_app (goodIn_of _ (by decide +kernel)) ggX3_isFeasible_X3_descend
set_option maxRecDepth 20000 in
theorem ggX3_isFeasible_X3_costOf : GoodIn wsX3_isFeasible wsX3_costOf := goodIn_r _ [57, 23, 17, 18, 58, 59, 60, 61, 62, 63, 64, 65, 66, 67, 68, 69] (by decide +kernel) (by decide +kernel)
set_option maxRecDepth 20000 in
theorem gX3_isFeasible_X3_costOf : GoodIn wsX3_isFeasible (wsV RX3 89 RX3 yX3_costOf wsX3_costOf) := goodIn_app (goodIn_of _ (by decide +kernel)) ggX3_isFeasible_X3_costOf
theorem dX3_isFeasible_0 : decode cX3_isFeasible 0 = .ok (.aload_n 0, 1) := by decide +kernel
theorem dX3_isFeasible_1 : decode cX3_isFeasible 1 = .ok (.iconst (-1), 1) := by decide +kernel
theorem dX3_isFeasible_2 : decode cX3_isFeasible 2 = .ok (.iconst 1, 1) := by decide +kernel
theorem dX3_isFeasible_3 : decode cX3_isFeasible 3 = .ok (.iconst 1, 1) := by decide +kernel
theorem dX3_isFeasible_4 : decode cX3_isFeasible 4 = .ok (.invokevirtual 86, 3) := by decide +kernel
theorem dX3_isFeasible_7 : decode cX3_isFeasible 7 = .ok (.lconst 0, 1) := by decide +kernel
theorem dX3_isFeasible_8 : decode cX3_isFeasible 8 = .ok (.lstore_n 1, 1) := by decide +kernel
theorem dX3_isFeasible_9 : decode cX3_isFeasible 9 = .ok (.iconst 0, 1) := by decide +kernel
theorem dX3_isFeasible_10 : decode cX3_isFeasible 10 = .ok (.istore_n 3, 1) := by decide +kernel
theorem dX3_isFeasible_11 : decode cX3_isFeasible 11 = .ok (.iload_n 3, 1) := by decide +kernel
theorem dX3_isFeasible_12 : decode cX3_isFeasible 12 = .ok (.bipush 27, 2) := by decide +kernel
theorem dX3_isFeasible_14 : decode cX3_isFeasible 14 = .ok (.if_icmp .ge 35, 3) := by decide +kernel
theorem dX3_isFeasible_17 : decode cX3_isFeasible 17 = .ok (.aload_n 0, 1) := by decide +kernel
theorem dX3_isFeasible_18 : decode cX3_isFeasible 18 = .ok (.getfield 20, 3) := by decide +kernel
theorem dX3_isFeasible_21 : decode cX3_isFeasible 21 = .ok (.iload_n 3, 1) := by decide +kernel
theorem dX3_isFeasible_22 : decode cX3_isFeasible 22 = .ok (.baload, 1) := by decide +kernel
theorem dX3_isFeasible_23 : decode cX3_isFeasible 23 = .ok (.ifCond .eq 20, 3) := by decide +kernel
theorem dX3_isFeasible_26 : decode cX3_isFeasible 26 = .ok (.aload_n 0, 1) := by decide +kernel
theorem dX3_isFeasible_27 : decode cX3_isFeasible 27 = .ok (.getfield 28, 3) := by decide +kernel
theorem dX3_isFeasible_30 : decode cX3_isFeasible 30 = .ok (.iload_n 3, 1) := by decide +kernel
theorem dX3_isFeasible_31 : decode cX3_isFeasible 31 = .ok (.iaload, 1) := by decide +kernel
theorem dX3_isFeasible_32 : decode cX3_isFeasible 32 = .ok (.ifCond .ne 11, 3) := by decide +kernel
theorem dX3_isFeasible_35 : decode cX3_isFeasible 35 = .ok (.lload_n 1, 1) := by decide +kernel
theorem dX3_isFeasible_36 : decode cX3_isFeasible 36 = .ok (.aload_n 0, 1) := by decide +kernel
theorem dX3_isFeasible_37 : decode cX3_isFeasible 37 = .ok (.iload_n 3, 1) := by decide +kernel
theorem dX3_isFeasible_38 : decode cX3_isFeasible 38 = .ok (.invokevirtual 89, 3) := by decide +kernel
theorem dX3_isFeasible_41 : decode cX3_isFeasible 41 = .ok (.ladd, 1) := by decide +kernel
theorem dX3_isFeasible_42 : decode cX3_isFeasible 42 = .ok (.lstore_n 1, 1) := by decide +kernel
theorem dX3_isFeasible_43 : decode cX3_isFeasible 43 = .ok (.iinc 3 1, 3) := by decide +kernel
theorem dX3_isFeasible_46 : decode cX3_isFeasible 46 = .ok (.goto (-35), 3) := by decide +kernel
theorem dX3_isFeasible_49 : decode cX3_isFeasible 49 = .ok (.lload_n 1, 1) := by decide +kernel
theorem dX3_isFeasible_50 : decode cX3_isFeasible 50 = .ok (.lconst 0, 1) := by decide +kernel
theorem dX3_isFeasible_51 : decode cX3_isFeasible 51 = .ok (.lcmp, 1) := by decide +kernel
theorem dX3_isFeasible_52 : decode cX3_isFeasible 52 = .ok (.ifCond .ne 7, 3) := by decide +kernel
theorem dX3_isFeasible_55 : decode cX3_isFeasible 55 = .ok (.iconst 1, 1) := by decide +kernel
theorem dX3_isFeasible_56 : decode cX3_isFeasible 56 = .ok (.goto 4, 3) := by decide +kernel
theorem dX3_isFeasible_59 : decode cX3_isFeasible 59 = .ok (.iconst 0, 1) := by decide +kernel
theorem dX3_isFeasible_60 : decode cX3_isFeasible 60 = .ok (.ireturn, 1) := by decide +kernel
set_option maxRecDepth 20000 in
theorem ggX3_tellCosts_X2_clear : GoodIn wsX3_tellCosts wsX2_clear := goodIn_r _ [8, 9, 10, 35, 36] (by decide +kernel) (by decide +kernel)
set_option maxRecDepth 20000 in
theorem gX3_tellCosts_X2_clear : GoodIn wsX3_tellCosts (wsV RX3 93 RX2 yX2_clear wsX2_clear) := goodIn_app (goodIn_of _ (by decide +kernel)) ggX3_tellCosts_X2_clear
set_option maxRecDepth 20000 in
theorem ggX3_tellCosts_X3_costOf : GoodIn wsX3_tellCosts wsX3_costOf := goodIn_r _ [15, 16, 17, 18, 23, 24, 25, 26, 27, 28, 29, 30, 31, 32, 33, 34] (by decide +kernel) (by decide +kernel)
set_option maxRecDepth 20000 in
theorem gX3_tellCosts_X3_costOf : GoodIn wsX3_tellCosts (wsV RX3 89 RX3 yX3_costOf wsX3_costOf) := goodIn_app (goodIn_of _ (by decide +kernel)) ggX3_tellCosts_X3_costOf
set_option maxRecDepth 20000 in
theorem ggX3_tellCosts_X2_increase : GoodIn wsX3_tellCosts wsX2_increase := goodIn_r _ [22, 9, 35, 36] (by decide +kernel) (by decide +kernel)
set_option maxRecDepth 20000 in
theorem gX3_tellCosts_X2_increase : GoodIn wsX3_tellCosts (wsV RX3 99 RX2 yX2_increase wsX2_increase) := goodIn_app (goodIn_of _ (by decide +kernel)) ggX3_tellCosts_X2_increase
theorem dX3_tellCosts_0 : decode cX3_tellCosts 0 = .ok (.aload_n 1, 1) := by decide +kernel
theorem dX3_tellCosts_1 : decode cX3_tellCosts 1 = .ok (.aload_n 0, 1) := by decide +kernel
theorem dX3_tellCosts_2 : decode cX3_tellCosts 2 = .ok (.getfield 16, 3) := by decide +kernel
theorem dX3_tellCosts_5 : decode cX3_tellCosts 5 = .ok (.invokevirtual 93, 3) := by decide +kernel
theorem dX3_tellCosts_8 : decode cX3_tellCosts 8 = .ok (.iconst 0, 1) := by decide +kernel
theorem dX3_tellCosts_9 : decode cX3_tellCosts 9 = .ok (.istore_n 2, 1) := by decide +kernel
theorem dX3_tellCosts_10 : decode cX3_tellCosts 10 = .ok (.iload_n 2, 1) := by decide +kernel
theorem dX3_tellCosts_11 : decode cX3_tellCosts 11 = .ok (.bipush 27, 2) := by decide +kernel
theorem dX3_tellCosts_13 : decode cX3_tellCosts 13 = .ok (.if_icmp .ge 33, 3) := by decide +kernel
theorem dX3_tellCosts_16 : decode cX3_tellCosts 16 = .ok (.aload_n 0, 1) := by decide +kernel
theorem dX3_tellCosts_17 : decode cX3_tellCosts 17 = .ok (.getfield 20, 3) := by decide +kernel
theorem dX3_tellCosts_20 : decode cX3_tellCosts 20 = .ok (.iload_n 2, 1) := by decide +kernel
theorem dX3_tellCosts_21 : decode cX3_tellCosts 21 = .ok (.baload, 1) := by decide +kernel
theorem dX3_tellCosts_22 : decode cX3_tellCosts 22 = .ok (.ifCond .eq 18, 3) := by decide +kernel
theorem dX3_tellCosts_25 : decode cX3_tellCosts 25 = .ok (.aload_n 1, 1) := by decide +kernel
theorem dX3_tellCosts_26 : decode cX3_tellCosts 26 = .ok (.aload_n 0, 1) := by decide +kernel
theorem dX3_tellCosts_27 : decode cX3_tellCosts 27 = .ok (.getfield 28, 3) := by decide +kernel
theorem dX3_tellCosts_30 : decode cX3_tellCosts 30 = .ok (.iload_n 2, 1) := by decide +kernel
theorem dX3_tellCosts_31 : decode cX3_tellCosts 31 = .ok (.iaload, 1) := by decide +kernel
theorem dX3_tellCosts_32 : decode cX3_tellCosts 32 = .ok (.aload_n 0, 1) := by decide +kernel
theorem dX3_tellCosts_33 : decode cX3_tellCosts 33 = .ok (.iload_n 2, 1) := by decide +kernel
theorem dX3_tellCosts_34 : decode cX3_tellCosts 34 = .ok (.invokevirtual 89, 3) := by decide +kernel
theorem dX3_tellCosts_37 : decode cX3_tellCosts 37 = .ok (.invokevirtual 99, 3) := by decide +kernel
theorem dX3_tellCosts_40 : decode cX3_tellCosts 40 = .ok (.iinc 2 1, 3) := by decide +kernel
theorem dX3_tellCosts_43 : decode cX3_tellCosts 43 = .ok (.goto (-33), 3) := by decide +kernel
theorem dX3_tellCosts_46 : decode cX3_tellCosts 46 = .ok (.return_, 1) := by decide +kernel
theorem dX3_costOf_0 : decode cX3_costOf 0 = .ok (.iload_n 1, 1) := by decide +kernel
theorem dX3_costOf_1 : decode cX3_costOf 1 = .ok (.ifCond .lt 9, 3) := by decide +kernel
theorem dX3_costOf_4 : decode cX3_costOf 4 = .ok (.iload_n 1, 1) := by decide +kernel
theorem dX3_costOf_5 : decode cX3_costOf 5 = .ok (.bipush 27, 2) := by decide +kernel
theorem dX3_costOf_7 : decode cX3_costOf 7 = .ok (.if_icmp .lt 5, 3) := by decide +kernel
theorem dX3_costOf_10 : decode cX3_costOf 10 = .ok (.lconst 0, 1) := by decide +kernel
theorem dX3_costOf_11 : decode cX3_costOf 11 = .ok (.lreturn, 1) := by decide +kernel
theorem dX3_costOf_12 : decode cX3_costOf 12 = .ok (.aload_n 0, 1) := by decide +kernel
theorem dX3_costOf_13 : decode cX3_costOf 13 = .ok (.getfield 13, 3) := by decide +kernel
theorem dX3_costOf_16 : decode cX3_costOf 16 = .ok (.iload_n 1, 1) := by decide +kernel
theorem dX3_costOf_17 : decode cX3_costOf 17 = .ok (.aaload, 1) := by decide +kernel
theorem dX3_costOf_18 : decode cX3_costOf 18 = .ok (.bipush 6, 2) := by decide +kernel
theorem dX3_costOf_20 : decode cX3_costOf 20 = .ok (.laload, 1) := by decide +kernel
theorem dX3_costOf_21 : decode cX3_costOf 21 = .ok (.lstore_n 2, 1) := by decide +kernel
theorem dX3_costOf_22 : decode cX3_costOf 22 = .ok (.lload_n 2, 1) := by decide +kernel
theorem dX3_costOf_23 : decode cX3_costOf 23 = .ok (.lconst 0, 1) := by decide +kernel
theorem dX3_costOf_24 : decode cX3_costOf 24 = .ok (.lcmp, 1) := by decide +kernel
theorem dX3_costOf_25 : decode cX3_costOf 25 = .ok (.ifCond .le 15, 3) := by decide +kernel
theorem dX3_costOf_28 : decode cX3_costOf 28 = .ok (.aload_n 0, 1) := by decide +kernel
theorem dX3_costOf_29 : decode cX3_costOf 29 = .ok (.getfield 31, 3) := by decide +kernel
theorem dX3_costOf_32 : decode cX3_costOf 32 = .ok (.iload_n 1, 1) := by decide +kernel
theorem dX3_costOf_33 : decode cX3_costOf 33 = .ok (.iaload, 1) := by decide +kernel
theorem dX3_costOf_34 : decode cX3_costOf 34 = .ok (.i2l, 1) := by decide +kernel
theorem dX3_costOf_35 : decode cX3_costOf 35 = .ok (.lload_n 2, 1) := by decide +kernel
theorem dX3_costOf_36 : decode cX3_costOf 36 = .ok (.lmul, 1) := by decide +kernel
theorem dX3_costOf_37 : decode cX3_costOf 37 = .ok (.goto 13, 3) := by decide +kernel
theorem dX3_costOf_40 : decode cX3_costOf 40 = .ok (.aload_n 0, 1) := by decide +kernel
theorem dX3_costOf_41 : decode cX3_costOf 41 = .ok (.getfield 34, 3) := by decide +kernel
theorem dX3_costOf_44 : decode cX3_costOf 44 = .ok (.iload_n 1, 1) := by decide +kernel
theorem dX3_costOf_45 : decode cX3_costOf 45 = .ok (.iaload, 1) := by decide +kernel
theorem dX3_costOf_46 : decode cX3_costOf 46 = .ok (.i2l, 1) := by decide +kernel
theorem dX3_costOf_47 : decode cX3_costOf 47 = .ok (.lload_n 2, 1) := by decide +kernel
theorem dX3_costOf_48 : decode cX3_costOf 48 = .ok (.lneg, 1) := by decide +kernel
theorem dX3_costOf_49 : decode cX3_costOf 49 = .ok (.lmul, 1) := by decide +kernel
theorem dX3_costOf_50 : decode cX3_costOf 50 = .ok (.lreturn, 1) := by decide +kernel
theorem dX3_denominator_0 : decode cX3_denominator 0 = .ok (.aload_n 0, 1) := by decide +kernel
theorem dX3_denominator_1 : decode cX3_denominator 1 = .ok (.getfield 16, 3) := by decide +kernel
theorem dX3_denominator_4 : decode cX3_denominator 4 = .ok (.lreturn, 1) := by decide +kernel
theorem dX3_numerator_0 : decode cX3_numerator 0 = .ok (.iload_n 1, 1) := by decide +kernel
theorem dX3_numerator_1 : decode cX3_numerator 1 = .ok (.ifCond .lt 9, 3) := by decide +kernel
theorem dX3_numerator_4 : decode cX3_numerator 4 = .ok (.iload_n 1, 1) := by decide +kernel
theorem dX3_numerator_5 : decode cX3_numerator 5 = .ok (.bipush 27, 2) := by decide +kernel
theorem dX3_numerator_7 : decode cX3_numerator 7 = .ok (.if_icmp .lt 7, 3) := by decide +kernel
theorem dX3_numerator_10 : decode cX3_numerator 10 = .ok (.lconst 0, 1) := by decide +kernel
theorem dX3_numerator_11 : decode cX3_numerator 11 = .ok (.goto 25, 3) := by decide +kernel
theorem dX3_numerator_14 : decode cX3_numerator 14 = .ok (.aload_n 0, 1) := by decide +kernel
theorem dX3_numerator_15 : decode cX3_numerator 15 = .ok (.getfield 13, 3) := by decide +kernel
theorem dX3_numerator_18 : decode cX3_numerator 18 = .ok (.iload_n 1, 1) := by decide +kernel
theorem dX3_numerator_19 : decode cX3_numerator 19 = .ok (.aaload, 1) := by decide +kernel
theorem dX3_numerator_20 : decode cX3_numerator 20 = .ok (.bipush 6, 2) := by decide +kernel
theorem dX3_numerator_22 : decode cX3_numerator 22 = .ok (.laload, 1) := by decide +kernel
theorem dX3_numerator_23 : decode cX3_numerator 23 = .ok (.aload_n 0, 1) := by decide +kernel
theorem dX3_numerator_24 : decode cX3_numerator 24 = .ok (.getfield 24, 3) := by decide +kernel
theorem dX3_numerator_27 : decode cX3_numerator 27 = .ok (.iload_n 1, 1) := by decide +kernel
theorem dX3_numerator_28 : decode cX3_numerator 28 = .ok (.iaload, 1) := by decide +kernel
theorem dX3_numerator_29 : decode cX3_numerator 29 = .ok (.i2l, 1) := by decide +kernel
theorem dX3_numerator_30 : decode cX3_numerator 30 = .ok (.aload_n 0, 1) := by decide +kernel
theorem dX3_numerator_31 : decode cX3_numerator 31 = .ok (.getfield 16, 3) := by decide +kernel
theorem dX3_numerator_34 : decode cX3_numerator 34 = .ok (.lmul, 1) := by decide +kernel
theorem dX3_numerator_35 : decode cX3_numerator 35 = .ok (.ladd, 1) := by decide +kernel
theorem dX3_numerator_36 : decode cX3_numerator 36 = .ok (.lreturn, 1) := by decide +kernel
set_option maxRecDepth 20000 in
theorem ggX3_signOf_J13_compare_74951 : GoodIn wsX3_signOf wsJ13_compare_74951 := goodIn_r _ [5] (by decide +kernel) (by decide +kernel)
set_option maxRecDepth 20000 in
theorem gX3_signOf_J13_compare_74951 : GoodIn wsX3_signOf (va_wsS RX3 103 yJ13_compare_74951 wsJ13_compare_74951) := goodIn_app (goodIn_of _ (by decide +kernel)) ggX3_signOf_J13_compare_74951
theorem dX3_signOf_0 : decode cX3_signOf 0 = .ok (.iload_n 1, 1) := by decide +kernel
theorem dX3_signOf_1 : decode cX3_signOf 1 = .ok (.ifCond .lt 9, 3) := by decide +kernel
theorem dX3_signOf_4 : decode cX3_signOf 4 = .ok (.iload_n 1, 1) := by decide +kernel
theorem dX3_signOf_5 : decode cX3_signOf 5 = .ok (.bipush 27, 2) := by decide +kernel
theorem dX3_signOf_7 : decode cX3_signOf 7 = .ok (.if_icmp .lt 7, 3) := by decide +kernel
theorem dX3_signOf_10 : decode cX3_signOf 10 = .ok (.iconst 0, 1) := by decide +kernel
theorem dX3_signOf_11 : decode cX3_signOf 11 = .ok (.goto 16, 3) := by decide +kernel
theorem dX3_signOf_14 : decode cX3_signOf 14 = .ok (.aload_n 0, 1) := by decide +kernel
theorem dX3_signOf_15 : decode cX3_signOf 15 = .ok (.getfield 13, 3) := by decide +kernel
theorem dX3_signOf_18 : decode cX3_signOf 18 = .ok (.iload_n 1, 1) := by decide +kernel
theorem dX3_signOf_19 : decode cX3_signOf 19 = .ok (.aaload, 1) := by decide +kernel
theorem dX3_signOf_20 : decode cX3_signOf 20 = .ok (.bipush 6, 2) := by decide +kernel
theorem dX3_signOf_22 : decode cX3_signOf 22 = .ok (.laload, 1) := by decide +kernel
theorem dX3_signOf_23 : decode cX3_signOf 23 = .ok (.lconst 0, 1) := by decide +kernel
theorem dX3_signOf_24 : decode cX3_signOf 24 = .ok (.invokestatic 103, 3) := by decide +kernel
theorem dX3_signOf_27 : decode cX3_signOf 27 = .ok (.ireturn, 1) := by decide +kernel
set_option maxRecDepth 20000 in
theorem ggX3_settle_X3_descend : GoodIn wsX3_settle wsX3_descend := goodIn_r _ [5, 6, 7, 8, 9, 10, 4, 11, 12, 13, 14, 15, 16, 17, 18, 19, 20, 21, 22, 23, 24, 25, 26, 27, 28, 29, 30, 31, 32, 33, 34, 35, 36, 37, 38, 39, 40, 41, 42, 43, 44, 45, 46, 47, 48, 49, 50, 51, 52, 53, 54, 55, 56, 57, 58, 59, 60, 61, 62, 63, 64, 65] (by decide +kernel) (by decide +kernel)
set_option maxRecDepth 20000 in
theorem gX3_settle_X3_descend : GoodIn wsX3_settle (wsV RX3 86 RX3 yX3_descend wsX3_descend) := goodIn_app (goodIn_of _ (by decide +kernel)) ggX3_settle_X3_descend
theorem dX3_settle_0 : decode cX3_settle 0 = .ok (.aload_n 0, 1) := by decide +kernel
theorem dX3_settle_1 : decode cX3_settle 1 = .ok (.iconst (-1), 1) := by decide +kernel
theorem dX3_settle_2 : decode cX3_settle 2 = .ok (.iconst 1, 1) := by decide +kernel
theorem dX3_settle_3 : decode cX3_settle 3 = .ok (.iconst 4, 1) := by decide +kernel
theorem dX3_settle_4 : decode cX3_settle 4 = .ok (.invokevirtual 86, 3) := by decide +kernel
theorem dX3_settle_7 : decode cX3_settle 7 = .ok (.return_, 1) := by decide +kernel
set_option maxRecDepth 20000 in
theorem ggX3_goTo_X3_descend : GoodIn wsX3_goTo wsX3_descend := goodIn_r _ [5, 6, 7, 8, 9, 10, 4, 11, 12, 13, 14, 15, 16, 17, 18, 19, 20, 21, 22, 23, 24, 25, 26, 27, 28, 29, 30, 31, 32, 33, 34, 35, 36, 37, 38, 39, 40, 41, 42, 43, 44, 45, 46, 47, 48, 49, 50, 51, 52, 53, 54, 55, 56, 57, 58, 59, 60, 61, 62, 63, 64, 65] (by decide +kernel) (by decide +kernel)
set_option maxRecDepth 20000 in
theorem gX3_goTo_X3_descend : GoodIn wsX3_goTo (wsV RX3 86 RX3 yX3_descend wsX3_descend) := goodIn_app (goodIn_of _ (by decide +kernel)) ggX3_goTo_X3_descend
theorem dX3_goTo_0 : decode cX3_goTo 0 = .ok (.aload_n 0, 1) := by decide +kernel
theorem dX3_goTo_1 : decode cX3_goTo 1 = .ok (.iload_n 1, 1) := by decide +kernel
theorem dX3_goTo_2 : decode cX3_goTo 2 = .ok (.ifCond .lt 9, 3) := by decide +kernel
theorem dX3_goTo_5 : decode cX3_goTo 5 = .ok (.iload_n 1, 1) := by decide +kernel
theorem dX3_goTo_6 : decode cX3_goTo 6 = .ok (.bipush 27, 2) := by decide +kernel
theorem dX3_goTo_8 : decode cX3_goTo 8 = .ok (.if_icmp .lt 7, 3) := by decide +kernel
theorem dX3_goTo_11 : decode cX3_goTo 11 = .ok (.iconst (-1), 1) := by decide +kernel
theorem dX3_goTo_12 : decode cX3_goTo 12 = .ok (.goto 4, 3) := by decide +kernel
theorem dX3_goTo_15 : decode cX3_goTo 15 = .ok (.iload_n 1, 1) := by decide +kernel
theorem dX3_goTo_16 : decode cX3_goTo 16 = .ok (.iload_n 2, 1) := by decide +kernel
theorem dX3_goTo_17 : decode cX3_goTo 17 = .ok (.ifCond .eq 7, 3) := by decide +kernel
theorem dX3_goTo_20 : decode cX3_goTo 20 = .ok (.iconst 1, 1) := by decide +kernel
theorem dX3_goTo_21 : decode cX3_goTo 21 = .ok (.goto 4, 3) := by decide +kernel
theorem dX3_goTo_24 : decode cX3_goTo 24 = .ok (.iconst (-1), 1) := by decide +kernel
theorem dX3_goTo_25 : decode cX3_goTo 25 = .ok (.iload_n 3, 1) := by decide +kernel
theorem dX3_goTo_26 : decode cX3_goTo 26 = .ok (.invokevirtual 86, 3) := by decide +kernel
theorem dX3_goTo_29 : decode cX3_goTo 29 = .ok (.return_, 1) := by decide +kernel
set_option maxRecDepth 20000 in
theorem ggX3_descend_X3_findSlopes : GoodIn wsX3_descend wsX3_findSlopes := goodIn_r _ [7, 8, 9, 10, 11, 1, 12, 13, 14, 15, 16, 17, 6, 18, 19, 50, 51, 52, 53, 54, 55, 56, 57, 58, 59, 60, 61] (by decide +kernel) (by decide +kernel)
set_option maxRecDepth 20000 in
theorem gX3_descend_X3_findSlopes : GoodIn wsX3_descend (wsV RX3 110 RX3 yX3_findSlopes wsX3_findSlopes) := goodIn_app (goodIn_of _ (by decide +kernel)) ggX3_descend_X3_findSlopes
set_option maxRecDepth 20000 in
theorem ggX3_descend_X3_enteringColumn : GoodIn wsX3_descend wsX3_enteringColumn := goodIn_r _ [23, 24, 25, 26, 27, 6, 28, 11, 1, 8, 29, 13, 14, 30, 31, 32, 33, 50, 51, 52, 53, 54, 55, 56, 57, 58, 59, 60, 61] (by decide +kernel) (by decide +kernel)
set_option maxRecDepth 20000 in
theorem gX3_descend_X3_enteringColumn : GoodIn wsX3_descend (wsV RX3 114 RX3 yX3_enteringColumn wsX3_enteringColumn) := goodIn_app (goodIn_of _ (by decide +kernel)) ggX3_descend_X3_enteringColumn
set_option maxRecDepth 20000 in
theorem ggX3_descend_X3_directionOf : GoodIn wsX3_descend wsX3_directionOf := goodIn_r _ [28, 24, 11, 1, 8, 29, 13, 14, 30, 31, 32, 33, 50, 51, 52, 53, 54, 55, 56, 57, 58, 59, 60, 61] (by decide +kernel) (by decide +kernel)
set_option maxRecDepth 20000 in
theorem gX3_descend_X3_directionOf : GoodIn wsX3_descend (wsV RX3 117 RX3 yX3_directionOf wsX3_directionOf) := goodIn_app (goodIn_of _ (by decide +kernel)) ggX3_descend_X3_directionOf
set_option maxRecDepth 20000 in
theorem ggX3_descend_X3_leavingRow : GoodIn wsX3_descend wsX3_leavingRow := goodIn_r _ [37, 9, 10, 12, 19, 38, 39, 40, 41, 50, 51, 52, 53, 54, 55, 56, 57, 58, 59, 60, 61] (by decide +kernel) (by decide +kernel)
set_option maxRecDepth 20000 in
theorem gX3_descend_X3_leavingRow : GoodIn wsX3_descend (wsV RX3 120 RX3 yX3_leavingRow wsX3_leavingRow) := goodIn_app (goodIn_of _ (by decide +kernel)) ggX3_descend_X3_leavingRow
set_option maxRecDepth 20000 in
theorem ggX3_descend_X3_exchange : GoodIn wsX3_descend wsX3_exchange := goodIn_r _ [45, 19, 38, 39, 40, 41, 9, 29, 24, 10, 12, 46, 47, 48, 6, 49, 50, 51, 52, 53, 54, 55, 56, 57, 58, 59, 60, 61] (by decide +kernel) (by decide +kernel)
set_option maxRecDepth 20000 in
theorem gX3_descend_X3_exchange : GoodIn wsX3_descend (wsV RX3 124 RX3 yX3_exchange wsX3_exchange) := goodIn_app (goodIn_of _ (by decide +kernel)) ggX3_descend_X3_exchange
theorem dX3_descend_0 : decode cX3_descend 0 = .ok (.aload_n 0, 1) := by decide +kernel
theorem dX3_descend_1 : decode cX3_descend 1 = .ok (.iload_n 3, 1) := by decide +kernel
theorem dX3_descend_2 : decode cX3_descend 2 = .ok (.putfield 49, 3) := by decide +kernel
theorem dX3_descend_5 : decode cX3_descend 5 = .ok (.iconst 0, 1) := by decide +kernel
theorem dX3_descend_6 : decode cX3_descend 6 = .ok (.istore 4, 2) := by decide +kernel
theorem dX3_descend_8 : decode cX3_descend 8 = .ok (.iload 4, 2) := by decide +kernel
theorem dX3_descend_10 : decode cX3_descend 10 = .ok (.ldc 109, 2) := by decide +kernel
theorem dX3_descend_12 : decode cX3_descend 12 = .ok (.if_icmp .ge 61, 3) := by decide +kernel
theorem dX3_descend_15 : decode cX3_descend 15 = .ok (.aload_n 0, 1) := by decide +kernel
theorem dX3_descend_16 : decode cX3_descend 16 = .ok (.iload_n 1, 1) := by decide +kernel
theorem dX3_descend_17 : decode cX3_descend 17 = .ok (.iload_n 2, 1) := by decide +kernel
theorem dX3_descend_18 : decode cX3_descend 18 = .ok (.invokevirtual 110, 3) := by decide +kernel
theorem dX3_descend_21 : decode cX3_descend 21 = .ok (.aload_n 0, 1) := by decide +kernel
theorem dX3_descend_22 : decode cX3_descend 22 = .ok (.invokevirtual 114, 3) := by decide +kernel
theorem dX3_descend_25 : decode cX3_descend 25 = .ok (.istore 5, 2) := by decide +kernel
theorem dX3_descend_27 : decode cX3_descend 27 = .ok (.iload 5, 2) := by decide +kernel
theorem dX3_descend_29 : decode cX3_descend 29 = .ok (.ifCond .ge 4, 3) := by decide +kernel
theorem dX3_descend_32 : decode cX3_descend 32 = .ok (.return_, 1) := by decide +kernel
theorem dX3_descend_33 : decode cX3_descend 33 = .ok (.aload_n 0, 1) := by decide +kernel
theorem dX3_descend_34 : decode cX3_descend 34 = .ok (.iload 5, 2) := by decide +kernel
theorem dX3_descend_36 : decode cX3_descend 36 = .ok (.invokevirtual 117, 3) := by decide +kernel
theorem dX3_descend_39 : decode cX3_descend 39 = .ok (.istore 6, 2) := by decide +kernel
theorem dX3_descend_41 : decode cX3_descend 41 = .ok (.aload_n 0, 1) := by decide +kernel
theorem dX3_descend_42 : decode cX3_descend 42 = .ok (.iload 5, 2) := by decide +kernel
theorem dX3_descend_44 : decode cX3_descend 44 = .ok (.iload 6, 2) := by decide +kernel
theorem dX3_descend_46 : decode cX3_descend 46 = .ok (.invokevirtual 120, 3) := by decide +kernel
theorem dX3_descend_49 : decode cX3_descend 49 = .ok (.istore 7, 2) := by decide +kernel
theorem dX3_descend_51 : decode cX3_descend 51 = .ok (.iload 7, 2) := by decide +kernel
theorem dX3_descend_53 : decode cX3_descend 53 = .ok (.ifCond .ge 4, 3) := by decide +kernel
theorem dX3_descend_56 : decode cX3_descend 56 = .ok (.return_, 1) := by decide +kernel
theorem dX3_descend_57 : decode cX3_descend 57 = .ok (.aload_n 0, 1) := by decide +kernel
theorem dX3_descend_58 : decode cX3_descend 58 = .ok (.iload 7, 2) := by decide +kernel
theorem dX3_descend_60 : decode cX3_descend 60 = .ok (.iload 5, 2) := by decide +kernel
theorem dX3_descend_62 : decode cX3_descend 62 = .ok (.iload 6, 2) := by decide +kernel
theorem dX3_descend_64 : decode cX3_descend 64 = .ok (.invokevirtual 124, 3) := by decide +kernel
theorem dX3_descend_67 : decode cX3_descend 67 = .ok (.iinc 4 1, 3) := by decide +kernel
theorem dX3_descend_70 : decode cX3_descend 70 = .ok (.goto (-62), 3) := by decide +kernel
theorem dX3_descend_73 : decode cX3_descend 73 = .ok (.return_, 1) := by decide +kernel
set_option maxRecDepth 20000 in
theorem ggX3_findSlopes_X3_addSlopes : GoodIn wsX3_findSlopes wsX3_addSlopes := goodIn_r _ [13, 1, 14, 15, 16, 17, 18, 19, 20, 21, 22, 23, 24, 25, 26] (by decide +kernel) (by decide +kernel)
set_option maxRecDepth 20000 in
theorem gX3_findSlopes_X3_addSlopes : GoodIn wsX3_findSlopes (wsV RX3 127 RX3 yX3_addSlopes wsX3_addSlopes) := goodIn_app (goodIn_of _ (by decide +kernel)) ggX3_findSlopes_X3_addSlopes
theorem dX3_findSlopes_0 : decode cX3_findSlopes 0 = .ok (.iconst 0, 1) := by decide +kernel
theorem dX3_findSlopes_1 : decode cX3_findSlopes 1 = .ok (.istore_n 3, 1) := by decide +kernel
theorem dX3_findSlopes_2 : decode cX3_findSlopes 2 = .ok (.iload_n 3, 1) := by decide +kernel
theorem dX3_findSlopes_3 : decode cX3_findSlopes 3 = .ok (.iconst 4, 1) := by decide +kernel
theorem dX3_findSlopes_4 : decode cX3_findSlopes 4 = .ok (.if_icmp .gt 35, 3) := by decide +kernel
theorem dX3_findSlopes_7 : decode cX3_findSlopes 7 = .ok (.iconst 0, 1) := by decide +kernel
theorem dX3_findSlopes_8 : decode cX3_findSlopes 8 = .ok (.istore 4, 2) := by decide +kernel
theorem dX3_findSlopes_10 : decode cX3_findSlopes 10 = .ok (.iload 4, 2) := by decide +kernel
theorem dX3_findSlopes_12 : decode cX3_findSlopes 12 = .ok (.bipush 6, 2) := by decide +kernel
theorem dX3_findSlopes_14 : decode cX3_findSlopes 14 = .ok (.if_icmp .ge 19, 3) := by decide +kernel
theorem dX3_findSlopes_17 : decode cX3_findSlopes 17 = .ok (.aload_n 0, 1) := by decide +kernel
theorem dX3_findSlopes_18 : decode cX3_findSlopes 18 = .ok (.getfield 46, 3) := by decide +kernel
theorem dX3_findSlopes_21 : decode cX3_findSlopes 21 = .ok (.iload_n 3, 1) := by decide +kernel
theorem dX3_findSlopes_22 : decode cX3_findSlopes 22 = .ok (.aaload, 1) := by decide +kernel
theorem dX3_findSlopes_23 : decode cX3_findSlopes 23 = .ok (.iload 4, 2) := by decide +kernel
theorem dX3_findSlopes_25 : decode cX3_findSlopes 25 = .ok (.lconst 0, 1) := by decide +kernel
theorem dX3_findSlopes_26 : decode cX3_findSlopes 26 = .ok (.lastore, 1) := by decide +kernel
theorem dX3_findSlopes_27 : decode cX3_findSlopes 27 = .ok (.iinc 4 1, 3) := by decide +kernel
theorem dX3_findSlopes_30 : decode cX3_findSlopes 30 = .ok (.goto (-20), 3) := by decide +kernel
theorem dX3_findSlopes_33 : decode cX3_findSlopes 33 = .ok (.iinc 3 1, 3) := by decide +kernel
theorem dX3_findSlopes_36 : decode cX3_findSlopes 36 = .ok (.goto (-34), 3) := by decide +kernel
theorem dX3_findSlopes_39 : decode cX3_findSlopes 39 = .ok (.iconst 0, 1) := by decide +kernel
theorem dX3_findSlopes_40 : decode cX3_findSlopes 40 = .ok (.istore_n 3, 1) := by decide +kernel
theorem dX3_findSlopes_41 : decode cX3_findSlopes 41 = .ok (.iload_n 3, 1) := by decide +kernel
theorem dX3_findSlopes_42 : decode cX3_findSlopes 42 = .ok (.bipush 27, 2) := by decide +kernel
theorem dX3_findSlopes_44 : decode cX3_findSlopes 44 = .ok (.if_icmp .ge 77, 3) := by decide +kernel
theorem dX3_findSlopes_47 : decode cX3_findSlopes 47 = .ok (.aload_n 0, 1) := by decide +kernel
theorem dX3_findSlopes_48 : decode cX3_findSlopes 48 = .ok (.getfield 20, 3) := by decide +kernel
theorem dX3_findSlopes_51 : decode cX3_findSlopes 51 = .ok (.iload_n 3, 1) := by decide +kernel
theorem dX3_findSlopes_52 : decode cX3_findSlopes 52 = .ok (.baload, 1) := by decide +kernel
theorem dX3_findSlopes_53 : decode cX3_findSlopes 53 = .ok (.ifCond .eq 62, 3) := by decide +kernel
theorem dX3_findSlopes_56 : decode cX3_findSlopes 56 = .ok (.aload_n 0, 1) := by decide +kernel
theorem dX3_findSlopes_57 : decode cX3_findSlopes 57 = .ok (.getfield 40, 3) := by decide +kernel
theorem dX3_findSlopes_60 : decode cX3_findSlopes 60 = .ok (.iload_n 3, 1) := by decide +kernel
theorem dX3_findSlopes_61 : decode cX3_findSlopes 61 = .ok (.iaload, 1) := by decide +kernel
theorem dX3_findSlopes_62 : decode cX3_findSlopes 62 = .ok (.iconst (-1), 1) := by decide +kernel
theorem dX3_findSlopes_63 : decode cX3_findSlopes 63 = .ok (.if_icmp .ne 52, 3) := by decide +kernel
theorem dX3_findSlopes_66 : decode cX3_findSlopes 66 = .ok (.aload_n 0, 1) := by decide +kernel
theorem dX3_findSlopes_67 : decode cX3_findSlopes 67 = .ok (.getfield 28, 3) := by decide +kernel
theorem dX3_findSlopes_70 : decode cX3_findSlopes 70 = .ok (.iload_n 3, 1) := by decide +kernel
theorem dX3_findSlopes_71 : decode cX3_findSlopes 71 = .ok (.iaload, 1) := by decide +kernel
theorem dX3_findSlopes_72 : decode cX3_findSlopes 72 = .ok (.aload_n 0, 1) := by decide +kernel
theorem dX3_findSlopes_73 : decode cX3_findSlopes 73 = .ok (.getfield 49, 3) := by decide +kernel
theorem dX3_findSlopes_76 : decode cX3_findSlopes 76 = .ok (.if_icmp .ge 39, 3) := by decide +kernel
theorem dX3_findSlopes_79 : decode cX3_findSlopes 79 = .ok (.aload_n 0, 1) := by decide +kernel
theorem dX3_findSlopes_80 : decode cX3_findSlopes 80 = .ok (.aload_n 0, 1) := by decide +kernel
theorem dX3_findSlopes_81 : decode cX3_findSlopes 81 = .ok (.getfield 28, 3) := by decide +kernel
theorem dX3_findSlopes_84 : decode cX3_findSlopes 84 = .ok (.iload_n 3, 1) := by decide +kernel
theorem dX3_findSlopes_85 : decode cX3_findSlopes 85 = .ok (.iaload, 1) := by decide +kernel
theorem dX3_findSlopes_86 : decode cX3_findSlopes 86 = .ok (.iload_n 3, 1) := by decide +kernel
theorem dX3_findSlopes_87 : decode cX3_findSlopes 87 = .ok (.aload_n 0, 1) := by decide +kernel
theorem dX3_findSlopes_88 : decode cX3_findSlopes 88 = .ok (.getfield 37, 3) := by decide +kernel
theorem dX3_findSlopes_91 : decode cX3_findSlopes 91 = .ok (.iload_n 3, 1) := by decide +kernel
theorem dX3_findSlopes_92 : decode cX3_findSlopes 92 = .ok (.iaload, 1) := by decide +kernel
theorem dX3_findSlopes_93 : decode cX3_findSlopes 93 = .ok (.ifCond .le 12, 3) := by decide +kernel
theorem dX3_findSlopes_96 : decode cX3_findSlopes 96 = .ok (.aload_n 0, 1) := by decide +kernel
theorem dX3_findSlopes_97 : decode cX3_findSlopes 97 = .ok (.getfield 31, 3) := by decide +kernel
theorem dX3_findSlopes_100 : decode cX3_findSlopes 100 = .ok (.iload_n 3, 1) := by decide +kernel
theorem dX3_findSlopes_101 : decode cX3_findSlopes 101 = .ok (.iaload, 1) := by decide +kernel
theorem dX3_findSlopes_102 : decode cX3_findSlopes 102 = .ok (.goto 10, 3) := by decide +kernel
theorem dX3_findSlopes_105 : decode cX3_findSlopes 105 = .ok (.aload_n 0, 1) := by decide +kernel
theorem dX3_findSlopes_106 : decode cX3_findSlopes 106 = .ok (.getfield 34, 3) := by decide +kernel
theorem dX3_findSlopes_109 : decode cX3_findSlopes 109 = .ok (.iload_n 3, 1) := by decide +kernel
theorem dX3_findSlopes_110 : decode cX3_findSlopes 110 = .ok (.iaload, 1) := by decide +kernel
theorem dX3_findSlopes_111 : decode cX3_findSlopes 111 = .ok (.ineg, 1) := by decide +kernel
theorem dX3_findSlopes_112 : decode cX3_findSlopes 112 = .ok (.invokevirtual 127, 3) := by decide +kernel
theorem dX3_findSlopes_115 : decode cX3_findSlopes 115 = .ok (.iinc 3 1, 3) := by decide +kernel
theorem dX3_findSlopes_118 : decode cX3_findSlopes 118 = .ok (.goto (-77), 3) := by decide +kernel
theorem dX3_findSlopes_121 : decode cX3_findSlopes 121 = .ok (.iload_n 1, 1) := by decide +kernel
theorem dX3_findSlopes_122 : decode cX3_findSlopes 122 = .ok (.iconst (-1), 1) := by decide +kernel
theorem dX3_findSlopes_123 : decode cX3_findSlopes 123 = .ok (.if_icmp .eq 10, 3) := by decide +kernel
theorem dX3_findSlopes_126 : decode cX3_findSlopes 126 = .ok (.aload_n 0, 1) := by decide +kernel
theorem dX3_findSlopes_127 : decode cX3_findSlopes 127 = .ok (.iconst 4, 1) := by decide +kernel
theorem dX3_findSlopes_128 : decode cX3_findSlopes 128 = .ok (.iload_n 1, 1) := by decide +kernel
theorem dX3_findSlopes_129 : decode cX3_findSlopes 129 = .ok (.iload_n 2, 1) := by decide +kernel
theorem dX3_findSlopes_130 : decode cX3_findSlopes 130 = .ok (.invokevirtual 127, 3) := by decide +kernel
theorem dX3_findSlopes_133 : decode cX3_findSlopes 133 = .ok (.return_, 1) := by decide +kernel
theorem dX3_addSlopes_0 : decode cX3_addSlopes 0 = .ok (.iload_n 3, 1) := by decide +kernel
theorem dX3_addSlopes_1 : decode cX3_addSlopes 1 = .ok (.ifCond .eq 22, 3) := by decide +kernel
theorem dX3_addSlopes_4 : decode cX3_addSlopes 4 = .ok (.iload_n 1, 1) := by decide +kernel
theorem dX3_addSlopes_5 : decode cX3_addSlopes 5 = .ok (.ifCond .lt 18, 3) := by decide +kernel
theorem dX3_addSlopes_8 : decode cX3_addSlopes 8 = .ok (.iload_n 1, 1) := by decide +kernel
theorem dX3_addSlopes_9 : decode cX3_addSlopes 9 = .ok (.iconst 4, 1) := by decide +kernel
theorem dX3_addSlopes_10 : decode cX3_addSlopes 10 = .ok (.if_icmp .gt 13, 3) := by decide +kernel
theorem dX3_addSlopes_13 : decode cX3_addSlopes 13 = .ok (.iload_n 2, 1) := by decide +kernel
theorem dX3_addSlopes_14 : decode cX3_addSlopes 14 = .ok (.ifCond .lt 9, 3) := by decide +kernel
theorem dX3_addSlopes_17 : decode cX3_addSlopes 17 = .ok (.iload_n 2, 1) := by decide +kernel
theorem dX3_addSlopes_18 : decode cX3_addSlopes 18 = .ok (.bipush 27, 2) := by decide +kernel
theorem dX3_addSlopes_20 : decode cX3_addSlopes 20 = .ok (.if_icmp .lt 4, 3) := by decide +kernel
theorem dX3_addSlopes_23 : decode cX3_addSlopes 23 = .ok (.return_, 1) := by decide +kernel
theorem dX3_addSlopes_24 : decode cX3_addSlopes 24 = .ok (.iconst 0, 1) := by decide +kernel
theorem dX3_addSlopes_25 : decode cX3_addSlopes 25 = .ok (.istore 4, 2) := by decide +kernel
theorem dX3_addSlopes_27 : decode cX3_addSlopes 27 = .ok (.iload 4, 2) := by decide +kernel
theorem dX3_addSlopes_29 : decode cX3_addSlopes 29 = .ok (.bipush 6, 2) := by decide +kernel
theorem dX3_addSlopes_31 : decode cX3_addSlopes 31 = .ok (.if_icmp .ge 33, 3) := by decide +kernel
theorem dX3_addSlopes_34 : decode cX3_addSlopes 34 = .ok (.aload_n 0, 1) := by decide +kernel
theorem dX3_addSlopes_35 : decode cX3_addSlopes 35 = .ok (.getfield 46, 3) := by decide +kernel
theorem dX3_addSlopes_38 : decode cX3_addSlopes 38 = .ok (.iload_n 1, 1) := by decide +kernel
theorem dX3_addSlopes_39 : decode cX3_addSlopes 39 = .ok (.aaload, 1) := by decide +kernel
theorem dX3_addSlopes_40 : decode cX3_addSlopes 40 = .ok (.iload 4, 2) := by decide +kernel
theorem dX3_addSlopes_42 : decode cX3_addSlopes 42 = .ok (.dup2, 1) := by decide +kernel
theorem dX3_addSlopes_43 : decode cX3_addSlopes 43 = .ok (.laload, 1) := by decide +kernel
theorem dX3_addSlopes_44 : decode cX3_addSlopes 44 = .ok (.iload_n 3, 1) := by decide +kernel
theorem dX3_addSlopes_45 : decode cX3_addSlopes 45 = .ok (.i2l, 1) := by decide +kernel
theorem dX3_addSlopes_46 : decode cX3_addSlopes 46 = .ok (.aload_n 0, 1) := by decide +kernel
theorem dX3_addSlopes_47 : decode cX3_addSlopes 47 = .ok (.getfield 13, 3) := by decide +kernel
theorem dX3_addSlopes_50 : decode cX3_addSlopes 50 = .ok (.iload_n 2, 1) := by decide +kernel
theorem dX3_addSlopes_51 : decode cX3_addSlopes 51 = .ok (.aaload, 1) := by decide +kernel
theorem dX3_addSlopes_52 : decode cX3_addSlopes 52 = .ok (.iload 4, 2) := by decide +kernel
theorem dX3_addSlopes_54 : decode cX3_addSlopes 54 = .ok (.laload, 1) := by decide +kernel
theorem dX3_addSlopes_55 : decode cX3_addSlopes 55 = .ok (.lmul, 1) := by decide +kernel
theorem dX3_addSlopes_56 : decode cX3_addSlopes 56 = .ok (.ladd, 1) := by decide +kernel
theorem dX3_addSlopes_57 : decode cX3_addSlopes 57 = .ok (.lastore, 1) := by decide +kernel
theorem dX3_addSlopes_58 : decode cX3_addSlopes 58 = .ok (.iinc 4 1, 3) := by decide +kernel
theorem dX3_addSlopes_61 : decode cX3_addSlopes 61 = .ok (.goto (-34), 3) := by decide +kernel
theorem dX3_addSlopes_64 : decode cX3_addSlopes 64 = .ok (.return_, 1) := by decide +kernel
set_option maxRecDepth 20000 in
theorem ggX3_enteringColumn_X3_directionOf : GoodIn wsX3_enteringColumn wsX3_directionOf := goodIn_r _ [6, 1, 7, 8, 9, 10, 11, 12, 13, 14, 15, 16, 17, 18, 19, 20, 21, 22, 23, 24, 25, 26, 27, 28] (by decide +kernel) (by decide +kernel)
set_option maxRecDepth 20000 in
theorem gX3_enteringColumn_X3_directionOf : GoodIn wsX3_enteringColumn (wsV RX3 117 RX3 yX3_directionOf wsX3_directionOf) := goodIn_app (goodIn_of _ (by decide +kernel)) ggX3_enteringColumn_X3_directionOf
theorem dX3_enteringColumn_0 : decode cX3_enteringColumn 0 = .ok (.iconst (-1), 1) := by decide +kernel
theorem dX3_enteringColumn_1 : decode cX3_enteringColumn 1 = .ok (.istore_n 1, 1) := by decide +kernel
theorem dX3_enteringColumn_2 : decode cX3_enteringColumn 2 = .ok (.iconst 0, 1) := by decide +kernel
theorem dX3_enteringColumn_3 : decode cX3_enteringColumn 3 = .ok (.istore_n 2, 1) := by decide +kernel
theorem dX3_enteringColumn_4 : decode cX3_enteringColumn 4 = .ok (.iload_n 2, 1) := by decide +kernel
theorem dX3_enteringColumn_5 : decode cX3_enteringColumn 5 = .ok (.bipush 6, 2) := by decide +kernel
theorem dX3_enteringColumn_7 : decode cX3_enteringColumn 7 = .ok (.if_icmp .ge 38, 3) := by decide +kernel
theorem dX3_enteringColumn_10 : decode cX3_enteringColumn 10 = .ok (.iload_n 1, 1) := by decide +kernel
theorem dX3_enteringColumn_11 : decode cX3_enteringColumn 11 = .ok (.ifCond .lt 18, 3) := by decide +kernel
theorem dX3_enteringColumn_14 : decode cX3_enteringColumn 14 = .ok (.aload_n 0, 1) := by decide +kernel
theorem dX3_enteringColumn_15 : decode cX3_enteringColumn 15 = .ok (.getfield 43, 3) := by decide +kernel
theorem dX3_enteringColumn_18 : decode cX3_enteringColumn 18 = .ok (.iload_n 2, 1) := by decide +kernel
theorem dX3_enteringColumn_19 : decode cX3_enteringColumn 19 = .ok (.iaload, 1) := by decide +kernel
theorem dX3_enteringColumn_20 : decode cX3_enteringColumn 20 = .ok (.aload_n 0, 1) := by decide +kernel
theorem dX3_enteringColumn_21 : decode cX3_enteringColumn 21 = .ok (.getfield 43, 3) := by decide +kernel
theorem dX3_enteringColumn_24 : decode cX3_enteringColumn 24 = .ok (.iload_n 1, 1) := by decide +kernel
theorem dX3_enteringColumn_25 : decode cX3_enteringColumn 25 = .ok (.iaload, 1) := by decide +kernel
theorem dX3_enteringColumn_26 : decode cX3_enteringColumn 26 = .ok (.if_icmp .ge 13, 3) := by decide +kernel
theorem dX3_enteringColumn_29 : decode cX3_enteringColumn 29 = .ok (.aload_n 0, 1) := by decide +kernel
theorem dX3_enteringColumn_30 : decode cX3_enteringColumn 30 = .ok (.iload_n 2, 1) := by decide +kernel
theorem dX3_enteringColumn_31 : decode cX3_enteringColumn 31 = .ok (.invokevirtual 117, 3) := by decide +kernel
theorem dX3_enteringColumn_34 : decode cX3_enteringColumn 34 = .ok (.ifCond .eq 5, 3) := by decide +kernel
theorem dX3_enteringColumn_37 : decode cX3_enteringColumn 37 = .ok (.iload_n 2, 1) := by decide +kernel
theorem dX3_enteringColumn_38 : decode cX3_enteringColumn 38 = .ok (.istore_n 1, 1) := by decide +kernel
theorem dX3_enteringColumn_39 : decode cX3_enteringColumn 39 = .ok (.iinc 2 1, 3) := by decide +kernel
theorem dX3_enteringColumn_42 : decode cX3_enteringColumn 42 = .ok (.goto (-38), 3) := by decide +kernel
theorem dX3_enteringColumn_45 : decode cX3_enteringColumn 45 = .ok (.iload_n 1, 1) := by decide +kernel
theorem dX3_enteringColumn_46 : decode cX3_enteringColumn 46 = .ok (.ireturn, 1) := by decide +kernel
set_option maxRecDepth 20000 in
theorem ggX3_directionOf_J13_compare_74951 : GoodIn wsX3_directionOf wsJ13_compare_74951 := goodIn_r _ [11] (by decide +kernel) (by decide +kernel)
set_option maxRecDepth 20000 in
theorem gX3_directionOf_J13_compare_74951 : GoodIn wsX3_directionOf (va_wsS RX3 103 yJ13_compare_74951 wsJ13_compare_74951) := goodIn_app (goodIn_of _ (by decide +kernel)) ggX3_directionOf_J13_compare_74951
theorem dX3_directionOf_0 : decode cX3_directionOf 0 = .ok (.iload_n 1, 1) := by decide +kernel
theorem dX3_directionOf_1 : decode cX3_directionOf 1 = .ok (.ifCond .lt 9, 3) := by decide +kernel
theorem dX3_directionOf_4 : decode cX3_directionOf 4 = .ok (.iload_n 1, 1) := by decide +kernel
theorem dX3_directionOf_5 : decode cX3_directionOf 5 = .ok (.bipush 6, 2) := by decide +kernel
theorem dX3_directionOf_7 : decode cX3_directionOf 7 = .ok (.if_icmp .lt 5, 3) := by decide +kernel
theorem dX3_directionOf_10 : decode cX3_directionOf 10 = .ok (.iconst 0, 1) := by decide +kernel
theorem dX3_directionOf_11 : decode cX3_directionOf 11 = .ok (.ireturn, 1) := by decide +kernel
theorem dX3_directionOf_12 : decode cX3_directionOf 12 = .ok (.aload_n 0, 1) := by decide +kernel
theorem dX3_directionOf_13 : decode cX3_directionOf 13 = .ok (.getfield 43, 3) := by decide +kernel
theorem dX3_directionOf_16 : decode cX3_directionOf 16 = .ok (.iload_n 1, 1) := by decide +kernel
theorem dX3_directionOf_17 : decode cX3_directionOf 17 = .ok (.iaload, 1) := by decide +kernel
theorem dX3_directionOf_18 : decode cX3_directionOf 18 = .ok (.istore_n 2, 1) := by decide +kernel
theorem dX3_directionOf_19 : decode cX3_directionOf 19 = .ok (.iload_n 2, 1) := by decide +kernel
theorem dX3_directionOf_20 : decode cX3_directionOf 20 = .ok (.ifCond .lt 26, 3) := by decide +kernel
theorem dX3_directionOf_23 : decode cX3_directionOf 23 = .ok (.iload_n 2, 1) := by decide +kernel
theorem dX3_directionOf_24 : decode cX3_directionOf 24 = .ok (.bipush 27, 2) := by decide +kernel
theorem dX3_directionOf_26 : decode cX3_directionOf 26 = .ok (.if_icmp .ge 20, 3) := by decide +kernel
theorem dX3_directionOf_29 : decode cX3_directionOf 29 = .ok (.aload_n 0, 1) := by decide +kernel
theorem dX3_directionOf_30 : decode cX3_directionOf 30 = .ok (.getfield 28, 3) := by decide +kernel
theorem dX3_directionOf_33 : decode cX3_directionOf 33 = .ok (.iload_n 2, 1) := by decide +kernel
theorem dX3_directionOf_34 : decode cX3_directionOf 34 = .ok (.iaload, 1) := by decide +kernel
theorem dX3_directionOf_35 : decode cX3_directionOf 35 = .ok (.aload_n 0, 1) := by decide +kernel
theorem dX3_directionOf_36 : decode cX3_directionOf 36 = .ok (.getfield 49, 3) := by decide +kernel
theorem dX3_directionOf_39 : decode cX3_directionOf 39 = .ok (.if_icmp .ge 7, 3) := by decide +kernel
theorem dX3_directionOf_42 : decode cX3_directionOf 42 = .ok (.iconst 1, 1) := by decide +kernel
theorem dX3_directionOf_43 : decode cX3_directionOf 43 = .ok (.goto 4, 3) := by decide +kernel
theorem dX3_directionOf_46 : decode cX3_directionOf 46 = .ok (.iconst 0, 1) := by decide +kernel
theorem dX3_directionOf_47 : decode cX3_directionOf 47 = .ok (.istore_n 3, 1) := by decide +kernel
theorem dX3_directionOf_48 : decode cX3_directionOf 48 = .ok (.iconst 0, 1) := by decide +kernel
theorem dX3_directionOf_49 : decode cX3_directionOf 49 = .ok (.istore 4, 2) := by decide +kernel
theorem dX3_directionOf_51 : decode cX3_directionOf 51 = .ok (.iconst 0, 1) := by decide +kernel
theorem dX3_directionOf_52 : decode cX3_directionOf 52 = .ok (.istore 5, 2) := by decide +kernel
theorem dX3_directionOf_54 : decode cX3_directionOf 54 = .ok (.iconst 0, 1) := by decide +kernel
theorem dX3_directionOf_55 : decode cX3_directionOf 55 = .ok (.istore 6, 2) := by decide +kernel
theorem dX3_directionOf_57 : decode cX3_directionOf 57 = .ok (.iload 6, 2) := by decide +kernel
theorem dX3_directionOf_59 : decode cX3_directionOf 59 = .ok (.iconst 4, 1) := by decide +kernel
theorem dX3_directionOf_60 : decode cX3_directionOf 60 = .ok (.if_icmp .gt 115, 3) := by decide +kernel
theorem dX3_directionOf_63 : decode cX3_directionOf 63 = .ok (.iload_n 3, 1) := by decide +kernel
theorem dX3_directionOf_64 : decode cX3_directionOf 64 = .ok (.ifCond .eq 18, 3) := by decide +kernel
theorem dX3_directionOf_67 : decode cX3_directionOf 67 = .ok (.aload_n 0, 1) := by decide +kernel
theorem dX3_directionOf_68 : decode cX3_directionOf 68 = .ok (.getfield 28, 3) := by decide +kernel
theorem dX3_directionOf_71 : decode cX3_directionOf 71 = .ok (.iload_n 2, 1) := by decide +kernel
theorem dX3_directionOf_72 : decode cX3_directionOf 72 = .ok (.iaload, 1) := by decide +kernel
theorem dX3_directionOf_73 : decode cX3_directionOf 73 = .ok (.iload 6, 2) := by decide +kernel
theorem dX3_directionOf_75 : decode cX3_directionOf 75 = .ok (.if_icmp .ne 7, 3) := by decide +kernel
theorem dX3_directionOf_78 : decode cX3_directionOf 78 = .ok (.iconst 1, 1) := by decide +kernel
theorem dX3_directionOf_79 : decode cX3_directionOf 79 = .ok (.goto 4, 3) := by decide +kernel
theorem dX3_directionOf_82 : decode cX3_directionOf 82 = .ok (.iconst 0, 1) := by decide +kernel
theorem dX3_directionOf_83 : decode cX3_directionOf 83 = .ok (.istore 7, 2) := by decide +kernel
theorem dX3_directionOf_85 : decode cX3_directionOf 85 = .ok (.aload_n 0, 1) := by decide +kernel
theorem dX3_directionOf_86 : decode cX3_directionOf 86 = .ok (.getfield 46, 3) := by decide +kernel
theorem dX3_directionOf_89 : decode cX3_directionOf 89 = .ok (.iload 6, 2) := by decide +kernel
theorem dX3_directionOf_91 : decode cX3_directionOf 91 = .ok (.aaload, 1) := by decide +kernel
theorem dX3_directionOf_92 : decode cX3_directionOf 92 = .ok (.iload_n 1, 1) := by decide +kernel
theorem dX3_directionOf_93 : decode cX3_directionOf 93 = .ok (.laload, 1) := by decide +kernel
theorem dX3_directionOf_94 : decode cX3_directionOf 94 = .ok (.lstore 8, 2) := by decide +kernel
theorem dX3_directionOf_96 : decode cX3_directionOf 96 = .ok (.iload 4, 2) := by decide +kernel
theorem dX3_directionOf_98 : decode cX3_directionOf 98 = .ok (.ifCond .ne 34, 3) := by decide +kernel
theorem dX3_directionOf_101 : decode cX3_directionOf 101 = .ok (.iload 7, 2) := by decide +kernel
theorem dX3_directionOf_103 : decode cX3_directionOf 103 = .ok (.ifCond .eq 21, 3) := by decide +kernel
theorem dX3_directionOf_106 : decode cX3_directionOf 106 = .ok (.lload 8, 2) := by decide +kernel
theorem dX3_directionOf_108 : decode cX3_directionOf 108 = .ok (.aload_n 0, 1) := by decide +kernel
theorem dX3_directionOf_109 : decode cX3_directionOf 109 = .ok (.getfield 16, 3) := by decide +kernel
theorem dX3_directionOf_112 : decode cX3_directionOf 112 = .ok (.aload_n 0, 1) := by decide +kernel
theorem dX3_directionOf_113 : decode cX3_directionOf 113 = .ok (.getfield 31, 3) := by decide +kernel
theorem dX3_directionOf_116 : decode cX3_directionOf 116 = .ok (.iload_n 2, 1) := by decide +kernel
theorem dX3_directionOf_117 : decode cX3_directionOf 117 = .ok (.iaload, 1) := by decide +kernel
theorem dX3_directionOf_118 : decode cX3_directionOf 118 = .ok (.i2l, 1) := by decide +kernel
theorem dX3_directionOf_119 : decode cX3_directionOf 119 = .ok (.lmul, 1) := by decide +kernel
theorem dX3_directionOf_120 : decode cX3_directionOf 120 = .ok (.ladd, 1) := by decide +kernel
theorem dX3_directionOf_121 : decode cX3_directionOf 121 = .ok (.goto 5, 3) := by decide +kernel
theorem dX3_directionOf_124 : decode cX3_directionOf 124 = .ok (.lload 8, 2) := by decide +kernel
theorem dX3_directionOf_126 : decode cX3_directionOf 126 = .ok (.lconst 0, 1) := by decide +kernel
theorem dX3_directionOf_127 : decode cX3_directionOf 127 = .ok (.invokestatic 103, 3) := by decide +kernel
theorem dX3_directionOf_130 : decode cX3_directionOf 130 = .ok (.istore 4, 2) := by decide +kernel
theorem dX3_directionOf_132 : decode cX3_directionOf 132 = .ok (.iload 5, 2) := by decide +kernel
theorem dX3_directionOf_134 : decode cX3_directionOf 134 = .ok (.ifCond .ne 35, 3) := by decide +kernel
theorem dX3_directionOf_137 : decode cX3_directionOf 137 = .ok (.iload 7, 2) := by decide +kernel
theorem dX3_directionOf_139 : decode cX3_directionOf 139 = .ok (.ifCond .eq 21, 3) := by decide +kernel
theorem dX3_directionOf_142 : decode cX3_directionOf 142 = .ok (.aload_n 0, 1) := by decide +kernel
theorem dX3_directionOf_143 : decode cX3_directionOf 143 = .ok (.getfield 16, 3) := by decide +kernel
theorem dX3_directionOf_146 : decode cX3_directionOf 146 = .ok (.aload_n 0, 1) := by decide +kernel
theorem dX3_directionOf_147 : decode cX3_directionOf 147 = .ok (.getfield 34, 3) := by decide +kernel
theorem dX3_directionOf_150 : decode cX3_directionOf 150 = .ok (.iload_n 2, 1) := by decide +kernel
theorem dX3_directionOf_151 : decode cX3_directionOf 151 = .ok (.iaload, 1) := by decide +kernel
theorem dX3_directionOf_152 : decode cX3_directionOf 152 = .ok (.i2l, 1) := by decide +kernel
theorem dX3_directionOf_153 : decode cX3_directionOf 153 = .ok (.lmul, 1) := by decide +kernel
theorem dX3_directionOf_154 : decode cX3_directionOf 154 = .ok (.lload 8, 2) := by decide +kernel
theorem dX3_directionOf_156 : decode cX3_directionOf 156 = .ok (.lsub, 1) := by decide +kernel
theorem dX3_directionOf_157 : decode cX3_directionOf 157 = .ok (.goto 6, 3) := by decide +kernel
theorem dX3_directionOf_160 : decode cX3_directionOf 160 = .ok (.lload 8, 2) := by decide +kernel
theorem dX3_directionOf_162 : decode cX3_directionOf 162 = .ok (.lneg, 1) := by decide +kernel
theorem dX3_directionOf_163 : decode cX3_directionOf 163 = .ok (.lconst 0, 1) := by decide +kernel
theorem dX3_directionOf_164 : decode cX3_directionOf 164 = .ok (.invokestatic 103, 3) := by decide +kernel
theorem dX3_directionOf_167 : decode cX3_directionOf 167 = .ok (.istore 5, 2) := by decide +kernel
theorem dX3_directionOf_169 : decode cX3_directionOf 169 = .ok (.iinc 6 1, 3) := by decide +kernel
theorem dX3_directionOf_172 : decode cX3_directionOf 172 = .ok (.goto (-115), 3) := by decide +kernel
theorem dX3_directionOf_175 : decode cX3_directionOf 175 = .ok (.iload 4, 2) := by decide +kernel
theorem dX3_directionOf_177 : decode cX3_directionOf 177 = .ok (.ifCond .ge 7, 3) := by decide +kernel
theorem dX3_directionOf_180 : decode cX3_directionOf 180 = .ok (.iconst 1, 1) := by decide +kernel
theorem dX3_directionOf_181 : decode cX3_directionOf 181 = .ok (.goto 13, 3) := by decide +kernel
theorem dX3_directionOf_184 : decode cX3_directionOf 184 = .ok (.iload 5, 2) := by decide +kernel
theorem dX3_directionOf_186 : decode cX3_directionOf 186 = .ok (.ifCond .ge 7, 3) := by decide +kernel
theorem dX3_directionOf_189 : decode cX3_directionOf 189 = .ok (.iconst (-1), 1) := by decide +kernel
theorem dX3_directionOf_190 : decode cX3_directionOf 190 = .ok (.goto 4, 3) := by decide +kernel
theorem dX3_directionOf_193 : decode cX3_directionOf 193 = .ok (.iconst 0, 1) := by decide +kernel
theorem dX3_directionOf_194 : decode cX3_directionOf 194 = .ok (.ireturn, 1) := by decide +kernel
theorem dX3_leavingRow_0 : decode cX3_leavingRow 0 = .ok (.iconst (-1), 1) := by decide +kernel
theorem dX3_leavingRow_1 : decode cX3_leavingRow 1 = .ok (.istore_n 3, 1) := by decide +kernel
theorem dX3_leavingRow_2 : decode cX3_leavingRow 2 = .ok (.lconst 0, 1) := by decide +kernel
theorem dX3_leavingRow_3 : decode cX3_leavingRow 3 = .ok (.lstore 4, 2) := by decide +kernel
theorem dX3_leavingRow_5 : decode cX3_leavingRow 5 = .ok (.lconst 1, 1) := by decide +kernel
theorem dX3_leavingRow_6 : decode cX3_leavingRow 6 = .ok (.lstore 6, 2) := by decide +kernel
theorem dX3_leavingRow_8 : decode cX3_leavingRow 8 = .ok (.iload_n 1, 1) := by decide +kernel
theorem dX3_leavingRow_9 : decode cX3_leavingRow 9 = .ok (.ifCond .lt 9, 3) := by decide +kernel
theorem dX3_leavingRow_12 : decode cX3_leavingRow 12 = .ok (.iload_n 1, 1) := by decide +kernel
theorem dX3_leavingRow_13 : decode cX3_leavingRow 13 = .ok (.bipush 6, 2) := by decide +kernel
theorem dX3_leavingRow_15 : decode cX3_leavingRow 15 = .ok (.if_icmp .lt 5, 3) := by decide +kernel
theorem dX3_leavingRow_18 : decode cX3_leavingRow 18 = .ok (.iload_n 3, 1) := by decide +kernel
theorem dX3_leavingRow_19 : decode cX3_leavingRow 19 = .ok (.ireturn, 1) := by decide +kernel
theorem dX3_leavingRow_20 : decode cX3_leavingRow 20 = .ok (.iconst 0, 1) := by decide +kernel
theorem dX3_leavingRow_21 : decode cX3_leavingRow 21 = .ok (.istore 8, 2) := by decide +kernel
theorem dX3_leavingRow_23 : decode cX3_leavingRow 23 = .ok (.iload 8, 2) := by decide +kernel
theorem dX3_leavingRow_25 : decode cX3_leavingRow 25 = .ok (.bipush 27, 2) := by decide +kernel
theorem dX3_leavingRow_27 : decode cX3_leavingRow 27 = .ok (.if_icmp .ge 104, 3) := by decide +kernel
theorem dX3_leavingRow_30 : decode cX3_leavingRow 30 = .ok (.aload_n 0, 1) := by decide +kernel
theorem dX3_leavingRow_31 : decode cX3_leavingRow 31 = .ok (.getfield 20, 3) := by decide +kernel
theorem dX3_leavingRow_34 : decode cX3_leavingRow 34 = .ok (.iload 8, 2) := by decide +kernel
theorem dX3_leavingRow_36 : decode cX3_leavingRow 36 = .ok (.baload, 1) := by decide +kernel
theorem dX3_leavingRow_37 : decode cX3_leavingRow 37 = .ok (.ifCond .eq 88, 3) := by decide +kernel
theorem dX3_leavingRow_40 : decode cX3_leavingRow 40 = .ok (.aload_n 0, 1) := by decide +kernel
theorem dX3_leavingRow_41 : decode cX3_leavingRow 41 = .ok (.getfield 40, 3) := by decide +kernel
theorem dX3_leavingRow_44 : decode cX3_leavingRow 44 = .ok (.iload 8, 2) := by decide +kernel
theorem dX3_leavingRow_46 : decode cX3_leavingRow 46 = .ok (.iaload, 1) := by decide +kernel
theorem dX3_leavingRow_47 : decode cX3_leavingRow 47 = .ok (.iconst (-1), 1) := by decide +kernel
theorem dX3_leavingRow_48 : decode cX3_leavingRow 48 = .ok (.if_icmp .ne 77, 3) := by decide +kernel
theorem dX3_leavingRow_51 : decode cX3_leavingRow 51 = .ok (.aload_n 0, 1) := by decide +kernel
theorem dX3_leavingRow_52 : decode cX3_leavingRow 52 = .ok (.getfield 37, 3) := by decide +kernel
theorem dX3_leavingRow_55 : decode cX3_leavingRow 55 = .ok (.iload 8, 2) := by decide +kernel
theorem dX3_leavingRow_57 : decode cX3_leavingRow 57 = .ok (.iaload, 1) := by decide +kernel
theorem dX3_leavingRow_58 : decode cX3_leavingRow 58 = .ok (.ineg, 1) := by decide +kernel
theorem dX3_leavingRow_59 : decode cX3_leavingRow 59 = .ok (.iload_n 2, 1) := by decide +kernel
theorem dX3_leavingRow_60 : decode cX3_leavingRow 60 = .ok (.imul, 1) := by decide +kernel
theorem dX3_leavingRow_61 : decode cX3_leavingRow 61 = .ok (.i2l, 1) := by decide +kernel
theorem dX3_leavingRow_62 : decode cX3_leavingRow 62 = .ok (.aload_n 0, 1) := by decide +kernel
theorem dX3_leavingRow_63 : decode cX3_leavingRow 63 = .ok (.getfield 13, 3) := by decide +kernel
theorem dX3_leavingRow_66 : decode cX3_leavingRow 66 = .ok (.iload 8, 2) := by decide +kernel
theorem dX3_leavingRow_68 : decode cX3_leavingRow 68 = .ok (.aaload, 1) := by decide +kernel
theorem dX3_leavingRow_69 : decode cX3_leavingRow 69 = .ok (.iload_n 1, 1) := by decide +kernel
theorem dX3_leavingRow_70 : decode cX3_leavingRow 70 = .ok (.laload, 1) := by decide +kernel
theorem dX3_leavingRow_71 : decode cX3_leavingRow 71 = .ok (.lmul, 1) := by decide +kernel
theorem dX3_leavingRow_72 : decode cX3_leavingRow 72 = .ok (.lstore 9, 2) := by decide +kernel
theorem dX3_leavingRow_74 : decode cX3_leavingRow 74 = .ok (.aload_n 0, 1) := by decide +kernel
theorem dX3_leavingRow_75 : decode cX3_leavingRow 75 = .ok (.getfield 13, 3) := by decide +kernel
theorem dX3_leavingRow_78 : decode cX3_leavingRow 78 = .ok (.iload 8, 2) := by decide +kernel
theorem dX3_leavingRow_80 : decode cX3_leavingRow 80 = .ok (.aaload, 1) := by decide +kernel
theorem dX3_leavingRow_81 : decode cX3_leavingRow 81 = .ok (.bipush 6, 2) := by decide +kernel
theorem dX3_leavingRow_83 : decode cX3_leavingRow 83 = .ok (.laload, 1) := by decide +kernel
theorem dX3_leavingRow_84 : decode cX3_leavingRow 84 = .ok (.invokestatic 130, 3) := by decide +kernel
theorem dX3_leavingRow_87 : decode cX3_leavingRow 87 = .ok (.lstore 11, 2) := by decide +kernel
theorem dX3_leavingRow_89 : decode cX3_leavingRow 89 = .ok (.lload 9, 2) := by decide +kernel
theorem dX3_leavingRow_91 : decode cX3_leavingRow 91 = .ok (.lconst 0, 1) := by decide +kernel
theorem dX3_leavingRow_92 : decode cX3_leavingRow 92 = .ok (.lcmp, 1) := by decide +kernel
theorem dX3_leavingRow_93 : decode cX3_leavingRow 93 = .ok (.ifCond .le 32, 3) := by decide +kernel
theorem dX3_leavingRow_96 : decode cX3_leavingRow 96 = .ok (.iload_n 3, 1) := by decide +kernel
theorem dX3_leavingRow_97 : decode cX3_leavingRow 97 = .ok (.ifCond .lt 17, 3) := by decide +kernel
theorem dX3_leavingRow_100 : decode cX3_leavingRow 100 = .ok (.lload 11, 2) := by decide +kernel
theorem dX3_leavingRow_102 : decode cX3_leavingRow 102 = .ok (.lload 6, 2) := by decide +kernel
theorem dX3_leavingRow_104 : decode cX3_leavingRow 104 = .ok (.lmul, 1) := by decide +kernel
theorem dX3_leavingRow_105 : decode cX3_leavingRow 105 = .ok (.lload 4, 2) := by decide +kernel
theorem dX3_leavingRow_107 : decode cX3_leavingRow 107 = .ok (.lload 9, 2) := by decide +kernel
theorem dX3_leavingRow_109 : decode cX3_leavingRow 109 = .ok (.lmul, 1) := by decide +kernel
theorem dX3_leavingRow_110 : decode cX3_leavingRow 110 = .ok (.lcmp, 1) := by decide +kernel
theorem dX3_leavingRow_111 : decode cX3_leavingRow 111 = .ok (.ifCond .ge 14, 3) := by decide +kernel
theorem dX3_leavingRow_114 : decode cX3_leavingRow 114 = .ok (.iload 8, 2) := by decide +kernel
theorem dX3_leavingRow_116 : decode cX3_leavingRow 116 = .ok (.istore_n 3, 1) := by decide +kernel
theorem dX3_leavingRow_117 : decode cX3_leavingRow 117 = .ok (.lload 11, 2) := by decide +kernel
theorem dX3_leavingRow_119 : decode cX3_leavingRow 119 = .ok (.lstore 4, 2) := by decide +kernel
theorem dX3_leavingRow_121 : decode cX3_leavingRow 121 = .ok (.lload 9, 2) := by decide +kernel
theorem dX3_leavingRow_123 : decode cX3_leavingRow 123 = .ok (.lstore 6, 2) := by decide +kernel
theorem dX3_leavingRow_125 : decode cX3_leavingRow 125 = .ok (.iinc 8 1, 3) := by decide +kernel
theorem dX3_leavingRow_128 : decode cX3_leavingRow 128 = .ok (.goto (-105), 3) := by decide +kernel
theorem dX3_leavingRow_131 : decode cX3_leavingRow 131 = .ok (.iload_n 3, 1) := by decide +kernel
theorem dX3_leavingRow_132 : decode cX3_leavingRow 132 = .ok (.ireturn, 1) := by decide +kernel
set_option maxRecDepth 20000 in
theorem ggX3_exchange_X3_substitute : GoodIn wsX3_exchange wsX3_substitute := goodIn_r _ [15, 7, 16, 17, 18, 19, 20, 21, 22, 23, 24, 25, 26, 27] (by decide +kernel) (by decide +kernel)
set_option maxRecDepth 20000 in
theorem gX3_exchange_X3_substitute : GoodIn wsX3_exchange (wsV RX3 136 RX3 yX3_substitute wsX3_substitute) := goodIn_app (goodIn_of _ (by decide +kernel)) ggX3_exchange_X3_substitute
theorem dX3_exchange_0 : decode cX3_exchange 0 = .ok (.iload_n 1, 1) := by decide +kernel
theorem dX3_exchange_1 : decode cX3_exchange 1 = .ok (.ifCond .lt 19, 3) := by decide +kernel
theorem dX3_exchange_4 : decode cX3_exchange 4 = .ok (.iload_n 1, 1) := by decide +kernel
theorem dX3_exchange_5 : decode cX3_exchange 5 = .ok (.bipush 27, 2) := by decide +kernel
theorem dX3_exchange_7 : decode cX3_exchange 7 = .ok (.if_icmp .ge 13, 3) := by decide +kernel
theorem dX3_exchange_10 : decode cX3_exchange 10 = .ok (.iload_n 2, 1) := by decide +kernel
theorem dX3_exchange_11 : decode cX3_exchange 11 = .ok (.ifCond .lt 9, 3) := by decide +kernel
theorem dX3_exchange_14 : decode cX3_exchange 14 = .ok (.iload_n 2, 1) := by decide +kernel
theorem dX3_exchange_15 : decode cX3_exchange 15 = .ok (.bipush 6, 2) := by decide +kernel
theorem dX3_exchange_17 : decode cX3_exchange 17 = .ok (.if_icmp .lt 4, 3) := by decide +kernel
theorem dX3_exchange_20 : decode cX3_exchange 20 = .ok (.return_, 1) := by decide +kernel
theorem dX3_exchange_21 : decode cX3_exchange 21 = .ok (.aload_n 0, 1) := by decide +kernel
theorem dX3_exchange_22 : decode cX3_exchange 22 = .ok (.getfield 13, 3) := by decide +kernel
theorem dX3_exchange_25 : decode cX3_exchange 25 = .ok (.iload_n 1, 1) := by decide +kernel
theorem dX3_exchange_26 : decode cX3_exchange 26 = .ok (.aaload, 1) := by decide +kernel
theorem dX3_exchange_27 : decode cX3_exchange 27 = .ok (.astore 4, 2) := by decide +kernel
theorem dX3_exchange_29 : decode cX3_exchange 29 = .ok (.aload 4, 2) := by decide +kernel
theorem dX3_exchange_31 : decode cX3_exchange 31 = .ok (.iload_n 2, 1) := by decide +kernel
theorem dX3_exchange_32 : decode cX3_exchange 32 = .ok (.laload, 1) := by decide +kernel
theorem dX3_exchange_33 : decode cX3_exchange 33 = .ok (.invokestatic 130, 3) := by decide +kernel
theorem dX3_exchange_36 : decode cX3_exchange 36 = .ok (.lstore 5, 2) := by decide +kernel
theorem dX3_exchange_38 : decode cX3_exchange 38 = .ok (.lload 5, 2) := by decide +kernel
theorem dX3_exchange_40 : decode cX3_exchange 40 = .ok (.lconst 0, 1) := by decide +kernel
theorem dX3_exchange_41 : decode cX3_exchange 41 = .ok (.lcmp, 1) := by decide +kernel
theorem dX3_exchange_42 : decode cX3_exchange 42 = .ok (.ifCond .ne 4, 3) := by decide +kernel
theorem dX3_exchange_45 : decode cX3_exchange 45 = .ok (.return_, 1) := by decide +kernel
theorem dX3_exchange_46 : decode cX3_exchange 46 = .ok (.iconst 0, 1) := by decide +kernel
theorem dX3_exchange_47 : decode cX3_exchange 47 = .ok (.istore 7, 2) := by decide +kernel
theorem dX3_exchange_49 : decode cX3_exchange 49 = .ok (.iload 7, 2) := by decide +kernel
theorem dX3_exchange_51 : decode cX3_exchange 51 = .ok (.bipush 27, 2) := by decide +kernel
theorem dX3_exchange_53 : decode cX3_exchange 53 = .ok (.if_icmp .ge 39, 3) := by decide +kernel
theorem dX3_exchange_56 : decode cX3_exchange 56 = .ok (.aload_n 0, 1) := by decide +kernel
theorem dX3_exchange_57 : decode cX3_exchange 57 = .ok (.getfield 20, 3) := by decide +kernel
theorem dX3_exchange_60 : decode cX3_exchange 60 = .ok (.iload 7, 2) := by decide +kernel
theorem dX3_exchange_62 : decode cX3_exchange 62 = .ok (.baload, 1) := by decide +kernel
theorem dX3_exchange_63 : decode cX3_exchange 63 = .ok (.ifCond .eq 23, 3) := by decide +kernel
theorem dX3_exchange_66 : decode cX3_exchange 66 = .ok (.iload 7, 2) := by decide +kernel
theorem dX3_exchange_68 : decode cX3_exchange 68 = .ok (.iload_n 1, 1) := by decide +kernel
theorem dX3_exchange_69 : decode cX3_exchange 69 = .ok (.if_icmp .eq 17, 3) := by decide +kernel
theorem dX3_exchange_72 : decode cX3_exchange 72 = .ok (.aload_n 0, 1) := by decide +kernel
theorem dX3_exchange_73 : decode cX3_exchange 73 = .ok (.aload_n 0, 1) := by decide +kernel
theorem dX3_exchange_74 : decode cX3_exchange 74 = .ok (.getfield 13, 3) := by decide +kernel
theorem dX3_exchange_77 : decode cX3_exchange 77 = .ok (.iload 7, 2) := by decide +kernel
theorem dX3_exchange_79 : decode cX3_exchange 79 = .ok (.aaload, 1) := by decide +kernel
theorem dX3_exchange_80 : decode cX3_exchange 80 = .ok (.aload 4, 2) := by decide +kernel
theorem dX3_exchange_82 : decode cX3_exchange 82 = .ok (.iload_n 2, 1) := by decide +kernel
theorem dX3_exchange_83 : decode cX3_exchange 83 = .ok (.invokevirtual 136, 3) := by decide +kernel
theorem dX3_exchange_86 : decode cX3_exchange 86 = .ok (.iinc 7 1, 3) := by decide +kernel
theorem dX3_exchange_89 : decode cX3_exchange 89 = .ok (.goto (-40), 3) := by decide +kernel
theorem dX3_exchange_92 : decode cX3_exchange 92 = .ok (.iconst 0, 1) := by decide +kernel
theorem dX3_exchange_93 : decode cX3_exchange 93 = .ok (.istore 7, 2) := by decide +kernel
theorem dX3_exchange_95 : decode cX3_exchange 95 = .ok (.iload 7, 2) := by decide +kernel
theorem dX3_exchange_97 : decode cX3_exchange 97 = .ok (.bipush 6, 2) := by decide +kernel
theorem dX3_exchange_99 : decode cX3_exchange 99 = .ok (.if_icmp .gt 15, 3) := by decide +kernel
theorem dX3_exchange_102 : decode cX3_exchange 102 = .ok (.aload 4, 2) := by decide +kernel
theorem dX3_exchange_104 : decode cX3_exchange 104 = .ok (.iload 7, 2) := by decide +kernel
theorem dX3_exchange_106 : decode cX3_exchange 106 = .ok (.lconst 0, 1) := by decide +kernel
theorem dX3_exchange_107 : decode cX3_exchange 107 = .ok (.lastore, 1) := by decide +kernel
theorem dX3_exchange_108 : decode cX3_exchange 108 = .ok (.iinc 7 1, 3) := by decide +kernel
theorem dX3_exchange_111 : decode cX3_exchange 111 = .ok (.goto (-16), 3) := by decide +kernel
theorem dX3_exchange_114 : decode cX3_exchange 114 = .ok (.aload 4, 2) := by decide +kernel
theorem dX3_exchange_116 : decode cX3_exchange 116 = .ok (.iload_n 2, 1) := by decide +kernel
theorem dX3_exchange_117 : decode cX3_exchange 117 = .ok (.lload 5, 2) := by decide +kernel
theorem dX3_exchange_119 : decode cX3_exchange 119 = .ok (.lastore, 1) := by decide +kernel
theorem dX3_exchange_120 : decode cX3_exchange 120 = .ok (.aload_n 0, 1) := by decide +kernel
theorem dX3_exchange_121 : decode cX3_exchange 121 = .ok (.lload 5, 2) := by decide +kernel
theorem dX3_exchange_123 : decode cX3_exchange 123 = .ok (.putfield 16, 3) := by decide +kernel
theorem dX3_exchange_126 : decode cX3_exchange 126 = .ok (.aload_n 0, 1) := by decide +kernel
theorem dX3_exchange_127 : decode cX3_exchange 127 = .ok (.getfield 43, 3) := by decide +kernel
theorem dX3_exchange_130 : decode cX3_exchange 130 = .ok (.iload_n 2, 1) := by decide +kernel
theorem dX3_exchange_131 : decode cX3_exchange 131 = .ok (.iaload, 1) := by decide +kernel
theorem dX3_exchange_132 : decode cX3_exchange 132 = .ok (.istore 7, 2) := by decide +kernel
theorem dX3_exchange_134 : decode cX3_exchange 134 = .ok (.iload 7, 2) := by decide +kernel
theorem dX3_exchange_136 : decode cX3_exchange 136 = .ok (.ifCond .lt 26, 3) := by decide +kernel
theorem dX3_exchange_139 : decode cX3_exchange 139 = .ok (.iload 7, 2) := by decide +kernel
theorem dX3_exchange_141 : decode cX3_exchange 141 = .ok (.bipush 27, 2) := by decide +kernel
theorem dX3_exchange_143 : decode cX3_exchange 143 = .ok (.if_icmp .ge 19, 3) := by decide +kernel
theorem dX3_exchange_146 : decode cX3_exchange 146 = .ok (.aload_n 0, 1) := by decide +kernel
theorem dX3_exchange_147 : decode cX3_exchange 147 = .ok (.getfield 40, 3) := by decide +kernel
theorem dX3_exchange_150 : decode cX3_exchange 150 = .ok (.iload 7, 2) := by decide +kernel
theorem dX3_exchange_152 : decode cX3_exchange 152 = .ok (.iconst (-1), 1) := by decide +kernel
theorem dX3_exchange_153 : decode cX3_exchange 153 = .ok (.iastore, 1) := by decide +kernel
theorem dX3_exchange_154 : decode cX3_exchange 154 = .ok (.aload_n 0, 1) := by decide +kernel
theorem dX3_exchange_155 : decode cX3_exchange 155 = .ok (.getfield 37, 3) := by decide +kernel
theorem dX3_exchange_158 : decode cX3_exchange 158 = .ok (.iload 7, 2) := by decide +kernel
theorem dX3_exchange_160 : decode cX3_exchange 160 = .ok (.iload_n 3, 1) := by decide +kernel
theorem dX3_exchange_161 : decode cX3_exchange 161 = .ok (.iastore, 1) := by decide +kernel
theorem dX3_exchange_162 : decode cX3_exchange 162 = .ok (.aload_n 0, 1) := by decide +kernel
theorem dX3_exchange_163 : decode cX3_exchange 163 = .ok (.getfield 43, 3) := by decide +kernel
theorem dX3_exchange_166 : decode cX3_exchange 166 = .ok (.iload_n 2, 1) := by decide +kernel
theorem dX3_exchange_167 : decode cX3_exchange 167 = .ok (.iload_n 1, 1) := by decide +kernel
theorem dX3_exchange_168 : decode cX3_exchange 168 = .ok (.iastore, 1) := by decide +kernel
theorem dX3_exchange_169 : decode cX3_exchange 169 = .ok (.aload_n 0, 1) := by decide +kernel
theorem dX3_exchange_170 : decode cX3_exchange 170 = .ok (.getfield 40, 3) := by decide +kernel
theorem dX3_exchange_173 : decode cX3_exchange 173 = .ok (.iload_n 1, 1) := by decide +kernel
theorem dX3_exchange_174 : decode cX3_exchange 174 = .ok (.iload_n 2, 1) := by decide +kernel
theorem dX3_exchange_175 : decode cX3_exchange 175 = .ok (.iastore, 1) := by decide +kernel
theorem dX3_exchange_176 : decode cX3_exchange 176 = .ok (.return_, 1) := by decide +kernel
theorem dX3_substitute_0 : decode cX3_substitute 0 = .ok (.iload_n 3, 1) := by decide +kernel
theorem dX3_substitute_1 : decode cX3_substitute 1 = .ok (.ifCond .lt 23, 3) := by decide +kernel
theorem dX3_substitute_4 : decode cX3_substitute 4 = .ok (.iload_n 3, 1) := by decide +kernel
theorem dX3_substitute_5 : decode cX3_substitute 5 = .ok (.bipush 6, 2) := by decide +kernel
theorem dX3_substitute_7 : decode cX3_substitute 7 = .ok (.if_icmp .ge 17, 3) := by decide +kernel
theorem dX3_substitute_10 : decode cX3_substitute 10 = .ok (.aload_n 1, 1) := by decide +kernel
theorem dX3_substitute_11 : decode cX3_substitute 11 = .ok (.arraylength, 1) := by decide +kernel
theorem dX3_substitute_12 : decode cX3_substitute 12 = .ok (.bipush 6, 2) := by decide +kernel
theorem dX3_substitute_14 : decode cX3_substitute 14 = .ok (.if_icmp .le 10, 3) := by decide +kernel
theorem dX3_substitute_17 : decode cX3_substitute 17 = .ok (.aload_n 2, 1) := by decide +kernel
theorem dX3_substitute_18 : decode cX3_substitute 18 = .ok (.arraylength, 1) := by decide +kernel
theorem dX3_substitute_19 : decode cX3_substitute 19 = .ok (.bipush 6, 2) := by decide +kernel
theorem dX3_substitute_21 : decode cX3_substitute 21 = .ok (.if_icmp .gt 4, 3) := by decide +kernel
theorem dX3_substitute_24 : decode cX3_substitute 24 = .ok (.return_, 1) := by decide +kernel
theorem dX3_substitute_25 : decode cX3_substitute 25 = .ok (.aload_n 2, 1) := by decide +kernel
theorem dX3_substitute_26 : decode cX3_substitute 26 = .ok (.iload_n 3, 1) := by decide +kernel
theorem dX3_substitute_27 : decode cX3_substitute 27 = .ok (.laload, 1) := by decide +kernel
theorem dX3_substitute_28 : decode cX3_substitute 28 = .ok (.lstore 4, 2) := by decide +kernel
theorem dX3_substitute_30 : decode cX3_substitute 30 = .ok (.lload 4, 2) := by decide +kernel
theorem dX3_substitute_32 : decode cX3_substitute 32 = .ok (.lconst 0, 1) := by decide +kernel
theorem dX3_substitute_33 : decode cX3_substitute 33 = .ok (.lcmp, 1) := by decide +kernel
theorem dX3_substitute_34 : decode cX3_substitute 34 = .ok (.ifCond .ge 9, 3) := by decide +kernel
theorem dX3_substitute_37 : decode cX3_substitute 37 = .ok (.lload 4, 2) := by decide +kernel
theorem dX3_substitute_39 : decode cX3_substitute 39 = .ok (.lneg, 1) := by decide +kernel
theorem dX3_substitute_40 : decode cX3_substitute 40 = .ok (.goto 5, 3) := by decide +kernel
theorem dX3_substitute_43 : decode cX3_substitute 43 = .ok (.lload 4, 2) := by decide +kernel
theorem dX3_substitute_45 : decode cX3_substitute 45 = .ok (.lstore 6, 2) := by decide +kernel
theorem dX3_substitute_47 : decode cX3_substitute 47 = .ok (.lload 4, 2) := by decide +kernel
theorem dX3_substitute_49 : decode cX3_substitute 49 = .ok (.lconst 0, 1) := by decide +kernel
theorem dX3_substitute_50 : decode cX3_substitute 50 = .ok (.lcmp, 1) := by decide +kernel
theorem dX3_substitute_51 : decode cX3_substitute 51 = .ok (.ifCond .ge 10, 3) := by decide +kernel
theorem dX3_substitute_54 : decode cX3_substitute 54 = .ok (.aload_n 1, 1) := by decide +kernel
theorem dX3_substitute_55 : decode cX3_substitute 55 = .ok (.iload_n 3, 1) := by decide +kernel
theorem dX3_substitute_56 : decode cX3_substitute 56 = .ok (.laload, 1) := by decide +kernel
theorem dX3_substitute_57 : decode cX3_substitute 57 = .ok (.lneg, 1) := by decide +kernel
theorem dX3_substitute_58 : decode cX3_substitute 58 = .ok (.goto 6, 3) := by decide +kernel
theorem dX3_substitute_61 : decode cX3_substitute 61 = .ok (.aload_n 1, 1) := by decide +kernel
theorem dX3_substitute_62 : decode cX3_substitute 62 = .ok (.iload_n 3, 1) := by decide +kernel
theorem dX3_substitute_63 : decode cX3_substitute 63 = .ok (.laload, 1) := by decide +kernel
theorem dX3_substitute_64 : decode cX3_substitute 64 = .ok (.lstore 8, 2) := by decide +kernel
theorem dX3_substitute_66 : decode cX3_substitute 66 = .ok (.aload_n 0, 1) := by decide +kernel
theorem dX3_substitute_67 : decode cX3_substitute 67 = .ok (.getfield 16, 3) := by decide +kernel
theorem dX3_substitute_70 : decode cX3_substitute 70 = .ok (.lconst 0, 1) := by decide +kernel
theorem dX3_substitute_71 : decode cX3_substitute 71 = .ok (.lcmp, 1) := by decide +kernel
theorem dX3_substitute_72 : decode cX3_substitute 72 = .ok (.ifCond .eq 20, 3) := by decide +kernel
theorem dX3_substitute_75 : decode cX3_substitute 75 = .ok (.lload 8, 2) := by decide +kernel
theorem dX3_substitute_77 : decode cX3_substitute 77 = .ok (.lconst 0, 1) := by decide +kernel
theorem dX3_substitute_78 : decode cX3_substitute 78 = .ok (.lcmp, 1) := by decide +kernel
theorem dX3_substitute_79 : decode cX3_substitute 79 = .ok (.ifCond .ne 14, 3) := by decide +kernel
theorem dX3_substitute_82 : decode cX3_substitute 82 = .ok (.lload 6, 2) := by decide +kernel
theorem dX3_substitute_84 : decode cX3_substitute 84 = .ok (.aload_n 0, 1) := by decide +kernel
theorem dX3_substitute_85 : decode cX3_substitute 85 = .ok (.getfield 16, 3) := by decide +kernel
theorem dX3_substitute_88 : decode cX3_substitute 88 = .ok (.lcmp, 1) := by decide +kernel
theorem dX3_substitute_89 : decode cX3_substitute 89 = .ok (.ifCond .ne 4, 3) := by decide +kernel
theorem dX3_substitute_92 : decode cX3_substitute 92 = .ok (.return_, 1) := by decide +kernel
theorem dX3_substitute_93 : decode cX3_substitute 93 = .ok (.iconst 0, 1) := by decide +kernel
theorem dX3_substitute_94 : decode cX3_substitute 94 = .ok (.istore 10, 2) := by decide +kernel
theorem dX3_substitute_96 : decode cX3_substitute 96 = .ok (.iload 10, 2) := by decide +kernel
theorem dX3_substitute_98 : decode cX3_substitute 98 = .ok (.bipush 6, 2) := by decide +kernel
theorem dX3_substitute_100 : decode cX3_substitute 100 = .ok (.if_icmp .gt 33, 3) := by decide +kernel
theorem dX3_substitute_103 : decode cX3_substitute 103 = .ok (.aload_n 1, 1) := by decide +kernel
theorem dX3_substitute_104 : decode cX3_substitute 104 = .ok (.iload 10, 2) := by decide +kernel
theorem dX3_substitute_106 : decode cX3_substitute 106 = .ok (.aload_n 1, 1) := by decide +kernel
theorem dX3_substitute_107 : decode cX3_substitute 107 = .ok (.iload 10, 2) := by decide +kernel
theorem dX3_substitute_109 : decode cX3_substitute 109 = .ok (.laload, 1) := by decide +kernel
theorem dX3_substitute_110 : decode cX3_substitute 110 = .ok (.lload 6, 2) := by decide +kernel
theorem dX3_substitute_112 : decode cX3_substitute 112 = .ok (.lmul, 1) := by decide +kernel
theorem dX3_substitute_113 : decode cX3_substitute 113 = .ok (.lload 8, 2) := by decide +kernel
theorem dX3_substitute_115 : decode cX3_substitute 115 = .ok (.aload_n 2, 1) := by decide +kernel
theorem dX3_substitute_116 : decode cX3_substitute 116 = .ok (.iload 10, 2) := by decide +kernel
theorem dX3_substitute_118 : decode cX3_substitute 118 = .ok (.laload, 1) := by decide +kernel
theorem dX3_substitute_119 : decode cX3_substitute 119 = .ok (.lmul, 1) := by decide +kernel
theorem dX3_substitute_120 : decode cX3_substitute 120 = .ok (.lsub, 1) := by decide +kernel
theorem dX3_substitute_121 : decode cX3_substitute 121 = .ok (.aload_n 0, 1) := by decide +kernel
theorem dX3_substitute_122 : decode cX3_substitute 122 = .ok (.getfield 16, 3) := by decide +kernel
theorem dX3_substitute_125 : decode cX3_substitute 125 = .ok (.ldiv, 1) := by decide +kernel
theorem dX3_substitute_126 : decode cX3_substitute 126 = .ok (.lastore, 1) := by decide +kernel
theorem dX3_substitute_127 : decode cX3_substitute 127 = .ok (.iinc 10 1, 3) := by decide +kernel
theorem dX3_substitute_130 : decode cX3_substitute 130 = .ok (.goto (-34), 3) := by decide +kernel
theorem dX3_substitute_133 : decode cX3_substitute 133 = .ok (.aload_n 1, 1) := by decide +kernel
theorem dX3_substitute_134 : decode cX3_substitute 134 = .ok (.iload_n 3, 1) := by decide +kernel
theorem dX3_substitute_135 : decode cX3_substitute 135 = .ok (.lload 8, 2) := by decide +kernel
theorem dX3_substitute_137 : decode cX3_substitute 137 = .ok (.lastore, 1) := by decide +kernel
theorem dX3_substitute_138 : decode cX3_substitute 138 = .ok (.return_, 1) := by decide +kernel
